theorem inlX0 : ∀ w ∈ wsX00, w ∈ wsL_law := fun _ h => List.mem_append_left _ (List.mem_append_left _ (List.mem_append_left _ (List.mem_append_right _ h)))
theorem inX0 : ∀ w ∈ wsX00, w ∈ lw_tbl := fun w h => wsL_law_in w (inlX0 w h)
theorem inlX1 : ∀ w ∈ wsX10, w ∈ wsL_law := fun _ h => List.mem_append_left _ (List.mem_append_left _ (List.mem_append_right _ h))
theorem inX1 : ∀ w ∈ wsX10, w ∈ lw_tbl := fun w h => wsL_law_in w (inlX1 w h)
theorem inlX2 : ∀ w ∈ wsX20, w ∈ wsL_law := fun _ h => List.mem_append_left _ (List.mem_append_left _ (List.mem_append_left _ (List.mem_append_left _ (List.mem_append_right _ h))))
theorem inX2 : ∀ w ∈ wsX20, w ∈ lw_tbl := fun w h => wsL_law_in w (inlX2 w h)
theorem inlX3 : ∀ w ∈ wsX30, w ∈ wsL_law := fun _ h => List.mem_append_left _ (List.mem_append_right _ h)
theorem inX3 : ∀ w ∈ wsX30, w ∈ lw_tbl := fun w h => wsL_law_in w (inlX3 w h)
theorem inlX4 : ∀ w ∈ wsX40, w ∈ wsL_law := fun _ h => List.mem_append_left _ (List.mem_append_left _ (List.mem_append_left _ (List.mem_append_left _ (List.mem_append_left _ (List.mem_append_left _ (List.mem_append_right _ h))))))
theorem inX4 : ∀ w ∈ wsX40, w ∈ lw_tbl := fun w h => wsL_law_in w (inlX4 w h)
theorem inlX5 : ∀ w ∈ wsX50, w ∈ wsL_law := fun _ h => List.mem_append_left _ (List.mem_append_left _ (List.mem_append_left _ (List.mem_append_left _ (List.mem_append_left _ (List.mem_append_right _ h)))))
theorem inX5 : ∀ w ∈ wsX50, w ∈ lw_tbl := fun w h => wsL_law_in w (inlX5 w h)
theorem inJ6 : ∀ w ∈ wsJ60, w ∈ lw_tbl := by decide +kernel
theorem inJ9 : ∀ w ∈ wsJ90, w ∈ lw_tbl := by decide +kernel
set_option maxRecDepth 20000 in
theorem ggL_law_X4_init : GoodIn wsL_law wsX4_init := goodIn_r _ [8, 9, 10, 11, 12, 13, 14, 15, 16, 17, 18, 19, 20, 21, 22, 23, 24, 25, 26, 27, 28, 29, 30, 31, 32, 33, 34, 35, 36, 37, 38, 39, 40, 41, 42, 43, 44, 45, 46, 47, 48, 49, 50, 51, 52, 53, 54, 55, 56, 57, 58, 59, 60, 61, 62, 63, 64, 650, 618, 619, 620, 621, 622, 623, 651, 652, 653, 654, 655, 656, 657] (by decide +kernel) (by decide +kernel)
set_option maxRecDepth 20000 in
theorem gL_law_X4_init : GoodIn wsL_law (wsX4_init) := ggL_law_X4_init
set_option maxRecDepth 20000 in
theorem ggL_law_X5_init : GoodIn wsL_law wsX5_init := goodIn_r _ [67, 68, 10, 11, 46, 69, 70, 71, 72, 73, 74, 75, 76, 77, 78, 79, 80, 81, 82, 83, 84, 85, 86, 87, 88, 89, 624, 625, 626, 627, 628, 629, 630, 631, 632, 633, 634, 635, 636, 637, 638, 639, 640, 641, 642, 643, 644, 645, 646, 647, 648, 649] (by decide +kernel) (by decide +kernel)
set_option maxRecDepth 20000 in
theorem gL_law_X5_init : GoodIn wsL_law (wsX5_init) := ggL_law_X5_init
set_option maxRecDepth 20000 in
theorem ggL_law_X4_person : GoodIn wsL_law wsX4_person := goodIn_r _ [93, 15, 94, 95, 96, 14, 97, 35, 98, 99, 100, 101, 102, 103, 26, 104, 48, 105, 106, 107, 108, 44, 109, 110, 111, 112, 47, 45, 113, 114, 115, 116, 618, 619, 620, 621, 622, 623, 650, 654, 655, 656, 657] (by decide +kernel) (by decide +kernel)
set_option maxRecDepth 20000 in
theorem gL_law_X4_person : GoodIn wsL_law (wsV RL 13 RX4 yX4_person wsX4_person) := goodIn_app (goodIn_of _ (by decide +kernel)) ggL_law_X4_person
set_option maxRecDepth 20000 in
theorem ggL_law_X5_person : GoodIn wsL_law wsX5_person := goodIn_r _ [120, 121, 69, 70, 122, 123, 5, 124, 624, 625, 626, 627, 628, 629, 630, 631, 632, 633, 634, 635, 636, 637, 638, 639, 640, 641, 642, 643, 644, 645, 646, 647, 648, 649] (by decide +kernel) (by decide +kernel)
set_option maxRecDepth 20000 in
theorem gL_law_X5_person : GoodIn wsL_law (wsV RL 17 RX5 yX5_person wsX5_person) := goodIn_app (goodIn_of _ (by decide +kernel)) ggL_law_X5_person
set_option maxRecDepth 20000 in
theorem ggL_law_X4_mark : GoodIn wsL_law wsX4_mark := goodIn_r _ [128, 15, 129, 130, 131, 14, 132, 35, 133, 134, 135, 136, 137, 138, 139, 26, 140, 48, 141, 142, 143, 98, 99, 100, 109, 110, 111, 112, 47, 45, 113, 114, 115, 116, 618, 619, 620, 621, 622, 623, 650, 654, 655, 656, 657] (by decide +kernel) (by decide +kernel)
set_option maxRecDepth 20000 in
theorem gL_law_X4_mark : GoodIn wsL_law (wsV RL 18 RX4 yX4_mark wsX4_mark) := goodIn_app (goodIn_of _ (by decide +kernel)) ggL_law_X4_mark
set_option maxRecDepth 20000 in
theorem ggL_law_X5_mark : GoodIn wsL_law wsX5_mark := goodIn_r _ [147, 69, 148, 149, 150, 5, 151, 121, 152, 153, 154, 122, 123, 124, 624, 625, 626, 627, 628, 629, 630, 631, 632, 633, 634, 635, 636, 637, 638, 639, 640, 641, 642, 643, 644, 645, 646, 647, 648, 649] (by decide +kernel) (by decide +kernel)
set_option maxRecDepth 20000 in
theorem gL_law_X5_mark : GoodIn wsL_law (wsV RL 22 RX5 yX5_mark wsX5_mark) := goodIn_app (goodIn_of _ (by decide +kernel)) ggL_law_X5_mark
set_option maxRecDepth 20000 in
theorem ggL_law_X4_house : GoodIn wsL_law wsX4_house := goodIn_r _ [158, 19, 159, 160, 161, 18, 162, 54, 163, 102, 103, 26, 104, 48, 105, 106, 107, 108, 44, 164, 110, 111, 112, 47, 45, 113, 114, 115, 116, 618, 619, 620, 621, 622, 623, 651, 654, 655, 656, 657] (by decide +kernel) (by decide +kernel)
set_option maxRecDepth 20000 in
theorem gL_law_X4_house : GoodIn wsL_law (wsV RL 23 RX4 yX4_house wsX4_house) := goodIn_app (goodIn_of _ (by decide +kernel)) ggL_law_X4_house
set_option maxRecDepth 20000 in
theorem ggL_law_X5_house : GoodIn wsL_law wsX5_house := goodIn_r _ [168, 169, 73, 74, 75, 76, 77, 152, 153, 5, 154, 624, 625, 626, 627, 628, 629, 630, 631, 632, 633, 634, 635, 636, 637, 638, 639, 640, 641, 642, 643, 644, 645, 646, 647, 648, 649] (by decide +kernel) (by decide +kernel)
set_option maxRecDepth 20000 in
theorem gL_law_X5_house : GoodIn wsL_law (wsV RL 27 RX5 yX5_house wsX5_house) := goodIn_app (goodIn_of _ (by decide +kernel)) ggL_law_X5_house
set_option maxRecDepth 20000 in
theorem ggL_law_X4_day : GoodIn wsL_law wsX4_day := goodIn_r _ [173, 29, 174, 175, 2, 176, 618, 619, 620, 621, 622, 623] (by decide +kernel) (by decide +kernel)
set_option maxRecDepth 20000 in
theorem gL_law_X4_day : GoodIn wsL_law (wsV RL 28 RX4 yX4_day wsX4_day) := goodIn_app (goodIn_of _ (by decide +kernel)) ggL_law_X4_day
set_option maxRecDepth 20000 in
theorem ggL_law_X5_day : GoodIn wsL_law wsX5_day := goodIn_r _ [180, 181, 624, 625, 626, 627, 628, 629, 630, 631, 632, 633, 634, 635, 636, 637, 638, 639, 640, 641, 642, 643, 644, 645, 646, 647, 648, 649] (by decide +kernel) (by decide +kernel)
set_option maxRecDepth 20000 in
theorem gL_law_X5_day : GoodIn wsL_law (wsV RL 32 RX5 yX5_day wsX5_day) := goodIn_app (goodIn_of _ (by decide +kernel)) ggL_law_X5_day
set_option maxRecDepth 20000 in
theorem ggL_law_X4_one : GoodIn wsL_law wsX4_one := goodIn_r _ [185, 15, 186, 187, 188, 14, 189, 35, 190, 191, 192, 193, 133, 134, 135, 136, 137, 138, 139, 26, 140, 48, 194, 195, 196, 197, 198, 199, 200, 201, 47, 45, 113, 114, 115, 116, 109, 110, 111, 112, 202, 203, 204, 205, 206, 207, 208, 209, 210, 211, 212, 213, 618, 619, 620, 621, 622, 623, 650, 654, 655, 656, 657] (by decide +kernel) (by decide +kernel)
set_option maxRecDepth 20000 in
theorem gL_law_X4_one : GoodIn wsL_law (wsV RL 33 RX4 yX4_one wsX4_one) := goodIn_app (goodIn_of _ (by decide +kernel)) ggL_law_X4_one
set_option maxRecDepth 20000 in
theorem ggL_law_X5_one : GoodIn wsL_law wsX5_one := goodIn_r _ [217, 70, 72, 148, 149, 150, 5, 151, 121, 218, 219, 220, 221, 222, 223, 224, 225, 624, 625, 626, 627, 628, 629, 630, 631, 632, 633, 634, 635, 636, 637, 638, 639, 640, 641, 642, 643, 644, 645, 646, 647, 648, 649] (by decide +kernel) (by decide +kernel)
set_option maxRecDepth 20000 in
theorem gL_law_X5_one : GoodIn wsL_law (wsV RL 37 RX5 yX5_one wsX5_one) := goodIn_app (goodIn_of _ (by decide +kernel)) ggL_law_X5_one
set_option maxRecDepth 20000 in
theorem ggL_law_X4_part : GoodIn wsL_law wsX4_part := goodIn_r _ [229, 15, 230, 231, 232, 14, 233, 35, 194, 195, 196, 197, 198, 199, 200, 26, 201, 47, 45, 113, 114, 115, 116, 48, 109, 110, 111, 112, 618, 619, 620, 621, 622, 623, 650, 654, 655, 656, 657] (by decide +kernel) (by decide +kernel)
set_option maxRecDepth 20000 in
theorem gL_law_X4_part : GoodIn wsL_law (wsV RL 38 RX4 yX4_part wsX4_part) := goodIn_app (goodIn_of _ (by decide +kernel)) ggL_law_X4_part
set_option maxRecDepth 20000 in
theorem ggL_law_X5_part : GoodIn wsL_law wsX5_part := goodIn_r _ [237, 70, 148, 149, 150, 5, 151, 121, 624, 625, 626, 627, 628, 629, 630, 631, 632, 633, 634, 635, 636, 637, 638, 639, 640, 641, 642, 643, 644, 645, 646, 647, 648, 649] (by decide +kernel) (by decide +kernel)
set_option maxRecDepth 20000 in
theorem gL_law_X5_part : GoodIn wsL_law (wsV RL 41 RX5 yX5_part wsX5_part) := goodIn_app (goodIn_of _ (by decide +kernel)) ggL_law_X5_part
set_option maxRecDepth 20000 in
theorem ggL_law_X4_strike : GoodIn wsL_law wsX4_strike := goodIn_r _ [241, 15, 242, 243, 244, 14, 245, 133, 134, 135, 136, 35, 137, 138, 139, 26, 140, 48, 202, 203, 204, 205, 198, 199, 200, 201, 47, 45, 113, 114, 115, 116, 210, 211, 212, 213, 206, 207, 208, 209, 109, 110, 111, 112, 618, 619, 620, 621, 622, 623, 650, 654, 655, 656, 657] (by decide +kernel) (by decide +kernel)
set_option maxRecDepth 20000 in
theorem gL_law_X4_strike : GoodIn wsL_law (wsV RL 42 RX4 yX4_strike wsX4_strike) := goodIn_app (goodIn_of _ (by decide +kernel)) ggL_law_X4_strike
set_option maxRecDepth 20000 in
theorem ggL_law_X5_strike : GoodIn wsL_law wsX5_strike := goodIn_r _ [249, 72, 148, 149, 150, 5, 151, 121, 222, 223, 224, 225, 70, 218, 219, 220, 221, 624, 625, 626, 627, 628, 629, 630, 631, 632, 633, 634, 635, 636, 637, 638, 639, 640, 641, 642, 643, 644, 645, 646, 647, 648, 649] (by decide +kernel) (by decide +kernel)
set_option maxRecDepth 20000 in
theorem gL_law_X5_strike : GoodIn wsL_law (wsV RL 45 RX5 yX5_strike wsX5_strike) := goodIn_app (goodIn_of _ (by decide +kernel)) ggL_law_X5_strike
set_option maxRecDepth 20000 in
theorem ggL_law_X4_name : GoodIn wsL_law wsX4_name := goodIn_r _ [253, 19, 15, 254, 255, 256, 18, 257, 54, 258, 138, 139, 26, 140, 48, 259, 134, 135, 14, 136, 35, 137, 260, 203, 204, 205, 198, 199, 200, 201, 47, 45, 113, 114, 115, 116, 261, 262, 263, 2, 264, 23, 29, 265, 266, 267, 22, 268, 269, 270, 271, 272, 61, 273, 274, 275, 276, 277, 278, 279, 280, 281, 282, 283, 284, 285, 286, 287, 211, 212, 213, 288, 289, 290, 291, 62, 292, 293, 294, 295, 296, 297, 298, 299, 300, 301, 302, 303, 304, 305, 306, 307, 308, 309, 310, 311, 312, 313, 102, 103, 104, 105, 106, 107, 108, 44, 314, 110, 111, 112, 315, 316, 317, 318, 618, 619, 620, 621, 622, 623, 651, 654, 655, 656, 657, 650, 652, 653] (by decide +kernel) (by decide +kernel)
set_option maxRecDepth 20000 in
theorem gL_law_X4_name : GoodIn wsL_law (wsV RL 46 RX4 yX4_name wsX4_name) := goodIn_app (goodIn_of _ (by decide +kernel)) ggL_law_X4_name
set_option maxRecDepth 20000 in
theorem ggL_law_X5_name : GoodIn wsL_law wsX5_name := goodIn_r _ [322, 72, 81, 323, 324, 325, 5, 326, 169, 148, 149, 150, 151, 121, 327, 328, 329, 330, 73, 331, 78, 80, 75, 82, 83, 181, 84, 222, 223, 224, 225, 70, 332, 333, 334, 335, 74, 336, 337, 338, 339, 624, 625, 626, 627, 628, 629, 630, 631, 632, 633, 634, 635, 636, 637, 638, 639, 640, 641, 642, 643, 644, 645, 646, 647, 648, 649] (by decide +kernel) (by decide +kernel)
set_option maxRecDepth 20000 in
theorem gL_law_X5_name : GoodIn wsL_law (wsV RL 50 RX5 yX5_name wsX5_name) := goodIn_app (goodIn_of _ (by decide +kernel)) ggL_law_X5_name
set_option maxRecDepth 20000 in
theorem ggL_law_X4_leads : GoodIn wsL_law wsX4_leads := goodIn_r _ [343, 23, 344, 345, 346, 22, 347, 61, 273, 274, 275, 26, 276, 48, 277, 199, 200, 201, 47, 45, 113, 114, 115, 116, 348, 316, 317, 318, 349, 350, 351, 352, 62, 292, 293, 294, 295, 296, 297, 298, 299, 300, 211, 212, 14, 213, 35, 198, 353, 289, 290, 291, 315, 618, 619, 620, 621, 622, 623, 652, 653, 654, 655, 656, 657, 650] (by decide +kernel) (by decide +kernel)
set_option maxRecDepth 20000 in
theorem gL_law_X4_leads : GoodIn wsL_law (wsV RL 51 RX4 yX4_leads wsX4_leads) := goodIn_app (goodIn_of _ (by decide +kernel)) ggL_law_X4_leads
set_option maxRecDepth 20000 in
theorem ggL_law_X5_leads : GoodIn wsL_law wsX5_leads := goodIn_r _ [357, 73, 81, 84, 82, 323, 324, 325, 5, 326, 169, 358, 359, 360, 361, 331, 80, 222, 223, 224, 225, 70, 336, 337, 338, 339, 624, 625, 626, 627, 628, 629, 630, 631, 632, 633, 634, 635, 636, 637, 638, 639, 640, 641, 642, 643, 644, 645, 646, 647, 648, 649] (by decide +kernel) (by decide +kernel)
set_option maxRecDepth 20000 in
theorem gL_law_X5_leads : GoodIn wsL_law (wsV RL 54 RX5 yX5_leads wsX5_leads) := goodIn_app (goodIn_of _ (by decide +kernel)) ggL_law_X5_leads
set_option maxRecDepth 20000 in
theorem ggL_law_X4_bridge : GoodIn wsL_law wsX4_bridge := goodIn_r _ [365, 27, 366, 367, 368, 2, 369, 19, 254, 255, 256, 18, 257, 54, 258, 138, 139, 26, 140, 48, 174, 175, 176, 370, 102, 103, 104, 105, 106, 107, 108, 44, 371, 110, 111, 112, 47, 45, 113, 114, 115, 116, 618, 619, 620, 621, 622, 623, 651, 654, 655, 656, 657] (by decide +kernel) (by decide +kernel)
set_option maxRecDepth 20000 in
theorem gL_law_X4_bridge : GoodIn wsL_law (wsV RL 55 RX4 yX4_bridge wsX4_bridge) := goodIn_app (goodIn_of _ (by decide +kernel)) ggL_law_X4_bridge
set_option maxRecDepth 20000 in
theorem ggL_law_X5_bridge : GoodIn wsL_law wsX5_bridge := goodIn_r _ [375, 376, 85, 86, 87, 88, 323, 324, 325, 5, 326, 169, 624, 625, 626, 627, 628, 629, 630, 631, 632, 633, 634, 635, 636, 637, 638, 639, 640, 641, 642, 643, 644, 645, 646, 647, 648, 649] (by decide +kernel) (by decide +kernel)
set_option maxRecDepth 20000 in
theorem gL_law_X5_bridge : GoodIn wsL_law (wsV RL 59 RX5 yX5_bridge wsX5_bridge) := goodIn_app (goodIn_of _ (by decide +kernel)) ggL_law_X5_bridge
set_option maxRecDepth 20000 in
theorem ggL_law_X4_holds : GoodIn wsL_law wsX4_holds := goodIn_r _ [380, 366, 367, 368, 2, 369, 19, 254, 255, 256, 18, 257, 54, 258, 138, 139, 26, 140, 48, 174, 175, 176, 381, 382, 383, 384, 27, 385, 274, 275, 276, 386, 199, 200, 201, 47, 45, 113, 114, 115, 116, 387, 388, 389, 618, 619, 620, 621, 622, 623, 651, 654, 655, 656, 657] (by decide +kernel) (by decide +kernel)
set_option maxRecDepth 20000 in
theorem gL_law_X4_holds : GoodIn wsL_law (wsV RL 60 RX4 yX4_holds wsX4_holds) := goodIn_app (goodIn_of _ (by decide +kernel)) ggL_law_X4_holds
set_option maxRecDepth 20000 in
theorem ggL_law_X5_holds : GoodIn wsL_law wsX5_holds := goodIn_r _ [393, 323, 324, 325, 5, 326, 169, 152, 153, 154, 394, 395, 396, 397, 376, 85, 86, 87, 88, 624, 625, 626, 627, 628, 629, 630, 631, 632, 633, 634, 635, 636, 637, 638, 639, 640, 641, 642, 643, 644, 645, 646, 647, 648, 649] (by decide +kernel) (by decide +kernel)
set_option maxRecDepth 20000 in
theorem gL_law_X5_holds : GoodIn wsL_law (wsV RL 64 RX5 yX5_holds wsX5_holds) := goodIn_app (goodIn_of _ (by decide +kernel)) ggL_law_X5_holds
set_option maxRecDepth 20000 in
theorem ggL_law_X4_cross : GoodIn wsL_law wsX4_cross := goodIn_r _ [401, 19, 28, 254, 255, 256, 18, 257, 54, 258, 138, 139, 26, 140, 48, 402, 403, 2, 404, 405, 106, 107, 108, 44, 406, 407, 408, 409, 23, 29, 15, 344, 345, 346, 22, 347, 61, 273, 274, 275, 276, 277, 199, 200, 201, 47, 45, 113, 114, 115, 116, 348, 316, 317, 318, 410, 411, 412, 413, 282, 381, 382, 383, 384, 27, 385, 386, 414, 297, 298, 299, 415, 284, 285, 286, 416, 293, 294, 295, 278, 279, 280, 281, 283, 260, 203, 204, 14, 205, 35, 198, 261, 262, 263, 264, 265, 266, 267, 268, 269, 270, 271, 272, 287, 211, 212, 213, 288, 289, 290, 291, 62, 292, 296, 300, 301, 302, 303, 304, 305, 306, 307, 308, 309, 310, 311, 312, 313, 102, 103, 104, 105, 314, 110, 111, 112, 315, 417, 418, 419, 420, 370, 371, 618, 619, 620, 621, 622, 623, 651, 654, 655, 656, 657, 652, 653, 650] (by decide +kernel) (by decide +kernel)
set_option maxRecDepth 20000 in
theorem gL_law_X4_cross : GoodIn wsL_law (wsV RL 65 RX4 yX4_cross wsX4_cross) := goodIn_app (goodIn_of _ (by decide +kernel)) ggL_law_X4_cross
set_option maxRecDepth 20000 in
theorem ggL_law_X5_cross : GoodIn wsL_law wsX5_cross := goodIn_r _ [424, 425, 81, 323, 324, 325, 5, 326, 169, 152, 153, 154, 426, 427, 428, 429, 181, 79, 72, 82, 73, 84, 358, 359, 360, 361, 331, 80, 394, 395, 396, 397, 376, 85, 86, 87, 88, 332, 333, 334, 335, 74, 327, 328, 329, 330, 78, 75, 83, 222, 223, 224, 225, 70, 336, 337, 338, 339, 430, 431, 432, 433, 89, 624, 625, 626, 627, 628, 629, 630, 631, 632, 633, 634, 635, 636, 637, 638, 639, 640, 641, 642, 643, 644, 645, 646, 647, 648, 649] (by decide +kernel) (by decide +kernel)
set_option maxRecDepth 20000 in
theorem gL_law_X5_cross : GoodIn wsL_law (wsV RL 68 RX5 yX5_cross wsX5_cross) := goodIn_app (goodIn_of _ (by decide +kernel)) ggL_law_X5_cross
set_option maxRecDepth 20000 in
theorem ggL_law_X4_back : GoodIn wsL_law wsX4_back := goodIn_r _ [437, 19, 28, 254, 255, 256, 18, 257, 54, 258, 138, 139, 26, 140, 48, 438, 439, 2, 440, 402, 403, 404, 405, 106, 107, 108, 44, 441, 442, 443, 444, 282, 199, 200, 201, 47, 45, 113, 114, 115, 116, 410, 411, 412, 413, 445, 446, 447, 448, 23, 15, 344, 345, 346, 22, 347, 61, 273, 274, 275, 276, 277, 348, 316, 317, 318, 414, 297, 298, 299, 260, 203, 204, 14, 205, 35, 198, 287, 211, 212, 213, 417, 418, 419, 420, 29, 370, 102, 103, 104, 105, 371, 110, 111, 112, 618, 619, 620, 621, 622, 623, 651, 654, 655, 656, 657, 652, 653, 650] (by decide +kernel) (by decide +kernel)
set_option maxRecDepth 20000 in
theorem gL_law_X4_back : GoodIn wsL_law (wsV RL 69 RX4 yX4_back wsX4_back) := goodIn_app (goodIn_of _ (by decide +kernel)) ggL_law_X4_back
set_option maxRecDepth 20000 in
theorem ggL_law_X5_back : GoodIn wsL_law wsX5_back := goodIn_r _ [452, 425, 76, 79, 72, 82, 323, 324, 325, 5, 326, 169, 152, 153, 154, 358, 359, 360, 361, 331, 80, 81, 430, 431, 432, 433, 89, 181, 222, 223, 224, 225, 70, 624, 625, 626, 627, 628, 629, 630, 631, 632, 633, 634, 635, 636, 637, 638, 639, 640, 641, 642, 643, 644, 645, 646, 647, 648, 649] (by decide +kernel) (by decide +kernel)
set_option maxRecDepth 20000 in
theorem gL_law_X5_back : GoodIn wsL_law (wsV RL 72 RX5 yX5_back wsX5_back) := goodIn_app (goodIn_of _ (by decide +kernel)) ggL_law_X5_back
set_option maxRecDepth 20000 in
theorem ggL_law_X4_lose : GoodIn wsL_law wsX4_lose := goodIn_r _ [456, 19, 254, 255, 256, 18, 257, 54, 258, 138, 139, 26, 140, 48, 410, 411, 412, 413, 282, 199, 200, 201, 47, 45, 113, 114, 115, 116, 457, 458, 459, 460, 164, 110, 111, 112, 618, 619, 620, 621, 622, 623, 651, 654, 655, 656, 657] (by decide +kernel) (by decide +kernel)
set_option maxRecDepth 20000 in
theorem gL_law_X4_lose : GoodIn wsL_law (wsV RL 73 RX4 yX4_lose wsX4_lose) := goodIn_app (goodIn_of _ (by decide +kernel)) ggL_law_X4_lose
set_option maxRecDepth 20000 in
theorem ggL_law_X5_lose : GoodIn wsL_law wsX5_lose := goodIn_r _ [464, 79, 323, 324, 325, 5, 326, 169, 624, 625, 626, 627, 628, 629, 630, 631, 632, 633, 634, 635, 636, 637, 638, 639, 640, 641, 642, 643, 644, 645, 646, 647, 648, 649] (by decide +kernel) (by decide +kernel)
set_option maxRecDepth 20000 in
theorem gL_law_X5_lose : GoodIn wsL_law (wsV RL 76 RX5 yX5_lose wsX5_lose) := goodIn_app (goodIn_of _ (by decide +kernel)) ggL_law_X5_lose
set_option maxRecDepth 20000 in
theorem ggL_law_X4_anew : GoodIn wsL_law wsX4_anew := goodIn_r _ [468, 19, 254, 255, 256, 18, 257, 54, 258, 138, 139, 26, 140, 48, 410, 411, 412, 413, 282, 199, 200, 201, 47, 45, 113, 114, 115, 116, 469, 306, 307, 308, 457, 458, 459, 460, 164, 110, 111, 112, 618, 619, 620, 621, 622, 623, 651, 654, 655, 656, 657] (by decide +kernel) (by decide +kernel)
set_option maxRecDepth 20000 in
theorem gL_law_X4_anew : GoodIn wsL_law (wsV RL 77 RX4 yX4_anew wsX4_anew) := goodIn_app (goodIn_of _ (by decide +kernel)) ggL_law_X4_anew
set_option maxRecDepth 20000 in
theorem ggL_law_X5_anew : GoodIn wsL_law wsX5_anew := goodIn_r _ [473, 79, 75, 323, 324, 325, 5, 326, 169, 624, 625, 626, 627, 628, 629, 630, 631, 632, 633, 634, 635, 636, 637, 638, 639, 640, 641, 642, 643, 644, 645, 646, 647, 648, 649] (by decide +kernel) (by decide +kernel)
set_option maxRecDepth 20000 in
theorem gL_law_X5_anew : GoodIn wsL_law (wsV RL 80 RX5 yX5_anew wsX5_anew) := goodIn_app (goodIn_of _ (by decide +kernel)) ggL_law_X5_anew
set_option maxRecDepth 20000 in
theorem ggL_law_X4_joins : GoodIn wsL_law wsX4_joins := goodIn_r _ [477, 23, 15, 366, 367, 368, 2, 369, 19, 254, 255, 256, 18, 257, 54, 258, 138, 139, 26, 140, 48, 478, 479, 480, 481, 482, 483, 22, 484, 61, 62, 273, 274, 275, 276, 296, 297, 298, 299, 277, 199, 200, 201, 47, 45, 113, 114, 115, 116, 300, 211, 212, 14, 213, 35, 198, 485, 203, 204, 205, 486, 487, 488, 489, 490, 491, 492, 493, 494, 495, 496, 497, 498, 499, 500, 141, 142, 143, 618, 619, 620, 621, 622, 623, 651, 654, 655, 656, 657, 652, 653, 650] (by decide +kernel) (by decide +kernel)
set_option maxRecDepth 20000 in
theorem gL_law_X4_joins : GoodIn wsL_law (wsV RL 81 RX4 yX4_joins wsX4_joins) := goodIn_app (goodIn_of _ (by decide +kernel)) ggL_law_X4_joins
set_option maxRecDepth 20000 in
theorem ggL_law_X5_joins : GoodIn wsL_law wsX5_joins := goodIn_r _ [504, 121, 323, 324, 325, 5, 326, 169, 152, 153, 154, 505, 506, 507, 508, 72, 331, 80, 82, 222, 223, 224, 225, 70, 509, 510, 511, 512, 513, 514, 515, 516, 69, 624, 625, 626, 627, 628, 629, 630, 631, 632, 633, 634, 635, 636, 637, 638, 639, 640, 641, 642, 643, 644, 645, 646, 647, 648, 649] (by decide +kernel) (by decide +kernel)
set_option maxRecDepth 20000 in
theorem gL_law_X5_joins : GoodIn wsL_law (wsV RL 84 RX5 yX5_joins wsX5_joins) := goodIn_app (goodIn_of _ (by decide +kernel)) ggL_law_X5_joins
set_option maxRecDepth 20000 in
theorem ggL_law_X4_least : GoodIn wsL_law wsX4_least := goodIn_r _ [520, 19, 23, 15, 254, 255, 256, 18, 257, 54, 258, 138, 139, 26, 140, 48, 478, 479, 2, 480, 481, 482, 483, 22, 484, 61, 62, 273, 274, 275, 276, 296, 297, 298, 299, 277, 199, 200, 201, 47, 45, 113, 114, 115, 116, 300, 211, 212, 14, 213, 35, 198, 485, 203, 204, 205, 521, 522, 523, 524, 525, 526, 527, 486, 487, 488, 489, 490, 491, 492, 493, 494, 495, 496, 497, 498, 499, 500, 141, 142, 143, 618, 619, 620, 621, 622, 623, 651, 654, 655, 656, 657, 652, 653, 650] (by decide +kernel) (by decide +kernel)
set_option maxRecDepth 20000 in
theorem gL_law_X4_least : GoodIn wsL_law (wsV RL 85 RX4 yX4_least wsX4_least) := goodIn_app (goodIn_of _ (by decide +kernel)) ggL_law_X4_least
set_option maxRecDepth 20000 in
theorem ggL_law_X5_least : GoodIn wsL_law wsX5_least := goodIn_r _ [531, 121, 323, 324, 325, 5, 326, 169, 152, 153, 154, 505, 506, 507, 508, 72, 331, 80, 82, 222, 223, 224, 225, 70, 509, 510, 511, 512, 513, 514, 515, 516, 69, 624, 625, 626, 627, 628, 629, 630, 631, 632, 633, 634, 635, 636, 637, 638, 639, 640, 641, 642, 643, 644, 645, 646, 647, 648, 649] (by decide +kernel) (by decide +kernel)
set_option maxRecDepth 20000 in
theorem gL_law_X5_least : GoodIn wsL_law (wsV RL 88 RX5 yX5_least wsX5_least) := goodIn_app (goodIn_of _ (by decide +kernel)) ggL_law_X5_least
set_option maxRecDepth 20000 in
theorem ggL_law_X4_count : GoodIn wsL_law wsX4_count := goodIn_r _ [535, 19, 23, 15, 254, 255, 256, 18, 257, 54, 258, 138, 139, 26, 140, 48, 536, 142, 14, 143, 537, 99, 100, 481, 482, 483, 22, 484, 61, 62, 273, 274, 275, 276, 296, 297, 298, 299, 277, 199, 200, 201, 47, 45, 113, 114, 115, 116, 300, 211, 212, 213, 35, 198, 485, 203, 204, 205, 538, 539, 540, 541, 490, 491, 492, 497, 498, 499, 500, 141, 521, 522, 523, 524, 525, 526, 527, 542, 543, 544, 2, 545, 546, 547, 548, 549, 282, 618, 619, 620, 621, 622, 623, 651, 654, 655, 656, 657, 652, 653, 650] (by decide +kernel) (by decide +kernel)
set_option maxRecDepth 20000 in
theorem gL_law_X4_count : GoodIn wsL_law (wsV RL 89 RX4 yX4_count wsX4_count) := goodIn_app (goodIn_of _ (by decide +kernel)) ggL_law_X4_count
set_option maxRecDepth 20000 in
theorem ggL_law_X5_count : GoodIn wsL_law wsX5_count := goodIn_r _ [553, 121, 69, 77, 323, 324, 325, 5, 326, 169, 152, 153, 154, 122, 123, 124, 505, 506, 507, 508, 72, 331, 80, 82, 222, 223, 224, 225, 70, 624, 625, 626, 627, 628, 629, 630, 631, 632, 633, 634, 635, 636, 637, 638, 639, 640, 641, 642, 643, 644, 645, 646, 647, 648, 649] (by decide +kernel) (by decide +kernel)
set_option maxRecDepth 20000 in
theorem gL_law_X5_count : GoodIn wsL_law (wsV RL 92 RX5 yX5_count wsX5_count) := goodIn_app (goodIn_of _ (by decide +kernel)) ggL_law_X5_count
set_option maxRecDepth 20000 in
theorem ggL_law_X4_record : GoodIn wsL_law wsX4_record := goodIn_r _ [557, 28, 386, 199, 200, 26, 201, 47, 45, 113, 114, 115, 116, 48, 618, 619, 620, 621, 622, 623, 654, 655, 656, 657] (by decide +kernel) (by decide +kernel)
set_option maxRecDepth 20000 in
theorem gL_law_X4_record : GoodIn wsL_law (wsV RL 93 RX4 yX4_record wsX4_record) := goodIn_app (goodIn_of _ (by decide +kernel)) ggL_law_X4_record
set_option maxRecDepth 20000 in
theorem ggL_law_X5_record : GoodIn wsL_law wsX5_record := goodIn_r _ [561, 425, 89, 152, 153, 5, 154, 624, 625, 626, 627, 628, 629, 630, 631, 632, 633, 634, 635, 636, 637, 638, 639, 640, 641, 642, 643, 644, 645, 646, 647, 648, 649] (by decide +kernel) (by decide +kernel)
set_option maxRecDepth 20000 in
theorem gL_law_X5_record : GoodIn wsL_law (wsV RL 96 RX5 yX5_record wsX5_record) := goodIn_app (goodIn_of _ (by decide +kernel)) ggL_law_X5_record
set_option maxRecDepth 20000 in
theorem ggL_law_X4_given : GoodIn wsL_law wsX4_given := goodIn_r _ [565, 23, 566, 567, 568, 22, 569, 61, 277, 199, 200, 26, 201, 47, 45, 113, 114, 115, 116, 48, 618, 619, 620, 621, 622, 623, 652, 653, 654, 655, 656, 657] (by decide +kernel) (by decide +kernel)
set_option maxRecDepth 20000 in
theorem gL_law_X4_given : GoodIn wsL_law (wsV RL 97 RX4 yX4_given wsX4_given) := goodIn_app (goodIn_of _ (by decide +kernel)) ggL_law_X4_given
set_option maxRecDepth 20000 in
theorem ggL_law_X5_given : GoodIn wsL_law wsX5_given := goodIn_r _ [573, 331, 80, 81, 82, 83, 84, 624, 625, 626, 627, 628, 629, 630, 631, 632, 633, 634, 635, 636, 637, 638, 639, 640, 641, 642, 643, 644, 645, 646, 647, 648, 649] (by decide +kernel) (by decide +kernel)
set_option maxRecDepth 20000 in
theorem gL_law_X5_given : GoodIn wsL_law (wsV RL 100 RX5 yX5_given wsX5_given) := goodIn_app (goodIn_of _ (by decide +kernel)) ggL_law_X5_given
set_option maxRecDepth 20000 in
theorem ggL_law_X4_look : GoodIn wsL_law wsX4_look := goodIn_r _ [577, 15, 23, 259, 134, 135, 14, 136, 35, 137, 138, 139, 26, 140, 48, 287, 211, 212, 213, 198, 199, 200, 201, 47, 45, 113, 114, 115, 116, 578, 195, 196, 197, 260, 203, 204, 205, 387, 388, 2, 389, 579, 580, 581, 22, 582, 269, 270, 271, 272, 61, 273, 274, 275, 276, 277, 583, 498, 499, 500, 141, 142, 143, 618, 619, 620, 621, 622, 623, 650, 654, 655, 656, 657, 652, 653] (by decide +kernel) (by decide +kernel)
set_option maxRecDepth 20000 in
theorem gL_law_X4_look : GoodIn wsL_law (wsV RL 101 RX4 yX4_look wsX4_look) := goodIn_app (goodIn_of _ (by decide +kernel)) ggL_law_X4_look
set_option maxRecDepth 20000 in
theorem ggL_law_X5_look : GoodIn wsL_law wsX5_look := goodIn_r _ [587, 70, 72, 331, 82, 69, 148, 149, 150, 5, 151, 121, 222, 223, 224, 225, 624, 625, 626, 627, 628, 629, 630, 631, 632, 633, 634, 635, 636, 637, 638, 639, 640, 641, 642, 643, 644, 645, 646, 647, 648, 649] (by decide +kernel) (by decide +kernel)
set_option maxRecDepth 20000 in
theorem gL_law_X5_look : GoodIn wsL_law (wsV RL 104 RX5 yX5_look wsX5_look) := goodIn_app (goodIn_of _ (by decide +kernel)) ggL_law_X5_look
set_option maxRecDepth 20000 in
theorem ggL_law_X4_tell : GoodIn wsL_law wsX4_tell := goodIn_r _ [591, 15, 19, 29, 23, 28, 27, 592, 593, 594, 14, 595, 35, 596, 274, 275, 26, 276, 48, 597, 598, 599, 18, 600, 54, 601, 602, 603, 604, 22, 605, 61, 273, 385, 606, 607, 608, 2, 609, 254, 255, 256, 257, 258, 138, 139, 140, 265, 266, 267, 268, 269, 270, 271, 272, 277, 199, 200, 201, 47, 45, 113, 114, 115, 116, 481, 482, 483, 484, 62, 296, 297, 298, 299, 300, 211, 212, 213, 198, 485, 203, 204, 205, 521, 522, 523, 524, 525, 526, 527, 410, 411, 412, 413, 282, 387, 388, 389, 618, 619, 620, 621, 622, 623, 650, 654, 655, 656, 657, 651, 652, 653] (by decide +kernel) (by decide +kernel)
set_option maxRecDepth 20000 in
theorem gL_law_X4_tell : GoodIn wsL_law (wsV RL 105 RX4 yX4_tell wsX4_tell) := goodIn_app (goodIn_of _ (by decide +kernel)) ggL_law_X4_tell
set_option maxRecDepth 20000 in
theorem ggL_law_X5_tell : GoodIn wsL_law wsX5_tell := goodIn_r _ [613, 121, 169, 181, 331, 425, 376, 78, 79, 614, 615, 616, 5, 617, 505, 506, 507, 508, 72, 80, 82, 222, 223, 224, 225, 70, 624, 625, 626, 627, 628, 629, 630, 631, 632, 633, 634, 635, 636, 637, 638, 639, 640, 641, 642, 643, 644, 645, 646, 647, 648, 649] (by decide +kernel) (by decide +kernel)
set_option maxRecDepth 20000 in
theorem gL_law_X5_tell : GoodIn wsL_law (wsV RL 109 RX5 yX5_tell wsX5_tell) := goodIn_app (goodIn_of _ (by decide +kernel)) ggL_law_X5_tell
