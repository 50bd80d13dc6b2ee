set_option maxRecDepth 20000 in
theorem ggX4_init_X2_init : GoodIn wsX4_init wsX2_init := goodIn_r _ [24, 25, 2, 3, 26, 17, 18, 27, 28, 29, 30, 31, 32, 33, 34, 35, 36, 37, 38, 39, 40, 67, 68, 69, 70, 57] (by decide +kernel) (by decide +kernel)
set_option maxRecDepth 20000 in
theorem gX4_init_X2_init : GoodIn wsX4_init (wsX2_init) := ggX4_init_X2_init
set_option maxRecDepth 20000 in
theorem ggX4_init_X0_init : GoodIn wsX4_init wsX0_init := goodIn_r _ [43, 44, 2, 3, 45, 17, 18, 46, 47, 29, 30, 31, 32, 33, 34, 35, 36, 37, 38, 39, 40, 67, 68, 69, 70, 64] (by decide +kernel) (by decide +kernel)
set_option maxRecDepth 20000 in
theorem gX4_init_X0_init : GoodIn wsX4_init (wsX0_init) := ggX4_init_X0_init
set_option maxRecDepth 20000 in
theorem ggX4_init_X1_init : GoodIn wsX4_init wsX1_init := goodIn_r _ [50, 51, 2, 3, 52, 17, 18, 53, 54, 55, 29, 30, 31, 32, 33, 34, 35, 36, 37, 38, 39, 40, 67, 68, 69, 70, 65, 66] (by decide +kernel) (by decide +kernel)
set_option maxRecDepth 20000 in
theorem gX4_init_X1_init : GoodIn wsX4_init (wsX1_init) := ggX4_init_X1_init
set_option maxRecDepth 20000 in
theorem ggX4_init_X3_init : GoodIn wsX4_init wsX3_init := goodIn_r _ [30, 31, 2, 3, 32, 33, 34, 35, 36, 37, 38, 39, 40, 67, 68, 69, 70] (by decide +kernel) (by decide +kernel)
set_option maxRecDepth 20000 in
theorem gX4_init_X3_init : GoodIn wsX4_init (wsX3_init) := ggX4_init_X3_init
theorem dX4_init_0 : decode cX4_init 0 = .ok (.aload_n 0, 1) := by decide +kernel
theorem dX4_init_1 : decode cX4_init 1 = .ok (.invokespecial 1, 3) := by decide +kernel
theorem dX4_init_4 : decode cX4_init 4 = .ok (.aload_n 0, 1) := by decide +kernel
theorem dX4_init_5 : decode cX4_init 5 = .ok (.new 7, 3) := by decide +kernel
theorem dX4_init_8 : decode cX4_init 8 = .ok (.dup, 1) := by decide +kernel
theorem dX4_init_9 : decode cX4_init 9 = .ok (.invokespecial 9, 3) := by decide +kernel
theorem dX4_init_12 : decode cX4_init 12 = .ok (.putfield 10, 3) := by decide +kernel
theorem dX4_init_15 : decode cX4_init 15 = .ok (.aload_n 0, 1) := by decide +kernel
theorem dX4_init_16 : decode cX4_init 16 = .ok (.new 16, 3) := by decide +kernel
theorem dX4_init_19 : decode cX4_init 19 = .ok (.dup, 1) := by decide +kernel
theorem dX4_init_20 : decode cX4_init 20 = .ok (.invokespecial 18, 3) := by decide +kernel
theorem dX4_init_23 : decode cX4_init 23 = .ok (.putfield 19, 3) := by decide +kernel
theorem dX4_init_26 : decode cX4_init 26 = .ok (.aload_n 0, 1) := by decide +kernel
theorem dX4_init_27 : decode cX4_init 27 = .ok (.new 23, 3) := by decide +kernel
theorem dX4_init_30 : decode cX4_init 30 = .ok (.dup, 1) := by decide +kernel
theorem dX4_init_31 : decode cX4_init 31 = .ok (.aload_n 0, 1) := by decide +kernel
theorem dX4_init_32 : decode cX4_init 32 = .ok (.getfield 10, 3) := by decide +kernel
theorem dX4_init_35 : decode cX4_init 35 = .ok (.invokespecial 25, 3) := by decide +kernel
theorem dX4_init_38 : decode cX4_init 38 = .ok (.putfield 28, 3) := by decide +kernel
theorem dX4_init_41 : decode cX4_init 41 = .ok (.aload_n 0, 1) := by decide +kernel
theorem dX4_init_42 : decode cX4_init 42 = .ok (.new 32, 3) := by decide +kernel
theorem dX4_init_45 : decode cX4_init 45 = .ok (.dup, 1) := by decide +kernel
theorem dX4_init_46 : decode cX4_init 46 = .ok (.bipush 20, 2) := by decide +kernel
theorem dX4_init_48 : decode cX4_init 48 = .ok (.iconst 4, 1) := by decide +kernel
theorem dX4_init_49 : decode cX4_init 49 = .ok (.invokespecial 34, 3) := by decide +kernel
theorem dX4_init_52 : decode cX4_init 52 = .ok (.putfield 37, 3) := by decide +kernel
theorem dX4_init_55 : decode cX4_init 55 = .ok (.aload_n 0, 1) := by decide +kernel
theorem dX4_init_56 : decode cX4_init 56 = .ok (.new 32, 3) := by decide +kernel
theorem dX4_init_59 : decode cX4_init 59 = .ok (.dup, 1) := by decide +kernel
theorem dX4_init_60 : decode cX4_init 60 = .ok (.sipush 200, 3) := by decide +kernel
theorem dX4_init_63 : decode cX4_init 63 = .ok (.bipush 6, 2) := by decide +kernel
theorem dX4_init_65 : decode cX4_init 65 = .ok (.invokespecial 34, 3) := by decide +kernel
theorem dX4_init_68 : decode cX4_init 68 = .ok (.putfield 41, 3) := by decide +kernel
theorem dX4_init_71 : decode cX4_init 71 = .ok (.aload_n 0, 1) := by decide +kernel
theorem dX4_init_72 : decode cX4_init 72 = .ok (.iconst 0, 1) := by decide +kernel
theorem dX4_init_73 : decode cX4_init 73 = .ok (.putfield 44, 3) := by decide +kernel
theorem dX4_init_76 : decode cX4_init 76 = .ok (.return_, 1) := by decide +kernel
set_option maxRecDepth 20000 in
theorem ggX4_person_X2_add : GoodIn wsX4_person wsX2_add := goodIn_r _ [6, 7, 8, 9, 5, 10, 11, 12, 13, 14, 15, 16, 17, 18, 19, 20, 21, 22, 23, 24, 25, 26, 27, 28, 29, 30, 31, 38, 39, 40, 41, 42] (by decide +kernel) (by decide +kernel)
set_option maxRecDepth 20000 in
theorem gX4_person_X2_add : GoodIn wsX4_person (wsV RX4 48 RX2 yX2_add wsX2_add) := goodIn_app (goodIn_of _ (by decide +kernel)) ggX4_person_X2_add
theorem dX4_person_0 : decode cX4_person 0 = .ok (.aload_n 0, 1) := by decide +kernel
theorem dX4_person_1 : decode cX4_person 1 = .ok (.getfield 10, 3) := by decide +kernel
theorem dX4_person_4 : decode cX4_person 4 = .ok (.iload_n 1, 1) := by decide +kernel
theorem dX4_person_5 : decode cX4_person 5 = .ok (.iload_n 2, 1) := by decide +kernel
theorem dX4_person_6 : decode cX4_person 6 = .ok (.iload_n 3, 1) := by decide +kernel
theorem dX4_person_7 : decode cX4_person 7 = .ok (.iload 4, 2) := by decide +kernel
theorem dX4_person_9 : decode cX4_person 9 = .ok (.invokevirtual 48, 3) := by decide +kernel
theorem dX4_person_12 : decode cX4_person 12 = .ok (.ireturn, 1) := by decide +kernel
set_option maxRecDepth 20000 in
theorem ggX4_mark_X2_setMark : GoodIn wsX4_mark wsX2_setMark := goodIn_r _ [6, 7, 8, 9, 10, 5, 11, 12, 13, 14, 15, 16, 17, 18, 19, 20, 21, 22, 23, 24, 25, 26, 27, 28, 29, 30, 31, 32, 33, 40, 41, 42, 43, 44] (by decide +kernel) (by decide +kernel)
set_option maxRecDepth 20000 in
theorem gX4_mark_X2_setMark : GoodIn wsX4_mark (wsV RX4 52 RX2 yX2_setMark wsX2_setMark) := goodIn_app (goodIn_of _ (by decide +kernel)) ggX4_mark_X2_setMark
theorem dX4_mark_0 : decode cX4_mark 0 = .ok (.aload_n 0, 1) := by decide +kernel
theorem dX4_mark_1 : decode cX4_mark 1 = .ok (.getfield 10, 3) := by decide +kernel
theorem dX4_mark_4 : decode cX4_mark 4 = .ok (.iload_n 1, 1) := by decide +kernel
theorem dX4_mark_5 : decode cX4_mark 5 = .ok (.iload_n 2, 1) := by decide +kernel
theorem dX4_mark_6 : decode cX4_mark 6 = .ok (.iload_n 3, 1) := by decide +kernel
theorem dX4_mark_7 : decode cX4_mark 7 = .ok (.invokevirtual 52, 3) := by decide +kernel
theorem dX4_mark_10 : decode cX4_mark 10 = .ok (.ireturn, 1) := by decide +kernel
set_option maxRecDepth 20000 in
theorem ggX4_house_X0_add : GoodIn wsX4_house wsX0_add := goodIn_r _ [6, 7, 8, 9, 10, 11, 12, 13, 14, 15, 16, 17, 18, 19, 20, 21, 22, 23, 24, 25, 26, 27, 28, 35, 36, 37, 38, 39] (by decide +kernel) (by decide +kernel)
set_option maxRecDepth 20000 in
theorem gX4_house_X0_add : GoodIn wsX4_house (wsV RX4 56 RX0 yX0_add wsX0_add) := goodIn_app (goodIn_of _ (by decide +kernel)) ggX4_house_X0_add
theorem dX4_house_0 : decode cX4_house 0 = .ok (.aload_n 0, 1) := by decide +kernel
theorem dX4_house_1 : decode cX4_house 1 = .ok (.getfield 19, 3) := by decide +kernel
theorem dX4_house_4 : decode cX4_house 4 = .ok (.iload_n 1, 1) := by decide +kernel
theorem dX4_house_5 : decode cX4_house 5 = .ok (.iload_n 2, 1) := by decide +kernel
theorem dX4_house_6 : decode cX4_house 6 = .ok (.iload_n 3, 1) := by decide +kernel
theorem dX4_house_7 : decode cX4_house 7 = .ok (.iload 4, 2) := by decide +kernel
theorem dX4_house_9 : decode cX4_house 9 = .ok (.iload 5, 2) := by decide +kernel
theorem dX4_house_11 : decode cX4_house 11 = .ok (.invokevirtual 56, 3) := by decide +kernel
theorem dX4_house_14 : decode cX4_house 14 = .ok (.ireturn, 1) := by decide +kernel
set_option maxRecDepth 20000 in
theorem ggX4_day_X4_isDay : GoodIn wsX4_day wsX4_isDay := goodIn_r _ [5] (by decide +kernel) (by decide +kernel)
set_option maxRecDepth 20000 in
theorem gX4_day_X4_isDay : GoodIn wsX4_day (va_wsS RX4 59 yX4_isDay wsX4_isDay) := goodIn_app (goodIn_of _ (by decide +kernel)) ggX4_day_X4_isDay
theorem dX4_day_0 : decode cX4_day 0 = .ok (.iload_n 1, 1) := by decide +kernel
theorem dX4_day_1 : decode cX4_day 1 = .ok (.invokestatic 59, 3) := by decide +kernel
theorem dX4_day_4 : decode cX4_day 4 = .ok (.ifCond .eq 11, 3) := by decide +kernel
theorem dX4_day_7 : decode cX4_day 7 = .ok (.iload_n 1, 1) := by decide +kernel
theorem dX4_day_8 : decode cX4_day 8 = .ok (.aload_n 0, 1) := by decide +kernel
theorem dX4_day_9 : decode cX4_day 9 = .ok (.getfield 44, 3) := by decide +kernel
theorem dX4_day_12 : decode cX4_day 12 = .ok (.if_icmp .ge 5, 3) := by decide +kernel
theorem dX4_day_15 : decode cX4_day 15 = .ok (.iconst 0, 1) := by decide +kernel
theorem dX4_day_16 : decode cX4_day 16 = .ok (.ireturn, 1) := by decide +kernel
theorem dX4_day_17 : decode cX4_day 17 = .ok (.aload_n 0, 1) := by decide +kernel
theorem dX4_day_18 : decode cX4_day 18 = .ok (.iload_n 1, 1) := by decide +kernel
theorem dX4_day_19 : decode cX4_day 19 = .ok (.putfield 44, 3) := by decide +kernel
theorem dX4_day_22 : decode cX4_day 22 = .ok (.iconst 1, 1) := by decide +kernel
theorem dX4_day_23 : decode cX4_day 23 = .ok (.ireturn, 1) := by decide +kernel
set_option maxRecDepth 20000 in
theorem ggX4_one_X2_join : GoodIn wsX4_one wsX2_join := goodIn_r _ [6, 7, 8, 9, 10, 5, 11, 12, 13, 14, 15, 16, 17, 18, 19, 20, 21, 22, 23, 24, 25, 26, 27, 28, 29, 30, 31, 32, 33, 34, 35, 36, 37, 38, 39, 40, 41, 42, 43, 44, 45, 46, 47, 48, 49, 50, 51, 58, 59, 60, 61, 62] (by decide +kernel) (by decide +kernel)
set_option maxRecDepth 20000 in
theorem gX4_one_X2_join : GoodIn wsX4_one (wsV RX4 63 RX2 yX2_join wsX2_join) := goodIn_app (goodIn_of _ (by decide +kernel)) ggX4_one_X2_join
theorem dX4_one_0 : decode cX4_one 0 = .ok (.aload_n 0, 1) := by decide +kernel
theorem dX4_one_1 : decode cX4_one 1 = .ok (.getfield 10, 3) := by decide +kernel
theorem dX4_one_4 : decode cX4_one 4 = .ok (.iload_n 1, 1) := by decide +kernel
theorem dX4_one_5 : decode cX4_one 5 = .ok (.iload_n 2, 1) := by decide +kernel
theorem dX4_one_6 : decode cX4_one 6 = .ok (.invokevirtual 63, 3) := by decide +kernel
theorem dX4_one_9 : decode cX4_one 9 = .ok (.ireturn, 1) := by decide +kernel
set_option maxRecDepth 20000 in
theorem ggX4_part_X2_leave : GoodIn wsX4_part wsX2_leave := goodIn_r _ [6, 7, 8, 9, 10, 5, 11, 12, 13, 14, 15, 16, 17, 18, 19, 20, 21, 22, 23, 24, 25, 26, 27, 34, 35, 36, 37, 38] (by decide +kernel) (by decide +kernel)
set_option maxRecDepth 20000 in
theorem gX4_part_X2_leave : GoodIn wsX4_part (wsV RX4 67 RX2 yX2_leave wsX2_leave) := goodIn_app (goodIn_of _ (by decide +kernel)) ggX4_part_X2_leave
theorem dX4_part_0 : decode cX4_part 0 = .ok (.aload_n 0, 1) := by decide +kernel
theorem dX4_part_1 : decode cX4_part 1 = .ok (.getfield 10, 3) := by decide +kernel
theorem dX4_part_4 : decode cX4_part 4 = .ok (.iload_n 1, 1) := by decide +kernel
theorem dX4_part_5 : decode cX4_part 5 = .ok (.invokevirtual 67, 3) := by decide +kernel
theorem dX4_part_8 : decode cX4_part 8 = .ok (.ireturn, 1) := by decide +kernel
set_option maxRecDepth 20000 in
theorem ggX4_strike_X2_strikeOut : GoodIn wsX4_strike wsX2_strikeOut := goodIn_r _ [6, 7, 8, 9, 5, 10, 11, 12, 13, 14, 15, 16, 17, 18, 19, 20, 21, 22, 23, 24, 25, 26, 27, 28, 29, 30, 31, 32, 33, 34, 35, 36, 37, 38, 39, 40, 41, 42, 43, 50, 51, 52, 53, 54] (by decide +kernel) (by decide +kernel)
set_option maxRecDepth 20000 in
theorem gX4_strike_X2_strikeOut : GoodIn wsX4_strike (wsV RX4 70 RX2 yX2_strikeOut wsX2_strikeOut) := goodIn_app (goodIn_of _ (by decide +kernel)) ggX4_strike_X2_strikeOut
theorem dX4_strike_0 : decode cX4_strike 0 = .ok (.aload_n 0, 1) := by decide +kernel
theorem dX4_strike_1 : decode cX4_strike 1 = .ok (.getfield 10, 3) := by decide +kernel
theorem dX4_strike_4 : decode cX4_strike 4 = .ok (.iload_n 1, 1) := by decide +kernel
theorem dX4_strike_5 : decode cX4_strike 5 = .ok (.invokevirtual 70, 3) := by decide +kernel
theorem dX4_strike_8 : decode cX4_strike 8 = .ok (.ireturn, 1) := by decide +kernel
set_option maxRecDepth 20000 in
theorem ggX4_name_X0_isThere : GoodIn wsX4_name wsX0_isThere := goodIn_r _ [7, 8, 9, 10, 11, 12, 13, 14, 120, 121, 122, 123, 124] (by decide +kernel) (by decide +kernel)
set_option maxRecDepth 20000 in
theorem gX4_name_X0_isThere : GoodIn wsX4_name (wsV RX4 73 RX0 yX0_isThere wsX0_isThere) := goodIn_app (goodIn_of _ (by decide +kernel)) ggX4_name_X0_isThere
set_option maxRecDepth 20000 in
theorem ggX4_name_X2_isThere : GoodIn wsX4_name wsX2_isThere := goodIn_r _ [19, 20, 21, 10, 11, 12, 13, 14, 125, 121, 122, 123, 124] (by decide +kernel) (by decide +kernel)
set_option maxRecDepth 20000 in
theorem gX4_name_X2_isThere : GoodIn wsX4_name (wsV RX4 76 RX2 yX2_isThere wsX2_isThere) := goodIn_app (goodIn_of _ (by decide +kernel)) ggX4_name_X2_isThere
set_option maxRecDepth 20000 in
theorem ggX4_name_X2_isStruckOut : GoodIn wsX4_name wsX2_isStruckOut := goodIn_r _ [25, 20, 26, 27, 28, 12, 29, 30, 31, 32, 33, 34, 35, 14, 125, 121, 122, 123, 124] (by decide +kernel) (by decide +kernel)
set_option maxRecDepth 20000 in
theorem gX4_name_X2_isStruckOut : GoodIn wsX4_name (wsV RX4 77 RX2 yX2_isStruckOut wsX2_isStruckOut) := goodIn_app (goodIn_of _ (by decide +kernel)) ggX4_name_X2_isStruckOut
set_option maxRecDepth 20000 in
theorem ggX4_name_X4_nameIn : GoodIn wsX4_name wsX4_nameIn := goodIn_r _ [40, 41, 1, 42, 2, 43, 44, 45, 46, 47, 48, 49, 50, 51, 52, 53, 54, 55, 12, 56, 14, 57, 27, 28, 29, 30, 31, 32, 33, 34, 35, 58, 59, 60, 6, 61, 8, 62, 63, 64, 65, 66, 67, 68, 69, 18, 70, 20, 26, 71, 72, 73, 74, 75, 76, 77, 78, 79, 80, 81, 82, 83, 84, 85, 86, 87, 88, 89, 90, 91, 92, 93, 94, 95, 96, 97, 98, 99, 100, 101, 102, 103, 104, 105, 106, 107, 108, 109, 110, 111, 112, 113, 114, 115, 116, 117, 118, 119, 126, 127, 121, 122, 123, 124, 120, 125] (by decide +kernel) (by decide +kernel)
set_option maxRecDepth 20000 in
theorem gX4_name_X4_nameIn : GoodIn wsX4_name (wsV RX4 80 RX4 yX4_nameIn wsX4_nameIn) := goodIn_app (goodIn_of _ (by decide +kernel)) ggX4_name_X4_nameIn
theorem dX4_name_0 : decode cX4_name 0 = .ok (.aload_n 0, 1) := by decide +kernel
theorem dX4_name_1 : decode cX4_name 1 = .ok (.getfield 19, 3) := by decide +kernel
theorem dX4_name_4 : decode cX4_name 4 = .ok (.iload_n 1, 1) := by decide +kernel
theorem dX4_name_5 : decode cX4_name 5 = .ok (.invokevirtual 73, 3) := by decide +kernel
theorem dX4_name_8 : decode cX4_name 8 = .ok (.ifCond .eq 25, 3) := by decide +kernel
theorem dX4_name_11 : decode cX4_name 11 = .ok (.aload_n 0, 1) := by decide +kernel
theorem dX4_name_12 : decode cX4_name 12 = .ok (.getfield 10, 3) := by decide +kernel
theorem dX4_name_15 : decode cX4_name 15 = .ok (.iload_n 2, 1) := by decide +kernel
theorem dX4_name_16 : decode cX4_name 16 = .ok (.invokevirtual 76, 3) := by decide +kernel
theorem dX4_name_19 : decode cX4_name 19 = .ok (.ifCond .eq 14, 3) := by decide +kernel
theorem dX4_name_22 : decode cX4_name 22 = .ok (.aload_n 0, 1) := by decide +kernel
theorem dX4_name_23 : decode cX4_name 23 = .ok (.getfield 10, 3) := by decide +kernel
theorem dX4_name_26 : decode cX4_name 26 = .ok (.iload_n 2, 1) := by decide +kernel
theorem dX4_name_27 : decode cX4_name 27 = .ok (.invokevirtual 77, 3) := by decide +kernel
theorem dX4_name_30 : decode cX4_name 30 = .ok (.ifCond .eq 5, 3) := by decide +kernel
theorem dX4_name_33 : decode cX4_name 33 = .ok (.iconst (-1), 1) := by decide +kernel
theorem dX4_name_34 : decode cX4_name 34 = .ok (.ireturn, 1) := by decide +kernel
theorem dX4_name_35 : decode cX4_name 35 = .ok (.aload_n 0, 1) := by decide +kernel
theorem dX4_name_36 : decode cX4_name 36 = .ok (.iload_n 1, 1) := by decide +kernel
theorem dX4_name_37 : decode cX4_name 37 = .ok (.iload_n 2, 1) := by decide +kernel
theorem dX4_name_38 : decode cX4_name 38 = .ok (.invokevirtual 80, 3) := by decide +kernel
theorem dX4_name_41 : decode cX4_name 41 = .ok (.ireturn, 1) := by decide +kernel
set_option maxRecDepth 20000 in
theorem ggX4_leads_X1_find : GoodIn wsX4_leads wsX1_find := goodIn_r _ [6, 7, 8, 9, 10, 11, 12, 13, 14, 15, 16, 17, 18, 19, 20, 21, 22, 23, 24, 25, 26, 5, 27, 59, 60, 61, 62, 63, 64] (by decide +kernel) (by decide +kernel)
set_option maxRecDepth 20000 in
theorem gX4_leads_X1_find : GoodIn wsX4_leads (wsV RX4 84 RX1 yX1_find wsX1_find) := goodIn_app (goodIn_of _ (by decide +kernel)) ggX4_leads_X1_find
set_option maxRecDepth 20000 in
theorem ggX4_leads_X1_leadsTo : GoodIn wsX4_leads wsX1_leadsTo := goodIn_r _ [31, 7, 32, 14, 15, 16, 11, 17, 18, 19, 20, 21, 22, 23, 13, 33, 34, 35, 5, 36, 37, 38, 39, 40, 41, 42, 43, 44, 45, 46, 47, 48, 49, 50, 51, 8, 9, 10, 12, 59, 60, 61, 62, 63, 64, 65] (by decide +kernel) (by decide +kernel)
set_option maxRecDepth 20000 in
theorem gX4_leads_X1_leadsTo : GoodIn wsX4_leads (wsV RX4 87 RX1 yX1_leadsTo wsX1_leadsTo) := goodIn_app (goodIn_of _ (by decide +kernel)) ggX4_leads_X1_leadsTo
set_option maxRecDepth 20000 in
theorem ggX4_leads_X1_nameAt : GoodIn wsX4_leads wsX1_nameAt := goodIn_r _ [27, 7, 14, 15, 16, 11, 17, 18, 19, 20, 21, 22, 23, 13, 59, 60, 61, 62, 63, 64] (by decide +kernel) (by decide +kernel)
set_option maxRecDepth 20000 in
theorem gX4_leads_X1_nameAt : GoodIn wsX4_leads (wsV RX4 91 RX1 yX1_nameAt wsX1_nameAt) := goodIn_app (goodIn_of _ (by decide +kernel)) ggX4_leads_X1_nameAt
theorem dX4_leads_0 : decode cX4_leads 0 = .ok (.aload_n 0, 1) := by decide +kernel
theorem dX4_leads_1 : decode cX4_leads 1 = .ok (.getfield 28, 3) := by decide +kernel
theorem dX4_leads_4 : decode cX4_leads 4 = .ok (.iload_n 1, 1) := by decide +kernel
theorem dX4_leads_5 : decode cX4_leads 5 = .ok (.iload_n 2, 1) := by decide +kernel
theorem dX4_leads_6 : decode cX4_leads 6 = .ok (.invokevirtual 84, 3) := by decide +kernel
theorem dX4_leads_9 : decode cX4_leads 9 = .ok (.istore_n 3, 1) := by decide +kernel
theorem dX4_leads_10 : decode cX4_leads 10 = .ok (.iload_n 3, 1) := by decide +kernel
theorem dX4_leads_11 : decode cX4_leads 11 = .ok (.iconst (-1), 1) := by decide +kernel
theorem dX4_leads_12 : decode cX4_leads 12 = .ok (.if_icmp .ne 7, 3) := by decide +kernel
theorem dX4_leads_15 : decode cX4_leads 15 = .ok (.iconst (-1), 1) := by decide +kernel
theorem dX4_leads_16 : decode cX4_leads 16 = .ok (.goto 18, 3) := by decide +kernel
theorem dX4_leads_19 : decode cX4_leads 19 = .ok (.aload_n 0, 1) := by decide +kernel
theorem dX4_leads_20 : decode cX4_leads 20 = .ok (.getfield 28, 3) := by decide +kernel
theorem dX4_leads_23 : decode cX4_leads 23 = .ok (.aload_n 0, 1) := by decide +kernel
theorem dX4_leads_24 : decode cX4_leads 24 = .ok (.getfield 28, 3) := by decide +kernel
theorem dX4_leads_27 : decode cX4_leads 27 = .ok (.iload_n 3, 1) := by decide +kernel
theorem dX4_leads_28 : decode cX4_leads 28 = .ok (.invokevirtual 87, 3) := by decide +kernel
theorem dX4_leads_31 : decode cX4_leads 31 = .ok (.invokevirtual 91, 3) := by decide +kernel
theorem dX4_leads_34 : decode cX4_leads 34 = .ok (.ireturn, 1) := by decide +kernel
set_option maxRecDepth 20000 in
theorem ggX4_bridge_X4_areTwoHouses : GoodIn wsX4_bridge wsX4_areTwoHouses := goodIn_r _ [6, 7, 8, 9, 10, 11, 12, 13, 14, 15, 16, 17, 18, 19, 42, 43, 44, 45, 46, 47, 48, 49, 50, 51, 52] (by decide +kernel) (by decide +kernel)
set_option maxRecDepth 20000 in
theorem gX4_bridge_X4_areTwoHouses : GoodIn wsX4_bridge (wsV RX4 94 RX4 yX4_areTwoHouses wsX4_areTwoHouses) := goodIn_app (goodIn_of _ (by decide +kernel)) ggX4_bridge_X4_areTwoHouses
set_option maxRecDepth 20000 in
theorem ggX4_bridge_X4_isDay : GoodIn wsX4_bridge wsX4_isDay := goodIn_r _ [22] (by decide +kernel) (by decide +kernel)
set_option maxRecDepth 20000 in
theorem gX4_bridge_X4_isDay : GoodIn wsX4_bridge (va_wsS RX4 59 yX4_isDay wsX4_isDay) := goodIn_app (goodIn_of _ (by decide +kernel)) ggX4_bridge_X4_isDay
set_option maxRecDepth 20000 in
theorem ggX4_bridge_X3_addRow : GoodIn wsX4_bridge wsX3_addRow := goodIn_r _ [26, 19, 27, 28, 29, 17, 30, 31, 49, 50, 51, 52] (by decide +kernel) (by decide +kernel)
set_option maxRecDepth 20000 in
theorem gX4_bridge_X3_addRow : GoodIn wsX4_bridge (wsV RX4 97 RX3 yX3_addRow wsX3_addRow) := goodIn_app (goodIn_of _ (by decide +kernel)) ggX4_bridge_X3_addRow
set_option maxRecDepth 20000 in
theorem ggX4_bridge_X3_put : GoodIn wsX4_bridge wsX3_put := goodIn_r _ [35, 36, 37, 38, 39, 40, 17, 41, 19, 49, 50, 51, 52] (by decide +kernel) (by decide +kernel)
set_option maxRecDepth 20000 in
theorem gX4_bridge_X3_put : GoodIn wsX4_bridge (wsV RX4 101 RX3 yX3_put wsX3_put) := goodIn_app (goodIn_of _ (by decide +kernel)) ggX4_bridge_X3_put
theorem dX4_bridge_0 : decode cX4_bridge 0 = .ok (.aload_n 0, 1) := by decide +kernel
theorem dX4_bridge_1 : decode cX4_bridge 1 = .ok (.iload_n 1, 1) := by decide +kernel
theorem dX4_bridge_2 : decode cX4_bridge 2 = .ok (.iload_n 2, 1) := by decide +kernel
theorem dX4_bridge_3 : decode cX4_bridge 3 = .ok (.invokevirtual 94, 3) := by decide +kernel
theorem dX4_bridge_6 : decode cX4_bridge 6 = .ok (.ifCond .eq 24, 3) := by decide +kernel
theorem dX4_bridge_9 : decode cX4_bridge 9 = .ok (.iload_n 3, 1) := by decide +kernel
theorem dX4_bridge_10 : decode cX4_bridge 10 = .ok (.invokestatic 59, 3) := by decide +kernel
theorem dX4_bridge_13 : decode cX4_bridge 13 = .ok (.ifCond .eq 17, 3) := by decide +kernel
theorem dX4_bridge_16 : decode cX4_bridge 16 = .ok (.iload 4, 2) := by decide +kernel
theorem dX4_bridge_18 : decode cX4_bridge 18 = .ok (.invokestatic 59, 3) := by decide +kernel
theorem dX4_bridge_21 : decode cX4_bridge 21 = .ok (.ifCond .eq 9, 3) := by decide +kernel
theorem dX4_bridge_24 : decode cX4_bridge 24 = .ok (.iload_n 3, 1) := by decide +kernel
theorem dX4_bridge_25 : decode cX4_bridge 25 = .ok (.iload 4, 2) := by decide +kernel
theorem dX4_bridge_27 : decode cX4_bridge 27 = .ok (.if_icmp .le 5, 3) := by decide +kernel
theorem dX4_bridge_30 : decode cX4_bridge 30 = .ok (.iconst 0, 1) := by decide +kernel
theorem dX4_bridge_31 : decode cX4_bridge 31 = .ok (.ireturn, 1) := by decide +kernel
theorem dX4_bridge_32 : decode cX4_bridge 32 = .ok (.aload_n 0, 1) := by decide +kernel
theorem dX4_bridge_33 : decode cX4_bridge 33 = .ok (.getfield 37, 3) := by decide +kernel
theorem dX4_bridge_36 : decode cX4_bridge 36 = .ok (.invokevirtual 97, 3) := by decide +kernel
theorem dX4_bridge_39 : decode cX4_bridge 39 = .ok (.istore 5, 2) := by decide +kernel
theorem dX4_bridge_41 : decode cX4_bridge 41 = .ok (.iload 5, 2) := by decide +kernel
theorem dX4_bridge_43 : decode cX4_bridge 43 = .ok (.iconst (-1), 1) := by decide +kernel
theorem dX4_bridge_44 : decode cX4_bridge 44 = .ok (.if_icmp .ne 5, 3) := by decide +kernel
theorem dX4_bridge_47 : decode cX4_bridge 47 = .ok (.iconst 0, 1) := by decide +kernel
theorem dX4_bridge_48 : decode cX4_bridge 48 = .ok (.ireturn, 1) := by decide +kernel
theorem dX4_bridge_49 : decode cX4_bridge 49 = .ok (.aload_n 0, 1) := by decide +kernel
theorem dX4_bridge_50 : decode cX4_bridge 50 = .ok (.getfield 37, 3) := by decide +kernel
theorem dX4_bridge_53 : decode cX4_bridge 53 = .ok (.iload 5, 2) := by decide +kernel
theorem dX4_bridge_55 : decode cX4_bridge 55 = .ok (.iconst 0, 1) := by decide +kernel
theorem dX4_bridge_56 : decode cX4_bridge 56 = .ok (.iload_n 1, 1) := by decide +kernel
theorem dX4_bridge_57 : decode cX4_bridge 57 = .ok (.invokevirtual 101, 3) := by decide +kernel
theorem dX4_bridge_60 : decode cX4_bridge 60 = .ok (.aload_n 0, 1) := by decide +kernel
theorem dX4_bridge_61 : decode cX4_bridge 61 = .ok (.getfield 37, 3) := by decide +kernel
theorem dX4_bridge_64 : decode cX4_bridge 64 = .ok (.iload 5, 2) := by decide +kernel
theorem dX4_bridge_66 : decode cX4_bridge 66 = .ok (.iconst 1, 1) := by decide +kernel
theorem dX4_bridge_67 : decode cX4_bridge 67 = .ok (.iload_n 2, 1) := by decide +kernel
theorem dX4_bridge_68 : decode cX4_bridge 68 = .ok (.invokevirtual 101, 3) := by decide +kernel
theorem dX4_bridge_71 : decode cX4_bridge 71 = .ok (.aload_n 0, 1) := by decide +kernel
theorem dX4_bridge_72 : decode cX4_bridge 72 = .ok (.getfield 37, 3) := by decide +kernel
theorem dX4_bridge_75 : decode cX4_bridge 75 = .ok (.iload 5, 2) := by decide +kernel
theorem dX4_bridge_77 : decode cX4_bridge 77 = .ok (.iconst 2, 1) := by decide +kernel
theorem dX4_bridge_78 : decode cX4_bridge 78 = .ok (.iload_n 3, 1) := by decide +kernel
theorem dX4_bridge_79 : decode cX4_bridge 79 = .ok (.invokevirtual 101, 3) := by decide +kernel
theorem dX4_bridge_82 : decode cX4_bridge 82 = .ok (.aload_n 0, 1) := by decide +kernel
theorem dX4_bridge_83 : decode cX4_bridge 83 = .ok (.getfield 37, 3) := by decide +kernel
theorem dX4_bridge_86 : decode cX4_bridge 86 = .ok (.iload 5, 2) := by decide +kernel
theorem dX4_bridge_88 : decode cX4_bridge 88 = .ok (.iconst 3, 1) := by decide +kernel
theorem dX4_bridge_89 : decode cX4_bridge 89 = .ok (.iload 4, 2) := by decide +kernel
theorem dX4_bridge_91 : decode cX4_bridge 91 = .ok (.invokevirtual 101, 3) := by decide +kernel
theorem dX4_bridge_94 : decode cX4_bridge 94 = .ok (.iconst 1, 1) := by decide +kernel
theorem dX4_bridge_95 : decode cX4_bridge 95 = .ok (.ireturn, 1) := by decide +kernel
set_option maxRecDepth 20000 in
theorem ggX4_holds_X4_areTwoHouses : GoodIn wsX4_holds wsX4_areTwoHouses := goodIn_r _ [5, 6, 7, 8, 9, 10, 11, 12, 13, 14, 15, 16, 17, 18, 44, 45, 46, 47, 48, 49, 50, 51, 52, 53, 54] (by decide +kernel) (by decide +kernel)
set_option maxRecDepth 20000 in
theorem gX4_holds_X4_areTwoHouses : GoodIn wsX4_holds (wsV RX4 94 RX4 yX4_areTwoHouses wsX4_areTwoHouses) := goodIn_app (goodIn_of _ (by decide +kernel)) ggX4_holds_X4_areTwoHouses
set_option maxRecDepth 20000 in
theorem ggX4_holds_X4_isDay : GoodIn wsX4_holds wsX4_isDay := goodIn_r _ [21] (by decide +kernel) (by decide +kernel)
set_option maxRecDepth 20000 in
theorem gX4_holds_X4_isDay : GoodIn wsX4_holds (va_wsS RX4 59 yX4_isDay wsX4_isDay) := goodIn_app (goodIn_of _ (by decide +kernel)) ggX4_holds_X4_isDay
set_option maxRecDepth 20000 in
theorem ggX4_holds_X4_isBridged : GoodIn wsX4_holds wsX4_isBridged := goodIn_r _ [25, 26, 27, 28, 29, 16, 30, 18, 31, 32, 33, 34, 35, 36, 37, 38, 39, 40, 44, 45, 46, 47, 48, 49, 51, 52, 53, 54] (by decide +kernel) (by decide +kernel)
set_option maxRecDepth 20000 in
theorem gX4_holds_X4_isBridged : GoodIn wsX4_holds (wsV RX4 105 RX4 yX4_isBridged wsX4_isBridged) := goodIn_app (goodIn_of _ (by decide +kernel)) ggX4_holds_X4_isBridged
set_option maxRecDepth 20000 in
theorem ggX4_holds_X4_oneIf : GoodIn wsX4_holds wsX4_oneIf := goodIn_r _ [43] (by decide +kernel) (by decide +kernel)
set_option maxRecDepth 20000 in
theorem gX4_holds_X4_oneIf : GoodIn wsX4_holds (va_wsS RX4 108 yX4_oneIf wsX4_oneIf) := goodIn_app (goodIn_of _ (by decide +kernel)) ggX4_holds_X4_oneIf
theorem dX4_holds_0 : decode cX4_holds 0 = .ok (.aload_n 0, 1) := by decide +kernel
theorem dX4_holds_1 : decode cX4_holds 1 = .ok (.iload_n 1, 1) := by decide +kernel
theorem dX4_holds_2 : decode cX4_holds 2 = .ok (.iload_n 2, 1) := by decide +kernel
theorem dX4_holds_3 : decode cX4_holds 3 = .ok (.invokevirtual 94, 3) := by decide +kernel
theorem dX4_holds_6 : decode cX4_holds 6 = .ok (.ifCond .eq 10, 3) := by decide +kernel
theorem dX4_holds_9 : decode cX4_holds 9 = .ok (.iload_n 3, 1) := by decide +kernel
theorem dX4_holds_10 : decode cX4_holds 10 = .ok (.invokestatic 59, 3) := by decide +kernel
theorem dX4_holds_13 : decode cX4_holds 13 = .ok (.ifCond .ne 5, 3) := by decide +kernel
theorem dX4_holds_16 : decode cX4_holds 16 = .ok (.iconst (-1), 1) := by decide +kernel
theorem dX4_holds_17 : decode cX4_holds 17 = .ok (.ireturn, 1) := by decide +kernel
theorem dX4_holds_18 : decode cX4_holds 18 = .ok (.aload_n 0, 1) := by decide +kernel
theorem dX4_holds_19 : decode cX4_holds 19 = .ok (.iload_n 1, 1) := by decide +kernel
theorem dX4_holds_20 : decode cX4_holds 20 = .ok (.iload_n 2, 1) := by decide +kernel
theorem dX4_holds_21 : decode cX4_holds 21 = .ok (.iload_n 3, 1) := by decide +kernel
theorem dX4_holds_22 : decode cX4_holds 22 = .ok (.invokevirtual 105, 3) := by decide +kernel
theorem dX4_holds_25 : decode cX4_holds 25 = .ok (.invokestatic 108, 3) := by decide +kernel
theorem dX4_holds_28 : decode cX4_holds 28 = .ok (.ireturn, 1) := by decide +kernel
set_option maxRecDepth 20000 in
theorem ggX4_cross_X0_isThere : GoodIn wsX4_cross wsX0_isThere := goodIn_r _ [7, 8, 9, 10, 11, 12, 13, 14, 149, 150, 151, 152, 153] (by decide +kernel) (by decide +kernel)
set_option maxRecDepth 20000 in
theorem gX4_cross_X0_isThere : GoodIn wsX4_cross (wsV RX4 73 RX0 yX0_isThere wsX0_isThere) := goodIn_app (goodIn_of _ (by decide +kernel)) ggX4_cross_X0_isThere
set_option maxRecDepth 20000 in
theorem ggX4_cross_X4_isHand : GoodIn wsX4_cross wsX4_isHand := goodIn_r _ [18] (by decide +kernel) (by decide +kernel)
set_option maxRecDepth 20000 in
theorem gX4_cross_X4_isHand : GoodIn wsX4_cross (va_wsS RX4 112 yX4_isHand wsX4_isHand) := goodIn_app (goodIn_of _ (by decide +kernel)) ggX4_cross_X4_isHand
set_option maxRecDepth 20000 in
theorem ggX4_cross_X3_isFull : GoodIn wsX4_cross wsX3_isFull := goodIn_r _ [22, 14, 23, 150, 151, 152, 153] (by decide +kernel) (by decide +kernel)
set_option maxRecDepth 20000 in
theorem gX4_cross_X3_isFull : GoodIn wsX4_cross (wsV RX4 115 RX3 yX3_isFull wsX3_isFull) := goodIn_app (goodIn_of _ (by decide +kernel)) ggX4_cross_X3_isFull
set_option maxRecDepth 20000 in
theorem ggX4_cross_X4_crossWith : GoodIn wsX4_cross wsX4_crossWith := goodIn_r _ [27, 28, 1, 29, 30, 31, 32, 33, 34, 35, 36, 37, 38, 39, 12, 40, 14, 41, 42, 43, 44, 45, 46, 47, 48, 49, 50, 51, 52, 53, 54, 55, 56, 57, 6, 58, 8, 59, 60, 61, 62, 17, 63, 64, 65, 66, 67, 68, 69, 70, 71, 72, 73, 74, 75, 76, 77, 78, 79, 80, 81, 82, 83, 84, 85, 86, 87, 88, 89, 90, 91, 92, 93, 94, 95, 96, 97, 98, 99, 100, 101, 102, 103, 104, 105, 106, 107, 108, 109, 110, 111, 112, 113, 114, 115, 116, 117, 118, 119, 120, 121, 122, 123, 124, 125, 126, 127, 128, 129, 130, 131, 20, 21, 22, 23, 132, 133, 134, 135, 136, 143, 144, 145, 146, 147, 148, 154, 155, 150, 151, 152, 153, 149, 156] (by decide +kernel) (by decide +kernel)
set_option maxRecDepth 20000 in
theorem gX4_cross_X4_crossWith : GoodIn wsX4_cross (wsV RX4 119 RX4 yX4_crossWith wsX4_crossWith) := goodIn_app (goodIn_of _ (by decide +kernel)) ggX4_cross_X4_crossWith
set_option maxRecDepth 20000 in
theorem ggX4_cross_X4_enter : GoodIn wsX4_cross wsX4_enter := goodIn_r _ [140, 2, 29, 141, 128, 129, 12, 130, 14, 131, 20, 21, 22, 23, 142, 133, 134, 135, 45, 46, 47, 48, 49, 50, 143, 144, 145, 146, 147, 148, 150, 151, 152, 153] (by decide +kernel) (by decide +kernel)
set_option maxRecDepth 20000 in
theorem gX4_cross_X4_enter : GoodIn wsX4_cross (wsV RX4 123 RX4 yX4_enter wsX4_enter) := goodIn_app (goodIn_of _ (by decide +kernel)) ggX4_cross_X4_enter
theorem dX4_cross_0 : decode cX4_cross 0 = .ok (.aload_n 0, 1) := by decide +kernel
theorem dX4_cross_1 : decode cX4_cross 1 = .ok (.getfield 19, 3) := by decide +kernel
theorem dX4_cross_4 : decode cX4_cross 4 = .ok (.iload_n 1, 1) := by decide +kernel
theorem dX4_cross_5 : decode cX4_cross 5 = .ok (.invokevirtual 73, 3) := by decide +kernel
theorem dX4_cross_8 : decode cX4_cross 8 = .ok (.ifCond .eq 32, 3) := by decide +kernel
theorem dX4_cross_11 : decode cX4_cross 11 = .ok (.aload_n 0, 1) := by decide +kernel
theorem dX4_cross_12 : decode cX4_cross 12 = .ok (.getfield 19, 3) := by decide +kernel
theorem dX4_cross_15 : decode cX4_cross 15 = .ok (.iload_n 2, 1) := by decide +kernel
theorem dX4_cross_16 : decode cX4_cross 16 = .ok (.invokevirtual 73, 3) := by decide +kernel
theorem dX4_cross_19 : decode cX4_cross 19 = .ok (.ifCond .eq 21, 3) := by decide +kernel
theorem dX4_cross_22 : decode cX4_cross 22 = .ok (.iload 4, 2) := by decide +kernel
theorem dX4_cross_24 : decode cX4_cross 24 = .ok (.invokestatic 112, 3) := by decide +kernel
theorem dX4_cross_27 : decode cX4_cross 27 = .ok (.ifCond .eq 13, 3) := by decide +kernel
theorem dX4_cross_30 : decode cX4_cross 30 = .ok (.aload_n 0, 1) := by decide +kernel
theorem dX4_cross_31 : decode cX4_cross 31 = .ok (.getfield 41, 3) := by decide +kernel
theorem dX4_cross_34 : decode cX4_cross 34 = .ok (.invokevirtual 115, 3) := by decide +kernel
theorem dX4_cross_37 : decode cX4_cross 37 = .ok (.ifCond .eq 5, 3) := by decide +kernel
theorem dX4_cross_40 : decode cX4_cross 40 = .ok (.iconst (-1), 1) := by decide +kernel
theorem dX4_cross_41 : decode cX4_cross 41 = .ok (.ireturn, 1) := by decide +kernel
theorem dX4_cross_42 : decode cX4_cross 42 = .ok (.aload_n 0, 1) := by decide +kernel
theorem dX4_cross_43 : decode cX4_cross 43 = .ok (.iload_n 1, 1) := by decide +kernel
theorem dX4_cross_44 : decode cX4_cross 44 = .ok (.iload_n 2, 1) := by decide +kernel
theorem dX4_cross_45 : decode cX4_cross 45 = .ok (.iload_n 3, 1) := by decide +kernel
theorem dX4_cross_46 : decode cX4_cross 46 = .ok (.invokevirtual 119, 3) := by decide +kernel
theorem dX4_cross_49 : decode cX4_cross 49 = .ok (.istore 5, 2) := by decide +kernel
theorem dX4_cross_51 : decode cX4_cross 51 = .ok (.aload_n 0, 1) := by decide +kernel
theorem dX4_cross_52 : decode cX4_cross 52 = .ok (.iload 5, 2) := by decide +kernel
theorem dX4_cross_54 : decode cX4_cross 54 = .ok (.iconst (-1), 1) := by decide +kernel
theorem dX4_cross_55 : decode cX4_cross 55 = .ok (.if_icmp .ne 7, 3) := by decide +kernel
theorem dX4_cross_58 : decode cX4_cross 58 = .ok (.iconst 2, 1) := by decide +kernel
theorem dX4_cross_59 : decode cX4_cross 59 = .ok (.goto 4, 3) := by decide +kernel
theorem dX4_cross_62 : decode cX4_cross 62 = .ok (.iconst 0, 1) := by decide +kernel
theorem dX4_cross_63 : decode cX4_cross 63 = .ok (.iload_n 1, 1) := by decide +kernel
theorem dX4_cross_64 : decode cX4_cross 64 = .ok (.iload_n 3, 1) := by decide +kernel
theorem dX4_cross_65 : decode cX4_cross 65 = .ok (.iload 4, 2) := by decide +kernel
theorem dX4_cross_67 : decode cX4_cross 67 = .ok (.iconst (-1), 1) := by decide +kernel
theorem dX4_cross_68 : decode cX4_cross 68 = .ok (.invokevirtual 123, 3) := by decide +kernel
theorem dX4_cross_71 : decode cX4_cross 71 = .ok (.iload 5, 2) := by decide +kernel
theorem dX4_cross_73 : decode cX4_cross 73 = .ok (.ireturn, 1) := by decide +kernel
set_option maxRecDepth 20000 in
theorem ggX4_back_X0_isThere : GoodIn wsX4_back wsX0_isThere := goodIn_r _ [7, 8, 9, 10, 11, 12, 13, 14, 101, 102, 103, 104, 105] (by decide +kernel) (by decide +kernel)
set_option maxRecDepth 20000 in
theorem gX4_back_X0_isThere : GoodIn wsX4_back (wsV RX4 73 RX0 yX0_isThere wsX0_isThere) := goodIn_app (goodIn_of _ (by decide +kernel)) ggX4_back_X0_isThere
set_option maxRecDepth 20000 in
theorem ggX4_back_X4_isReason : GoodIn wsX4_back wsX4_isReason := goodIn_r _ [18] (by decide +kernel) (by decide +kernel)
set_option maxRecDepth 20000 in
theorem gX4_back_X4_isReason : GoodIn wsX4_back (va_wsS RX4 127 yX4_isReason wsX4_isReason) := goodIn_app (goodIn_of _ (by decide +kernel)) ggX4_back_X4_isReason
set_option maxRecDepth 20000 in
theorem ggX4_back_X4_isHand : GoodIn wsX4_back wsX4_isHand := goodIn_r _ [21] (by decide +kernel) (by decide +kernel)
set_option maxRecDepth 20000 in
theorem gX4_back_X4_isHand : GoodIn wsX4_back (va_wsS RX4 112 yX4_isHand wsX4_isHand) := goodIn_app (goodIn_of _ (by decide +kernel)) ggX4_back_X4_isHand
set_option maxRecDepth 20000 in
theorem ggX4_back_X3_isFull : GoodIn wsX4_back wsX3_isFull := goodIn_r _ [25, 14, 26, 102, 103, 104, 105] (by decide +kernel) (by decide +kernel)
set_option maxRecDepth 20000 in
theorem gX4_back_X3_isFull : GoodIn wsX4_back (wsV RX4 115 RX3 yX3_isFull wsX3_isFull) := goodIn_app (goodIn_of _ (by decide +kernel)) ggX4_back_X3_isFull
set_option maxRecDepth 20000 in
theorem ggX4_back_X0_reasonCounts : GoodIn wsX4_back wsX0_reasonCounts := goodIn_r _ [30, 8, 31, 32, 33, 12, 34, 35, 36, 37, 38, 39, 40, 14, 101, 102, 103, 104, 105] (by decide +kernel) (by decide +kernel)
set_option maxRecDepth 20000 in
theorem gX4_back_X0_reasonCounts : GoodIn wsX4_back (wsV RX4 130 RX0 yX0_reasonCounts wsX0_reasonCounts) := goodIn_app (goodIn_of _ (by decide +kernel)) ggX4_back_X0_reasonCounts
set_option maxRecDepth 20000 in
theorem ggX4_back_X0_isLost : GoodIn wsX4_back wsX0_isLost := goodIn_r _ [44, 8, 31, 32, 33, 12, 34, 35, 36, 37, 38, 39, 40, 14, 101, 102, 103, 104, 105] (by decide +kernel) (by decide +kernel)
set_option maxRecDepth 20000 in
theorem gX4_back_X0_isLost : GoodIn wsX4_back (wsV RX4 133 RX0 yX0_isLost wsX0_isLost) := goodIn_app (goodIn_of _ (by decide +kernel)) ggX4_back_X0_isLost
set_option maxRecDepth 20000 in
theorem ggX4_back_X4_headBehind : GoodIn wsX4_back wsX4_headBehind := goodIn_r _ [48, 49, 50, 51, 52, 53, 54, 55, 56, 57, 58, 59, 12, 60, 14, 61, 32, 33, 34, 35, 36, 37, 38, 39, 40, 62, 63, 64, 65, 66, 67, 68, 69, 70, 71, 72, 73, 74, 75, 76, 77, 78, 79, 80, 95, 96, 97, 98, 99, 100, 106, 107, 102, 103, 104, 105, 108] (by decide +kernel) (by decide +kernel)
set_option maxRecDepth 20000 in
theorem gX4_back_X4_headBehind : GoodIn wsX4_back (wsV RX4 136 RX4 yX4_headBehind wsX4_headBehind) := goodIn_app (goodIn_of _ (by decide +kernel)) ggX4_back_X4_headBehind
set_option maxRecDepth 20000 in
theorem ggX4_back_X4_enter : GoodIn wsX4_back wsX4_enter := goodIn_r _ [84, 2, 85, 86, 87, 88, 12, 89, 14, 90, 23, 24, 25, 26, 91, 92, 93, 94, 35, 36, 37, 38, 39, 40, 95, 96, 97, 98, 99, 100, 102, 103, 104, 105] (by decide +kernel) (by decide +kernel)
set_option maxRecDepth 20000 in
theorem gX4_back_X4_enter : GoodIn wsX4_back (wsV RX4 123 RX4 yX4_enter wsX4_enter) := goodIn_app (goodIn_of _ (by decide +kernel)) ggX4_back_X4_enter
theorem dX4_back_0 : decode cX4_back 0 = .ok (.aload_n 0, 1) := by decide +kernel
theorem dX4_back_1 : decode cX4_back 1 = .ok (.getfield 19, 3) := by decide +kernel
theorem dX4_back_4 : decode cX4_back 4 = .ok (.iload_n 1, 1) := by decide +kernel
theorem dX4_back_5 : decode cX4_back 5 = .ok (.invokevirtual 73, 3) := by decide +kernel
theorem dX4_back_8 : decode cX4_back 8 = .ok (.ifCond .eq 36, 3) := by decide +kernel
theorem dX4_back_11 : decode cX4_back 11 = .ok (.iload_n 3, 1) := by decide +kernel
theorem dX4_back_12 : decode cX4_back 12 = .ok (.invokestatic 127, 3) := by decide +kernel
theorem dX4_back_15 : decode cX4_back 15 = .ok (.ifCond .eq 29, 3) := by decide +kernel
theorem dX4_back_18 : decode cX4_back 18 = .ok (.iload 4, 2) := by decide +kernel
theorem dX4_back_20 : decode cX4_back 20 = .ok (.invokestatic 112, 3) := by decide +kernel
theorem dX4_back_23 : decode cX4_back 23 = .ok (.ifCond .eq 21, 3) := by decide +kernel
theorem dX4_back_26 : decode cX4_back 26 = .ok (.iload 5, 2) := by decide +kernel
theorem dX4_back_28 : decode cX4_back 28 = .ok (.invokestatic 112, 3) := by decide +kernel
theorem dX4_back_31 : decode cX4_back 31 = .ok (.ifCond .eq 13, 3) := by decide +kernel
theorem dX4_back_34 : decode cX4_back 34 = .ok (.aload_n 0, 1) := by decide +kernel
theorem dX4_back_35 : decode cX4_back 35 = .ok (.getfield 41, 3) := by decide +kernel
theorem dX4_back_38 : decode cX4_back 38 = .ok (.invokevirtual 115, 3) := by decide +kernel
theorem dX4_back_41 : decode cX4_back 41 = .ok (.ifCond .eq 5, 3) := by decide +kernel
theorem dX4_back_44 : decode cX4_back 44 = .ok (.iconst (-1), 1) := by decide +kernel
theorem dX4_back_45 : decode cX4_back 45 = .ok (.ireturn, 1) := by decide +kernel
theorem dX4_back_46 : decode cX4_back 46 = .ok (.iload 4, 2) := by decide +kernel
theorem dX4_back_48 : decode cX4_back 48 = .ok (.iload 5, 2) := by decide +kernel
theorem dX4_back_50 : decode cX4_back 50 = .ok (.if_icmp .eq 30, 3) := by decide +kernel
theorem dX4_back_53 : decode cX4_back 53 = .ok (.aload_n 0, 1) := by decide +kernel
theorem dX4_back_54 : decode cX4_back 54 = .ok (.getfield 19, 3) := by decide +kernel
theorem dX4_back_57 : decode cX4_back 57 = .ok (.iload_n 1, 1) := by decide +kernel
theorem dX4_back_58 : decode cX4_back 58 = .ok (.iload_n 3, 1) := by decide +kernel
theorem dX4_back_59 : decode cX4_back 59 = .ok (.invokevirtual 130, 3) := by decide +kernel
theorem dX4_back_62 : decode cX4_back 62 = .ok (.ifCond .eq 18, 3) := by decide +kernel
theorem dX4_back_65 : decode cX4_back 65 = .ok (.aload_n 0, 1) := by decide +kernel
theorem dX4_back_66 : decode cX4_back 66 = .ok (.getfield 19, 3) := by decide +kernel
theorem dX4_back_69 : decode cX4_back 69 = .ok (.iload_n 1, 1) := by decide +kernel
theorem dX4_back_70 : decode cX4_back 70 = .ok (.invokevirtual 133, 3) := by decide +kernel
theorem dX4_back_73 : decode cX4_back 73 = .ok (.ifCond .ne 7, 3) := by decide +kernel
theorem dX4_back_76 : decode cX4_back 76 = .ok (.iconst 1, 1) := by decide +kernel
theorem dX4_back_77 : decode cX4_back 77 = .ok (.goto 4, 3) := by decide +kernel
theorem dX4_back_80 : decode cX4_back 80 = .ok (.iconst 0, 1) := by decide +kernel
theorem dX4_back_81 : decode cX4_back 81 = .ok (.istore 6, 2) := by decide +kernel
theorem dX4_back_83 : decode cX4_back 83 = .ok (.iload 6, 2) := by decide +kernel
theorem dX4_back_85 : decode cX4_back 85 = .ok (.ifCond .eq 12, 3) := by decide +kernel
theorem dX4_back_88 : decode cX4_back 88 = .ok (.aload_n 0, 1) := by decide +kernel
theorem dX4_back_89 : decode cX4_back 89 = .ok (.iload_n 1, 1) := by decide +kernel
theorem dX4_back_90 : decode cX4_back 90 = .ok (.iload_n 2, 1) := by decide +kernel
theorem dX4_back_91 : decode cX4_back 91 = .ok (.invokevirtual 136, 3) := by decide +kernel
theorem dX4_back_94 : decode cX4_back 94 = .ok (.goto 4, 3) := by decide +kernel
theorem dX4_back_97 : decode cX4_back 97 = .ok (.iconst (-1), 1) := by decide +kernel
theorem dX4_back_98 : decode cX4_back 98 = .ok (.istore 7, 2) := by decide +kernel
theorem dX4_back_100 : decode cX4_back 100 = .ok (.aload_n 0, 1) := by decide +kernel
theorem dX4_back_101 : decode cX4_back 101 = .ok (.iload 7, 2) := by decide +kernel
theorem dX4_back_103 : decode cX4_back 103 = .ok (.iconst (-1), 1) := by decide +kernel
theorem dX4_back_104 : decode cX4_back 104 = .ok (.if_icmp .ne 7, 3) := by decide +kernel
theorem dX4_back_107 : decode cX4_back 107 = .ok (.iconst 3, 1) := by decide +kernel
theorem dX4_back_108 : decode cX4_back 108 = .ok (.goto 4, 3) := by decide +kernel
theorem dX4_back_111 : decode cX4_back 111 = .ok (.iconst 1, 1) := by decide +kernel
theorem dX4_back_112 : decode cX4_back 112 = .ok (.iload_n 1, 1) := by decide +kernel
theorem dX4_back_113 : decode cX4_back 113 = .ok (.iload_n 2, 1) := by decide +kernel
theorem dX4_back_114 : decode cX4_back 114 = .ok (.iload 4, 2) := by decide +kernel
theorem dX4_back_116 : decode cX4_back 116 = .ok (.iload 5, 2) := by decide +kernel
theorem dX4_back_118 : decode cX4_back 118 = .ok (.invokevirtual 123, 3) := by decide +kernel
theorem dX4_back_121 : decode cX4_back 121 = .ok (.iload 7, 2) := by decide +kernel
theorem dX4_back_123 : decode cX4_back 123 = .ok (.ireturn, 1) := by decide +kernel
set_option maxRecDepth 20000 in
theorem ggX4_lose_X0_isThere : GoodIn wsX4_lose wsX0_isThere := goodIn_r _ [6, 7, 8, 9, 10, 11, 12, 13, 42, 43, 44, 45, 46] (by decide +kernel) (by decide +kernel)
set_option maxRecDepth 20000 in
theorem gX4_lose_X0_isThere : GoodIn wsX4_lose (wsV RX4 73 RX0 yX0_isThere wsX0_isThere) := goodIn_app (goodIn_of _ (by decide +kernel)) ggX4_lose_X0_isThere
set_option maxRecDepth 20000 in
theorem ggX4_lose_X0_isLost : GoodIn wsX4_lose wsX0_isLost := goodIn_r _ [17, 7, 18, 19, 20, 11, 21, 22, 23, 24, 25, 26, 27, 13, 42, 43, 44, 45, 46] (by decide +kernel) (by decide +kernel)
set_option maxRecDepth 20000 in
theorem gX4_lose_X0_isLost : GoodIn wsX4_lose (wsV RX4 133 RX0 yX0_isLost wsX0_isLost) := goodIn_app (goodIn_of _ (by decide +kernel)) ggX4_lose_X0_isLost
set_option maxRecDepth 20000 in
theorem ggX4_lose_X0_setLost : GoodIn wsX4_lose wsX0_setLost := goodIn_r _ [31, 7, 32, 33, 34, 11, 35, 22, 23, 24, 25, 26, 27, 13, 42, 43, 44, 45, 46] (by decide +kernel) (by decide +kernel)
set_option maxRecDepth 20000 in
theorem gX4_lose_X0_setLost : GoodIn wsX4_lose (wsV RX4 139 RX0 yX0_setLost wsX0_setLost) := goodIn_app (goodIn_of _ (by decide +kernel)) ggX4_lose_X0_setLost
theorem dX4_lose_0 : decode cX4_lose 0 = .ok (.aload_n 0, 1) := by decide +kernel
theorem dX4_lose_1 : decode cX4_lose 1 = .ok (.getfield 19, 3) := by decide +kernel
theorem dX4_lose_4 : decode cX4_lose 4 = .ok (.iload_n 1, 1) := by decide +kernel
theorem dX4_lose_5 : decode cX4_lose 5 = .ok (.invokevirtual 73, 3) := by decide +kernel
theorem dX4_lose_8 : decode cX4_lose 8 = .ok (.ifCond .eq 14, 3) := by decide +kernel
theorem dX4_lose_11 : decode cX4_lose 11 = .ok (.aload_n 0, 1) := by decide +kernel
theorem dX4_lose_12 : decode cX4_lose 12 = .ok (.getfield 19, 3) := by decide +kernel
theorem dX4_lose_15 : decode cX4_lose 15 = .ok (.iload_n 1, 1) := by decide +kernel
theorem dX4_lose_16 : decode cX4_lose 16 = .ok (.invokevirtual 133, 3) := by decide +kernel
theorem dX4_lose_19 : decode cX4_lose 19 = .ok (.ifCond .eq 5, 3) := by decide +kernel
theorem dX4_lose_22 : decode cX4_lose 22 = .ok (.iconst 0, 1) := by decide +kernel
theorem dX4_lose_23 : decode cX4_lose 23 = .ok (.ireturn, 1) := by decide +kernel
theorem dX4_lose_24 : decode cX4_lose 24 = .ok (.aload_n 0, 1) := by decide +kernel
theorem dX4_lose_25 : decode cX4_lose 25 = .ok (.getfield 19, 3) := by decide +kernel
theorem dX4_lose_28 : decode cX4_lose 28 = .ok (.iload_n 1, 1) := by decide +kernel
theorem dX4_lose_29 : decode cX4_lose 29 = .ok (.iconst 1, 1) := by decide +kernel
theorem dX4_lose_30 : decode cX4_lose 30 = .ok (.invokevirtual 139, 3) := by decide +kernel
theorem dX4_lose_33 : decode cX4_lose 33 = .ok (.iconst 1, 1) := by decide +kernel
theorem dX4_lose_34 : decode cX4_lose 34 = .ok (.ireturn, 1) := by decide +kernel
set_option maxRecDepth 20000 in
theorem ggX4_anew_X0_isThere : GoodIn wsX4_anew wsX0_isThere := goodIn_r _ [6, 7, 8, 9, 10, 11, 12, 13, 46, 47, 48, 49, 50] (by decide +kernel) (by decide +kernel)
set_option maxRecDepth 20000 in
theorem gX4_anew_X0_isThere : GoodIn wsX4_anew (wsV RX4 73 RX0 yX0_isThere wsX0_isThere) := goodIn_app (goodIn_of _ (by decide +kernel)) ggX4_anew_X0_isThere
set_option maxRecDepth 20000 in
theorem ggX4_anew_X0_isLost : GoodIn wsX4_anew wsX0_isLost := goodIn_r _ [17, 7, 18, 19, 20, 11, 21, 22, 23, 24, 25, 26, 27, 13, 46, 47, 48, 49, 50] (by decide +kernel) (by decide +kernel)
set_option maxRecDepth 20000 in
theorem gX4_anew_X0_isLost : GoodIn wsX4_anew (wsV RX4 133 RX0 yX0_isLost wsX0_isLost) := goodIn_app (goodIn_of _ (by decide +kernel)) ggX4_anew_X0_isLost
set_option maxRecDepth 20000 in
theorem ggX4_anew_X0_seedOf : GoodIn wsX4_anew wsX0_seedOf := goodIn_r _ [31, 7, 18, 19, 20, 11, 21, 22, 23, 24, 25, 26, 27, 13, 46, 47, 48, 49, 50] (by decide +kernel) (by decide +kernel)
set_option maxRecDepth 20000 in
theorem gX4_anew_X0_seedOf : GoodIn wsX4_anew (wsV RX4 143 RX0 yX0_seedOf wsX0_seedOf) := goodIn_app (goodIn_of _ (by decide +kernel)) ggX4_anew_X0_seedOf
set_option maxRecDepth 20000 in
theorem ggX4_anew_X0_setLost : GoodIn wsX4_anew wsX0_setLost := goodIn_r _ [35, 7, 36, 37, 38, 11, 39, 22, 23, 24, 25, 26, 27, 13, 46, 47, 48, 49, 50] (by decide +kernel) (by decide +kernel)
set_option maxRecDepth 20000 in
theorem gX4_anew_X0_setLost : GoodIn wsX4_anew (wsV RX4 139 RX0 yX0_setLost wsX0_setLost) := goodIn_app (goodIn_of _ (by decide +kernel)) ggX4_anew_X0_setLost
theorem dX4_anew_0 : decode cX4_anew 0 = .ok (.aload_n 0, 1) := by decide +kernel
theorem dX4_anew_1 : decode cX4_anew 1 = .ok (.getfield 19, 3) := by decide +kernel
theorem dX4_anew_4 : decode cX4_anew 4 = .ok (.iload_n 1, 1) := by decide +kernel
theorem dX4_anew_5 : decode cX4_anew 5 = .ok (.invokevirtual 73, 3) := by decide +kernel
theorem dX4_anew_8 : decode cX4_anew 8 = .ok (.ifCond .eq 26, 3) := by decide +kernel
theorem dX4_anew_11 : decode cX4_anew 11 = .ok (.aload_n 0, 1) := by decide +kernel
theorem dX4_anew_12 : decode cX4_anew 12 = .ok (.getfield 19, 3) := by decide +kernel
theorem dX4_anew_15 : decode cX4_anew 15 = .ok (.iload_n 1, 1) := by decide +kernel
theorem dX4_anew_16 : decode cX4_anew 16 = .ok (.invokevirtual 133, 3) := by decide +kernel
theorem dX4_anew_19 : decode cX4_anew 19 = .ok (.ifCond .eq 15, 3) := by decide +kernel
theorem dX4_anew_22 : decode cX4_anew 22 = .ok (.aload_n 0, 1) := by decide +kernel
theorem dX4_anew_23 : decode cX4_anew 23 = .ok (.getfield 19, 3) := by decide +kernel
theorem dX4_anew_26 : decode cX4_anew 26 = .ok (.iload_n 1, 1) := by decide +kernel
theorem dX4_anew_27 : decode cX4_anew 27 = .ok (.invokevirtual 143, 3) := by decide +kernel
theorem dX4_anew_30 : decode cX4_anew 30 = .ok (.iload_n 2, 1) := by decide +kernel
theorem dX4_anew_31 : decode cX4_anew 31 = .ok (.if_icmp .eq 5, 3) := by decide +kernel
theorem dX4_anew_34 : decode cX4_anew 34 = .ok (.iconst 0, 1) := by decide +kernel
theorem dX4_anew_35 : decode cX4_anew 35 = .ok (.ireturn, 1) := by decide +kernel
theorem dX4_anew_36 : decode cX4_anew 36 = .ok (.aload_n 0, 1) := by decide +kernel
theorem dX4_anew_37 : decode cX4_anew 37 = .ok (.getfield 19, 3) := by decide +kernel
theorem dX4_anew_40 : decode cX4_anew 40 = .ok (.iload_n 1, 1) := by decide +kernel
theorem dX4_anew_41 : decode cX4_anew 41 = .ok (.iconst 0, 1) := by decide +kernel
theorem dX4_anew_42 : decode cX4_anew 42 = .ok (.invokevirtual 139, 3) := by decide +kernel
theorem dX4_anew_45 : decode cX4_anew 45 = .ok (.iconst 1, 1) := by decide +kernel
theorem dX4_anew_46 : decode cX4_anew 46 = .ok (.ireturn, 1) := by decide +kernel
set_option maxRecDepth 20000 in
theorem ggX4_joins_X4_areTwoHouses : GoodIn wsX4_joins wsX4_areTwoHouses := goodIn_r _ [7, 8, 9, 10, 11, 12, 13, 14, 15, 16, 17, 18, 19, 20, 78, 79, 80, 81, 82, 83, 84, 85, 86, 87, 88] (by decide +kernel) (by decide +kernel)
set_option maxRecDepth 20000 in
theorem gX4_joins_X4_areTwoHouses : GoodIn wsX4_joins (wsV RX4 94 RX4 yX4_areTwoHouses wsX4_areTwoHouses) := goodIn_app (goodIn_of _ (by decide +kernel)) ggX4_joins_X4_areTwoHouses
set_option maxRecDepth 20000 in
theorem ggX4_joins_X4_areMarks : GoodIn wsX4_joins wsX4_areMarks := goodIn_r _ [23] (by decide +kernel) (by decide +kernel)
set_option maxRecDepth 20000 in
theorem gX4_joins_X4_areMarks : GoodIn wsX4_joins (va_wsS RX4 146 yX4_areMarks wsX4_areMarks) := goodIn_app (goodIn_of _ (by decide +kernel)) ggX4_joins_X4_areMarks
set_option maxRecDepth 20000 in
theorem ggX4_joins_X1_knownTo : GoodIn wsX4_joins wsX1_knownTo := goodIn_r _ [28, 29, 30, 31, 32, 33, 18, 34, 20, 35, 36, 37, 27, 38, 39, 40, 41, 42, 43, 44, 45, 46, 47, 48, 49, 50, 51, 52, 53, 54, 55, 56, 57, 58, 59, 89, 90, 85, 86, 87, 88, 91] (by decide +kernel) (by decide +kernel)
set_option maxRecDepth 20000 in
theorem gX4_joins_X1_knownTo : GoodIn wsX4_joins (wsV RX4 149 RX1 yX1_knownTo wsX1_knownTo) := goodIn_app (goodIn_of _ (by decide +kernel)) ggX4_joins_X1_knownTo
set_option maxRecDepth 20000 in
theorem ggX4_joins_X2_groupSize : GoodIn wsX4_joins wsX2_groupSize := goodIn_r _ [63, 64, 65, 52, 66, 67, 68, 69, 70, 71, 72, 73, 74, 54, 75, 76, 77, 55, 40, 41, 18, 42, 43, 44, 45, 46, 47, 48, 20, 91, 85, 86, 87, 88] (by decide +kernel) (by decide +kernel)
set_option maxRecDepth 20000 in
theorem gX4_joins_X2_groupSize : GoodIn wsX4_joins (wsV RX4 152 RX2 yX2_groupSize wsX2_groupSize) := goodIn_app (goodIn_of _ (by decide +kernel)) ggX4_joins_X2_groupSize
theorem dX4_joins_0 : decode cX4_joins 0 = .ok (.aload_n 0, 1) := by decide +kernel
theorem dX4_joins_1 : decode cX4_joins 1 = .ok (.iload_n 1, 1) := by decide +kernel
theorem dX4_joins_2 : decode cX4_joins 2 = .ok (.iload_n 2, 1) := by decide +kernel
theorem dX4_joins_3 : decode cX4_joins 3 = .ok (.invokevirtual 94, 3) := by decide +kernel
theorem dX4_joins_6 : decode cX4_joins 6 = .ok (.ifCond .eq 10, 3) := by decide +kernel
theorem dX4_joins_9 : decode cX4_joins 9 = .ok (.iload_n 3, 1) := by decide +kernel
theorem dX4_joins_10 : decode cX4_joins 10 = .ok (.invokestatic 146, 3) := by decide +kernel
theorem dX4_joins_13 : decode cX4_joins 13 = .ok (.ifCond .ne 5, 3) := by decide +kernel
theorem dX4_joins_16 : decode cX4_joins 16 = .ok (.iconst (-1), 1) := by decide +kernel
theorem dX4_joins_17 : decode cX4_joins 17 = .ok (.ireturn, 1) := by decide +kernel
theorem dX4_joins_18 : decode cX4_joins 18 = .ok (.aload_n 0, 1) := by decide +kernel
theorem dX4_joins_19 : decode cX4_joins 19 = .ok (.getfield 28, 3) := by decide +kernel
theorem dX4_joins_22 : decode cX4_joins 22 = .ok (.iload_n 1, 1) := by decide +kernel
theorem dX4_joins_23 : decode cX4_joins 23 = .ok (.invokevirtual 149, 3) := by decide +kernel
theorem dX4_joins_26 : decode cX4_joins 26 = .ok (.istore 4, 2) := by decide +kernel
theorem dX4_joins_28 : decode cX4_joins 28 = .ok (.aload_n 0, 1) := by decide +kernel
theorem dX4_joins_29 : decode cX4_joins 29 = .ok (.getfield 28, 3) := by decide +kernel
theorem dX4_joins_32 : decode cX4_joins 32 = .ok (.iload_n 2, 1) := by decide +kernel
theorem dX4_joins_33 : decode cX4_joins 33 = .ok (.invokevirtual 149, 3) := by decide +kernel
theorem dX4_joins_36 : decode cX4_joins 36 = .ok (.istore 5, 2) := by decide +kernel
theorem dX4_joins_38 : decode cX4_joins 38 = .ok (.iconst 0, 1) := by decide +kernel
theorem dX4_joins_39 : decode cX4_joins 39 = .ok (.istore 6, 2) := by decide +kernel
theorem dX4_joins_41 : decode cX4_joins 41 = .ok (.iconst 0, 1) := by decide +kernel
theorem dX4_joins_42 : decode cX4_joins 42 = .ok (.istore 7, 2) := by decide +kernel
theorem dX4_joins_44 : decode cX4_joins 44 = .ok (.iload 7, 2) := by decide +kernel
theorem dX4_joins_46 : decode cX4_joins 46 = .ok (.bipush 24, 2) := by decide +kernel
theorem dX4_joins_48 : decode cX4_joins 48 = .ok (.if_icmp .ge 56, 3) := by decide +kernel
theorem dX4_joins_51 : decode cX4_joins 51 = .ok (.aload_n 0, 1) := by decide +kernel
theorem dX4_joins_52 : decode cX4_joins 52 = .ok (.getfield 10, 3) := by decide +kernel
theorem dX4_joins_55 : decode cX4_joins 55 = .ok (.iload 4, 2) := by decide +kernel
theorem dX4_joins_57 : decode cX4_joins 57 = .ok (.iload 7, 2) := by decide +kernel
theorem dX4_joins_59 : decode cX4_joins 59 = .ok (.iload_n 3, 1) := by decide +kernel
theorem dX4_joins_60 : decode cX4_joins 60 = .ok (.invokevirtual 152, 3) := by decide +kernel
theorem dX4_joins_63 : decode cX4_joins 63 = .ok (.iconst 1, 1) := by decide +kernel
theorem dX4_joins_64 : decode cX4_joins 64 = .ok (.if_icmp .ne 23, 3) := by decide +kernel
theorem dX4_joins_67 : decode cX4_joins 67 = .ok (.aload_n 0, 1) := by decide +kernel
theorem dX4_joins_68 : decode cX4_joins 68 = .ok (.getfield 10, 3) := by decide +kernel
theorem dX4_joins_71 : decode cX4_joins 71 = .ok (.iload 5, 2) := by decide +kernel
theorem dX4_joins_73 : decode cX4_joins 73 = .ok (.iload 7, 2) := by decide +kernel
theorem dX4_joins_75 : decode cX4_joins 75 = .ok (.iload_n 3, 1) := by decide +kernel
theorem dX4_joins_76 : decode cX4_joins 76 = .ok (.invokevirtual 152, 3) := by decide +kernel
theorem dX4_joins_79 : decode cX4_joins 79 = .ok (.iconst 1, 1) := by decide +kernel
theorem dX4_joins_80 : decode cX4_joins 80 = .ok (.if_icmp .ne 7, 3) := by decide +kernel
theorem dX4_joins_83 : decode cX4_joins 83 = .ok (.iconst 1, 1) := by decide +kernel
theorem dX4_joins_84 : decode cX4_joins 84 = .ok (.goto 4, 3) := by decide +kernel
theorem dX4_joins_87 : decode cX4_joins 87 = .ok (.iconst 0, 1) := by decide +kernel
theorem dX4_joins_88 : decode cX4_joins 88 = .ok (.istore 8, 2) := by decide +kernel
theorem dX4_joins_90 : decode cX4_joins 90 = .ok (.iload 8, 2) := by decide +kernel
theorem dX4_joins_92 : decode cX4_joins 92 = .ok (.ifCond .eq 6, 3) := by decide +kernel
theorem dX4_joins_95 : decode cX4_joins 95 = .ok (.iinc 6 1, 3) := by decide +kernel
theorem dX4_joins_98 : decode cX4_joins 98 = .ok (.iinc 7 1, 3) := by decide +kernel
theorem dX4_joins_101 : decode cX4_joins 101 = .ok (.goto (-57), 3) := by decide +kernel
theorem dX4_joins_104 : decode cX4_joins 104 = .ok (.iload 6, 2) := by decide +kernel
theorem dX4_joins_106 : decode cX4_joins 106 = .ok (.ireturn, 1) := by decide +kernel
set_option maxRecDepth 20000 in
theorem ggX4_least_X0_isThere : GoodIn wsX4_least wsX0_isThere := goodIn_r _ [8, 9, 10, 11, 12, 13, 14, 15, 87, 88, 89, 90, 91] (by decide +kernel) (by decide +kernel)
set_option maxRecDepth 20000 in
theorem gX4_least_X0_isThere : GoodIn wsX4_least (wsV RX4 73 RX0 yX0_isThere wsX0_isThere) := goodIn_app (goodIn_of _ (by decide +kernel)) ggX4_least_X0_isThere
set_option maxRecDepth 20000 in
theorem ggX4_least_X4_areMarks : GoodIn wsX4_least wsX4_areMarks := goodIn_r _ [19] (by decide +kernel) (by decide +kernel)
set_option maxRecDepth 20000 in
theorem gX4_least_X4_areMarks : GoodIn wsX4_least (va_wsS RX4 146 yX4_areMarks wsX4_areMarks) := goodIn_app (goodIn_of _ (by decide +kernel)) ggX4_least_X4_areMarks
set_option maxRecDepth 20000 in
theorem ggX4_least_X1_knownTo : GoodIn wsX4_least wsX1_knownTo := goodIn_r _ [24, 25, 26, 27, 28, 29, 13, 30, 15, 31, 32, 33, 23, 34, 35, 36, 37, 38, 39, 40, 41, 42, 43, 44, 45, 46, 47, 48, 49, 50, 51, 52, 53, 54, 55, 92, 93, 88, 89, 90, 91, 94] (by decide +kernel) (by decide +kernel)
set_option maxRecDepth 20000 in
theorem gX4_least_X1_knownTo : GoodIn wsX4_least (wsV RX4 149 RX1 yX1_knownTo wsX1_knownTo) := goodIn_app (goodIn_of _ (by decide +kernel)) ggX4_least_X1_knownTo
set_option maxRecDepth 20000 in
theorem ggX4_least_J6_bitCount_0f7a4 : GoodIn wsX4_least wsJ6_bitCount_0f7a4 := goodIn_r _ [59, 60, 61, 62] (by decide +kernel) (by decide +kernel)
set_option maxRecDepth 20000 in
theorem gX4_least_J6_bitCount_0f7a4 : GoodIn wsX4_least (va_wsS RX4 155 yJ6_bitCount_0f7a4 wsJ6_bitCount_0f7a4) := goodIn_app (goodIn_of _ (by decide +kernel)) ggX4_least_J6_bitCount_0f7a4
set_option maxRecDepth 20000 in
theorem ggX4_least_X2_groupSize : GoodIn wsX4_least wsX2_groupSize := goodIn_r _ [66, 67, 68, 48, 69, 70, 71, 72, 73, 74, 75, 76, 77, 50, 78, 79, 80, 51, 36, 37, 13, 38, 39, 40, 41, 42, 43, 44, 15, 94, 88, 89, 90, 91] (by decide +kernel) (by decide +kernel)
set_option maxRecDepth 20000 in
theorem gX4_least_X2_groupSize : GoodIn wsX4_least (wsV RX4 152 RX2 yX2_groupSize wsX2_groupSize) := goodIn_app (goodIn_of _ (by decide +kernel)) ggX4_least_X2_groupSize
theorem dX4_least_0 : decode cX4_least 0 = .ok (.aload_n 0, 1) := by decide +kernel
theorem dX4_least_1 : decode cX4_least 1 = .ok (.getfield 19, 3) := by decide +kernel
theorem dX4_least_4 : decode cX4_least 4 = .ok (.iload_n 1, 1) := by decide +kernel
theorem dX4_least_5 : decode cX4_least 5 = .ok (.invokevirtual 73, 3) := by decide +kernel
theorem dX4_least_8 : decode cX4_least 8 = .ok (.ifCond .eq 10, 3) := by decide +kernel
theorem dX4_least_11 : decode cX4_least 11 = .ok (.iload_n 2, 1) := by decide +kernel
theorem dX4_least_12 : decode cX4_least 12 = .ok (.invokestatic 146, 3) := by decide +kernel
theorem dX4_least_15 : decode cX4_least 15 = .ok (.ifCond .ne 5, 3) := by decide +kernel
theorem dX4_least_18 : decode cX4_least 18 = .ok (.iconst (-1), 1) := by decide +kernel
theorem dX4_least_19 : decode cX4_least 19 = .ok (.ireturn, 1) := by decide +kernel
theorem dX4_least_20 : decode cX4_least 20 = .ok (.aload_n 0, 1) := by decide +kernel
theorem dX4_least_21 : decode cX4_least 21 = .ok (.getfield 28, 3) := by decide +kernel
theorem dX4_least_24 : decode cX4_least 24 = .ok (.iload_n 1, 1) := by decide +kernel
theorem dX4_least_25 : decode cX4_least 25 = .ok (.invokevirtual 149, 3) := by decide +kernel
theorem dX4_least_28 : decode cX4_least 28 = .ok (.istore_n 3, 1) := by decide +kernel
theorem dX4_least_29 : decode cX4_least 29 = .ok (.iload_n 3, 1) := by decide +kernel
theorem dX4_least_30 : decode cX4_least 30 = .ok (.invokestatic 155, 3) := by decide +kernel
theorem dX4_least_33 : decode cX4_least 33 = .ok (.istore 4, 2) := by decide +kernel
theorem dX4_least_35 : decode cX4_least 35 = .ok (.iconst 0, 1) := by decide +kernel
theorem dX4_least_36 : decode cX4_least 36 = .ok (.istore 5, 2) := by decide +kernel
theorem dX4_least_38 : decode cX4_least 38 = .ok (.iload 5, 2) := by decide +kernel
theorem dX4_least_40 : decode cX4_least 40 = .ok (.bipush 24, 2) := by decide +kernel
theorem dX4_least_42 : decode cX4_least 42 = .ok (.if_icmp .ge 38, 3) := by decide +kernel
theorem dX4_least_45 : decode cX4_least 45 = .ok (.aload_n 0, 1) := by decide +kernel
theorem dX4_least_46 : decode cX4_least 46 = .ok (.getfield 10, 3) := by decide +kernel
theorem dX4_least_49 : decode cX4_least 49 = .ok (.iload_n 3, 1) := by decide +kernel
theorem dX4_least_50 : decode cX4_least 50 = .ok (.iload 5, 2) := by decide +kernel
theorem dX4_least_52 : decode cX4_least 52 = .ok (.iload_n 2, 1) := by decide +kernel
theorem dX4_least_53 : decode cX4_least 53 = .ok (.invokevirtual 152, 3) := by decide +kernel
theorem dX4_least_56 : decode cX4_least 56 = .ok (.istore 6, 2) := by decide +kernel
theorem dX4_least_58 : decode cX4_least 58 = .ok (.iload 6, 2) := by decide +kernel
theorem dX4_least_60 : decode cX4_least 60 = .ok (.ifCond .eq 14, 3) := by decide +kernel
theorem dX4_least_63 : decode cX4_least 63 = .ok (.iload 6, 2) := by decide +kernel
theorem dX4_least_65 : decode cX4_least 65 = .ok (.iload 4, 2) := by decide +kernel
theorem dX4_least_67 : decode cX4_least 67 = .ok (.if_icmp .ge 7, 3) := by decide +kernel
theorem dX4_least_70 : decode cX4_least 70 = .ok (.iload 6, 2) := by decide +kernel
theorem dX4_least_72 : decode cX4_least 72 = .ok (.istore 4, 2) := by decide +kernel
theorem dX4_least_74 : decode cX4_least 74 = .ok (.iinc 5 1, 3) := by decide +kernel
theorem dX4_least_77 : decode cX4_least 77 = .ok (.goto (-39), 3) := by decide +kernel
theorem dX4_least_80 : decode cX4_least 80 = .ok (.iload 4, 2) := by decide +kernel
theorem dX4_least_82 : decode cX4_least 82 = .ok (.ireturn, 1) := by decide +kernel
set_option maxRecDepth 20000 in
theorem ggX4_count_X0_isThere : GoodIn wsX4_count wsX0_isThere := goodIn_r _ [8, 9, 10, 11, 12, 13, 14, 15, 93, 94, 95, 96, 97] (by decide +kernel) (by decide +kernel)
set_option maxRecDepth 20000 in
theorem gX4_count_X0_isThere : GoodIn wsX4_count (wsV RX4 73 RX0 yX0_isThere wsX0_isThere) := goodIn_app (goodIn_of _ (by decide +kernel)) ggX4_count_X0_isThere
set_option maxRecDepth 20000 in
theorem ggX4_count_X2_isMark : GoodIn wsX4_count wsX2_isMark := goodIn_r _ [19] (by decide +kernel) (by decide +kernel)
set_option maxRecDepth 20000 in
theorem gX4_count_X2_isMark : GoodIn wsX4_count (va_wsS RX4 160 yX2_isMark wsX2_isMark) := goodIn_app (goodIn_of _ (by decide +kernel)) ggX4_count_X2_isMark
set_option maxRecDepth 20000 in
theorem ggX4_count_X2_isMarkNumber : GoodIn wsX4_count wsX2_isMarkNumber := goodIn_r _ [22] (by decide +kernel) (by decide +kernel)
set_option maxRecDepth 20000 in
theorem gX4_count_X2_isMarkNumber : GoodIn wsX4_count (va_wsS RX4 163 yX2_isMarkNumber wsX2_isMarkNumber) := goodIn_app (goodIn_of _ (by decide +kernel)) ggX4_count_X2_isMarkNumber
set_option maxRecDepth 20000 in
theorem ggX4_count_X1_knownTo : GoodIn wsX4_count wsX1_knownTo := goodIn_r _ [27, 28, 29, 30, 31, 32, 13, 33, 15, 34, 35, 36, 26, 37, 38, 39, 40, 41, 42, 43, 44, 45, 46, 47, 48, 49, 50, 18, 51, 52, 53, 54, 55, 56, 57, 98, 99, 94, 95, 96, 97, 100] (by decide +kernel) (by decide +kernel)
set_option maxRecDepth 20000 in
theorem gX4_count_X1_knownTo : GoodIn wsX4_count (wsV RX4 149 RX1 yX1_knownTo wsX1_knownTo) := goodIn_app (goodIn_of _ (by decide +kernel)) ggX4_count_X1_knownTo
set_option maxRecDepth 20000 in
theorem ggX4_count_X2_countHaving : GoodIn wsX4_count wsX2_countHaving := goodIn_r _ [61, 62, 63, 18, 64, 65, 66, 67, 68, 52, 69, 17, 19, 53, 39, 40, 13, 41, 42, 43, 44, 45, 46, 47, 15, 100, 94, 95, 96, 97] (by decide +kernel) (by decide +kernel)
set_option maxRecDepth 20000 in
theorem gX4_count_X2_countHaving : GoodIn wsX4_count (wsV RX4 166 RX2 yX2_countHaving wsX2_countHaving) := goodIn_app (goodIn_of _ (by decide +kernel)) ggX4_count_X2_countHaving
set_option maxRecDepth 20000 in
theorem ggX4_count_J6_bitCount_0f7a4 : GoodIn wsX4_count wsJ6_bitCount_0f7a4 := goodIn_r _ [73, 74, 75, 76] (by decide +kernel) (by decide +kernel)
set_option maxRecDepth 20000 in
theorem gX4_count_J6_bitCount_0f7a4 : GoodIn wsX4_count (va_wsS RX4 155 yJ6_bitCount_0f7a4 wsJ6_bitCount_0f7a4) := goodIn_app (goodIn_of _ (by decide +kernel)) ggX4_count_J6_bitCount_0f7a4
set_option maxRecDepth 20000 in
theorem ggX4_count_X4_isTooSmall : GoodIn wsX4_count wsX4_isTooSmall := goodIn_r _ [81, 1, 82, 83, 84, 7, 85, 9, 86, 39, 40, 13, 41, 42, 43, 44, 45, 46, 47, 15, 87, 88, 89, 90, 91, 92, 93, 94, 95, 96, 97] (by decide +kernel) (by decide +kernel)
set_option maxRecDepth 20000 in
theorem gX4_count_X4_isTooSmall : GoodIn wsX4_count (wsV RX4 169 RX4 yX4_isTooSmall wsX4_isTooSmall) := goodIn_app (goodIn_of _ (by decide +kernel)) ggX4_count_X4_isTooSmall
theorem dX4_count_0 : decode cX4_count 0 = .ok (.aload_n 0, 1) := by decide +kernel
theorem dX4_count_1 : decode cX4_count 1 = .ok (.getfield 19, 3) := by decide +kernel
theorem dX4_count_4 : decode cX4_count 4 = .ok (.iload_n 1, 1) := by decide +kernel
theorem dX4_count_5 : decode cX4_count 5 = .ok (.invokevirtual 73, 3) := by decide +kernel
theorem dX4_count_8 : decode cX4_count 8 = .ok (.ifCond .eq 17, 3) := by decide +kernel
theorem dX4_count_11 : decode cX4_count 11 = .ok (.iload_n 2, 1) := by decide +kernel
theorem dX4_count_12 : decode cX4_count 12 = .ok (.invokestatic 160, 3) := by decide +kernel
theorem dX4_count_15 : decode cX4_count 15 = .ok (.ifCond .eq 10, 3) := by decide +kernel
theorem dX4_count_18 : decode cX4_count 18 = .ok (.iload_n 3, 1) := by decide +kernel
theorem dX4_count_19 : decode cX4_count 19 = .ok (.invokestatic 163, 3) := by decide +kernel
theorem dX4_count_22 : decode cX4_count 22 = .ok (.ifCond .ne 5, 3) := by decide +kernel
theorem dX4_count_25 : decode cX4_count 25 = .ok (.iconst (-1), 1) := by decide +kernel
theorem dX4_count_26 : decode cX4_count 26 = .ok (.ireturn, 1) := by decide +kernel
theorem dX4_count_27 : decode cX4_count 27 = .ok (.aload_n 0, 1) := by decide +kernel
theorem dX4_count_28 : decode cX4_count 28 = .ok (.getfield 28, 3) := by decide +kernel
theorem dX4_count_31 : decode cX4_count 31 = .ok (.iload_n 1, 1) := by decide +kernel
theorem dX4_count_32 : decode cX4_count 32 = .ok (.invokevirtual 149, 3) := by decide +kernel
theorem dX4_count_35 : decode cX4_count 35 = .ok (.istore 4, 2) := by decide +kernel
theorem dX4_count_37 : decode cX4_count 37 = .ok (.aload_n 0, 1) := by decide +kernel
theorem dX4_count_38 : decode cX4_count 38 = .ok (.getfield 10, 3) := by decide +kernel
theorem dX4_count_41 : decode cX4_count 41 = .ok (.iload 4, 2) := by decide +kernel
theorem dX4_count_43 : decode cX4_count 43 = .ok (.iload_n 2, 1) := by decide +kernel
theorem dX4_count_44 : decode cX4_count 44 = .ok (.iload_n 3, 1) := by decide +kernel
theorem dX4_count_45 : decode cX4_count 45 = .ok (.invokevirtual 166, 3) := by decide +kernel
theorem dX4_count_48 : decode cX4_count 48 = .ok (.istore 5, 2) := by decide +kernel
theorem dX4_count_50 : decode cX4_count 50 = .ok (.iload 4, 2) := by decide +kernel
theorem dX4_count_52 : decode cX4_count 52 = .ok (.invokestatic 155, 3) := by decide +kernel
theorem dX4_count_55 : decode cX4_count 55 = .ok (.iload 5, 2) := by decide +kernel
theorem dX4_count_57 : decode cX4_count 57 = .ok (.isub, 1) := by decide +kernel
theorem dX4_count_58 : decode cX4_count 58 = .ok (.istore 6, 2) := by decide +kernel
theorem dX4_count_60 : decode cX4_count 60 = .ok (.aload_n 0, 1) := by decide +kernel
theorem dX4_count_61 : decode cX4_count 61 = .ok (.iload_n 1, 1) := by decide +kernel
theorem dX4_count_62 : decode cX4_count 62 = .ok (.iload 5, 2) := by decide +kernel
theorem dX4_count_64 : decode cX4_count 64 = .ok (.invokevirtual 169, 3) := by decide +kernel
theorem dX4_count_67 : decode cX4_count 67 = .ok (.ifCond .ne 13, 3) := by decide +kernel
theorem dX4_count_70 : decode cX4_count 70 = .ok (.aload_n 0, 1) := by decide +kernel
theorem dX4_count_71 : decode cX4_count 71 = .ok (.iload_n 1, 1) := by decide +kernel
theorem dX4_count_72 : decode cX4_count 72 = .ok (.iload 6, 2) := by decide +kernel
theorem dX4_count_74 : decode cX4_count 74 = .ok (.invokevirtual 169, 3) := by decide +kernel
theorem dX4_count_77 : decode cX4_count 77 = .ok (.ifCond .eq 6, 3) := by decide +kernel
theorem dX4_count_80 : decode cX4_count 80 = .ok (.bipush (-2), 2) := by decide +kernel
theorem dX4_count_82 : decode cX4_count 82 = .ok (.ireturn, 1) := by decide +kernel
theorem dX4_count_83 : decode cX4_count 83 = .ok (.iload 5, 2) := by decide +kernel
theorem dX4_count_85 : decode cX4_count 85 = .ok (.ireturn, 1) := by decide +kernel
set_option maxRecDepth 20000 in
theorem ggX4_record_X3_at : GoodIn wsX4_record wsX3_at := goodIn_r _ [6, 7, 8, 9, 10, 11, 5, 12, 13, 20, 21, 22, 23] (by decide +kernel) (by decide +kernel)
set_option maxRecDepth 20000 in
theorem gX4_record_X3_at : GoodIn wsX4_record (wsV RX4 172 RX3 yX3_at wsX3_at) := goodIn_app (goodIn_of _ (by decide +kernel)) ggX4_record_X3_at
theorem dX4_record_0 : decode cX4_record 0 = .ok (.aload_n 0, 1) := by decide +kernel
theorem dX4_record_1 : decode cX4_record 1 = .ok (.getfield 41, 3) := by decide +kernel
theorem dX4_record_4 : decode cX4_record 4 = .ok (.iload_n 1, 1) := by decide +kernel
theorem dX4_record_5 : decode cX4_record 5 = .ok (.iload_n 2, 1) := by decide +kernel
theorem dX4_record_6 : decode cX4_record 6 = .ok (.invokevirtual 172, 3) := by decide +kernel
theorem dX4_record_9 : decode cX4_record 9 = .ok (.ireturn, 1) := by decide +kernel
set_option maxRecDepth 20000 in
theorem ggX4_given_X1_cell : GoodIn wsX4_given wsX1_cell := goodIn_r _ [6, 7, 8, 9, 10, 11, 12, 13, 14, 15, 16, 17, 18, 19, 26, 27, 28, 29, 30, 31] (by decide +kernel) (by decide +kernel)
set_option maxRecDepth 20000 in
theorem gX4_given_X1_cell : GoodIn wsX4_given (wsV RX4 175 RX1 yX1_cell wsX1_cell) := goodIn_app (goodIn_of _ (by decide +kernel)) ggX4_given_X1_cell
theorem dX4_given_0 : decode cX4_given 0 = .ok (.aload_n 0, 1) := by decide +kernel
theorem dX4_given_1 : decode cX4_given 1 = .ok (.getfield 28, 3) := by decide +kernel
theorem dX4_given_4 : decode cX4_given 4 = .ok (.iload_n 1, 1) := by decide +kernel
theorem dX4_given_5 : decode cX4_given 5 = .ok (.iload_n 2, 1) := by decide +kernel
theorem dX4_given_6 : decode cX4_given 6 = .ok (.invokevirtual 175, 3) := by decide +kernel
theorem dX4_given_9 : decode cX4_given 9 = .ok (.ireturn, 1) := by decide +kernel
set_option maxRecDepth 20000 in
theorem ggX4_look_X2_isThere : GoodIn wsX4_look wsX2_isThere := goodIn_r _ [7, 8, 9, 10, 11, 12, 13, 14, 69, 70, 71, 72, 73] (by decide +kernel) (by decide +kernel)
set_option maxRecDepth 20000 in
theorem gX4_look_X2_isThere : GoodIn wsX4_look (wsV RX4 76 RX2 yX2_isThere wsX2_isThere) := goodIn_app (goodIn_of _ (by decide +kernel)) ggX4_look_X2_isThere
set_option maxRecDepth 20000 in
theorem ggX4_look_X2_headOf : GoodIn wsX4_look wsX2_headOf := goodIn_r _ [18, 8, 19, 20, 21, 12, 22, 23, 24, 25, 26, 27, 28, 14, 69, 70, 71, 72, 73] (by decide +kernel) (by decide +kernel)
set_option maxRecDepth 20000 in
theorem gX4_look_X2_headOf : GoodIn wsX4_look (wsV RX4 178 RX2 yX2_headOf wsX2_headOf) := goodIn_app (goodIn_of _ (by decide +kernel)) ggX4_look_X2_headOf
set_option maxRecDepth 20000 in
theorem ggX4_look_X2_holderOf : GoodIn wsX4_look wsX2_holderOf := goodIn_r _ [32, 8, 19, 20, 21, 12, 22, 23, 24, 25, 26, 27, 28, 14, 69, 70, 71, 72, 73] (by decide +kernel) (by decide +kernel)
set_option maxRecDepth 20000 in
theorem gX4_look_X2_holderOf : GoodIn wsX4_look (wsV RX4 181 RX2 yX2_holderOf wsX2_holderOf) := goodIn_app (goodIn_of _ (by decide +kernel)) ggX4_look_X2_holderOf
set_option maxRecDepth 20000 in
theorem ggX4_look_X2_isStruckOut : GoodIn wsX4_look wsX2_isStruckOut := goodIn_r _ [36, 8, 19, 20, 21, 12, 22, 23, 24, 25, 26, 27, 28, 14, 69, 70, 71, 72, 73] (by decide +kernel) (by decide +kernel)
set_option maxRecDepth 20000 in
theorem gX4_look_X2_isStruckOut : GoodIn wsX4_look (wsV RX4 77 RX2 yX2_isStruckOut wsX2_isStruckOut) := goodIn_app (goodIn_of _ (by decide +kernel)) ggX4_look_X2_isStruckOut
set_option maxRecDepth 20000 in
theorem ggX4_look_X4_oneIf : GoodIn wsX4_look wsX4_oneIf := goodIn_r _ [40] (by decide +kernel) (by decide +kernel)
set_option maxRecDepth 20000 in
theorem gX4_look_X4_oneIf : GoodIn wsX4_look (va_wsS RX4 108 yX4_oneIf wsX4_oneIf) := goodIn_app (goodIn_of _ (by decide +kernel)) ggX4_look_X4_oneIf
set_option maxRecDepth 20000 in
theorem ggX4_look_X1_countOwnedBy : GoodIn wsX4_look wsX1_countOwnedBy := goodIn_r _ [45, 46, 47, 48, 44, 49, 50, 51, 52, 53, 12, 54, 14, 55, 20, 21, 22, 23, 24, 25, 26, 27, 28, 74, 75, 70, 71, 72, 73] (by decide +kernel) (by decide +kernel)
set_option maxRecDepth 20000 in
theorem gX4_look_X1_countOwnedBy : GoodIn wsX4_look (wsV RX4 184 RX1 yX1_countOwnedBy wsX1_countOwnedBy) := goodIn_app (goodIn_of _ (by decide +kernel)) ggX4_look_X1_countOwnedBy
set_option maxRecDepth 20000 in
theorem ggX4_look_X2_markOf : GoodIn wsX4_look wsX2_markOf := goodIn_r _ [59, 8, 60, 61, 6, 62, 19, 20, 21, 12, 22, 23, 24, 25, 26, 27, 28, 14, 69, 70, 71, 72, 73] (by decide +kernel) (by decide +kernel)
set_option maxRecDepth 20000 in
theorem gX4_look_X2_markOf : GoodIn wsX4_look (wsV RX4 187 RX2 yX2_markOf wsX2_markOf) := goodIn_app (goodIn_of _ (by decide +kernel)) ggX4_look_X2_markOf
theorem dX4_look_0 : decode cX4_look 0 = .ok (.aload_n 0, 1) := by decide +kernel
theorem dX4_look_1 : decode cX4_look 1 = .ok (.getfield 10, 3) := by decide +kernel
theorem dX4_look_4 : decode cX4_look 4 = .ok (.iload_n 1, 1) := by decide +kernel
theorem dX4_look_5 : decode cX4_look 5 = .ok (.invokevirtual 76, 3) := by decide +kernel
theorem dX4_look_8 : decode cX4_look 8 = .ok (.ifCond .ne 5, 3) := by decide +kernel
theorem dX4_look_11 : decode cX4_look 11 = .ok (.iconst (-1), 1) := by decide +kernel
theorem dX4_look_12 : decode cX4_look 12 = .ok (.ireturn, 1) := by decide +kernel
theorem dX4_look_13 : decode cX4_look 13 = .ok (.iload_n 2, 1) := by decide +kernel
theorem dX4_look_14 : decode cX4_look 14 = .ok (.tableswitch 69 0 3 #[30, 39, 48, 60], 30) := by decide +kernel
theorem dX4_look_44 : decode cX4_look 44 = .ok (.aload_n 0, 1) := by decide +kernel
theorem dX4_look_45 : decode cX4_look 45 = .ok (.getfield 10, 3) := by decide +kernel
theorem dX4_look_48 : decode cX4_look 48 = .ok (.iload_n 1, 1) := by decide +kernel
theorem dX4_look_49 : decode cX4_look 49 = .ok (.invokevirtual 178, 3) := by decide +kernel
theorem dX4_look_52 : decode cX4_look 52 = .ok (.ireturn, 1) := by decide +kernel
theorem dX4_look_53 : decode cX4_look 53 = .ok (.aload_n 0, 1) := by decide +kernel
theorem dX4_look_54 : decode cX4_look 54 = .ok (.getfield 10, 3) := by decide +kernel
theorem dX4_look_57 : decode cX4_look 57 = .ok (.iload_n 1, 1) := by decide +kernel
theorem dX4_look_58 : decode cX4_look 58 = .ok (.invokevirtual 181, 3) := by decide +kernel
theorem dX4_look_61 : decode cX4_look 61 = .ok (.ireturn, 1) := by decide +kernel
theorem dX4_look_62 : decode cX4_look 62 = .ok (.aload_n 0, 1) := by decide +kernel
theorem dX4_look_63 : decode cX4_look 63 = .ok (.getfield 10, 3) := by decide +kernel
theorem dX4_look_66 : decode cX4_look 66 = .ok (.iload_n 1, 1) := by decide +kernel
theorem dX4_look_67 : decode cX4_look 67 = .ok (.invokevirtual 77, 3) := by decide +kernel
theorem dX4_look_70 : decode cX4_look 70 = .ok (.invokestatic 108, 3) := by decide +kernel
theorem dX4_look_73 : decode cX4_look 73 = .ok (.ireturn, 1) := by decide +kernel
theorem dX4_look_74 : decode cX4_look 74 = .ok (.aload_n 0, 1) := by decide +kernel
theorem dX4_look_75 : decode cX4_look 75 = .ok (.getfield 28, 3) := by decide +kernel
theorem dX4_look_78 : decode cX4_look 78 = .ok (.iload_n 1, 1) := by decide +kernel
theorem dX4_look_79 : decode cX4_look 79 = .ok (.invokevirtual 184, 3) := by decide +kernel
theorem dX4_look_82 : decode cX4_look 82 = .ok (.ireturn, 1) := by decide +kernel
theorem dX4_look_83 : decode cX4_look 83 = .ok (.aload_n 0, 1) := by decide +kernel
theorem dX4_look_84 : decode cX4_look 84 = .ok (.getfield 10, 3) := by decide +kernel
theorem dX4_look_87 : decode cX4_look 87 = .ok (.iload_n 1, 1) := by decide +kernel
theorem dX4_look_88 : decode cX4_look 88 = .ok (.iload_n 2, 1) := by decide +kernel
theorem dX4_look_89 : decode cX4_look 89 = .ok (.iconst 4, 1) := by decide +kernel
theorem dX4_look_90 : decode cX4_look 90 = .ok (.isub, 1) := by decide +kernel
theorem dX4_look_91 : decode cX4_look 91 = .ok (.invokevirtual 187, 3) := by decide +kernel
theorem dX4_look_94 : decode cX4_look 94 = .ok (.ireturn, 1) := by decide +kernel
set_option maxRecDepth 20000 in
theorem ggX4_tell_X2_size : GoodIn wsX4_tell wsX2_size := goodIn_r _ [11, 12, 13, 14, 15, 16, 17, 18, 104, 105, 106, 107, 108] (by decide +kernel) (by decide +kernel)
set_option maxRecDepth 20000 in
theorem gX4_tell_X2_size : GoodIn wsX4_tell (wsV RX4 190 RX2 yX2_size wsX2_size) := goodIn_app (goodIn_of _ (by decide +kernel)) ggX4_tell_X2_size
set_option maxRecDepth 20000 in
theorem ggX4_tell_X0_size : GoodIn wsX4_tell wsX0_size := goodIn_r _ [23, 24, 25, 14, 15, 16, 17, 18, 109, 105, 106, 107, 108] (by decide +kernel) (by decide +kernel)
set_option maxRecDepth 20000 in
theorem gX4_tell_X0_size : GoodIn wsX4_tell (wsV RX4 193 RX0 yX0_size wsX0_size) := goodIn_app (goodIn_of _ (by decide +kernel)) ggX4_tell_X0_size
set_option maxRecDepth 20000 in
theorem ggX4_tell_X1_size : GoodIn wsX4_tell wsX1_size := goodIn_r _ [30, 31, 32, 14, 15, 16, 17, 18, 110, 111, 105, 106, 107, 108] (by decide +kernel) (by decide +kernel)
set_option maxRecDepth 20000 in
theorem gX4_tell_X1_size : GoodIn wsX4_tell (wsV RX4 194 RX1 yX1_size wsX1_size) := goodIn_app (goodIn_of _ (by decide +kernel)) ggX4_tell_X1_size
set_option maxRecDepth 20000 in
theorem ggX4_tell_X3_size : GoodIn wsX4_tell wsX3_size := goodIn_r _ [17, 18, 105, 106, 107, 108] (by decide +kernel) (by decide +kernel)
set_option maxRecDepth 20000 in
theorem gX4_tell_X3_size : GoodIn wsX4_tell (wsV RX4 195 RX3 yX3_size wsX3_size) := goodIn_app (goodIn_of _ (by decide +kernel)) ggX4_tell_X3_size
set_option maxRecDepth 20000 in
theorem ggX4_tell_X4_tellOfHouse : GoodIn wsX4_tell wsX4_tellOfHouse := goodIn_r _ [38, 2, 4, 39, 40, 41, 22, 42, 24, 43, 44, 45, 16, 46, 18, 47, 48, 49, 29, 50, 51, 52, 53, 54, 31, 32, 14, 15, 17, 55, 56, 57, 58, 59, 60, 61, 62, 63, 64, 65, 66, 67, 68, 69, 70, 71, 72, 73, 74, 75, 76, 10, 77, 12, 78, 79, 80, 81, 82, 83, 84, 85, 86, 87, 88, 89, 90, 91, 92, 93, 94, 95, 96, 37, 97, 98, 99, 100, 101, 102, 103, 109, 105, 106, 107, 108, 110, 111, 104] (by decide +kernel) (by decide +kernel)
set_option maxRecDepth 20000 in
theorem gX4_tell_X4_tellOfHouse : GoodIn wsX4_tell (wsV RX4 196 RX4 yX4_tellOfHouse wsX4_tellOfHouse) := goodIn_app (goodIn_of _ (by decide +kernel)) ggX4_tell_X4_tellOfHouse
theorem dX4_tell_0 : decode cX4_tell 0 = .ok (.iload_n 1, 1) := by decide +kernel
theorem dX4_tell_1 : decode cX4_tell 1 = .ok (.tableswitch 84 0 5 #[39, 47, 55, 60, 68, 76], 39) := by decide +kernel
theorem dX4_tell_40 : decode cX4_tell 40 = .ok (.aload_n 0, 1) := by decide +kernel
theorem dX4_tell_41 : decode cX4_tell 41 = .ok (.getfield 10, 3) := by decide +kernel
theorem dX4_tell_44 : decode cX4_tell 44 = .ok (.invokevirtual 190, 3) := by decide +kernel
theorem dX4_tell_47 : decode cX4_tell 47 = .ok (.ireturn, 1) := by decide +kernel
theorem dX4_tell_48 : decode cX4_tell 48 = .ok (.aload_n 0, 1) := by decide +kernel
theorem dX4_tell_49 : decode cX4_tell 49 = .ok (.getfield 19, 3) := by decide +kernel
theorem dX4_tell_52 : decode cX4_tell 52 = .ok (.invokevirtual 193, 3) := by decide +kernel
theorem dX4_tell_55 : decode cX4_tell 55 = .ok (.ireturn, 1) := by decide +kernel
theorem dX4_tell_56 : decode cX4_tell 56 = .ok (.aload_n 0, 1) := by decide +kernel
theorem dX4_tell_57 : decode cX4_tell 57 = .ok (.getfield 44, 3) := by decide +kernel
theorem dX4_tell_60 : decode cX4_tell 60 = .ok (.ireturn, 1) := by decide +kernel
theorem dX4_tell_61 : decode cX4_tell 61 = .ok (.aload_n 0, 1) := by decide +kernel
theorem dX4_tell_62 : decode cX4_tell 62 = .ok (.getfield 28, 3) := by decide +kernel
theorem dX4_tell_65 : decode cX4_tell 65 = .ok (.invokevirtual 194, 3) := by decide +kernel
theorem dX4_tell_68 : decode cX4_tell 68 = .ok (.ireturn, 1) := by decide +kernel
theorem dX4_tell_69 : decode cX4_tell 69 = .ok (.aload_n 0, 1) := by decide +kernel
theorem dX4_tell_70 : decode cX4_tell 70 = .ok (.getfield 41, 3) := by decide +kernel
theorem dX4_tell_73 : decode cX4_tell 73 = .ok (.invokevirtual 195, 3) := by decide +kernel
theorem dX4_tell_76 : decode cX4_tell 76 = .ok (.ireturn, 1) := by decide +kernel
theorem dX4_tell_77 : decode cX4_tell 77 = .ok (.aload_n 0, 1) := by decide +kernel
theorem dX4_tell_78 : decode cX4_tell 78 = .ok (.getfield 37, 3) := by decide +kernel
theorem dX4_tell_81 : decode cX4_tell 81 = .ok (.invokevirtual 195, 3) := by decide +kernel
theorem dX4_tell_84 : decode cX4_tell 84 = .ok (.ireturn, 1) := by decide +kernel
theorem dX4_tell_85 : decode cX4_tell 85 = .ok (.aload_n 0, 1) := by decide +kernel
theorem dX4_tell_86 : decode cX4_tell 86 = .ok (.iload_n 1, 1) := by decide +kernel
theorem dX4_tell_87 : decode cX4_tell 87 = .ok (.bipush 10, 2) := by decide +kernel
theorem dX4_tell_89 : decode cX4_tell 89 = .ok (.idiv, 1) := by decide +kernel
theorem dX4_tell_90 : decode cX4_tell 90 = .ok (.iload_n 1, 1) := by decide +kernel
theorem dX4_tell_91 : decode cX4_tell 91 = .ok (.bipush 10, 2) := by decide +kernel
theorem dX4_tell_93 : decode cX4_tell 93 = .ok (.irem, 1) := by decide +kernel
theorem dX4_tell_94 : decode cX4_tell 94 = .ok (.invokevirtual 196, 3) := by decide +kernel
theorem dX4_tell_97 : decode cX4_tell 97 = .ok (.ireturn, 1) := by decide +kernel
set_option maxRecDepth 20000 in
theorem ggX4_tellOfHouse_X0_isThere : GoodIn wsX4_tellOfHouse wsX0_isThere := goodIn_r _ [7, 8, 9, 10, 11, 12, 13, 14, 81, 82, 83, 84, 85] (by decide +kernel) (by decide +kernel)
set_option maxRecDepth 20000 in
theorem gX4_tellOfHouse_X0_isThere : GoodIn wsX4_tellOfHouse (wsV RX4 73 RX0 yX0_isThere wsX0_isThere) := goodIn_app (goodIn_of _ (by decide +kernel)) ggX4_tellOfHouse_X0_isThere
set_option maxRecDepth 20000 in
theorem ggX4_tellOfHouse_X1_countGivenBy : GoodIn wsX4_tellOfHouse wsX1_countGivenBy := goodIn_r _ [19, 20, 21, 22, 18, 23, 24, 25, 26, 27, 12, 28, 14, 29, 30, 31, 32, 33, 34, 35, 36, 37, 38, 86, 87, 82, 83, 84, 85] (by decide +kernel) (by decide +kernel)
set_option maxRecDepth 20000 in
theorem gX4_tellOfHouse_X1_countGivenBy : GoodIn wsX4_tellOfHouse (wsV RX4 199 RX1 yX1_countGivenBy wsX1_countGivenBy) := goodIn_app (goodIn_of _ (by decide +kernel)) ggX4_tellOfHouse_X1_countGivenBy
set_option maxRecDepth 20000 in
theorem ggX4_tellOfHouse_X1_knownTo : GoodIn wsX4_tellOfHouse wsX1_knownTo := goodIn_r _ [42, 24, 43, 25, 26, 27, 12, 28, 14, 44, 45, 46, 18, 47, 29, 30, 31, 32, 33, 34, 35, 36, 37, 38, 48, 49, 50, 51, 52, 53, 54, 55, 56, 57, 58, 86, 87, 82, 83, 84, 85, 88] (by decide +kernel) (by decide +kernel)
set_option maxRecDepth 20000 in
theorem gX4_tellOfHouse_X1_knownTo : GoodIn wsX4_tellOfHouse (wsV RX4 149 RX1 yX1_knownTo wsX1_knownTo) := goodIn_app (goodIn_of _ (by decide +kernel)) ggX4_tellOfHouse_X1_knownTo
set_option maxRecDepth 20000 in
theorem ggX4_tellOfHouse_J6_bitCount_0f7a4 : GoodIn wsX4_tellOfHouse wsJ6_bitCount_0f7a4 := goodIn_r _ [62, 63, 64, 65] (by decide +kernel) (by decide +kernel)
set_option maxRecDepth 20000 in
theorem gX4_tellOfHouse_J6_bitCount_0f7a4 : GoodIn wsX4_tellOfHouse (va_wsS RX4 155 yJ6_bitCount_0f7a4 wsJ6_bitCount_0f7a4) := goodIn_app (goodIn_of _ (by decide +kernel)) ggX4_tellOfHouse_J6_bitCount_0f7a4
set_option maxRecDepth 20000 in
theorem ggX4_tellOfHouse_X0_isLost : GoodIn wsX4_tellOfHouse wsX0_isLost := goodIn_r _ [69, 8, 70, 30, 31, 12, 32, 33, 34, 35, 36, 37, 38, 14, 81, 82, 83, 84, 85] (by decide +kernel) (by decide +kernel)
set_option maxRecDepth 20000 in
theorem gX4_tellOfHouse_X0_isLost : GoodIn wsX4_tellOfHouse (wsV RX4 133 RX0 yX0_isLost wsX0_isLost) := goodIn_app (goodIn_of _ (by decide +kernel)) ggX4_tellOfHouse_X0_isLost
set_option maxRecDepth 20000 in
theorem ggX4_tellOfHouse_X4_oneIf : GoodIn wsX4_tellOfHouse wsX4_oneIf := goodIn_r _ [74] (by decide +kernel) (by decide +kernel)
set_option maxRecDepth 20000 in
theorem gX4_tellOfHouse_X4_oneIf : GoodIn wsX4_tellOfHouse (va_wsS RX4 108 yX4_oneIf wsX4_oneIf) := goodIn_app (goodIn_of _ (by decide +kernel)) ggX4_tellOfHouse_X4_oneIf
theorem dX4_tellOfHouse_0 : decode cX4_tellOfHouse 0 = .ok (.aload_n 0, 1) := by decide +kernel
theorem dX4_tellOfHouse_1 : decode cX4_tellOfHouse 1 = .ok (.getfield 19, 3) := by decide +kernel
theorem dX4_tellOfHouse_4 : decode cX4_tellOfHouse 4 = .ok (.iload_n 2, 1) := by decide +kernel
theorem dX4_tellOfHouse_5 : decode cX4_tellOfHouse 5 = .ok (.invokevirtual 73, 3) := by decide +kernel
theorem dX4_tellOfHouse_8 : decode cX4_tellOfHouse 8 = .ok (.ifCond .ne 5, 3) := by decide +kernel
theorem dX4_tellOfHouse_11 : decode cX4_tellOfHouse 11 = .ok (.iconst (-1), 1) := by decide +kernel
theorem dX4_tellOfHouse_12 : decode cX4_tellOfHouse 12 = .ok (.ireturn, 1) := by decide +kernel
theorem dX4_tellOfHouse_13 : decode cX4_tellOfHouse 13 = .ok (.iload_n 1, 1) := by decide +kernel
theorem dX4_tellOfHouse_14 : decode cX4_tellOfHouse 14 = .ok (.tableswitch 59 1 3 #[26, 35, 47], 26) := by decide +kernel
theorem dX4_tellOfHouse_40 : decode cX4_tellOfHouse 40 = .ok (.aload_n 0, 1) := by decide +kernel
theorem dX4_tellOfHouse_41 : decode cX4_tellOfHouse 41 = .ok (.getfield 28, 3) := by decide +kernel
theorem dX4_tellOfHouse_44 : decode cX4_tellOfHouse 44 = .ok (.iload_n 2, 1) := by decide +kernel
theorem dX4_tellOfHouse_45 : decode cX4_tellOfHouse 45 = .ok (.invokevirtual 199, 3) := by decide +kernel
theorem dX4_tellOfHouse_48 : decode cX4_tellOfHouse 48 = .ok (.ireturn, 1) := by decide +kernel
theorem dX4_tellOfHouse_49 : decode cX4_tellOfHouse 49 = .ok (.aload_n 0, 1) := by decide +kernel
theorem dX4_tellOfHouse_50 : decode cX4_tellOfHouse 50 = .ok (.getfield 28, 3) := by decide +kernel
theorem dX4_tellOfHouse_53 : decode cX4_tellOfHouse 53 = .ok (.iload_n 2, 1) := by decide +kernel
theorem dX4_tellOfHouse_54 : decode cX4_tellOfHouse 54 = .ok (.invokevirtual 149, 3) := by decide +kernel
theorem dX4_tellOfHouse_57 : decode cX4_tellOfHouse 57 = .ok (.invokestatic 155, 3) := by decide +kernel
theorem dX4_tellOfHouse_60 : decode cX4_tellOfHouse 60 = .ok (.ireturn, 1) := by decide +kernel
theorem dX4_tellOfHouse_61 : decode cX4_tellOfHouse 61 = .ok (.aload_n 0, 1) := by decide +kernel
theorem dX4_tellOfHouse_62 : decode cX4_tellOfHouse 62 = .ok (.getfield 19, 3) := by decide +kernel
theorem dX4_tellOfHouse_65 : decode cX4_tellOfHouse 65 = .ok (.iload_n 2, 1) := by decide +kernel
theorem dX4_tellOfHouse_66 : decode cX4_tellOfHouse 66 = .ok (.invokevirtual 133, 3) := by decide +kernel
theorem dX4_tellOfHouse_69 : decode cX4_tellOfHouse 69 = .ok (.invokestatic 108, 3) := by decide +kernel
theorem dX4_tellOfHouse_72 : decode cX4_tellOfHouse 72 = .ok (.ireturn, 1) := by decide +kernel
theorem dX4_tellOfHouse_73 : decode cX4_tellOfHouse 73 = .ok (.iconst (-1), 1) := by decide +kernel
theorem dX4_tellOfHouse_74 : decode cX4_tellOfHouse 74 = .ok (.ireturn, 1) := by decide +kernel
set_option maxRecDepth 20000 in
theorem ggX4_nameIn_X1_countGivenBy : GoodIn wsX4_nameIn wsX1_countGivenBy := goodIn_r _ [9, 10, 11, 12, 8, 13, 14, 15, 16, 17, 18, 19, 20, 21, 22, 23, 24, 25, 26, 27, 28, 29, 30, 98, 99, 100, 101, 102, 103] (by decide +kernel) (by decide +kernel)
set_option maxRecDepth 20000 in
theorem gX4_nameIn_X1_countGivenBy : GoodIn wsX4_nameIn (wsV RX4 199 RX1 yX1_countGivenBy wsX1_countGivenBy) := goodIn_app (goodIn_of _ (by decide +kernel)) ggX4_nameIn_X1_countGivenBy
set_option maxRecDepth 20000 in
theorem ggX4_nameIn_X0_spanNumber : GoodIn wsX4_nameIn wsX0_spanNumber := goodIn_r _ [35, 36, 37, 22, 23, 18, 24, 25, 26, 27, 28, 29, 30, 20, 38, 39, 40, 34, 41, 104, 100, 101, 102, 103] (by decide +kernel) (by decide +kernel)
set_option maxRecDepth 20000 in
theorem gX4_nameIn_X0_spanNumber : GoodIn wsX4_nameIn (wsV RX4 202 RX0 yX0_spanNumber wsX0_spanNumber) := goodIn_app (goodIn_of _ (by decide +kernel)) ggX4_nameIn_X0_spanNumber
set_option maxRecDepth 20000 in
theorem ggX4_nameIn_X2_headOf : GoodIn wsX4_nameIn wsX2_headOf := goodIn_r _ [46, 47, 48, 22, 23, 18, 24, 25, 26, 27, 28, 29, 30, 20, 105, 100, 101, 102, 103] (by decide +kernel) (by decide +kernel)
set_option maxRecDepth 20000 in
theorem gX4_nameIn_X2_headOf : GoodIn wsX4_nameIn (wsV RX4 178 RX2 yX2_headOf wsX2_headOf) := goodIn_app (goodIn_of _ (by decide +kernel)) ggX4_nameIn_X2_headOf
set_option maxRecDepth 20000 in
theorem ggX4_nameIn_X1_firstFor : GoodIn wsX4_nameIn wsX1_firstFor := goodIn_r _ [52, 14, 53, 15, 16, 17, 18, 19, 20, 21, 22, 23, 24, 25, 26, 27, 28, 29, 30, 54, 55, 56, 8, 57, 58, 59, 60, 61, 62, 43, 44, 45, 46, 47, 48, 98, 99, 100, 101, 102, 103, 105] (by decide +kernel) (by decide +kernel)
set_option maxRecDepth 20000 in
theorem gX4_nameIn_X1_firstFor : GoodIn wsX4_nameIn (wsV RX4 205 RX1 yX1_firstFor wsX1_firstFor) := goodIn_app (goodIn_of _ (by decide +kernel)) ggX4_nameIn_X1_firstFor
set_option maxRecDepth 20000 in
theorem ggX4_nameIn_X0_nameNumber : GoodIn wsX4_nameIn wsX0_nameNumber := goodIn_r _ [66, 67, 68, 69, 34, 70, 36, 37, 22, 23, 18, 24, 25, 26, 27, 28, 29, 30, 20, 104, 100, 101, 102, 103] (by decide +kernel) (by decide +kernel)
set_option maxRecDepth 20000 in
theorem gX4_nameIn_X0_nameNumber : GoodIn wsX4_nameIn (wsV RX4 208 RX0 yX0_nameNumber wsX0_nameNumber) := goodIn_app (goodIn_of _ (by decide +kernel)) ggX4_nameIn_X0_nameNumber
set_option maxRecDepth 20000 in
theorem ggX4_nameIn_X1_add : GoodIn wsX4_nameIn wsX1_add := goodIn_r _ [74, 14, 75, 76, 77, 18, 78, 20, 79, 80, 81, 82, 83, 84, 85, 86, 87, 25, 26, 27, 28, 29, 30, 98, 99, 100, 101, 102, 103] (by decide +kernel) (by decide +kernel)
set_option maxRecDepth 20000 in
theorem gX4_nameIn_X1_add : GoodIn wsX4_nameIn (wsV RX4 211 RX1 yX1_add wsX1_add) := goodIn_app (goodIn_of _ (by decide +kernel)) ggX4_nameIn_X1_add
set_option maxRecDepth 20000 in
theorem ggX4_nameIn_X1_nameAt : GoodIn wsX4_nameIn wsX1_nameAt := goodIn_r _ [91, 14, 21, 22, 23, 18, 24, 25, 26, 27, 28, 29, 30, 20, 98, 99, 100, 101, 102, 103] (by decide +kernel) (by decide +kernel)
set_option maxRecDepth 20000 in
theorem gX4_nameIn_X1_nameAt : GoodIn wsX4_nameIn (wsV RX4 91 RX1 yX1_nameAt wsX1_nameAt) := goodIn_app (goodIn_of _ (by decide +kernel)) ggX4_nameIn_X1_nameAt
theorem dX4_nameIn_0 : decode cX4_nameIn 0 = .ok (.aload_n 0, 1) := by decide +kernel
theorem dX4_nameIn_1 : decode cX4_nameIn 1 = .ok (.getfield 28, 3) := by decide +kernel
theorem dX4_nameIn_4 : decode cX4_nameIn 4 = .ok (.iload_n 1, 1) := by decide +kernel
theorem dX4_nameIn_5 : decode cX4_nameIn 5 = .ok (.invokevirtual 199, 3) := by decide +kernel
theorem dX4_nameIn_8 : decode cX4_nameIn 8 = .ok (.iconst 1, 1) := by decide +kernel
theorem dX4_nameIn_9 : decode cX4_nameIn 9 = .ok (.iadd, 1) := by decide +kernel
theorem dX4_nameIn_10 : decode cX4_nameIn 10 = .ok (.istore_n 3, 1) := by decide +kernel
theorem dX4_nameIn_11 : decode cX4_nameIn 11 = .ok (.aload_n 0, 1) := by decide +kernel
theorem dX4_nameIn_12 : decode cX4_nameIn 12 = .ok (.getfield 19, 3) := by decide +kernel
theorem dX4_nameIn_15 : decode cX4_nameIn 15 = .ok (.iload_n 1, 1) := by decide +kernel
theorem dX4_nameIn_16 : decode cX4_nameIn 16 = .ok (.aload_n 0, 1) := by decide +kernel
theorem dX4_nameIn_17 : decode cX4_nameIn 17 = .ok (.getfield 44, 3) := by decide +kernel
theorem dX4_nameIn_20 : decode cX4_nameIn 20 = .ok (.iload_n 3, 1) := by decide +kernel
theorem dX4_nameIn_21 : decode cX4_nameIn 21 = .ok (.invokevirtual 202, 3) := by decide +kernel
theorem dX4_nameIn_24 : decode cX4_nameIn 24 = .ok (.istore 4, 2) := by decide +kernel
theorem dX4_nameIn_26 : decode cX4_nameIn 26 = .ok (.aload_n 0, 1) := by decide +kernel
theorem dX4_nameIn_27 : decode cX4_nameIn 27 = .ok (.getfield 10, 3) := by decide +kernel
theorem dX4_nameIn_30 : decode cX4_nameIn 30 = .ok (.iload_n 2, 1) := by decide +kernel
theorem dX4_nameIn_31 : decode cX4_nameIn 31 = .ok (.invokevirtual 178, 3) := by decide +kernel
theorem dX4_nameIn_34 : decode cX4_nameIn 34 = .ok (.istore 5, 2) := by decide +kernel
theorem dX4_nameIn_36 : decode cX4_nameIn 36 = .ok (.aload_n 0, 1) := by decide +kernel
theorem dX4_nameIn_37 : decode cX4_nameIn 37 = .ok (.getfield 28, 3) := by decide +kernel
theorem dX4_nameIn_40 : decode cX4_nameIn 40 = .ok (.iload_n 1, 1) := by decide +kernel
theorem dX4_nameIn_41 : decode cX4_nameIn 41 = .ok (.iload 4, 2) := by decide +kernel
theorem dX4_nameIn_43 : decode cX4_nameIn 43 = .ok (.iload 5, 2) := by decide +kernel
theorem dX4_nameIn_45 : decode cX4_nameIn 45 = .ok (.invokevirtual 205, 3) := by decide +kernel
theorem dX4_nameIn_48 : decode cX4_nameIn 48 = .ok (.istore 6, 2) := by decide +kernel
theorem dX4_nameIn_50 : decode cX4_nameIn 50 = .ok (.iload 6, 2) := by decide +kernel
theorem dX4_nameIn_52 : decode cX4_nameIn 52 = .ok (.iconst (-1), 1) := by decide +kernel
theorem dX4_nameIn_53 : decode cX4_nameIn 53 = .ok (.if_icmp .ne 30, 3) := by decide +kernel
theorem dX4_nameIn_56 : decode cX4_nameIn 56 = .ok (.aload_n 0, 1) := by decide +kernel
theorem dX4_nameIn_57 : decode cX4_nameIn 57 = .ok (.getfield 28, 3) := by decide +kernel
theorem dX4_nameIn_60 : decode cX4_nameIn 60 = .ok (.iload_n 1, 1) := by decide +kernel
theorem dX4_nameIn_61 : decode cX4_nameIn 61 = .ok (.aload_n 0, 1) := by decide +kernel
theorem dX4_nameIn_62 : decode cX4_nameIn 62 = .ok (.getfield 19, 3) := by decide +kernel
theorem dX4_nameIn_65 : decode cX4_nameIn 65 = .ok (.iload_n 1, 1) := by decide +kernel
theorem dX4_nameIn_66 : decode cX4_nameIn 66 = .ok (.iload_n 3, 1) := by decide +kernel
theorem dX4_nameIn_67 : decode cX4_nameIn 67 = .ok (.invokevirtual 208, 3) := by decide +kernel
theorem dX4_nameIn_70 : decode cX4_nameIn 70 = .ok (.iload 5, 2) := by decide +kernel
theorem dX4_nameIn_72 : decode cX4_nameIn 72 = .ok (.aload_n 0, 1) := by decide +kernel
theorem dX4_nameIn_73 : decode cX4_nameIn 73 = .ok (.getfield 44, 3) := by decide +kernel
theorem dX4_nameIn_76 : decode cX4_nameIn 76 = .ok (.iload 4, 2) := by decide +kernel
theorem dX4_nameIn_78 : decode cX4_nameIn 78 = .ok (.invokevirtual 211, 3) := by decide +kernel
theorem dX4_nameIn_81 : decode cX4_nameIn 81 = .ok (.istore 6, 2) := by decide +kernel
theorem dX4_nameIn_83 : decode cX4_nameIn 83 = .ok (.aload_n 0, 1) := by decide +kernel
theorem dX4_nameIn_84 : decode cX4_nameIn 84 = .ok (.getfield 28, 3) := by decide +kernel
theorem dX4_nameIn_87 : decode cX4_nameIn 87 = .ok (.iload 6, 2) := by decide +kernel
theorem dX4_nameIn_89 : decode cX4_nameIn 89 = .ok (.invokevirtual 91, 3) := by decide +kernel
theorem dX4_nameIn_92 : decode cX4_nameIn 92 = .ok (.ireturn, 1) := by decide +kernel
set_option maxRecDepth 20000 in
theorem ggX4_crossWith_X1_find : GoodIn wsX4_crossWith wsX1_find := goodIn_r _ [9, 10, 11, 12, 13, 14, 15, 16, 17, 18, 19, 20, 21, 22, 23, 24, 25, 26, 27, 28, 29, 8, 30, 126, 127, 128, 129, 130, 131] (by decide +kernel) (by decide +kernel)
set_option maxRecDepth 20000 in
theorem gX4_crossWith_X1_find : GoodIn wsX4_crossWith (wsV RX4 84 RX1 yX1_find wsX1_find) := goodIn_app (goodIn_of _ (by decide +kernel)) ggX4_crossWith_X1_find
set_option maxRecDepth 20000 in
theorem ggX4_crossWith_X0_isLost : GoodIn wsX4_crossWith wsX0_isLost := goodIn_r _ [35, 36, 37, 18, 19, 14, 20, 21, 22, 23, 24, 25, 26, 16, 132, 128, 129, 130, 131] (by decide +kernel) (by decide +kernel)
set_option maxRecDepth 20000 in
theorem gX4_crossWith_X0_isLost : GoodIn wsX4_crossWith (wsV RX4 133 RX0 yX0_isLost wsX0_isLost) := goodIn_app (goodIn_of _ (by decide +kernel)) ggX4_crossWith_X0_isLost
set_option maxRecDepth 20000 in
theorem ggX4_crossWith_X4_isBridged : GoodIn wsX4_crossWith wsX4_isBridged := goodIn_r _ [42, 43, 44, 12, 13, 14, 15, 16, 45, 18, 19, 20, 21, 22, 23, 24, 25, 26, 120, 121, 122, 123, 124, 125, 128, 129, 130, 131] (by decide +kernel) (by decide +kernel)
set_option maxRecDepth 20000 in
theorem gX4_crossWith_X4_isBridged : GoodIn wsX4_crossWith (wsV RX4 105 RX4 yX4_isBridged wsX4_isBridged) := goodIn_app (goodIn_of _ (by decide +kernel)) ggX4_crossWith_X4_isBridged
set_option maxRecDepth 20000 in
theorem ggX4_crossWith_X1_ownerAt : GoodIn wsX4_crossWith wsX1_ownerAt := goodIn_r _ [49, 10, 17, 18, 19, 14, 20, 21, 22, 23, 24, 25, 26, 16, 126, 127, 128, 129, 130, 131] (by decide +kernel) (by decide +kernel)
set_option maxRecDepth 20000 in
theorem gX4_crossWith_X1_ownerAt : GoodIn wsX4_crossWith (wsV RX4 212 RX1 yX1_ownerAt wsX1_ownerAt) := goodIn_app (goodIn_of _ (by decide +kernel)) ggX4_crossWith_X1_ownerAt
set_option maxRecDepth 20000 in
theorem ggX4_crossWith_X0_isSpanned : GoodIn wsX4_crossWith wsX0_isSpanned := goodIn_r _ [53, 36, 37, 18, 19, 14, 20, 21, 22, 23, 24, 25, 26, 16, 132, 128, 129, 130, 131] (by decide +kernel) (by decide +kernel)
set_option maxRecDepth 20000 in
theorem gX4_crossWith_X0_isSpanned : GoodIn wsX4_crossWith (wsV RX4 215 RX0 yX0_isSpanned wsX0_isSpanned) := goodIn_app (goodIn_of _ (by decide +kernel)) ggX4_crossWith_X0_isSpanned
set_option maxRecDepth 20000 in
theorem ggX4_crossWith_X1_spanNumberAt : GoodIn wsX4_crossWith wsX1_spanNumberAt := goodIn_r _ [57, 10, 17, 18, 19, 14, 20, 21, 22, 23, 24, 25, 26, 16, 126, 127, 128, 129, 130, 131] (by decide +kernel) (by decide +kernel)
set_option maxRecDepth 20000 in
theorem gX4_crossWith_X1_spanNumberAt : GoodIn wsX4_crossWith (wsV RX4 218 RX1 yX1_spanNumberAt wsX1_spanNumberAt) := goodIn_app (goodIn_of _ (by decide +kernel)) ggX4_crossWith_X1_spanNumberAt
set_option maxRecDepth 20000 in
theorem ggX4_crossWith_X0_spanNumber : GoodIn wsX4_crossWith wsX0_spanNumber := goodIn_r _ [61, 36, 37, 18, 19, 14, 20, 21, 22, 23, 24, 25, 26, 16, 62, 51, 52, 34, 53, 132, 128, 129, 130, 131] (by decide +kernel) (by decide +kernel)
set_option maxRecDepth 20000 in
theorem gX4_crossWith_X0_spanNumber : GoodIn wsX4_crossWith (wsV RX4 202 RX0 yX0_spanNumber wsX0_spanNumber) := goodIn_app (goodIn_of _ (by decide +kernel)) ggX4_crossWith_X0_spanNumber
set_option maxRecDepth 20000 in
theorem ggX4_crossWith_X2_isStruckOut : GoodIn wsX4_crossWith wsX2_isStruckOut := goodIn_r _ [67, 68, 69, 18, 19, 14, 20, 21, 22, 23, 24, 25, 26, 16, 133, 128, 129, 130, 131] (by decide +kernel) (by decide +kernel)
set_option maxRecDepth 20000 in
theorem gX4_crossWith_X2_isStruckOut : GoodIn wsX4_crossWith (wsV RX4 77 RX2 yX2_isStruckOut wsX2_isStruckOut) := goodIn_app (goodIn_of _ (by decide +kernel)) ggX4_crossWith_X2_isStruckOut
set_option maxRecDepth 20000 in
theorem ggX4_crossWith_X4_nameIn : GoodIn wsX4_crossWith wsX4_nameIn := goodIn_r _ [73, 1, 2, 3, 4, 74, 75, 76, 8, 77, 78, 79, 80, 81, 10, 11, 12, 13, 14, 15, 16, 17, 18, 19, 20, 21, 22, 23, 24, 25, 26, 58, 59, 60, 34, 61, 36, 37, 62, 51, 52, 53, 82, 83, 84, 66, 85, 68, 69, 86, 87, 88, 89, 90, 91, 55, 56, 57, 92, 47, 48, 49, 93, 94, 95, 96, 97, 98, 99, 100, 101, 102, 103, 104, 105, 106, 107, 108, 109, 110, 111, 112, 113, 114, 115, 116, 117, 118, 119, 28, 29, 30, 120, 121, 122, 123, 124, 125, 126, 127, 128, 129, 130, 131, 132, 133] (by decide +kernel) (by decide +kernel)
set_option maxRecDepth 20000 in
theorem gX4_crossWith_X4_nameIn : GoodIn wsX4_crossWith (wsV RX4 80 RX4 yX4_nameIn wsX4_nameIn) := goodIn_app (goodIn_of _ (by decide +kernel)) ggX4_crossWith_X4_nameIn
theorem dX4_crossWith_0 : decode cX4_crossWith 0 = .ok (.aload_n 0, 1) := by decide +kernel
theorem dX4_crossWith_1 : decode cX4_crossWith 1 = .ok (.getfield 28, 3) := by decide +kernel
theorem dX4_crossWith_4 : decode cX4_crossWith 4 = .ok (.iload_n 1, 1) := by decide +kernel
theorem dX4_crossWith_5 : decode cX4_crossWith 5 = .ok (.iload_n 3, 1) := by decide +kernel
theorem dX4_crossWith_6 : decode cX4_crossWith 6 = .ok (.invokevirtual 84, 3) := by decide +kernel
theorem dX4_crossWith_9 : decode cX4_crossWith 9 = .ok (.istore 4, 2) := by decide +kernel
theorem dX4_crossWith_11 : decode cX4_crossWith 11 = .ok (.iload 4, 2) := by decide +kernel
theorem dX4_crossWith_13 : decode cX4_crossWith 13 = .ok (.iconst (-1), 1) := by decide +kernel
theorem dX4_crossWith_14 : decode cX4_crossWith 14 = .ok (.if_icmp .eq 27, 3) := by decide +kernel
theorem dX4_crossWith_17 : decode cX4_crossWith 17 = .ok (.aload_n 0, 1) := by decide +kernel
theorem dX4_crossWith_18 : decode cX4_crossWith 18 = .ok (.getfield 19, 3) := by decide +kernel
theorem dX4_crossWith_21 : decode cX4_crossWith 21 = .ok (.iload_n 1, 1) := by decide +kernel
theorem dX4_crossWith_22 : decode cX4_crossWith 22 = .ok (.invokevirtual 133, 3) := by decide +kernel
theorem dX4_crossWith_25 : decode cX4_crossWith 25 = .ok (.ifCond .ne 16, 3) := by decide +kernel
theorem dX4_crossWith_28 : decode cX4_crossWith 28 = .ok (.aload_n 0, 1) := by decide +kernel
theorem dX4_crossWith_29 : decode cX4_crossWith 29 = .ok (.iload_n 1, 1) := by decide +kernel
theorem dX4_crossWith_30 : decode cX4_crossWith 30 = .ok (.iload_n 2, 1) := by decide +kernel
theorem dX4_crossWith_31 : decode cX4_crossWith 31 = .ok (.aload_n 0, 1) := by decide +kernel
theorem dX4_crossWith_32 : decode cX4_crossWith 32 = .ok (.getfield 44, 3) := by decide +kernel
theorem dX4_crossWith_35 : decode cX4_crossWith 35 = .ok (.invokevirtual 105, 3) := by decide +kernel
theorem dX4_crossWith_38 : decode cX4_crossWith 38 = .ok (.ifCond .ne 5, 3) := by decide +kernel
theorem dX4_crossWith_41 : decode cX4_crossWith 41 = .ok (.iconst (-1), 1) := by decide +kernel
theorem dX4_crossWith_42 : decode cX4_crossWith 42 = .ok (.ireturn, 1) := by decide +kernel
theorem dX4_crossWith_43 : decode cX4_crossWith 43 = .ok (.aload_n 0, 1) := by decide +kernel
theorem dX4_crossWith_44 : decode cX4_crossWith 44 = .ok (.getfield 28, 3) := by decide +kernel
theorem dX4_crossWith_47 : decode cX4_crossWith 47 = .ok (.iload 4, 2) := by decide +kernel
theorem dX4_crossWith_49 : decode cX4_crossWith 49 = .ok (.invokevirtual 212, 3) := by decide +kernel
theorem dX4_crossWith_52 : decode cX4_crossWith 52 = .ok (.istore 5, 2) := by decide +kernel
theorem dX4_crossWith_54 : decode cX4_crossWith 54 = .ok (.aload_n 0, 1) := by decide +kernel
theorem dX4_crossWith_55 : decode cX4_crossWith 55 = .ok (.getfield 19, 3) := by decide +kernel
theorem dX4_crossWith_58 : decode cX4_crossWith 58 = .ok (.iload_n 1, 1) := by decide +kernel
theorem dX4_crossWith_59 : decode cX4_crossWith 59 = .ok (.invokevirtual 215, 3) := by decide +kernel
theorem dX4_crossWith_62 : decode cX4_crossWith 62 = .ok (.ifCond .eq 32, 3) := by decide +kernel
theorem dX4_crossWith_65 : decode cX4_crossWith 65 = .ok (.aload_n 0, 1) := by decide +kernel
theorem dX4_crossWith_66 : decode cX4_crossWith 66 = .ok (.getfield 28, 3) := by decide +kernel
theorem dX4_crossWith_69 : decode cX4_crossWith 69 = .ok (.iload 4, 2) := by decide +kernel
theorem dX4_crossWith_71 : decode cX4_crossWith 71 = .ok (.invokevirtual 218, 3) := by decide +kernel
theorem dX4_crossWith_74 : decode cX4_crossWith 74 = .ok (.aload_n 0, 1) := by decide +kernel
theorem dX4_crossWith_75 : decode cX4_crossWith 75 = .ok (.getfield 19, 3) := by decide +kernel
theorem dX4_crossWith_78 : decode cX4_crossWith 78 = .ok (.iload_n 1, 1) := by decide +kernel
theorem dX4_crossWith_79 : decode cX4_crossWith 79 = .ok (.aload_n 0, 1) := by decide +kernel
theorem dX4_crossWith_80 : decode cX4_crossWith 80 = .ok (.getfield 44, 3) := by decide +kernel
theorem dX4_crossWith_83 : decode cX4_crossWith 83 = .ok (.iconst 0, 1) := by decide +kernel
theorem dX4_crossWith_84 : decode cX4_crossWith 84 = .ok (.invokevirtual 202, 3) := by decide +kernel
theorem dX4_crossWith_87 : decode cX4_crossWith 87 = .ok (.if_icmp .eq 7, 3) := by decide +kernel
theorem dX4_crossWith_90 : decode cX4_crossWith 90 = .ok (.iconst 1, 1) := by decide +kernel
theorem dX4_crossWith_91 : decode cX4_crossWith 91 = .ok (.goto 4, 3) := by decide +kernel
theorem dX4_crossWith_94 : decode cX4_crossWith 94 = .ok (.iconst 0, 1) := by decide +kernel
theorem dX4_crossWith_95 : decode cX4_crossWith 95 = .ok (.istore 6, 2) := by decide +kernel
theorem dX4_crossWith_97 : decode cX4_crossWith 97 = .ok (.iload 6, 2) := by decide +kernel
theorem dX4_crossWith_99 : decode cX4_crossWith 99 = .ok (.ifCond .ne 15, 3) := by decide +kernel
theorem dX4_crossWith_102 : decode cX4_crossWith 102 = .ok (.aload_n 0, 1) := by decide +kernel
theorem dX4_crossWith_103 : decode cX4_crossWith 103 = .ok (.getfield 10, 3) := by decide +kernel
theorem dX4_crossWith_106 : decode cX4_crossWith 106 = .ok (.iload 5, 2) := by decide +kernel
theorem dX4_crossWith_108 : decode cX4_crossWith 108 = .ok (.invokevirtual 77, 3) := by decide +kernel
theorem dX4_crossWith_111 : decode cX4_crossWith 111 = .ok (.ifCond .eq 7, 3) := by decide +kernel
theorem dX4_crossWith_114 : decode cX4_crossWith 114 = .ok (.iconst (-1), 1) := by decide +kernel
theorem dX4_crossWith_115 : decode cX4_crossWith 115 = .ok (.goto 10, 3) := by decide +kernel
theorem dX4_crossWith_118 : decode cX4_crossWith 118 = .ok (.aload_n 0, 1) := by decide +kernel
theorem dX4_crossWith_119 : decode cX4_crossWith 119 = .ok (.iload_n 2, 1) := by decide +kernel
theorem dX4_crossWith_120 : decode cX4_crossWith 120 = .ok (.iload 5, 2) := by decide +kernel
theorem dX4_crossWith_122 : decode cX4_crossWith 122 = .ok (.invokevirtual 80, 3) := by decide +kernel
theorem dX4_crossWith_125 : decode cX4_crossWith 125 = .ok (.ireturn, 1) := by decide +kernel
set_option maxRecDepth 20000 in
theorem ggX4_headBehind_X1_find : GoodIn wsX4_headBehind wsX1_find := goodIn_r _ [7, 8, 9, 10, 11, 12, 13, 14, 15, 16, 17, 18, 19, 20, 21, 22, 23, 24, 25, 26, 27, 6, 28, 50, 51, 52, 53, 54, 55] (by decide +kernel) (by decide +kernel)
set_option maxRecDepth 20000 in
theorem gX4_headBehind_X1_find : GoodIn wsX4_headBehind (wsV RX4 84 RX1 yX1_find wsX1_find) := goodIn_app (goodIn_of _ (by decide +kernel)) ggX4_headBehind_X1_find
set_option maxRecDepth 20000 in
theorem ggX4_headBehind_X1_ownerAt : GoodIn wsX4_headBehind wsX1_ownerAt := goodIn_r _ [32, 8, 15, 16, 17, 12, 18, 19, 20, 21, 22, 23, 24, 14, 50, 51, 52, 53, 54, 55] (by decide +kernel) (by decide +kernel)
set_option maxRecDepth 20000 in
theorem gX4_headBehind_X1_ownerAt : GoodIn wsX4_headBehind (wsV RX4 212 RX1 yX1_ownerAt wsX1_ownerAt) := goodIn_app (goodIn_of _ (by decide +kernel)) ggX4_headBehind_X1_ownerAt
set_option maxRecDepth 20000 in
theorem ggX4_headBehind_X2_isStruckOut : GoodIn wsX4_headBehind wsX2_isStruckOut := goodIn_r _ [37, 38, 39, 16, 17, 12, 18, 19, 20, 21, 22, 23, 24, 14, 56, 52, 53, 54, 55] (by decide +kernel) (by decide +kernel)
set_option maxRecDepth 20000 in
theorem gX4_headBehind_X2_isStruckOut : GoodIn wsX4_headBehind (wsV RX4 77 RX2 yX2_isStruckOut wsX2_isStruckOut) := goodIn_app (goodIn_of _ (by decide +kernel)) ggX4_headBehind_X2_isStruckOut
set_option maxRecDepth 20000 in
theorem ggX4_headBehind_X2_headOf : GoodIn wsX4_headBehind wsX2_headOf := goodIn_r _ [43, 38, 39, 16, 17, 12, 18, 19, 20, 21, 22, 23, 24, 14, 56, 52, 53, 54, 55] (by decide +kernel) (by decide +kernel)
set_option maxRecDepth 20000 in
theorem gX4_headBehind_X2_headOf : GoodIn wsX4_headBehind (wsV RX4 178 RX2 yX2_headOf wsX2_headOf) := goodIn_app (goodIn_of _ (by decide +kernel)) ggX4_headBehind_X2_headOf
theorem dX4_headBehind_0 : decode cX4_headBehind 0 = .ok (.aload_n 0, 1) := by decide +kernel
theorem dX4_headBehind_1 : decode cX4_headBehind 1 = .ok (.getfield 28, 3) := by decide +kernel
theorem dX4_headBehind_4 : decode cX4_headBehind 4 = .ok (.iload_n 1, 1) := by decide +kernel
theorem dX4_headBehind_5 : decode cX4_headBehind 5 = .ok (.iload_n 2, 1) := by decide +kernel
theorem dX4_headBehind_6 : decode cX4_headBehind 6 = .ok (.invokevirtual 84, 3) := by decide +kernel
theorem dX4_headBehind_9 : decode cX4_headBehind 9 = .ok (.istore_n 3, 1) := by decide +kernel
theorem dX4_headBehind_10 : decode cX4_headBehind 10 = .ok (.iload_n 3, 1) := by decide +kernel
theorem dX4_headBehind_11 : decode cX4_headBehind 11 = .ok (.iconst (-1), 1) := by decide +kernel
theorem dX4_headBehind_12 : decode cX4_headBehind 12 = .ok (.if_icmp .eq 21, 3) := by decide +kernel
theorem dX4_headBehind_15 : decode cX4_headBehind 15 = .ok (.aload_n 0, 1) := by decide +kernel
theorem dX4_headBehind_16 : decode cX4_headBehind 16 = .ok (.getfield 10, 3) := by decide +kernel
theorem dX4_headBehind_19 : decode cX4_headBehind 19 = .ok (.aload_n 0, 1) := by decide +kernel
theorem dX4_headBehind_20 : decode cX4_headBehind 20 = .ok (.getfield 28, 3) := by decide +kernel
theorem dX4_headBehind_23 : decode cX4_headBehind 23 = .ok (.iload_n 3, 1) := by decide +kernel
theorem dX4_headBehind_24 : decode cX4_headBehind 24 = .ok (.invokevirtual 212, 3) := by decide +kernel
theorem dX4_headBehind_27 : decode cX4_headBehind 27 = .ok (.invokevirtual 77, 3) := by decide +kernel
theorem dX4_headBehind_30 : decode cX4_headBehind 30 = .ok (.ifCond .eq 5, 3) := by decide +kernel
theorem dX4_headBehind_33 : decode cX4_headBehind 33 = .ok (.iconst (-1), 1) := by decide +kernel
theorem dX4_headBehind_34 : decode cX4_headBehind 34 = .ok (.ireturn, 1) := by decide +kernel
theorem dX4_headBehind_35 : decode cX4_headBehind 35 = .ok (.aload_n 0, 1) := by decide +kernel
theorem dX4_headBehind_36 : decode cX4_headBehind 36 = .ok (.getfield 10, 3) := by decide +kernel
theorem dX4_headBehind_39 : decode cX4_headBehind 39 = .ok (.aload_n 0, 1) := by decide +kernel
theorem dX4_headBehind_40 : decode cX4_headBehind 40 = .ok (.getfield 28, 3) := by decide +kernel
theorem dX4_headBehind_43 : decode cX4_headBehind 43 = .ok (.iload_n 3, 1) := by decide +kernel
theorem dX4_headBehind_44 : decode cX4_headBehind 44 = .ok (.invokevirtual 212, 3) := by decide +kernel
theorem dX4_headBehind_47 : decode cX4_headBehind 47 = .ok (.invokevirtual 178, 3) := by decide +kernel
theorem dX4_headBehind_50 : decode cX4_headBehind 50 = .ok (.ireturn, 1) := by decide +kernel
set_option maxRecDepth 20000 in
theorem ggX4_enter_X3_addRow : GoodIn wsX4_enter wsX3_addRow := goodIn_r _ [7, 8, 9, 10, 11, 6, 12, 13, 30, 31, 32, 33] (by decide +kernel) (by decide +kernel)
set_option maxRecDepth 20000 in
theorem gX4_enter_X3_addRow : GoodIn wsX4_enter (wsV RX4 97 RX3 yX3_addRow wsX3_addRow) := goodIn_app (goodIn_of _ (by decide +kernel)) ggX4_enter_X3_addRow
set_option maxRecDepth 20000 in
theorem ggX4_enter_X3_put : GoodIn wsX4_enter wsX3_put := goodIn_r _ [17, 18, 19, 20, 21, 22, 6, 23, 8, 30, 31, 32, 33] (by decide +kernel) (by decide +kernel)
set_option maxRecDepth 20000 in
theorem gX4_enter_X3_put : GoodIn wsX4_enter (wsV RX4 101 RX3 yX3_put wsX3_put) := goodIn_app (goodIn_of _ (by decide +kernel)) ggX4_enter_X3_put
theorem dX4_enter_0 : decode cX4_enter 0 = .ok (.aload_n 0, 1) := by decide +kernel
theorem dX4_enter_1 : decode cX4_enter 1 = .ok (.getfield 41, 3) := by decide +kernel
theorem dX4_enter_4 : decode cX4_enter 4 = .ok (.invokevirtual 97, 3) := by decide +kernel
theorem dX4_enter_7 : decode cX4_enter 7 = .ok (.istore 6, 2) := by decide +kernel
theorem dX4_enter_9 : decode cX4_enter 9 = .ok (.aload_n 0, 1) := by decide +kernel
theorem dX4_enter_10 : decode cX4_enter 10 = .ok (.getfield 41, 3) := by decide +kernel
theorem dX4_enter_13 : decode cX4_enter 13 = .ok (.iload 6, 2) := by decide +kernel
theorem dX4_enter_15 : decode cX4_enter 15 = .ok (.iconst 0, 1) := by decide +kernel
theorem dX4_enter_16 : decode cX4_enter 16 = .ok (.iload_n 1, 1) := by decide +kernel
theorem dX4_enter_17 : decode cX4_enter 17 = .ok (.invokevirtual 101, 3) := by decide +kernel
theorem dX4_enter_20 : decode cX4_enter 20 = .ok (.aload_n 0, 1) := by decide +kernel
theorem dX4_enter_21 : decode cX4_enter 21 = .ok (.getfield 41, 3) := by decide +kernel
theorem dX4_enter_24 : decode cX4_enter 24 = .ok (.iload 6, 2) := by decide +kernel
theorem dX4_enter_26 : decode cX4_enter 26 = .ok (.iconst 1, 1) := by decide +kernel
theorem dX4_enter_27 : decode cX4_enter 27 = .ok (.iload_n 2, 1) := by decide +kernel
theorem dX4_enter_28 : decode cX4_enter 28 = .ok (.invokevirtual 101, 3) := by decide +kernel
theorem dX4_enter_31 : decode cX4_enter 31 = .ok (.aload_n 0, 1) := by decide +kernel
theorem dX4_enter_32 : decode cX4_enter 32 = .ok (.getfield 41, 3) := by decide +kernel
theorem dX4_enter_35 : decode cX4_enter 35 = .ok (.iload 6, 2) := by decide +kernel
theorem dX4_enter_37 : decode cX4_enter 37 = .ok (.iconst 2, 1) := by decide +kernel
theorem dX4_enter_38 : decode cX4_enter 38 = .ok (.iload_n 3, 1) := by decide +kernel
theorem dX4_enter_39 : decode cX4_enter 39 = .ok (.invokevirtual 101, 3) := by decide +kernel
theorem dX4_enter_42 : decode cX4_enter 42 = .ok (.aload_n 0, 1) := by decide +kernel
theorem dX4_enter_43 : decode cX4_enter 43 = .ok (.getfield 41, 3) := by decide +kernel
theorem dX4_enter_46 : decode cX4_enter 46 = .ok (.iload 6, 2) := by decide +kernel
theorem dX4_enter_48 : decode cX4_enter 48 = .ok (.iconst 3, 1) := by decide +kernel
theorem dX4_enter_49 : decode cX4_enter 49 = .ok (.iload 4, 2) := by decide +kernel
theorem dX4_enter_51 : decode cX4_enter 51 = .ok (.invokevirtual 101, 3) := by decide +kernel
theorem dX4_enter_54 : decode cX4_enter 54 = .ok (.aload_n 0, 1) := by decide +kernel
theorem dX4_enter_55 : decode cX4_enter 55 = .ok (.getfield 41, 3) := by decide +kernel
theorem dX4_enter_58 : decode cX4_enter 58 = .ok (.iload 6, 2) := by decide +kernel
theorem dX4_enter_60 : decode cX4_enter 60 = .ok (.iconst 4, 1) := by decide +kernel
theorem dX4_enter_61 : decode cX4_enter 61 = .ok (.iload 5, 2) := by decide +kernel
theorem dX4_enter_63 : decode cX4_enter 63 = .ok (.invokevirtual 101, 3) := by decide +kernel
theorem dX4_enter_66 : decode cX4_enter 66 = .ok (.aload_n 0, 1) := by decide +kernel
theorem dX4_enter_67 : decode cX4_enter 67 = .ok (.getfield 41, 3) := by decide +kernel
theorem dX4_enter_70 : decode cX4_enter 70 = .ok (.iload 6, 2) := by decide +kernel
theorem dX4_enter_72 : decode cX4_enter 72 = .ok (.iconst 5, 1) := by decide +kernel
theorem dX4_enter_73 : decode cX4_enter 73 = .ok (.aload_n 0, 1) := by decide +kernel
theorem dX4_enter_74 : decode cX4_enter 74 = .ok (.getfield 44, 3) := by decide +kernel
theorem dX4_enter_77 : decode cX4_enter 77 = .ok (.invokevirtual 101, 3) := by decide +kernel
theorem dX4_enter_80 : decode cX4_enter 80 = .ok (.return_, 1) := by decide +kernel
set_option maxRecDepth 20000 in
theorem ggX4_isBridged_X3_size : GoodIn wsX4_isBridged wsX3_size := goodIn_r _ [6, 7, 24, 25, 26, 27] (by decide +kernel) (by decide +kernel)
set_option maxRecDepth 20000 in
theorem gX4_isBridged_X3_size : GoodIn wsX4_isBridged (wsV RX4 195 RX3 yX3_size wsX3_size) := goodIn_app (goodIn_of _ (by decide +kernel)) ggX4_isBridged_X3_size
set_option maxRecDepth 20000 in
theorem ggX4_isBridged_X3_at : GoodIn wsX4_isBridged wsX3_at := goodIn_r _ [11, 12, 13, 14, 15, 16, 5, 17, 7, 24, 25, 26, 27] (by decide +kernel) (by decide +kernel)
set_option maxRecDepth 20000 in
theorem gX4_isBridged_X3_at : GoodIn wsX4_isBridged (wsV RX4 172 RX3 yX3_at wsX3_at) := goodIn_app (goodIn_of _ (by decide +kernel)) ggX4_isBridged_X3_at
theorem dX4_isBridged_0 : decode cX4_isBridged 0 = .ok (.iconst 0, 1) := by decide +kernel
theorem dX4_isBridged_1 : decode cX4_isBridged 1 = .ok (.istore 4, 2) := by decide +kernel
theorem dX4_isBridged_3 : decode cX4_isBridged 3 = .ok (.iload 4, 2) := by decide +kernel
theorem dX4_isBridged_5 : decode cX4_isBridged 5 = .ok (.aload_n 0, 1) := by decide +kernel
theorem dX4_isBridged_6 : decode cX4_isBridged 6 = .ok (.getfield 37, 3) := by decide +kernel
theorem dX4_isBridged_9 : decode cX4_isBridged 9 = .ok (.invokevirtual 195, 3) := by decide +kernel
theorem dX4_isBridged_12 : decode cX4_isBridged 12 = .ok (.if_icmp .ge 79, 3) := by decide +kernel
theorem dX4_isBridged_15 : decode cX4_isBridged 15 = .ok (.aload_n 0, 1) := by decide +kernel
theorem dX4_isBridged_16 : decode cX4_isBridged 16 = .ok (.getfield 37, 3) := by decide +kernel
theorem dX4_isBridged_19 : decode cX4_isBridged 19 = .ok (.iload 4, 2) := by decide +kernel
theorem dX4_isBridged_21 : decode cX4_isBridged 21 = .ok (.iconst 0, 1) := by decide +kernel
theorem dX4_isBridged_22 : decode cX4_isBridged 22 = .ok (.invokevirtual 172, 3) := by decide +kernel
theorem dX4_isBridged_25 : decode cX4_isBridged 25 = .ok (.iload_n 1, 1) := by decide +kernel
theorem dX4_isBridged_26 : decode cX4_isBridged 26 = .ok (.if_icmp .ne 21, 3) := by decide +kernel
theorem dX4_isBridged_29 : decode cX4_isBridged 29 = .ok (.aload_n 0, 1) := by decide +kernel
theorem dX4_isBridged_30 : decode cX4_isBridged 30 = .ok (.getfield 37, 3) := by decide +kernel
theorem dX4_isBridged_33 : decode cX4_isBridged 33 = .ok (.iload 4, 2) := by decide +kernel
theorem dX4_isBridged_35 : decode cX4_isBridged 35 = .ok (.iconst 1, 1) := by decide +kernel
theorem dX4_isBridged_36 : decode cX4_isBridged 36 = .ok (.invokevirtual 172, 3) := by decide +kernel
theorem dX4_isBridged_39 : decode cX4_isBridged 39 = .ok (.iload_n 2, 1) := by decide +kernel
theorem dX4_isBridged_40 : decode cX4_isBridged 40 = .ok (.if_icmp .ne 7, 3) := by decide +kernel
theorem dX4_isBridged_43 : decode cX4_isBridged 43 = .ok (.iconst 1, 1) := by decide +kernel
theorem dX4_isBridged_44 : decode cX4_isBridged 44 = .ok (.goto 4, 3) := by decide +kernel
theorem dX4_isBridged_47 : decode cX4_isBridged 47 = .ok (.iconst 0, 1) := by decide +kernel
theorem dX4_isBridged_48 : decode cX4_isBridged 48 = .ok (.istore 5, 2) := by decide +kernel
theorem dX4_isBridged_50 : decode cX4_isBridged 50 = .ok (.iload 5, 2) := by decide +kernel
theorem dX4_isBridged_52 : decode cX4_isBridged 52 = .ok (.ifCond .eq 33, 3) := by decide +kernel
theorem dX4_isBridged_55 : decode cX4_isBridged 55 = .ok (.aload_n 0, 1) := by decide +kernel
theorem dX4_isBridged_56 : decode cX4_isBridged 56 = .ok (.getfield 37, 3) := by decide +kernel
theorem dX4_isBridged_59 : decode cX4_isBridged 59 = .ok (.iload 4, 2) := by decide +kernel
theorem dX4_isBridged_61 : decode cX4_isBridged 61 = .ok (.iconst 2, 1) := by decide +kernel
theorem dX4_isBridged_62 : decode cX4_isBridged 62 = .ok (.invokevirtual 172, 3) := by decide +kernel
theorem dX4_isBridged_65 : decode cX4_isBridged 65 = .ok (.iload_n 3, 1) := by decide +kernel
theorem dX4_isBridged_66 : decode cX4_isBridged 66 = .ok (.if_icmp .gt 19, 3) := by decide +kernel
theorem dX4_isBridged_69 : decode cX4_isBridged 69 = .ok (.iload_n 3, 1) := by decide +kernel
theorem dX4_isBridged_70 : decode cX4_isBridged 70 = .ok (.aload_n 0, 1) := by decide +kernel
theorem dX4_isBridged_71 : decode cX4_isBridged 71 = .ok (.getfield 37, 3) := by decide +kernel
theorem dX4_isBridged_74 : decode cX4_isBridged 74 = .ok (.iload 4, 2) := by decide +kernel
theorem dX4_isBridged_76 : decode cX4_isBridged 76 = .ok (.iconst 3, 1) := by decide +kernel
theorem dX4_isBridged_77 : decode cX4_isBridged 77 = .ok (.invokevirtual 172, 3) := by decide +kernel
theorem dX4_isBridged_80 : decode cX4_isBridged 80 = .ok (.if_icmp .gt 5, 3) := by decide +kernel
theorem dX4_isBridged_83 : decode cX4_isBridged 83 = .ok (.iconst 1, 1) := by decide +kernel
theorem dX4_isBridged_84 : decode cX4_isBridged 84 = .ok (.ireturn, 1) := by decide +kernel
theorem dX4_isBridged_85 : decode cX4_isBridged 85 = .ok (.iinc 4 1, 3) := by decide +kernel
theorem dX4_isBridged_88 : decode cX4_isBridged 88 = .ok (.goto (-85), 3) := by decide +kernel
theorem dX4_isBridged_91 : decode cX4_isBridged 91 = .ok (.iconst 0, 1) := by decide +kernel
theorem dX4_isBridged_92 : decode cX4_isBridged 92 = .ok (.ireturn, 1) := by decide +kernel
set_option maxRecDepth 20000 in
theorem ggX4_isTooSmall_X0_leastOf : GoodIn wsX4_isTooSmall wsX0_leastOf := goodIn_r _ [6, 7, 8, 9, 10, 11, 12, 13, 14, 15, 16, 17, 18, 19, 26, 27, 28, 29, 30] (by decide +kernel) (by decide +kernel)
set_option maxRecDepth 20000 in
theorem gX4_isTooSmall_X0_leastOf : GoodIn wsX4_isTooSmall (wsV RX4 221 RX0 yX0_leastOf wsX0_leastOf) := goodIn_app (goodIn_of _ (by decide +kernel)) ggX4_isTooSmall_X0_leastOf
theorem dX4_isTooSmall_0 : decode cX4_isTooSmall 0 = .ok (.iload_n 2, 1) := by decide +kernel
theorem dX4_isTooSmall_1 : decode cX4_isTooSmall 1 = .ok (.ifCond .eq 19, 3) := by decide +kernel
theorem dX4_isTooSmall_4 : decode cX4_isTooSmall 4 = .ok (.iload_n 2, 1) := by decide +kernel
theorem dX4_isTooSmall_5 : decode cX4_isTooSmall 5 = .ok (.aload_n 0, 1) := by decide +kernel
theorem dX4_isTooSmall_6 : decode cX4_isTooSmall 6 = .ok (.getfield 19, 3) := by decide +kernel
theorem dX4_isTooSmall_9 : decode cX4_isTooSmall 9 = .ok (.iload_n 1, 1) := by decide +kernel
theorem dX4_isTooSmall_10 : decode cX4_isTooSmall 10 = .ok (.invokevirtual 221, 3) := by decide +kernel
theorem dX4_isTooSmall_13 : decode cX4_isTooSmall 13 = .ok (.if_icmp .ge 7, 3) := by decide +kernel
theorem dX4_isTooSmall_16 : decode cX4_isTooSmall 16 = .ok (.iconst 1, 1) := by decide +kernel
theorem dX4_isTooSmall_17 : decode cX4_isTooSmall 17 = .ok (.goto 4, 3) := by decide +kernel
theorem dX4_isTooSmall_20 : decode cX4_isTooSmall 20 = .ok (.iconst 0, 1) := by decide +kernel
theorem dX4_isTooSmall_21 : decode cX4_isTooSmall 21 = .ok (.ireturn, 1) := by decide +kernel
set_option maxRecDepth 20000 in
theorem ggX4_areTwoHouses_X0_isThere : GoodIn wsX4_areTwoHouses wsX0_isThere := goodIn_r _ [6, 7, 8, 9, 10, 11, 12, 13, 20, 21, 22, 23, 24] (by decide +kernel) (by decide +kernel)
set_option maxRecDepth 20000 in
theorem gX4_areTwoHouses_X0_isThere : GoodIn wsX4_areTwoHouses (wsV RX4 73 RX0 yX0_isThere wsX0_isThere) := goodIn_app (goodIn_of _ (by decide +kernel)) ggX4_areTwoHouses_X0_isThere
theorem dX4_areTwoHouses_0 : decode cX4_areTwoHouses 0 = .ok (.aload_n 0, 1) := by decide +kernel
theorem dX4_areTwoHouses_1 : decode cX4_areTwoHouses 1 = .ok (.getfield 19, 3) := by decide +kernel
theorem dX4_areTwoHouses_4 : decode cX4_areTwoHouses 4 = .ok (.iload_n 1, 1) := by decide +kernel
theorem dX4_areTwoHouses_5 : decode cX4_areTwoHouses 5 = .ok (.invokevirtual 73, 3) := by decide +kernel
theorem dX4_areTwoHouses_8 : decode cX4_areTwoHouses 8 = .ok (.ifCond .eq 23, 3) := by decide +kernel
theorem dX4_areTwoHouses_11 : decode cX4_areTwoHouses 11 = .ok (.aload_n 0, 1) := by decide +kernel
theorem dX4_areTwoHouses_12 : decode cX4_areTwoHouses 12 = .ok (.getfield 19, 3) := by decide +kernel
theorem dX4_areTwoHouses_15 : decode cX4_areTwoHouses 15 = .ok (.iload_n 2, 1) := by decide +kernel
theorem dX4_areTwoHouses_16 : decode cX4_areTwoHouses 16 = .ok (.invokevirtual 73, 3) := by decide +kernel
theorem dX4_areTwoHouses_19 : decode cX4_areTwoHouses 19 = .ok (.ifCond .eq 12, 3) := by decide +kernel
theorem dX4_areTwoHouses_22 : decode cX4_areTwoHouses 22 = .ok (.iload_n 1, 1) := by decide +kernel
theorem dX4_areTwoHouses_23 : decode cX4_areTwoHouses 23 = .ok (.iload_n 2, 1) := by decide +kernel
theorem dX4_areTwoHouses_24 : decode cX4_areTwoHouses 24 = .ok (.if_icmp .eq 7, 3) := by decide +kernel
theorem dX4_areTwoHouses_27 : decode cX4_areTwoHouses 27 = .ok (.iconst 1, 1) := by decide +kernel
theorem dX4_areTwoHouses_28 : decode cX4_areTwoHouses 28 = .ok (.goto 4, 3) := by decide +kernel
theorem dX4_areTwoHouses_31 : decode cX4_areTwoHouses 31 = .ok (.iconst 0, 1) := by decide +kernel
theorem dX4_areTwoHouses_32 : decode cX4_areTwoHouses 32 = .ok (.ireturn, 1) := by decide +kernel
theorem dX4_isDay_0 : decode cX4_isDay 0 = .ok (.iload_n 0, 1) := by decide +kernel
theorem dX4_isDay_1 : decode cX4_isDay 1 = .ok (.ifCond .lt 14, 3) := by decide +kernel
theorem dX4_isDay_4 : decode cX4_isDay 4 = .ok (.iload_n 0, 1) := by decide +kernel
theorem dX4_isDay_5 : decode cX4_isDay 5 = .ok (.sipush 3000, 3) := by decide +kernel
theorem dX4_isDay_8 : decode cX4_isDay 8 = .ok (.if_icmp .gt 7, 3) := by decide +kernel
theorem dX4_isDay_11 : decode cX4_isDay 11 = .ok (.iconst 1, 1) := by decide +kernel
theorem dX4_isDay_12 : decode cX4_isDay 12 = .ok (.goto 4, 3) := by decide +kernel
theorem dX4_isDay_15 : decode cX4_isDay 15 = .ok (.iconst 0, 1) := by decide +kernel
theorem dX4_isDay_16 : decode cX4_isDay 16 = .ok (.ireturn, 1) := by decide +kernel
theorem dX4_isHand_0 : decode cX4_isHand 0 = .ok (.iload_n 0, 1) := by decide +kernel
theorem dX4_isHand_1 : decode cX4_isHand 1 = .ok (.ifCond .lt 13, 3) := by decide +kernel
theorem dX4_isHand_4 : decode cX4_isHand 4 = .ok (.iload_n 0, 1) := by decide +kernel
theorem dX4_isHand_5 : decode cX4_isHand 5 = .ok (.bipush 9, 2) := by decide +kernel
theorem dX4_isHand_7 : decode cX4_isHand 7 = .ok (.if_icmp .gt 7, 3) := by decide +kernel
theorem dX4_isHand_10 : decode cX4_isHand 10 = .ok (.iconst 1, 1) := by decide +kernel
theorem dX4_isHand_11 : decode cX4_isHand 11 = .ok (.goto 4, 3) := by decide +kernel
theorem dX4_isHand_14 : decode cX4_isHand 14 = .ok (.iconst 0, 1) := by decide +kernel
theorem dX4_isHand_15 : decode cX4_isHand 15 = .ok (.ireturn, 1) := by decide +kernel
theorem dX4_isReason_0 : decode cX4_isReason 0 = .ok (.iload_n 0, 1) := by decide +kernel
theorem dX4_isReason_1 : decode cX4_isReason 1 = .ok (.ifCond .lt 13, 3) := by decide +kernel
theorem dX4_isReason_4 : decode cX4_isReason 4 = .ok (.iload_n 0, 1) := by decide +kernel
theorem dX4_isReason_5 : decode cX4_isReason 5 = .ok (.bipush 7, 2) := by decide +kernel
theorem dX4_isReason_7 : decode cX4_isReason 7 = .ok (.if_icmp .gt 7, 3) := by decide +kernel
theorem dX4_isReason_10 : decode cX4_isReason 10 = .ok (.iconst 1, 1) := by decide +kernel
theorem dX4_isReason_11 : decode cX4_isReason 11 = .ok (.goto 4, 3) := by decide +kernel
theorem dX4_isReason_14 : decode cX4_isReason 14 = .ok (.iconst 0, 1) := by decide +kernel
theorem dX4_isReason_15 : decode cX4_isReason 15 = .ok (.ireturn, 1) := by decide +kernel
theorem dX4_areMarks_0 : decode cX4_areMarks 0 = .ok (.iload_n 0, 1) := by decide +kernel
theorem dX4_areMarks_1 : decode cX4_areMarks 1 = .ok (.ifCond .lt 13, 3) := by decide +kernel
theorem dX4_areMarks_4 : decode cX4_areMarks 4 = .ok (.iload_n 0, 1) := by decide +kernel
theorem dX4_areMarks_5 : decode cX4_areMarks 5 = .ok (.bipush 15, 2) := by decide +kernel
theorem dX4_areMarks_7 : decode cX4_areMarks 7 = .ok (.if_icmp .gt 7, 3) := by decide +kernel
theorem dX4_areMarks_10 : decode cX4_areMarks 10 = .ok (.iconst 1, 1) := by decide +kernel
theorem dX4_areMarks_11 : decode cX4_areMarks 11 = .ok (.goto 4, 3) := by decide +kernel
theorem dX4_areMarks_14 : decode cX4_areMarks 14 = .ok (.iconst 0, 1) := by decide +kernel
theorem dX4_areMarks_15 : decode cX4_areMarks 15 = .ok (.ireturn, 1) := by decide +kernel
theorem dX4_oneIf_0 : decode cX4_oneIf 0 = .ok (.iload_n 0, 1) := by decide +kernel
theorem dX4_oneIf_1 : decode cX4_oneIf 1 = .ok (.ifCond .eq 7, 3) := by decide +kernel
theorem dX4_oneIf_4 : decode cX4_oneIf 4 = .ok (.iconst 1, 1) := by decide +kernel
theorem dX4_oneIf_5 : decode cX4_oneIf 5 = .ok (.goto 4, 3) := by decide +kernel
theorem dX4_oneIf_8 : decode cX4_oneIf 8 = .ok (.iconst 0, 1) := by decide +kernel
theorem dX4_oneIf_9 : decode cX4_oneIf 9 = .ok (.ireturn, 1) := by decide +kernel
