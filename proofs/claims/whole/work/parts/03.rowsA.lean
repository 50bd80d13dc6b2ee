set_option maxRecDepth 20000 in
theorem ggX0_init_X3_init : GoodIn wsX0_init wsX3_init := goodIn_r _ [10, 11, 2, 3, 12, 13, 14, 15, 16, 17, 18, 19, 20, 21, 22, 23, 24] (by decide +kernel) (by decide +kernel)
set_option maxRecDepth 20000 in
theorem gX0_init_X3_init : GoodIn wsX0_init (wsX3_init) := ggX0_init_X3_init
theorem dX0_init_0 : decode cX0_init 0 = .ok (.aload_n 0, 1) := by decide +kernel
theorem dX0_init_1 : decode cX0_init 1 = .ok (.invokespecial 3, 3) := by decide +kernel
theorem dX0_init_4 : decode cX0_init 4 = .ok (.aload_n 0, 1) := by decide +kernel
theorem dX0_init_5 : decode cX0_init 5 = .ok (.new 9, 3) := by decide +kernel
theorem dX0_init_8 : decode cX0_init 8 = .ok (.dup, 1) := by decide +kernel
theorem dX0_init_9 : decode cX0_init 9 = .ok (.iconst 5, 1) := by decide +kernel
theorem dX0_init_10 : decode cX0_init 10 = .ok (.bipush 6, 2) := by decide +kernel
theorem dX0_init_12 : decode cX0_init 12 = .ok (.invokespecial 13, 3) := by decide +kernel
theorem dX0_init_15 : decode cX0_init 15 = .ok (.putfield 16, 3) := by decide +kernel
theorem dX0_init_18 : decode cX0_init 18 = .ok (.return_, 1) := by decide +kernel
set_option maxRecDepth 20000 in
theorem ggX0_size_X3_size : GoodIn wsX0_size wsX3_size := goodIn_r _ [6, 7, 9, 10, 11, 12] (by decide +kernel) (by decide +kernel)
set_option maxRecDepth 20000 in
theorem gX0_size_X3_size : GoodIn wsX0_size (wsV RX0 20 RX3 yX3_size wsX3_size) := goodIn_app (goodIn_of _ (by decide +kernel)) ggX0_size_X3_size
theorem dX0_size_0 : decode cX0_size 0 = .ok (.aload_n 0, 1) := by decide +kernel
theorem dX0_size_1 : decode cX0_size 1 = .ok (.getfield 16, 3) := by decide +kernel
theorem dX0_size_4 : decode cX0_size 4 = .ok (.invokevirtual 20, 3) := by decide +kernel
theorem dX0_size_7 : decode cX0_size 7 = .ok (.ireturn, 1) := by decide +kernel
set_option maxRecDepth 20000 in
theorem ggX0_isThere_X3_isThere : GoodIn wsX0_isThere wsX3_isThere := goodIn_r _ [6, 7, 9, 10, 11, 12] (by decide +kernel) (by decide +kernel)
set_option maxRecDepth 20000 in
theorem gX0_isThere_X3_isThere : GoodIn wsX0_isThere (wsV RX0 24 RX3 yX3_isThere wsX3_isThere) := goodIn_app (goodIn_of _ (by decide +kernel)) ggX0_isThere_X3_isThere
theorem dX0_isThere_0 : decode cX0_isThere 0 = .ok (.aload_n 0, 1) := by decide +kernel
theorem dX0_isThere_1 : decode cX0_isThere 1 = .ok (.getfield 16, 3) := by decide +kernel
theorem dX0_isThere_4 : decode cX0_isThere 4 = .ok (.iload_n 1, 1) := by decide +kernel
theorem dX0_isThere_5 : decode cX0_isThere 5 = .ok (.invokevirtual 24, 3) := by decide +kernel
theorem dX0_isThere_8 : decode cX0_isThere 8 = .ok (.ireturn, 1) := by decide +kernel
set_option maxRecDepth 20000 in
theorem ggX0_add_X3_addRow : GoodIn wsX0_add wsX3_addRow := goodIn_r _ [6, 7, 8, 9, 10, 5, 11, 12, 24, 25, 26, 27] (by decide +kernel) (by decide +kernel)
set_option maxRecDepth 20000 in
theorem gX0_add_X3_addRow : GoodIn wsX0_add (wsV RX0 28 RX3 yX3_addRow wsX3_addRow) := goodIn_app (goodIn_of _ (by decide +kernel)) ggX0_add_X3_addRow
set_option maxRecDepth 20000 in
theorem ggX0_add_X3_put : GoodIn wsX0_add wsX3_put := goodIn_r _ [16, 17, 18, 19, 20, 21, 5, 22, 7, 24, 25, 26, 27] (by decide +kernel) (by decide +kernel)
set_option maxRecDepth 20000 in
theorem gX0_add_X3_put : GoodIn wsX0_add (wsV RX0 31 RX3 yX3_put wsX3_put) := goodIn_app (goodIn_of _ (by decide +kernel)) ggX0_add_X3_put
theorem dX0_add_0 : decode cX0_add 0 = .ok (.iload_n 1, 1) := by decide +kernel
theorem dX0_add_1 : decode cX0_add 1 = .ok (.ifCond .lt 32, 3) := by decide +kernel
theorem dX0_add_4 : decode cX0_add 4 = .ok (.iload_n 1, 1) := by decide +kernel
theorem dX0_add_5 : decode cX0_add 5 = .ok (.iconst 2, 1) := by decide +kernel
theorem dX0_add_6 : decode cX0_add 6 = .ok (.if_icmp .gt 27, 3) := by decide +kernel
theorem dX0_add_9 : decode cX0_add 9 = .ok (.iload_n 2, 1) := by decide +kernel
theorem dX0_add_10 : decode cX0_add 10 = .ok (.iconst 1, 1) := by decide +kernel
theorem dX0_add_11 : decode cX0_add 11 = .ok (.if_icmp .lt 22, 3) := by decide +kernel
theorem dX0_add_14 : decode cX0_add 14 = .ok (.iload_n 2, 1) := by decide +kernel
theorem dX0_add_15 : decode cX0_add 15 = .ok (.sipush 365, 3) := by decide +kernel
theorem dX0_add_18 : decode cX0_add 18 = .ok (.if_icmp .gt 15, 3) := by decide +kernel
theorem dX0_add_21 : decode cX0_add 21 = .ok (.iload_n 3, 1) := by decide +kernel
theorem dX0_add_22 : decode cX0_add 22 = .ok (.iconst 1, 1) := by decide +kernel
theorem dX0_add_23 : decode cX0_add 23 = .ok (.if_icmp .lt 10, 3) := by decide +kernel
theorem dX0_add_26 : decode cX0_add 26 = .ok (.iload_n 3, 1) := by decide +kernel
theorem dX0_add_27 : decode cX0_add 27 = .ok (.sipush 9973, 3) := by decide +kernel
theorem dX0_add_30 : decode cX0_add 30 = .ok (.if_icmp .lt 5, 3) := by decide +kernel
theorem dX0_add_33 : decode cX0_add 33 = .ok (.iconst (-1), 1) := by decide +kernel
theorem dX0_add_34 : decode cX0_add 34 = .ok (.ireturn, 1) := by decide +kernel
theorem dX0_add_35 : decode cX0_add 35 = .ok (.iload 4, 2) := by decide +kernel
theorem dX0_add_37 : decode cX0_add 37 = .ok (.ifCond .lt 23, 3) := by decide +kernel
theorem dX0_add_40 : decode cX0_add 40 = .ok (.iload 4, 2) := by decide +kernel
theorem dX0_add_42 : decode cX0_add 42 = .ok (.sipush 255, 3) := by decide +kernel
theorem dX0_add_45 : decode cX0_add 45 = .ok (.if_icmp .gt 15, 3) := by decide +kernel
theorem dX0_add_48 : decode cX0_add 48 = .ok (.iload 5, 2) := by decide +kernel
theorem dX0_add_50 : decode cX0_add 50 = .ok (.ifCond .lt 10, 3) := by decide +kernel
theorem dX0_add_53 : decode cX0_add 53 = .ok (.iload 5, 2) := by decide +kernel
theorem dX0_add_55 : decode cX0_add 55 = .ok (.bipush 24, 2) := by decide +kernel
theorem dX0_add_57 : decode cX0_add 57 = .ok (.if_icmp .le 5, 3) := by decide +kernel
theorem dX0_add_60 : decode cX0_add 60 = .ok (.iconst (-1), 1) := by decide +kernel
theorem dX0_add_61 : decode cX0_add 61 = .ok (.ireturn, 1) := by decide +kernel
theorem dX0_add_62 : decode cX0_add 62 = .ok (.aload_n 0, 1) := by decide +kernel
theorem dX0_add_63 : decode cX0_add 63 = .ok (.getfield 16, 3) := by decide +kernel
theorem dX0_add_66 : decode cX0_add 66 = .ok (.invokevirtual 28, 3) := by decide +kernel
theorem dX0_add_69 : decode cX0_add 69 = .ok (.istore 6, 2) := by decide +kernel
theorem dX0_add_71 : decode cX0_add 71 = .ok (.aload_n 0, 1) := by decide +kernel
theorem dX0_add_72 : decode cX0_add 72 = .ok (.getfield 16, 3) := by decide +kernel
theorem dX0_add_75 : decode cX0_add 75 = .ok (.iload 6, 2) := by decide +kernel
theorem dX0_add_77 : decode cX0_add 77 = .ok (.iconst 0, 1) := by decide +kernel
theorem dX0_add_78 : decode cX0_add 78 = .ok (.iload_n 1, 1) := by decide +kernel
theorem dX0_add_79 : decode cX0_add 79 = .ok (.invokevirtual 31, 3) := by decide +kernel
theorem dX0_add_82 : decode cX0_add 82 = .ok (.aload_n 0, 1) := by decide +kernel
theorem dX0_add_83 : decode cX0_add 83 = .ok (.getfield 16, 3) := by decide +kernel
theorem dX0_add_86 : decode cX0_add 86 = .ok (.iload 6, 2) := by decide +kernel
theorem dX0_add_88 : decode cX0_add 88 = .ok (.iconst 1, 1) := by decide +kernel
theorem dX0_add_89 : decode cX0_add 89 = .ok (.iload_n 2, 1) := by decide +kernel
theorem dX0_add_90 : decode cX0_add 90 = .ok (.invokevirtual 31, 3) := by decide +kernel
theorem dX0_add_93 : decode cX0_add 93 = .ok (.aload_n 0, 1) := by decide +kernel
theorem dX0_add_94 : decode cX0_add 94 = .ok (.getfield 16, 3) := by decide +kernel
theorem dX0_add_97 : decode cX0_add 97 = .ok (.iload 6, 2) := by decide +kernel
theorem dX0_add_99 : decode cX0_add 99 = .ok (.iconst 2, 1) := by decide +kernel
theorem dX0_add_100 : decode cX0_add 100 = .ok (.iload_n 3, 1) := by decide +kernel
theorem dX0_add_101 : decode cX0_add 101 = .ok (.invokevirtual 31, 3) := by decide +kernel
theorem dX0_add_104 : decode cX0_add 104 = .ok (.aload_n 0, 1) := by decide +kernel
theorem dX0_add_105 : decode cX0_add 105 = .ok (.getfield 16, 3) := by decide +kernel
theorem dX0_add_108 : decode cX0_add 108 = .ok (.iload 6, 2) := by decide +kernel
theorem dX0_add_110 : decode cX0_add 110 = .ok (.iconst 3, 1) := by decide +kernel
theorem dX0_add_111 : decode cX0_add 111 = .ok (.iload 4, 2) := by decide +kernel
theorem dX0_add_113 : decode cX0_add 113 = .ok (.invokevirtual 31, 3) := by decide +kernel
theorem dX0_add_116 : decode cX0_add 116 = .ok (.aload_n 0, 1) := by decide +kernel
theorem dX0_add_117 : decode cX0_add 117 = .ok (.getfield 16, 3) := by decide +kernel
theorem dX0_add_120 : decode cX0_add 120 = .ok (.iload 6, 2) := by decide +kernel
theorem dX0_add_122 : decode cX0_add 122 = .ok (.iconst 4, 1) := by decide +kernel
theorem dX0_add_123 : decode cX0_add 123 = .ok (.iload 5, 2) := by decide +kernel
theorem dX0_add_125 : decode cX0_add 125 = .ok (.invokevirtual 31, 3) := by decide +kernel
theorem dX0_add_128 : decode cX0_add 128 = .ok (.aload_n 0, 1) := by decide +kernel
theorem dX0_add_129 : decode cX0_add 129 = .ok (.getfield 16, 3) := by decide +kernel
theorem dX0_add_132 : decode cX0_add 132 = .ok (.iload 6, 2) := by decide +kernel
theorem dX0_add_134 : decode cX0_add 134 = .ok (.iconst 5, 1) := by decide +kernel
theorem dX0_add_135 : decode cX0_add 135 = .ok (.iconst 0, 1) := by decide +kernel
theorem dX0_add_136 : decode cX0_add 136 = .ok (.invokevirtual 31, 3) := by decide +kernel
theorem dX0_add_139 : decode cX0_add 139 = .ok (.iload 6, 2) := by decide +kernel
theorem dX0_add_141 : decode cX0_add 141 = .ok (.ireturn, 1) := by decide +kernel
set_option maxRecDepth 20000 in
theorem ggX0_isSpanned_X3_at : GoodIn wsX0_isSpanned wsX3_at := goodIn_r _ [6, 7, 8, 9, 10, 11, 5, 12, 13, 15, 16, 17, 18] (by decide +kernel) (by decide +kernel)
set_option maxRecDepth 20000 in
theorem gX0_isSpanned_X3_at : GoodIn wsX0_isSpanned (wsV RX0 35 RX3 yX3_at wsX3_at) := goodIn_app (goodIn_of _ (by decide +kernel)) ggX0_isSpanned_X3_at
theorem dX0_isSpanned_0 : decode cX0_isSpanned 0 = .ok (.aload_n 0, 1) := by decide +kernel
theorem dX0_isSpanned_1 : decode cX0_isSpanned 1 = .ok (.getfield 16, 3) := by decide +kernel
theorem dX0_isSpanned_4 : decode cX0_isSpanned 4 = .ok (.iload_n 1, 1) := by decide +kernel
theorem dX0_isSpanned_5 : decode cX0_isSpanned 5 = .ok (.iconst 0, 1) := by decide +kernel
theorem dX0_isSpanned_6 : decode cX0_isSpanned 6 = .ok (.invokevirtual 35, 3) := by decide +kernel
theorem dX0_isSpanned_9 : decode cX0_isSpanned 9 = .ok (.iconst 1, 1) := by decide +kernel
theorem dX0_isSpanned_10 : decode cX0_isSpanned 10 = .ok (.if_icmp .ne 7, 3) := by decide +kernel
theorem dX0_isSpanned_13 : decode cX0_isSpanned 13 = .ok (.iconst 1, 1) := by decide +kernel
theorem dX0_isSpanned_14 : decode cX0_isSpanned 14 = .ok (.goto 4, 3) := by decide +kernel
theorem dX0_isSpanned_17 : decode cX0_isSpanned 17 = .ok (.iconst 0, 1) := by decide +kernel
theorem dX0_isSpanned_18 : decode cX0_isSpanned 18 = .ok (.ireturn, 1) := by decide +kernel
set_option maxRecDepth 20000 in
theorem ggX0_seedOf_X3_at : GoodIn wsX0_seedOf wsX3_at := goodIn_r _ [6, 7, 8, 9, 10, 11, 5, 12, 13, 15, 16, 17, 18] (by decide +kernel) (by decide +kernel)
set_option maxRecDepth 20000 in
theorem gX0_seedOf_X3_at : GoodIn wsX0_seedOf (wsV RX0 35 RX3 yX3_at wsX3_at) := goodIn_app (goodIn_of _ (by decide +kernel)) ggX0_seedOf_X3_at
theorem dX0_seedOf_0 : decode cX0_seedOf 0 = .ok (.aload_n 0, 1) := by decide +kernel
theorem dX0_seedOf_1 : decode cX0_seedOf 1 = .ok (.getfield 16, 3) := by decide +kernel
theorem dX0_seedOf_4 : decode cX0_seedOf 4 = .ok (.iload_n 1, 1) := by decide +kernel
theorem dX0_seedOf_5 : decode cX0_seedOf 5 = .ok (.iconst 2, 1) := by decide +kernel
theorem dX0_seedOf_6 : decode cX0_seedOf 6 = .ok (.invokevirtual 35, 3) := by decide +kernel
theorem dX0_seedOf_9 : decode cX0_seedOf 9 = .ok (.ireturn, 1) := by decide +kernel
set_option maxRecDepth 20000 in
theorem ggX0_leastOf_X3_at : GoodIn wsX0_leastOf wsX3_at := goodIn_r _ [6, 7, 8, 9, 10, 11, 5, 12, 13, 15, 16, 17, 18] (by decide +kernel) (by decide +kernel)
set_option maxRecDepth 20000 in
theorem gX0_leastOf_X3_at : GoodIn wsX0_leastOf (wsV RX0 35 RX3 yX3_at wsX3_at) := goodIn_app (goodIn_of _ (by decide +kernel)) ggX0_leastOf_X3_at
theorem dX0_leastOf_0 : decode cX0_leastOf 0 = .ok (.aload_n 0, 1) := by decide +kernel
theorem dX0_leastOf_1 : decode cX0_leastOf 1 = .ok (.getfield 16, 3) := by decide +kernel
theorem dX0_leastOf_4 : decode cX0_leastOf 4 = .ok (.iload_n 1, 1) := by decide +kernel
theorem dX0_leastOf_5 : decode cX0_leastOf 5 = .ok (.iconst 4, 1) := by decide +kernel
theorem dX0_leastOf_6 : decode cX0_leastOf 6 = .ok (.invokevirtual 35, 3) := by decide +kernel
theorem dX0_leastOf_9 : decode cX0_leastOf 9 = .ok (.ireturn, 1) := by decide +kernel
set_option maxRecDepth 20000 in
theorem ggX0_reasonCounts_X3_at : GoodIn wsX0_reasonCounts wsX3_at := goodIn_r _ [6, 7, 8, 9, 10, 11, 5, 12, 13, 15, 16, 17, 18] (by decide +kernel) (by decide +kernel)
set_option maxRecDepth 20000 in
theorem gX0_reasonCounts_X3_at : GoodIn wsX0_reasonCounts (wsV RX0 35 RX3 yX3_at wsX3_at) := goodIn_app (goodIn_of _ (by decide +kernel)) ggX0_reasonCounts_X3_at
theorem dX0_reasonCounts_0 : decode cX0_reasonCounts 0 = .ok (.aload_n 0, 1) := by decide +kernel
theorem dX0_reasonCounts_1 : decode cX0_reasonCounts 1 = .ok (.getfield 16, 3) := by decide +kernel
theorem dX0_reasonCounts_4 : decode cX0_reasonCounts 4 = .ok (.iload_n 1, 1) := by decide +kernel
theorem dX0_reasonCounts_5 : decode cX0_reasonCounts 5 = .ok (.iconst 3, 1) := by decide +kernel
theorem dX0_reasonCounts_6 : decode cX0_reasonCounts 6 = .ok (.invokevirtual 35, 3) := by decide +kernel
theorem dX0_reasonCounts_9 : decode cX0_reasonCounts 9 = .ok (.iload_n 2, 1) := by decide +kernel
theorem dX0_reasonCounts_10 : decode cX0_reasonCounts 10 = .ok (.ishr, 1) := by decide +kernel
theorem dX0_reasonCounts_11 : decode cX0_reasonCounts 11 = .ok (.iconst 1, 1) := by decide +kernel
theorem dX0_reasonCounts_12 : decode cX0_reasonCounts 12 = .ok (.iand, 1) := by decide +kernel
theorem dX0_reasonCounts_13 : decode cX0_reasonCounts 13 = .ok (.iconst 1, 1) := by decide +kernel
theorem dX0_reasonCounts_14 : decode cX0_reasonCounts 14 = .ok (.if_icmp .ne 7, 3) := by decide +kernel
theorem dX0_reasonCounts_17 : decode cX0_reasonCounts 17 = .ok (.iconst 1, 1) := by decide +kernel
theorem dX0_reasonCounts_18 : decode cX0_reasonCounts 18 = .ok (.goto 4, 3) := by decide +kernel
theorem dX0_reasonCounts_21 : decode cX0_reasonCounts 21 = .ok (.iconst 0, 1) := by decide +kernel
theorem dX0_reasonCounts_22 : decode cX0_reasonCounts 22 = .ok (.ireturn, 1) := by decide +kernel
set_option maxRecDepth 20000 in
theorem ggX0_isLost_X3_at : GoodIn wsX0_isLost wsX3_at := goodIn_r _ [6, 7, 8, 9, 10, 11, 5, 12, 13, 15, 16, 17, 18] (by decide +kernel) (by decide +kernel)
set_option maxRecDepth 20000 in
theorem gX0_isLost_X3_at : GoodIn wsX0_isLost (wsV RX0 35 RX3 yX3_at wsX3_at) := goodIn_app (goodIn_of _ (by decide +kernel)) ggX0_isLost_X3_at
theorem dX0_isLost_0 : decode cX0_isLost 0 = .ok (.aload_n 0, 1) := by decide +kernel
theorem dX0_isLost_1 : decode cX0_isLost 1 = .ok (.getfield 16, 3) := by decide +kernel
theorem dX0_isLost_4 : decode cX0_isLost 4 = .ok (.iload_n 1, 1) := by decide +kernel
theorem dX0_isLost_5 : decode cX0_isLost 5 = .ok (.iconst 5, 1) := by decide +kernel
theorem dX0_isLost_6 : decode cX0_isLost 6 = .ok (.invokevirtual 35, 3) := by decide +kernel
theorem dX0_isLost_9 : decode cX0_isLost 9 = .ok (.iconst 1, 1) := by decide +kernel
theorem dX0_isLost_10 : decode cX0_isLost 10 = .ok (.if_icmp .ne 7, 3) := by decide +kernel
theorem dX0_isLost_13 : decode cX0_isLost 13 = .ok (.iconst 1, 1) := by decide +kernel
theorem dX0_isLost_14 : decode cX0_isLost 14 = .ok (.goto 4, 3) := by decide +kernel
theorem dX0_isLost_17 : decode cX0_isLost 17 = .ok (.iconst 0, 1) := by decide +kernel
theorem dX0_isLost_18 : decode cX0_isLost 18 = .ok (.ireturn, 1) := by decide +kernel
set_option maxRecDepth 20000 in
theorem ggX0_setLost_X3_put : GoodIn wsX0_setLost wsX3_put := goodIn_r _ [6, 7, 8, 9, 10, 11, 5, 12, 13, 15, 16, 17, 18] (by decide +kernel) (by decide +kernel)
set_option maxRecDepth 20000 in
theorem gX0_setLost_X3_put : GoodIn wsX0_setLost (wsV RX0 31 RX3 yX3_put wsX3_put) := goodIn_app (goodIn_of _ (by decide +kernel)) ggX0_setLost_X3_put
theorem dX0_setLost_0 : decode cX0_setLost 0 = .ok (.aload_n 0, 1) := by decide +kernel
theorem dX0_setLost_1 : decode cX0_setLost 1 = .ok (.getfield 16, 3) := by decide +kernel
theorem dX0_setLost_4 : decode cX0_setLost 4 = .ok (.iload_n 1, 1) := by decide +kernel
theorem dX0_setLost_5 : decode cX0_setLost 5 = .ok (.iconst 5, 1) := by decide +kernel
theorem dX0_setLost_6 : decode cX0_setLost 6 = .ok (.iload_n 2, 1) := by decide +kernel
theorem dX0_setLost_7 : decode cX0_setLost 7 = .ok (.ifCond .eq 7, 3) := by decide +kernel
theorem dX0_setLost_10 : decode cX0_setLost 10 = .ok (.iconst 1, 1) := by decide +kernel
theorem dX0_setLost_11 : decode cX0_setLost 11 = .ok (.goto 4, 3) := by decide +kernel
theorem dX0_setLost_14 : decode cX0_setLost 14 = .ok (.iconst 0, 1) := by decide +kernel
theorem dX0_setLost_15 : decode cX0_setLost 15 = .ok (.invokevirtual 31, 3) := by decide +kernel
theorem dX0_setLost_18 : decode cX0_setLost 18 = .ok (.return_, 1) := by decide +kernel
set_option maxRecDepth 20000 in
theorem ggX0_nameNumber_X0_seedOf : GoodIn wsX0_nameNumber wsX0_seedOf := goodIn_r _ [5, 6, 7, 8, 9, 10, 11, 12, 13, 14, 15, 16, 17, 18, 19, 20, 21, 22, 23] (by decide +kernel) (by decide +kernel)
set_option maxRecDepth 20000 in
theorem gX0_nameNumber_X0_seedOf : GoodIn wsX0_nameNumber (wsV RX0 39 RX0 yX0_seedOf wsX0_seedOf) := goodIn_app (goodIn_of _ (by decide +kernel)) ggX0_nameNumber_X0_seedOf
theorem dX0_nameNumber_0 : decode cX0_nameNumber 0 = .ok (.aload_n 0, 1) := by decide +kernel
theorem dX0_nameNumber_1 : decode cX0_nameNumber 1 = .ok (.iload_n 1, 1) := by decide +kernel
theorem dX0_nameNumber_2 : decode cX0_nameNumber 2 = .ok (.invokevirtual 39, 3) := by decide +kernel
theorem dX0_nameNumber_5 : decode cX0_nameNumber 5 = .ok (.iload_n 2, 1) := by decide +kernel
theorem dX0_nameNumber_6 : decode cX0_nameNumber 6 = .ok (.imul, 1) := by decide +kernel
theorem dX0_nameNumber_7 : decode cX0_nameNumber 7 = .ok (.sipush 9973, 3) := by decide +kernel
theorem dX0_nameNumber_10 : decode cX0_nameNumber 10 = .ok (.irem, 1) := by decide +kernel
theorem dX0_nameNumber_11 : decode cX0_nameNumber 11 = .ok (.ireturn, 1) := by decide +kernel
set_option maxRecDepth 20000 in
theorem ggX0_spanNumber_X3_at : GoodIn wsX0_spanNumber wsX3_at := goodIn_r _ [6, 7, 8, 9, 10, 11, 5, 12, 13, 20, 21, 22, 23] (by decide +kernel) (by decide +kernel)
set_option maxRecDepth 20000 in
theorem gX0_spanNumber_X3_at : GoodIn wsX0_spanNumber (wsV RX0 35 RX3 yX3_at wsX3_at) := goodIn_app (goodIn_of _ (by decide +kernel)) ggX0_spanNumber_X3_at
set_option maxRecDepth 20000 in
theorem ggX0_spanNumber_X0_isSpanned : GoodIn wsX0_spanNumber wsX0_isSpanned := goodIn_r _ [18, 1, 2, 3, 4, 5, 6, 7, 8, 9, 10, 11, 12, 13, 19, 20, 21, 22, 23] (by decide +kernel) (by decide +kernel)
set_option maxRecDepth 20000 in
theorem gX0_spanNumber_X0_isSpanned : GoodIn wsX0_spanNumber (wsV RX0 43 RX0 yX0_isSpanned wsX0_isSpanned) := goodIn_app (goodIn_of _ (by decide +kernel)) ggX0_spanNumber_X0_isSpanned
theorem dX0_spanNumber_0 : decode cX0_spanNumber 0 = .ok (.aload_n 0, 1) := by decide +kernel
theorem dX0_spanNumber_1 : decode cX0_spanNumber 1 = .ok (.getfield 16, 3) := by decide +kernel
theorem dX0_spanNumber_4 : decode cX0_spanNumber 4 = .ok (.iload_n 1, 1) := by decide +kernel
theorem dX0_spanNumber_5 : decode cX0_spanNumber 5 = .ok (.iconst 0, 1) := by decide +kernel
theorem dX0_spanNumber_6 : decode cX0_spanNumber 6 = .ok (.invokevirtual 35, 3) := by decide +kernel
theorem dX0_spanNumber_9 : decode cX0_spanNumber 9 = .ok (.iconst 2, 1) := by decide +kernel
theorem dX0_spanNumber_10 : decode cX0_spanNumber 10 = .ok (.if_icmp .ne 5, 3) := by decide +kernel
theorem dX0_spanNumber_13 : decode cX0_spanNumber 13 = .ok (.iload_n 3, 1) := by decide +kernel
theorem dX0_spanNumber_14 : decode cX0_spanNumber 14 = .ok (.ireturn, 1) := by decide +kernel
theorem dX0_spanNumber_15 : decode cX0_spanNumber 15 = .ok (.aload_n 0, 1) := by decide +kernel
theorem dX0_spanNumber_16 : decode cX0_spanNumber 16 = .ok (.getfield 16, 3) := by decide +kernel
theorem dX0_spanNumber_19 : decode cX0_spanNumber 19 = .ok (.iload_n 1, 1) := by decide +kernel
theorem dX0_spanNumber_20 : decode cX0_spanNumber 20 = .ok (.iconst 1, 1) := by decide +kernel
theorem dX0_spanNumber_21 : decode cX0_spanNumber 21 = .ok (.invokevirtual 35, 3) := by decide +kernel
theorem dX0_spanNumber_24 : decode cX0_spanNumber 24 = .ok (.istore 4, 2) := by decide +kernel
theorem dX0_spanNumber_26 : decode cX0_spanNumber 26 = .ok (.aload_n 0, 1) := by decide +kernel
theorem dX0_spanNumber_27 : decode cX0_spanNumber 27 = .ok (.iload_n 1, 1) := by decide +kernel
theorem dX0_spanNumber_28 : decode cX0_spanNumber 28 = .ok (.invokevirtual 43, 3) := by decide +kernel
theorem dX0_spanNumber_31 : decode cX0_spanNumber 31 = .ok (.ifCond .eq 15, 3) := by decide +kernel
theorem dX0_spanNumber_34 : decode cX0_spanNumber 34 = .ok (.iload 4, 2) := by decide +kernel
theorem dX0_spanNumber_36 : decode cX0_spanNumber 36 = .ok (.ifCond .le 10, 3) := by decide +kernel
theorem dX0_spanNumber_39 : decode cX0_spanNumber 39 = .ok (.iload_n 2, 1) := by decide +kernel
theorem dX0_spanNumber_40 : decode cX0_spanNumber 40 = .ok (.iload 4, 2) := by decide +kernel
theorem dX0_spanNumber_42 : decode cX0_spanNumber 42 = .ok (.idiv, 1) := by decide +kernel
theorem dX0_spanNumber_43 : decode cX0_spanNumber 43 = .ok (.goto 4, 3) := by decide +kernel
theorem dX0_spanNumber_46 : decode cX0_spanNumber 46 = .ok (.iconst 0, 1) := by decide +kernel
theorem dX0_spanNumber_47 : decode cX0_spanNumber 47 = .ok (.ireturn, 1) := by decide +kernel
set_option maxRecDepth 20000 in
theorem ggX1_init_X3_init : GoodIn wsX1_init wsX3_init := goodIn_r _ [11, 12, 2, 3, 13, 14, 15, 16, 17, 18, 19, 20, 21, 22, 23, 24, 25] (by decide +kernel) (by decide +kernel)
set_option maxRecDepth 20000 in
theorem gX1_init_X3_init : GoodIn wsX1_init (wsX3_init) := ggX1_init_X3_init
theorem dX1_init_0 : decode cX1_init 0 = .ok (.aload_n 0, 1) := by decide +kernel
theorem dX1_init_1 : decode cX1_init 1 = .ok (.invokespecial 3, 3) := by decide +kernel
theorem dX1_init_4 : decode cX1_init 4 = .ok (.aload_n 0, 1) := by decide +kernel
theorem dX1_init_5 : decode cX1_init 5 = .ok (.new 9, 3) := by decide +kernel
theorem dX1_init_8 : decode cX1_init 8 = .ok (.dup, 1) := by decide +kernel
theorem dX1_init_9 : decode cX1_init 9 = .ok (.sipush 200, 3) := by decide +kernel
theorem dX1_init_12 : decode cX1_init 12 = .ok (.iconst 5, 1) := by decide +kernel
theorem dX1_init_13 : decode cX1_init 13 = .ok (.invokespecial 13, 3) := by decide +kernel
theorem dX1_init_16 : decode cX1_init 16 = .ok (.putfield 16, 3) := by decide +kernel
theorem dX1_init_19 : decode cX1_init 19 = .ok (.aload_n 0, 1) := by decide +kernel
theorem dX1_init_20 : decode cX1_init 20 = .ok (.aload_n 1, 1) := by decide +kernel
theorem dX1_init_21 : decode cX1_init 21 = .ok (.putfield 20, 3) := by decide +kernel
theorem dX1_init_24 : decode cX1_init 24 = .ok (.return_, 1) := by decide +kernel
set_option maxRecDepth 20000 in
theorem ggX1_size_X3_size : GoodIn wsX1_size wsX3_size := goodIn_r _ [6, 7, 10, 11, 12, 13] (by decide +kernel) (by decide +kernel)
set_option maxRecDepth 20000 in
theorem gX1_size_X3_size : GoodIn wsX1_size (wsV RX1 24 RX3 yX3_size wsX3_size) := goodIn_app (goodIn_of _ (by decide +kernel)) ggX1_size_X3_size
theorem dX1_size_0 : decode cX1_size 0 = .ok (.aload_n 0, 1) := by decide +kernel
theorem dX1_size_1 : decode cX1_size 1 = .ok (.getfield 16, 3) := by decide +kernel
theorem dX1_size_4 : decode cX1_size 4 = .ok (.invokevirtual 24, 3) := by decide +kernel
theorem dX1_size_7 : decode cX1_size 7 = .ok (.ireturn, 1) := by decide +kernel
set_option maxRecDepth 20000 in
theorem ggX1_cell_X3_at : GoodIn wsX1_cell wsX3_at := goodIn_r _ [6, 7, 8, 9, 10, 11, 5, 12, 13, 16, 17, 18, 19] (by decide +kernel) (by decide +kernel)
set_option maxRecDepth 20000 in
theorem gX1_cell_X3_at : GoodIn wsX1_cell (wsV RX1 28 RX3 yX3_at wsX3_at) := goodIn_app (goodIn_of _ (by decide +kernel)) ggX1_cell_X3_at
theorem dX1_cell_0 : decode cX1_cell 0 = .ok (.aload_n 0, 1) := by decide +kernel
theorem dX1_cell_1 : decode cX1_cell 1 = .ok (.getfield 16, 3) := by decide +kernel
theorem dX1_cell_4 : decode cX1_cell 4 = .ok (.iload_n 1, 1) := by decide +kernel
theorem dX1_cell_5 : decode cX1_cell 5 = .ok (.iload_n 2, 1) := by decide +kernel
theorem dX1_cell_6 : decode cX1_cell 6 = .ok (.invokevirtual 28, 3) := by decide +kernel
theorem dX1_cell_9 : decode cX1_cell 9 = .ok (.ireturn, 1) := by decide +kernel
set_option maxRecDepth 20000 in
theorem ggX1_nameAt_X3_at : GoodIn wsX1_nameAt wsX3_at := goodIn_r _ [6, 7, 8, 9, 10, 11, 5, 12, 13, 16, 17, 18, 19] (by decide +kernel) (by decide +kernel)
set_option maxRecDepth 20000 in
theorem gX1_nameAt_X3_at : GoodIn wsX1_nameAt (wsV RX1 28 RX3 yX3_at wsX3_at) := goodIn_app (goodIn_of _ (by decide +kernel)) ggX1_nameAt_X3_at
theorem dX1_nameAt_0 : decode cX1_nameAt 0 = .ok (.aload_n 0, 1) := by decide +kernel
theorem dX1_nameAt_1 : decode cX1_nameAt 1 = .ok (.getfield 16, 3) := by decide +kernel
theorem dX1_nameAt_4 : decode cX1_nameAt 4 = .ok (.iload_n 1, 1) := by decide +kernel
theorem dX1_nameAt_5 : decode cX1_nameAt 5 = .ok (.iconst 1, 1) := by decide +kernel
theorem dX1_nameAt_6 : decode cX1_nameAt 6 = .ok (.invokevirtual 28, 3) := by decide +kernel
theorem dX1_nameAt_9 : decode cX1_nameAt 9 = .ok (.ireturn, 1) := by decide +kernel
set_option maxRecDepth 20000 in
theorem ggX1_ownerAt_X3_at : GoodIn wsX1_ownerAt wsX3_at := goodIn_r _ [6, 7, 8, 9, 10, 11, 5, 12, 13, 16, 17, 18, 19] (by decide +kernel) (by decide +kernel)
set_option maxRecDepth 20000 in
theorem gX1_ownerAt_X3_at : GoodIn wsX1_ownerAt (wsV RX1 28 RX3 yX3_at wsX3_at) := goodIn_app (goodIn_of _ (by decide +kernel)) ggX1_ownerAt_X3_at
theorem dX1_ownerAt_0 : decode cX1_ownerAt 0 = .ok (.aload_n 0, 1) := by decide +kernel
theorem dX1_ownerAt_1 : decode cX1_ownerAt 1 = .ok (.getfield 16, 3) := by decide +kernel
theorem dX1_ownerAt_4 : decode cX1_ownerAt 4 = .ok (.iload_n 1, 1) := by decide +kernel
theorem dX1_ownerAt_5 : decode cX1_ownerAt 5 = .ok (.iconst 2, 1) := by decide +kernel
theorem dX1_ownerAt_6 : decode cX1_ownerAt 6 = .ok (.invokevirtual 28, 3) := by decide +kernel
theorem dX1_ownerAt_9 : decode cX1_ownerAt 9 = .ok (.ireturn, 1) := by decide +kernel
set_option maxRecDepth 20000 in
theorem ggX1_spanNumberAt_X3_at : GoodIn wsX1_spanNumberAt wsX3_at := goodIn_r _ [6, 7, 8, 9, 10, 11, 5, 12, 13, 16, 17, 18, 19] (by decide +kernel) (by decide +kernel)
set_option maxRecDepth 20000 in
theorem gX1_spanNumberAt_X3_at : GoodIn wsX1_spanNumberAt (wsV RX1 28 RX3 yX3_at wsX3_at) := goodIn_app (goodIn_of _ (by decide +kernel)) ggX1_spanNumberAt_X3_at
theorem dX1_spanNumberAt_0 : decode cX1_spanNumberAt 0 = .ok (.aload_n 0, 1) := by decide +kernel
theorem dX1_spanNumberAt_1 : decode cX1_spanNumberAt 1 = .ok (.getfield 16, 3) := by decide +kernel
theorem dX1_spanNumberAt_4 : decode cX1_spanNumberAt 4 = .ok (.iload_n 1, 1) := by decide +kernel
theorem dX1_spanNumberAt_5 : decode cX1_spanNumberAt 5 = .ok (.iconst 4, 1) := by decide +kernel
theorem dX1_spanNumberAt_6 : decode cX1_spanNumberAt 6 = .ok (.invokevirtual 28, 3) := by decide +kernel
theorem dX1_spanNumberAt_9 : decode cX1_spanNumberAt 9 = .ok (.ireturn, 1) := by decide +kernel
set_option maxRecDepth 20000 in
theorem ggX1_add_X3_addRow : GoodIn wsX1_add wsX3_addRow := goodIn_r _ [6, 7, 8, 9, 10, 5, 11, 12, 25, 26, 27, 28] (by decide +kernel) (by decide +kernel)
set_option maxRecDepth 20000 in
theorem gX1_add_X3_addRow : GoodIn wsX1_add (wsV RX1 32 RX3 yX3_addRow wsX3_addRow) := goodIn_app (goodIn_of _ (by decide +kernel)) ggX1_add_X3_addRow
set_option maxRecDepth 20000 in
theorem ggX1_add_X3_put : GoodIn wsX1_add wsX3_put := goodIn_r _ [16, 17, 18, 19, 20, 21, 5, 22, 7, 25, 26, 27, 28] (by decide +kernel) (by decide +kernel)
set_option maxRecDepth 20000 in
theorem gX1_add_X3_put : GoodIn wsX1_add (wsV RX1 35 RX3 yX3_put wsX3_put) := goodIn_app (goodIn_of _ (by decide +kernel)) ggX1_add_X3_put
theorem dX1_add_0 : decode cX1_add 0 = .ok (.aload_n 0, 1) := by decide +kernel
theorem dX1_add_1 : decode cX1_add 1 = .ok (.getfield 16, 3) := by decide +kernel
theorem dX1_add_4 : decode cX1_add 4 = .ok (.invokevirtual 32, 3) := by decide +kernel
theorem dX1_add_7 : decode cX1_add 7 = .ok (.istore 6, 2) := by decide +kernel
theorem dX1_add_9 : decode cX1_add 9 = .ok (.aload_n 0, 1) := by decide +kernel
theorem dX1_add_10 : decode cX1_add 10 = .ok (.getfield 16, 3) := by decide +kernel
theorem dX1_add_13 : decode cX1_add 13 = .ok (.iload 6, 2) := by decide +kernel
theorem dX1_add_15 : decode cX1_add 15 = .ok (.iconst 0, 1) := by decide +kernel
theorem dX1_add_16 : decode cX1_add 16 = .ok (.iload_n 1, 1) := by decide +kernel
theorem dX1_add_17 : decode cX1_add 17 = .ok (.invokevirtual 35, 3) := by decide +kernel
theorem dX1_add_20 : decode cX1_add 20 = .ok (.aload_n 0, 1) := by decide +kernel
theorem dX1_add_21 : decode cX1_add 21 = .ok (.getfield 16, 3) := by decide +kernel
theorem dX1_add_24 : decode cX1_add 24 = .ok (.iload 6, 2) := by decide +kernel
theorem dX1_add_26 : decode cX1_add 26 = .ok (.iconst 1, 1) := by decide +kernel
theorem dX1_add_27 : decode cX1_add 27 = .ok (.iload_n 2, 1) := by decide +kernel
theorem dX1_add_28 : decode cX1_add 28 = .ok (.invokevirtual 35, 3) := by decide +kernel
theorem dX1_add_31 : decode cX1_add 31 = .ok (.aload_n 0, 1) := by decide +kernel
theorem dX1_add_32 : decode cX1_add 32 = .ok (.getfield 16, 3) := by decide +kernel
theorem dX1_add_35 : decode cX1_add 35 = .ok (.iload 6, 2) := by decide +kernel
theorem dX1_add_37 : decode cX1_add 37 = .ok (.iconst 2, 1) := by decide +kernel
theorem dX1_add_38 : decode cX1_add 38 = .ok (.iload_n 3, 1) := by decide +kernel
theorem dX1_add_39 : decode cX1_add 39 = .ok (.invokevirtual 35, 3) := by decide +kernel
theorem dX1_add_42 : decode cX1_add 42 = .ok (.aload_n 0, 1) := by decide +kernel
theorem dX1_add_43 : decode cX1_add 43 = .ok (.getfield 16, 3) := by decide +kernel
theorem dX1_add_46 : decode cX1_add 46 = .ok (.iload 6, 2) := by decide +kernel
theorem dX1_add_48 : decode cX1_add 48 = .ok (.iconst 3, 1) := by decide +kernel
theorem dX1_add_49 : decode cX1_add 49 = .ok (.iload 4, 2) := by decide +kernel
theorem dX1_add_51 : decode cX1_add 51 = .ok (.invokevirtual 35, 3) := by decide +kernel
theorem dX1_add_54 : decode cX1_add 54 = .ok (.aload_n 0, 1) := by decide +kernel
theorem dX1_add_55 : decode cX1_add 55 = .ok (.getfield 16, 3) := by decide +kernel
theorem dX1_add_58 : decode cX1_add 58 = .ok (.iload 6, 2) := by decide +kernel
theorem dX1_add_60 : decode cX1_add 60 = .ok (.iconst 4, 1) := by decide +kernel
theorem dX1_add_61 : decode cX1_add 61 = .ok (.iload 5, 2) := by decide +kernel
theorem dX1_add_63 : decode cX1_add 63 = .ok (.invokevirtual 35, 3) := by decide +kernel
theorem dX1_add_66 : decode cX1_add 66 = .ok (.iload 6, 2) := by decide +kernel
theorem dX1_add_68 : decode cX1_add 68 = .ok (.ireturn, 1) := by decide +kernel
set_option maxRecDepth 20000 in
theorem ggX1_find_X3_size : GoodIn wsX1_find wsX3_size := goodIn_r _ [6, 7, 25, 26, 27, 28] (by decide +kernel) (by decide +kernel)
set_option maxRecDepth 20000 in
theorem gX1_find_X3_size : GoodIn wsX1_find (wsV RX1 24 RX3 yX3_size wsX3_size) := goodIn_app (goodIn_of _ (by decide +kernel)) ggX1_find_X3_size
set_option maxRecDepth 20000 in
theorem ggX1_find_X3_at : GoodIn wsX1_find wsX3_at := goodIn_r _ [11, 12, 13, 14, 15, 16, 5, 17, 7, 25, 26, 27, 28] (by decide +kernel) (by decide +kernel)
set_option maxRecDepth 20000 in
theorem gX1_find_X3_at : GoodIn wsX1_find (wsV RX1 28 RX3 yX3_at wsX3_at) := goodIn_app (goodIn_of _ (by decide +kernel)) ggX1_find_X3_at
set_option maxRecDepth 20000 in
theorem ggX1_find_X1_nameAt : GoodIn wsX1_find wsX1_nameAt := goodIn_r _ [22, 1, 8, 9, 10, 5, 11, 12, 13, 14, 15, 16, 17, 7, 23, 24, 25, 26, 27, 28] (by decide +kernel) (by decide +kernel)
set_option maxRecDepth 20000 in
theorem gX1_find_X1_nameAt : GoodIn wsX1_find (wsV RX1 39 RX1 yX1_nameAt wsX1_nameAt) := goodIn_app (goodIn_of _ (by decide +kernel)) ggX1_find_X1_nameAt
theorem dX1_find_0 : decode cX1_find 0 = .ok (.iconst 0, 1) := by decide +kernel
theorem dX1_find_1 : decode cX1_find 1 = .ok (.istore_n 3, 1) := by decide +kernel
theorem dX1_find_2 : decode cX1_find 2 = .ok (.iload_n 3, 1) := by decide +kernel
theorem dX1_find_3 : decode cX1_find 3 = .ok (.aload_n 0, 1) := by decide +kernel
theorem dX1_find_4 : decode cX1_find 4 = .ok (.getfield 16, 3) := by decide +kernel
theorem dX1_find_7 : decode cX1_find 7 = .ok (.invokevirtual 24, 3) := by decide +kernel
theorem dX1_find_10 : decode cX1_find 10 = .ok (.if_icmp .ge 33, 3) := by decide +kernel
theorem dX1_find_13 : decode cX1_find 13 = .ok (.aload_n 0, 1) := by decide +kernel
theorem dX1_find_14 : decode cX1_find 14 = .ok (.getfield 16, 3) := by decide +kernel
theorem dX1_find_17 : decode cX1_find 17 = .ok (.iload_n 3, 1) := by decide +kernel
theorem dX1_find_18 : decode cX1_find 18 = .ok (.iconst 0, 1) := by decide +kernel
theorem dX1_find_19 : decode cX1_find 19 = .ok (.invokevirtual 28, 3) := by decide +kernel
theorem dX1_find_22 : decode cX1_find 22 = .ok (.iload_n 1, 1) := by decide +kernel
theorem dX1_find_23 : decode cX1_find 23 = .ok (.if_icmp .ne 14, 3) := by decide +kernel
theorem dX1_find_26 : decode cX1_find 26 = .ok (.aload_n 0, 1) := by decide +kernel
theorem dX1_find_27 : decode cX1_find 27 = .ok (.iload_n 3, 1) := by decide +kernel
theorem dX1_find_28 : decode cX1_find 28 = .ok (.invokevirtual 39, 3) := by decide +kernel
theorem dX1_find_31 : decode cX1_find 31 = .ok (.iload_n 2, 1) := by decide +kernel
theorem dX1_find_32 : decode cX1_find 32 = .ok (.if_icmp .ne 5, 3) := by decide +kernel
theorem dX1_find_35 : decode cX1_find 35 = .ok (.iload_n 3, 1) := by decide +kernel
theorem dX1_find_36 : decode cX1_find 36 = .ok (.ireturn, 1) := by decide +kernel
theorem dX1_find_37 : decode cX1_find 37 = .ok (.iinc 3 1, 3) := by decide +kernel
theorem dX1_find_40 : decode cX1_find 40 = .ok (.goto (-38), 3) := by decide +kernel
theorem dX1_find_43 : decode cX1_find 43 = .ok (.iconst (-1), 1) := by decide +kernel
theorem dX1_find_44 : decode cX1_find 44 = .ok (.ireturn, 1) := by decide +kernel
set_option maxRecDepth 20000 in
theorem ggX1_firstFor_X3_size : GoodIn wsX1_firstFor wsX3_size := goodIn_r _ [7, 8, 37, 38, 39, 40] (by decide +kernel) (by decide +kernel)
set_option maxRecDepth 20000 in
theorem gX1_firstFor_X3_size : GoodIn wsX1_firstFor (wsV RX1 24 RX3 yX3_size wsX3_size) := goodIn_app (goodIn_of _ (by decide +kernel)) ggX1_firstFor_X3_size
set_option maxRecDepth 20000 in
theorem ggX1_firstFor_X3_at : GoodIn wsX1_firstFor wsX3_at := goodIn_r _ [12, 13, 14, 15, 16, 17, 6, 18, 8, 37, 38, 39, 40] (by decide +kernel) (by decide +kernel)
set_option maxRecDepth 20000 in
theorem gX1_firstFor_X3_at : GoodIn wsX1_firstFor (wsV RX1 28 RX3 yX3_at wsX3_at) := goodIn_app (goodIn_of _ (by decide +kernel)) ggX1_firstFor_X3_at
set_option maxRecDepth 20000 in
theorem ggX1_firstFor_X1_spanNumberAt : GoodIn wsX1_firstFor wsX1_spanNumberAt := goodIn_r _ [23, 1, 9, 10, 11, 6, 12, 13, 14, 15, 16, 17, 18, 8, 35, 36, 37, 38, 39, 40] (by decide +kernel) (by decide +kernel)
set_option maxRecDepth 20000 in
theorem gX1_firstFor_X1_spanNumberAt : GoodIn wsX1_firstFor (wsV RX1 43 RX1 yX1_spanNumberAt wsX1_spanNumberAt) := goodIn_app (goodIn_of _ (by decide +kernel)) ggX1_firstFor_X1_spanNumberAt
set_option maxRecDepth 20000 in
theorem ggX1_firstFor_X1_ownerAt : GoodIn wsX1_firstFor wsX1_ownerAt := goodIn_r _ [27, 1, 9, 10, 11, 6, 12, 13, 14, 15, 16, 17, 18, 8, 35, 36, 37, 38, 39, 40] (by decide +kernel) (by decide +kernel)
set_option maxRecDepth 20000 in
theorem gX1_firstFor_X1_ownerAt : GoodIn wsX1_firstFor (wsV RX1 46 RX1 yX1_ownerAt wsX1_ownerAt) := goodIn_app (goodIn_of _ (by decide +kernel)) ggX1_firstFor_X1_ownerAt
set_option maxRecDepth 20000 in
theorem ggX1_firstFor_X2_headOf : GoodIn wsX1_firstFor wsX2_headOf := goodIn_r _ [32, 33, 34, 10, 11, 6, 12, 13, 14, 15, 16, 17, 18, 8, 41, 37, 38, 39, 40] (by decide +kernel) (by decide +kernel)
set_option maxRecDepth 20000 in
theorem gX1_firstFor_X2_headOf : GoodIn wsX1_firstFor (wsV RX1 49 RX2 yX2_headOf wsX2_headOf) := goodIn_app (goodIn_of _ (by decide +kernel)) ggX1_firstFor_X2_headOf
theorem dX1_firstFor_0 : decode cX1_firstFor 0 = .ok (.iconst 0, 1) := by decide +kernel
theorem dX1_firstFor_1 : decode cX1_firstFor 1 = .ok (.istore 4, 2) := by decide +kernel
theorem dX1_firstFor_3 : decode cX1_firstFor 3 = .ok (.iload 4, 2) := by decide +kernel
theorem dX1_firstFor_5 : decode cX1_firstFor 5 = .ok (.aload_n 0, 1) := by decide +kernel
theorem dX1_firstFor_6 : decode cX1_firstFor 6 = .ok (.getfield 16, 3) := by decide +kernel
theorem dX1_firstFor_9 : decode cX1_firstFor 9 = .ok (.invokevirtual 24, 3) := by decide +kernel
theorem dX1_firstFor_12 : decode cX1_firstFor 12 = .ok (.if_icmp .ge 65, 3) := by decide +kernel
theorem dX1_firstFor_15 : decode cX1_firstFor 15 = .ok (.aload_n 0, 1) := by decide +kernel
theorem dX1_firstFor_16 : decode cX1_firstFor 16 = .ok (.getfield 16, 3) := by decide +kernel
theorem dX1_firstFor_19 : decode cX1_firstFor 19 = .ok (.iload 4, 2) := by decide +kernel
theorem dX1_firstFor_21 : decode cX1_firstFor 21 = .ok (.iconst 0, 1) := by decide +kernel
theorem dX1_firstFor_22 : decode cX1_firstFor 22 = .ok (.invokevirtual 28, 3) := by decide +kernel
theorem dX1_firstFor_25 : decode cX1_firstFor 25 = .ok (.iload_n 1, 1) := by decide +kernel
theorem dX1_firstFor_26 : decode cX1_firstFor 26 = .ok (.if_icmp .ne 17, 3) := by decide +kernel
theorem dX1_firstFor_29 : decode cX1_firstFor 29 = .ok (.aload_n 0, 1) := by decide +kernel
theorem dX1_firstFor_30 : decode cX1_firstFor 30 = .ok (.iload 4, 2) := by decide +kernel
theorem dX1_firstFor_32 : decode cX1_firstFor 32 = .ok (.invokevirtual 43, 3) := by decide +kernel
theorem dX1_firstFor_35 : decode cX1_firstFor 35 = .ok (.iload_n 2, 1) := by decide +kernel
theorem dX1_firstFor_36 : decode cX1_firstFor 36 = .ok (.if_icmp .ne 7, 3) := by decide +kernel
theorem dX1_firstFor_39 : decode cX1_firstFor 39 = .ok (.iconst 1, 1) := by decide +kernel
theorem dX1_firstFor_40 : decode cX1_firstFor 40 = .ok (.goto 4, 3) := by decide +kernel
theorem dX1_firstFor_43 : decode cX1_firstFor 43 = .ok (.iconst 0, 1) := by decide +kernel
theorem dX1_firstFor_44 : decode cX1_firstFor 44 = .ok (.istore 5, 2) := by decide +kernel
theorem dX1_firstFor_46 : decode cX1_firstFor 46 = .ok (.iload 5, 2) := by decide +kernel
theorem dX1_firstFor_48 : decode cX1_firstFor 48 = .ok (.ifCond .eq 23, 3) := by decide +kernel
theorem dX1_firstFor_51 : decode cX1_firstFor 51 = .ok (.aload_n 0, 1) := by decide +kernel
theorem dX1_firstFor_52 : decode cX1_firstFor 52 = .ok (.getfield 20, 3) := by decide +kernel
theorem dX1_firstFor_55 : decode cX1_firstFor 55 = .ok (.aload_n 0, 1) := by decide +kernel
theorem dX1_firstFor_56 : decode cX1_firstFor 56 = .ok (.iload 4, 2) := by decide +kernel
theorem dX1_firstFor_58 : decode cX1_firstFor 58 = .ok (.invokevirtual 46, 3) := by decide +kernel
theorem dX1_firstFor_61 : decode cX1_firstFor 61 = .ok (.invokevirtual 49, 3) := by decide +kernel
theorem dX1_firstFor_64 : decode cX1_firstFor 64 = .ok (.iload_n 3, 1) := by decide +kernel
theorem dX1_firstFor_65 : decode cX1_firstFor 65 = .ok (.if_icmp .ne 6, 3) := by decide +kernel
theorem dX1_firstFor_68 : decode cX1_firstFor 68 = .ok (.iload 4, 2) := by decide +kernel
theorem dX1_firstFor_70 : decode cX1_firstFor 70 = .ok (.ireturn, 1) := by decide +kernel
theorem dX1_firstFor_71 : decode cX1_firstFor 71 = .ok (.iinc 4 1, 3) := by decide +kernel
theorem dX1_firstFor_74 : decode cX1_firstFor 74 = .ok (.goto (-71), 3) := by decide +kernel
theorem dX1_firstFor_77 : decode cX1_firstFor 77 = .ok (.iconst (-1), 1) := by decide +kernel
theorem dX1_firstFor_78 : decode cX1_firstFor 78 = .ok (.ireturn, 1) := by decide +kernel
set_option maxRecDepth 20000 in
theorem ggX1_leadsTo_X3_at : GoodIn wsX1_leadsTo wsX3_at := goodIn_r _ [7, 8, 9, 10, 11, 12, 6, 13, 14, 41, 42, 43, 44] (by decide +kernel) (by decide +kernel)
set_option maxRecDepth 20000 in
theorem gX1_leadsTo_X3_at : GoodIn wsX1_leadsTo (wsV RX1 28 RX3 yX3_at wsX3_at) := goodIn_app (goodIn_of _ (by decide +kernel)) ggX1_leadsTo_X3_at
set_option maxRecDepth 20000 in
theorem ggX1_leadsTo_X1_spanNumberAt : GoodIn wsX1_leadsTo wsX1_spanNumberAt := goodIn_r _ [19, 1, 3, 4, 5, 6, 7, 8, 9, 10, 11, 12, 13, 14, 39, 40, 41, 42, 43, 44] (by decide +kernel) (by decide +kernel)
set_option maxRecDepth 20000 in
theorem gX1_leadsTo_X1_spanNumberAt : GoodIn wsX1_leadsTo (wsV RX1 43 RX1 yX1_spanNumberAt wsX1_spanNumberAt) := goodIn_app (goodIn_of _ (by decide +kernel)) ggX1_leadsTo_X1_spanNumberAt
set_option maxRecDepth 20000 in
theorem ggX1_leadsTo_X1_ownerAt : GoodIn wsX1_leadsTo wsX1_ownerAt := goodIn_r _ [23, 1, 3, 4, 5, 6, 7, 8, 9, 10, 11, 12, 13, 14, 39, 40, 41, 42, 43, 44] (by decide +kernel) (by decide +kernel)
set_option maxRecDepth 20000 in
theorem gX1_leadsTo_X1_ownerAt : GoodIn wsX1_leadsTo (wsV RX1 46 RX1 yX1_ownerAt wsX1_ownerAt) := goodIn_app (goodIn_of _ (by decide +kernel)) ggX1_leadsTo_X1_ownerAt
set_option maxRecDepth 20000 in
theorem ggX1_leadsTo_X2_headOf : GoodIn wsX1_leadsTo wsX2_headOf := goodIn_r _ [28, 29, 30, 4, 5, 6, 7, 8, 9, 10, 11, 12, 13, 14, 45, 41, 42, 43, 44] (by decide +kernel) (by decide +kernel)
set_option maxRecDepth 20000 in
theorem gX1_leadsTo_X2_headOf : GoodIn wsX1_leadsTo (wsV RX1 49 RX2 yX2_headOf wsX2_headOf) := goodIn_app (goodIn_of _ (by decide +kernel)) ggX1_leadsTo_X2_headOf
set_option maxRecDepth 20000 in
theorem ggX1_leadsTo_X1_firstFor : GoodIn wsX1_leadsTo wsX1_firstFor := goodIn_r _ [34, 1, 2, 35, 36, 37, 6, 38, 14, 3, 4, 5, 7, 8, 9, 10, 11, 12, 13, 15, 16, 17, 18, 19, 20, 21, 22, 23, 24, 25, 26, 27, 28, 29, 30, 39, 40, 41, 42, 43, 44, 45] (by decide +kernel) (by decide +kernel)
set_option maxRecDepth 20000 in
theorem gX1_leadsTo_X1_firstFor : GoodIn wsX1_leadsTo (wsV RX1 54 RX1 yX1_firstFor wsX1_firstFor) := goodIn_app (goodIn_of _ (by decide +kernel)) ggX1_leadsTo_X1_firstFor
theorem dX1_leadsTo_0 : decode cX1_leadsTo 0 = .ok (.aload_n 0, 1) := by decide +kernel
theorem dX1_leadsTo_1 : decode cX1_leadsTo 1 = .ok (.aload_n 0, 1) := by decide +kernel
theorem dX1_leadsTo_2 : decode cX1_leadsTo 2 = .ok (.getfield 16, 3) := by decide +kernel
theorem dX1_leadsTo_5 : decode cX1_leadsTo 5 = .ok (.iload_n 1, 1) := by decide +kernel
theorem dX1_leadsTo_6 : decode cX1_leadsTo 6 = .ok (.iconst 0, 1) := by decide +kernel
theorem dX1_leadsTo_7 : decode cX1_leadsTo 7 = .ok (.invokevirtual 28, 3) := by decide +kernel
theorem dX1_leadsTo_10 : decode cX1_leadsTo 10 = .ok (.aload_n 0, 1) := by decide +kernel
theorem dX1_leadsTo_11 : decode cX1_leadsTo 11 = .ok (.iload_n 1, 1) := by decide +kernel
theorem dX1_leadsTo_12 : decode cX1_leadsTo 12 = .ok (.invokevirtual 43, 3) := by decide +kernel
theorem dX1_leadsTo_15 : decode cX1_leadsTo 15 = .ok (.aload_n 0, 1) := by decide +kernel
theorem dX1_leadsTo_16 : decode cX1_leadsTo 16 = .ok (.getfield 20, 3) := by decide +kernel
theorem dX1_leadsTo_19 : decode cX1_leadsTo 19 = .ok (.aload_n 0, 1) := by decide +kernel
theorem dX1_leadsTo_20 : decode cX1_leadsTo 20 = .ok (.iload_n 1, 1) := by decide +kernel
theorem dX1_leadsTo_21 : decode cX1_leadsTo 21 = .ok (.invokevirtual 46, 3) := by decide +kernel
theorem dX1_leadsTo_24 : decode cX1_leadsTo 24 = .ok (.invokevirtual 49, 3) := by decide +kernel
theorem dX1_leadsTo_27 : decode cX1_leadsTo 27 = .ok (.invokevirtual 54, 3) := by decide +kernel
theorem dX1_leadsTo_30 : decode cX1_leadsTo 30 = .ok (.ireturn, 1) := by decide +kernel
set_option maxRecDepth 20000 in
theorem ggX1_countGivenBy_X1_countWith : GoodIn wsX1_countGivenBy wsX1_countWith := goodIn_r _ [5, 6, 7, 8, 9, 10, 11, 12, 13, 14, 15, 16, 17, 18, 19, 20, 21, 22, 23, 24, 25, 26, 27, 28] (by decide +kernel) (by decide +kernel)
set_option maxRecDepth 20000 in
theorem gX1_countGivenBy_X1_countWith : GoodIn wsX1_countGivenBy (wsV RX1 58 RX1 yX1_countWith wsX1_countWith) := goodIn_app (goodIn_of _ (by decide +kernel)) ggX1_countGivenBy_X1_countWith
theorem dX1_countGivenBy_0 : decode cX1_countGivenBy 0 = .ok (.aload_n 0, 1) := by decide +kernel
theorem dX1_countGivenBy_1 : decode cX1_countGivenBy 1 = .ok (.iconst 0, 1) := by decide +kernel
theorem dX1_countGivenBy_2 : decode cX1_countGivenBy 2 = .ok (.iload_n 1, 1) := by decide +kernel
theorem dX1_countGivenBy_3 : decode cX1_countGivenBy 3 = .ok (.invokevirtual 58, 3) := by decide +kernel
theorem dX1_countGivenBy_6 : decode cX1_countGivenBy 6 = .ok (.ireturn, 1) := by decide +kernel
set_option maxRecDepth 20000 in
theorem ggX1_countOwnedBy_X1_countWith : GoodIn wsX1_countOwnedBy wsX1_countWith := goodIn_r _ [5, 6, 7, 8, 9, 10, 11, 12, 13, 14, 15, 16, 17, 18, 19, 20, 21, 22, 23, 24, 25, 26, 27, 28] (by decide +kernel) (by decide +kernel)
set_option maxRecDepth 20000 in
theorem gX1_countOwnedBy_X1_countWith : GoodIn wsX1_countOwnedBy (wsV RX1 58 RX1 yX1_countWith wsX1_countWith) := goodIn_app (goodIn_of _ (by decide +kernel)) ggX1_countOwnedBy_X1_countWith
theorem dX1_countOwnedBy_0 : decode cX1_countOwnedBy 0 = .ok (.aload_n 0, 1) := by decide +kernel
theorem dX1_countOwnedBy_1 : decode cX1_countOwnedBy 1 = .ok (.iconst 2, 1) := by decide +kernel
theorem dX1_countOwnedBy_2 : decode cX1_countOwnedBy 2 = .ok (.iload_n 1, 1) := by decide +kernel
theorem dX1_countOwnedBy_3 : decode cX1_countOwnedBy 3 = .ok (.invokevirtual 58, 3) := by decide +kernel
theorem dX1_countOwnedBy_6 : decode cX1_countOwnedBy 6 = .ok (.ireturn, 1) := by decide +kernel
set_option maxRecDepth 20000 in
theorem ggX1_knownTo_X3_size : GoodIn wsX1_knownTo wsX3_size := goodIn_r _ [7, 8, 37, 38, 39, 40] (by decide +kernel) (by decide +kernel)
set_option maxRecDepth 20000 in
theorem gX1_knownTo_X3_size : GoodIn wsX1_knownTo (wsV RX1 24 RX3 yX3_size wsX3_size) := goodIn_app (goodIn_of _ (by decide +kernel)) ggX1_knownTo_X3_size
set_option maxRecDepth 20000 in
theorem ggX1_knownTo_X1_ownerAt : GoodIn wsX1_knownTo wsX1_ownerAt := goodIn_r _ [13, 1, 14, 15, 16, 6, 17, 18, 19, 20, 21, 22, 23, 8, 35, 36, 37, 38, 39, 40] (by decide +kernel) (by decide +kernel)
set_option maxRecDepth 20000 in
theorem gX1_knownTo_X1_ownerAt : GoodIn wsX1_knownTo (wsV RX1 46 RX1 yX1_ownerAt wsX1_ownerAt) := goodIn_app (goodIn_of _ (by decide +kernel)) ggX1_knownTo_X1_ownerAt
set_option maxRecDepth 20000 in
theorem ggX1_knownTo_X2_headOf : GoodIn wsX1_knownTo wsX2_headOf := goodIn_r _ [28, 29, 30, 15, 16, 6, 17, 18, 19, 20, 21, 22, 23, 8, 41, 37, 38, 39, 40] (by decide +kernel) (by decide +kernel)
set_option maxRecDepth 20000 in
theorem gX1_knownTo_X2_headOf : GoodIn wsX1_knownTo (wsV RX1 49 RX2 yX2_headOf wsX2_headOf) := goodIn_app (goodIn_of _ (by decide +kernel)) ggX1_knownTo_X2_headOf
set_option maxRecDepth 20000 in
theorem ggX1_knownTo_X3_at : GoodIn wsX1_knownTo wsX3_at := goodIn_r _ [17, 18, 19, 20, 21, 22, 6, 23, 8, 37, 38, 39, 40] (by decide +kernel) (by decide +kernel)
set_option maxRecDepth 20000 in
theorem gX1_knownTo_X3_at : GoodIn wsX1_knownTo (wsV RX1 28 RX3 yX3_at wsX3_at) := goodIn_app (goodIn_of _ (by decide +kernel)) ggX1_knownTo_X3_at
set_option maxRecDepth 20000 in
theorem ggX1_knownTo_X2_isStruckOut : GoodIn wsX1_knownTo wsX2_isStruckOut := goodIn_r _ [34, 29, 30, 15, 16, 6, 17, 18, 19, 20, 21, 22, 23, 8, 41, 37, 38, 39, 40] (by decide +kernel) (by decide +kernel)
set_option maxRecDepth 20000 in
theorem gX1_knownTo_X2_isStruckOut : GoodIn wsX1_knownTo (wsV RX1 61 RX2 yX2_isStruckOut wsX2_isStruckOut) := goodIn_app (goodIn_of _ (by decide +kernel)) ggX1_knownTo_X2_isStruckOut
theorem dX1_knownTo_0 : decode cX1_knownTo 0 = .ok (.iconst 0, 1) := by decide +kernel
theorem dX1_knownTo_1 : decode cX1_knownTo 1 = .ok (.istore_n 2, 1) := by decide +kernel
theorem dX1_knownTo_2 : decode cX1_knownTo 2 = .ok (.iconst 0, 1) := by decide +kernel
theorem dX1_knownTo_3 : decode cX1_knownTo 3 = .ok (.istore_n 3, 1) := by decide +kernel
theorem dX1_knownTo_4 : decode cX1_knownTo 4 = .ok (.iload_n 3, 1) := by decide +kernel
theorem dX1_knownTo_5 : decode cX1_knownTo 5 = .ok (.aload_n 0, 1) := by decide +kernel
theorem dX1_knownTo_6 : decode cX1_knownTo 6 = .ok (.getfield 16, 3) := by decide +kernel
theorem dX1_knownTo_9 : decode cX1_knownTo 9 = .ok (.invokevirtual 24, 3) := by decide +kernel
theorem dX1_knownTo_12 : decode cX1_knownTo 12 = .ok (.if_icmp .ge 55, 3) := by decide +kernel
theorem dX1_knownTo_15 : decode cX1_knownTo 15 = .ok (.aload_n 0, 1) := by decide +kernel
theorem dX1_knownTo_16 : decode cX1_knownTo 16 = .ok (.getfield 20, 3) := by decide +kernel
theorem dX1_knownTo_19 : decode cX1_knownTo 19 = .ok (.aload_n 0, 1) := by decide +kernel
theorem dX1_knownTo_20 : decode cX1_knownTo 20 = .ok (.iload_n 3, 1) := by decide +kernel
theorem dX1_knownTo_21 : decode cX1_knownTo 21 = .ok (.invokevirtual 46, 3) := by decide +kernel
theorem dX1_knownTo_24 : decode cX1_knownTo 24 = .ok (.invokevirtual 49, 3) := by decide +kernel
theorem dX1_knownTo_27 : decode cX1_knownTo 27 = .ok (.istore 4, 2) := by decide +kernel
theorem dX1_knownTo_29 : decode cX1_knownTo 29 = .ok (.aload_n 0, 1) := by decide +kernel
theorem dX1_knownTo_30 : decode cX1_knownTo 30 = .ok (.getfield 16, 3) := by decide +kernel
theorem dX1_knownTo_33 : decode cX1_knownTo 33 = .ok (.iload_n 3, 1) := by decide +kernel
theorem dX1_knownTo_34 : decode cX1_knownTo 34 = .ok (.iconst 0, 1) := by decide +kernel
theorem dX1_knownTo_35 : decode cX1_knownTo 35 = .ok (.invokevirtual 28, 3) := by decide +kernel
theorem dX1_knownTo_38 : decode cX1_knownTo 38 = .ok (.iload_n 1, 1) := by decide +kernel
theorem dX1_knownTo_39 : decode cX1_knownTo 39 = .ok (.if_icmp .ne 22, 3) := by decide +kernel
theorem dX1_knownTo_42 : decode cX1_knownTo 42 = .ok (.aload_n 0, 1) := by decide +kernel
theorem dX1_knownTo_43 : decode cX1_knownTo 43 = .ok (.getfield 20, 3) := by decide +kernel
theorem dX1_knownTo_46 : decode cX1_knownTo 46 = .ok (.iload 4, 2) := by decide +kernel
theorem dX1_knownTo_48 : decode cX1_knownTo 48 = .ok (.invokevirtual 61, 3) := by decide +kernel
theorem dX1_knownTo_51 : decode cX1_knownTo 51 = .ok (.ifCond .ne 10, 3) := by decide +kernel
theorem dX1_knownTo_54 : decode cX1_knownTo 54 = .ok (.iload_n 2, 1) := by decide +kernel
theorem dX1_knownTo_55 : decode cX1_knownTo 55 = .ok (.iconst 1, 1) := by decide +kernel
theorem dX1_knownTo_56 : decode cX1_knownTo 56 = .ok (.iload 4, 2) := by decide +kernel
theorem dX1_knownTo_58 : decode cX1_knownTo 58 = .ok (.ishl, 1) := by decide +kernel
theorem dX1_knownTo_59 : decode cX1_knownTo 59 = .ok (.ior, 1) := by decide +kernel
theorem dX1_knownTo_60 : decode cX1_knownTo 60 = .ok (.istore_n 2, 1) := by decide +kernel
theorem dX1_knownTo_61 : decode cX1_knownTo 61 = .ok (.iinc 3 1, 3) := by decide +kernel
theorem dX1_knownTo_64 : decode cX1_knownTo 64 = .ok (.goto (-60), 3) := by decide +kernel
theorem dX1_knownTo_67 : decode cX1_knownTo 67 = .ok (.iload_n 2, 1) := by decide +kernel
theorem dX1_knownTo_68 : decode cX1_knownTo 68 = .ok (.ireturn, 1) := by decide +kernel
set_option maxRecDepth 20000 in
theorem ggX1_countWith_X3_size : GoodIn wsX1_countWith wsX3_size := goodIn_r _ [6, 7, 20, 21, 22, 23] (by decide +kernel) (by decide +kernel)
set_option maxRecDepth 20000 in
theorem gX1_countWith_X3_size : GoodIn wsX1_countWith (wsV RX1 24 RX3 yX3_size wsX3_size) := goodIn_app (goodIn_of _ (by decide +kernel)) ggX1_countWith_X3_size
set_option maxRecDepth 20000 in
theorem ggX1_countWith_X3_at : GoodIn wsX1_countWith wsX3_at := goodIn_r _ [11, 12, 13, 14, 15, 16, 5, 17, 7, 20, 21, 22, 23] (by decide +kernel) (by decide +kernel)
set_option maxRecDepth 20000 in
theorem gX1_countWith_X3_at : GoodIn wsX1_countWith (wsV RX1 28 RX3 yX3_at wsX3_at) := goodIn_app (goodIn_of _ (by decide +kernel)) ggX1_countWith_X3_at
theorem dX1_countWith_0 : decode cX1_countWith 0 = .ok (.iconst 0, 1) := by decide +kernel
theorem dX1_countWith_1 : decode cX1_countWith 1 = .ok (.istore_n 3, 1) := by decide +kernel
theorem dX1_countWith_2 : decode cX1_countWith 2 = .ok (.iconst 0, 1) := by decide +kernel
theorem dX1_countWith_3 : decode cX1_countWith 3 = .ok (.istore 4, 2) := by decide +kernel
theorem dX1_countWith_5 : decode cX1_countWith 5 = .ok (.iload 4, 2) := by decide +kernel
theorem dX1_countWith_7 : decode cX1_countWith 7 = .ok (.aload_n 0, 1) := by decide +kernel
theorem dX1_countWith_8 : decode cX1_countWith 8 = .ok (.getfield 16, 3) := by decide +kernel
theorem dX1_countWith_11 : decode cX1_countWith 11 = .ok (.invokevirtual 24, 3) := by decide +kernel
theorem dX1_countWith_14 : decode cX1_countWith 14 = .ok (.if_icmp .ge 26, 3) := by decide +kernel
theorem dX1_countWith_17 : decode cX1_countWith 17 = .ok (.aload_n 0, 1) := by decide +kernel
theorem dX1_countWith_18 : decode cX1_countWith 18 = .ok (.getfield 16, 3) := by decide +kernel
theorem dX1_countWith_21 : decode cX1_countWith 21 = .ok (.iload 4, 2) := by decide +kernel
theorem dX1_countWith_23 : decode cX1_countWith 23 = .ok (.iload_n 1, 1) := by decide +kernel
theorem dX1_countWith_24 : decode cX1_countWith 24 = .ok (.invokevirtual 28, 3) := by decide +kernel
theorem dX1_countWith_27 : decode cX1_countWith 27 = .ok (.iload_n 2, 1) := by decide +kernel
theorem dX1_countWith_28 : decode cX1_countWith 28 = .ok (.if_icmp .ne 6, 3) := by decide +kernel
theorem dX1_countWith_31 : decode cX1_countWith 31 = .ok (.iinc 3 1, 3) := by decide +kernel
theorem dX1_countWith_34 : decode cX1_countWith 34 = .ok (.iinc 4 1, 3) := by decide +kernel
theorem dX1_countWith_37 : decode cX1_countWith 37 = .ok (.goto (-32), 3) := by decide +kernel
theorem dX1_countWith_40 : decode cX1_countWith 40 = .ok (.iload_n 3, 1) := by decide +kernel
theorem dX1_countWith_41 : decode cX1_countWith 41 = .ok (.ireturn, 1) := by decide +kernel
set_option maxRecDepth 20000 in
theorem ggX2_init_X3_init : GoodIn wsX2_init wsX3_init := goodIn_r _ [10, 11, 2, 3, 12, 13, 14, 15, 16, 17, 18, 19, 20, 21, 22, 23, 24] (by decide +kernel) (by decide +kernel)
set_option maxRecDepth 20000 in
theorem gX2_init_X3_init : GoodIn wsX2_init (wsX3_init) := ggX2_init_X3_init
theorem dX2_init_0 : decode cX2_init 0 = .ok (.aload_n 0, 1) := by decide +kernel
theorem dX2_init_1 : decode cX2_init 1 = .ok (.invokespecial 3, 3) := by decide +kernel
theorem dX2_init_4 : decode cX2_init 4 = .ok (.aload_n 0, 1) := by decide +kernel
theorem dX2_init_5 : decode cX2_init 5 = .ok (.new 9, 3) := by decide +kernel
theorem dX2_init_8 : decode cX2_init 8 = .ok (.dup, 1) := by decide +kernel
theorem dX2_init_9 : decode cX2_init 9 = .ok (.bipush 24, 2) := by decide +kernel
theorem dX2_init_11 : decode cX2_init 11 = .ok (.bipush 6, 2) := by decide +kernel
theorem dX2_init_13 : decode cX2_init 13 = .ok (.invokespecial 13, 3) := by decide +kernel
theorem dX2_init_16 : decode cX2_init 16 = .ok (.putfield 16, 3) := by decide +kernel
theorem dX2_init_19 : decode cX2_init 19 = .ok (.return_, 1) := by decide +kernel
theorem dX2_isMark_0 : decode cX2_isMark 0 = .ok (.iload_n 0, 1) := by decide +kernel
theorem dX2_isMark_1 : decode cX2_isMark 1 = .ok (.ifCond .lt 12, 3) := by decide +kernel
theorem dX2_isMark_4 : decode cX2_isMark 4 = .ok (.iload_n 0, 1) := by decide +kernel
theorem dX2_isMark_5 : decode cX2_isMark 5 = .ok (.iconst 4, 1) := by decide +kernel
theorem dX2_isMark_6 : decode cX2_isMark 6 = .ok (.if_icmp .ge 7, 3) := by decide +kernel
theorem dX2_isMark_9 : decode cX2_isMark 9 = .ok (.iconst 1, 1) := by decide +kernel
theorem dX2_isMark_10 : decode cX2_isMark 10 = .ok (.goto 4, 3) := by decide +kernel
theorem dX2_isMark_13 : decode cX2_isMark 13 = .ok (.iconst 0, 1) := by decide +kernel
theorem dX2_isMark_14 : decode cX2_isMark 14 = .ok (.ireturn, 1) := by decide +kernel
theorem dX2_isMarkNumber_0 : decode cX2_isMarkNumber 0 = .ok (.iload_n 0, 1) := by decide +kernel
theorem dX2_isMarkNumber_1 : decode cX2_isMarkNumber 1 = .ok (.ifCond .lt 13, 3) := by decide +kernel
theorem dX2_isMarkNumber_4 : decode cX2_isMarkNumber 4 = .ok (.iload_n 0, 1) := by decide +kernel
theorem dX2_isMarkNumber_5 : decode cX2_isMarkNumber 5 = .ok (.bipush 7, 2) := by decide +kernel
theorem dX2_isMarkNumber_7 : decode cX2_isMarkNumber 7 = .ok (.if_icmp .gt 7, 3) := by decide +kernel
theorem dX2_isMarkNumber_10 : decode cX2_isMarkNumber 10 = .ok (.iconst 1, 1) := by decide +kernel
theorem dX2_isMarkNumber_11 : decode cX2_isMarkNumber 11 = .ok (.goto 4, 3) := by decide +kernel
theorem dX2_isMarkNumber_14 : decode cX2_isMarkNumber 14 = .ok (.iconst 0, 1) := by decide +kernel
theorem dX2_isMarkNumber_15 : decode cX2_isMarkNumber 15 = .ok (.ireturn, 1) := by decide +kernel
set_option maxRecDepth 20000 in
theorem ggX2_size_X3_size : GoodIn wsX2_size wsX3_size := goodIn_r _ [6, 7, 9, 10, 11, 12] (by decide +kernel) (by decide +kernel)
set_option maxRecDepth 20000 in
theorem gX2_size_X3_size : GoodIn wsX2_size (wsV RX2 20 RX3 yX3_size wsX3_size) := goodIn_app (goodIn_of _ (by decide +kernel)) ggX2_size_X3_size
theorem dX2_size_0 : decode cX2_size 0 = .ok (.aload_n 0, 1) := by decide +kernel
theorem dX2_size_1 : decode cX2_size 1 = .ok (.getfield 16, 3) := by decide +kernel
theorem dX2_size_4 : decode cX2_size 4 = .ok (.invokevirtual 20, 3) := by decide +kernel
theorem dX2_size_7 : decode cX2_size 7 = .ok (.ireturn, 1) := by decide +kernel
set_option maxRecDepth 20000 in
theorem ggX2_isThere_X3_isThere : GoodIn wsX2_isThere wsX3_isThere := goodIn_r _ [6, 7, 9, 10, 11, 12] (by decide +kernel) (by decide +kernel)
set_option maxRecDepth 20000 in
theorem gX2_isThere_X3_isThere : GoodIn wsX2_isThere (wsV RX2 24 RX3 yX3_isThere wsX3_isThere) := goodIn_app (goodIn_of _ (by decide +kernel)) ggX2_isThere_X3_isThere
theorem dX2_isThere_0 : decode cX2_isThere 0 = .ok (.aload_n 0, 1) := by decide +kernel
theorem dX2_isThere_1 : decode cX2_isThere 1 = .ok (.getfield 16, 3) := by decide +kernel
theorem dX2_isThere_4 : decode cX2_isThere 4 = .ok (.iload_n 1, 1) := by decide +kernel
theorem dX2_isThere_5 : decode cX2_isThere 5 = .ok (.invokevirtual 24, 3) := by decide +kernel
theorem dX2_isThere_8 : decode cX2_isThere 8 = .ok (.ireturn, 1) := by decide +kernel
set_option maxRecDepth 20000 in
theorem ggX2_add_X2_isMarkNumber : GoodIn wsX2_add wsX2_isMarkNumber := goodIn_r _ [5] (by decide +kernel) (by decide +kernel)
set_option maxRecDepth 20000 in
theorem gX2_add_X2_isMarkNumber : GoodIn wsX2_add (va_wsS RX2 28 yX2_isMarkNumber wsX2_isMarkNumber) := goodIn_app (goodIn_of _ (by decide +kernel)) ggX2_add_X2_isMarkNumber
set_option maxRecDepth 20000 in
theorem ggX2_add_X3_addRow : GoodIn wsX2_add wsX3_addRow := goodIn_r _ [10, 11, 12, 13, 14, 9, 15, 16, 28, 29, 30, 31] (by decide +kernel) (by decide +kernel)
set_option maxRecDepth 20000 in
theorem gX2_add_X3_addRow : GoodIn wsX2_add (wsV RX2 31 RX3 yX3_addRow wsX3_addRow) := goodIn_app (goodIn_of _ (by decide +kernel)) ggX2_add_X3_addRow
set_option maxRecDepth 20000 in
theorem ggX2_add_X3_put : GoodIn wsX2_add wsX3_put := goodIn_r _ [20, 21, 22, 23, 24, 25, 9, 26, 11, 28, 29, 30, 31] (by decide +kernel) (by decide +kernel)
set_option maxRecDepth 20000 in
theorem gX2_add_X3_put : GoodIn wsX2_add (wsV RX2 34 RX3 yX3_put wsX3_put) := goodIn_app (goodIn_of _ (by decide +kernel)) ggX2_add_X3_put
theorem dX2_add_0 : decode cX2_add 0 = .ok (.iload_n 1, 1) := by decide +kernel
theorem dX2_add_1 : decode cX2_add 1 = .ok (.invokestatic 28, 3) := by decide +kernel
theorem dX2_add_4 : decode cX2_add 4 = .ok (.ifCond .eq 25, 3) := by decide +kernel
theorem dX2_add_7 : decode cX2_add 7 = .ok (.iload_n 2, 1) := by decide +kernel
theorem dX2_add_8 : decode cX2_add 8 = .ok (.invokestatic 28, 3) := by decide +kernel
theorem dX2_add_11 : decode cX2_add 11 = .ok (.ifCond .eq 18, 3) := by decide +kernel
theorem dX2_add_14 : decode cX2_add 14 = .ok (.iload_n 3, 1) := by decide +kernel
theorem dX2_add_15 : decode cX2_add 15 = .ok (.invokestatic 28, 3) := by decide +kernel
theorem dX2_add_18 : decode cX2_add 18 = .ok (.ifCond .eq 11, 3) := by decide +kernel
theorem dX2_add_21 : decode cX2_add 21 = .ok (.iload 4, 2) := by decide +kernel
theorem dX2_add_23 : decode cX2_add 23 = .ok (.invokestatic 28, 3) := by decide +kernel
theorem dX2_add_26 : decode cX2_add 26 = .ok (.ifCond .ne 5, 3) := by decide +kernel
theorem dX2_add_29 : decode cX2_add 29 = .ok (.iconst (-1), 1) := by decide +kernel
theorem dX2_add_30 : decode cX2_add 30 = .ok (.ireturn, 1) := by decide +kernel
theorem dX2_add_31 : decode cX2_add 31 = .ok (.aload_n 0, 1) := by decide +kernel
theorem dX2_add_32 : decode cX2_add 32 = .ok (.getfield 16, 3) := by decide +kernel
theorem dX2_add_35 : decode cX2_add 35 = .ok (.invokevirtual 31, 3) := by decide +kernel
theorem dX2_add_38 : decode cX2_add 38 = .ok (.istore 5, 2) := by decide +kernel
theorem dX2_add_40 : decode cX2_add 40 = .ok (.aload_n 0, 1) := by decide +kernel
theorem dX2_add_41 : decode cX2_add 41 = .ok (.getfield 16, 3) := by decide +kernel
theorem dX2_add_44 : decode cX2_add 44 = .ok (.iload 5, 2) := by decide +kernel
theorem dX2_add_46 : decode cX2_add 46 = .ok (.iconst 0, 1) := by decide +kernel
theorem dX2_add_47 : decode cX2_add 47 = .ok (.iload_n 1, 1) := by decide +kernel
theorem dX2_add_48 : decode cX2_add 48 = .ok (.invokevirtual 34, 3) := by decide +kernel
theorem dX2_add_51 : decode cX2_add 51 = .ok (.aload_n 0, 1) := by decide +kernel
theorem dX2_add_52 : decode cX2_add 52 = .ok (.getfield 16, 3) := by decide +kernel
theorem dX2_add_55 : decode cX2_add 55 = .ok (.iload 5, 2) := by decide +kernel
theorem dX2_add_57 : decode cX2_add 57 = .ok (.iconst 1, 1) := by decide +kernel
theorem dX2_add_58 : decode cX2_add 58 = .ok (.iload_n 2, 1) := by decide +kernel
theorem dX2_add_59 : decode cX2_add 59 = .ok (.invokevirtual 34, 3) := by decide +kernel
theorem dX2_add_62 : decode cX2_add 62 = .ok (.aload_n 0, 1) := by decide +kernel
theorem dX2_add_63 : decode cX2_add 63 = .ok (.getfield 16, 3) := by decide +kernel
theorem dX2_add_66 : decode cX2_add 66 = .ok (.iload 5, 2) := by decide +kernel
theorem dX2_add_68 : decode cX2_add 68 = .ok (.iconst 2, 1) := by decide +kernel
theorem dX2_add_69 : decode cX2_add 69 = .ok (.iload_n 3, 1) := by decide +kernel
theorem dX2_add_70 : decode cX2_add 70 = .ok (.invokevirtual 34, 3) := by decide +kernel
theorem dX2_add_73 : decode cX2_add 73 = .ok (.aload_n 0, 1) := by decide +kernel
theorem dX2_add_74 : decode cX2_add 74 = .ok (.getfield 16, 3) := by decide +kernel
theorem dX2_add_77 : decode cX2_add 77 = .ok (.iload 5, 2) := by decide +kernel
theorem dX2_add_79 : decode cX2_add 79 = .ok (.iconst 3, 1) := by decide +kernel
theorem dX2_add_80 : decode cX2_add 80 = .ok (.iload 4, 2) := by decide +kernel
theorem dX2_add_82 : decode cX2_add 82 = .ok (.invokevirtual 34, 3) := by decide +kernel
theorem dX2_add_85 : decode cX2_add 85 = .ok (.aload_n 0, 1) := by decide +kernel
theorem dX2_add_86 : decode cX2_add 86 = .ok (.getfield 16, 3) := by decide +kernel
theorem dX2_add_89 : decode cX2_add 89 = .ok (.iload 5, 2) := by decide +kernel
theorem dX2_add_91 : decode cX2_add 91 = .ok (.iconst 4, 1) := by decide +kernel
theorem dX2_add_92 : decode cX2_add 92 = .ok (.iconst (-1), 1) := by decide +kernel
theorem dX2_add_93 : decode cX2_add 93 = .ok (.invokevirtual 34, 3) := by decide +kernel
theorem dX2_add_96 : decode cX2_add 96 = .ok (.aload_n 0, 1) := by decide +kernel
theorem dX2_add_97 : decode cX2_add 97 = .ok (.getfield 16, 3) := by decide +kernel
theorem dX2_add_100 : decode cX2_add 100 = .ok (.iload 5, 2) := by decide +kernel
theorem dX2_add_102 : decode cX2_add 102 = .ok (.iconst 5, 1) := by decide +kernel
theorem dX2_add_103 : decode cX2_add 103 = .ok (.iconst 0, 1) := by decide +kernel
theorem dX2_add_104 : decode cX2_add 104 = .ok (.invokevirtual 34, 3) := by decide +kernel
theorem dX2_add_107 : decode cX2_add 107 = .ok (.iload 5, 2) := by decide +kernel
theorem dX2_add_109 : decode cX2_add 109 = .ok (.ireturn, 1) := by decide +kernel
set_option maxRecDepth 20000 in
theorem ggX2_setMark_X2_isThere : GoodIn wsX2_setMark wsX2_isThere := goodIn_r _ [6, 1, 7, 8, 9, 10, 11, 12, 29, 30, 31, 32, 33] (by decide +kernel) (by decide +kernel)
set_option maxRecDepth 20000 in
theorem gX2_setMark_X2_isThere : GoodIn wsX2_setMark (wsV RX2 38 RX2 yX2_isThere wsX2_isThere) := goodIn_app (goodIn_of _ (by decide +kernel)) ggX2_setMark_X2_isThere
set_option maxRecDepth 20000 in
theorem ggX2_setMark_X2_isMark : GoodIn wsX2_setMark wsX2_isMark := goodIn_r _ [15] (by decide +kernel) (by decide +kernel)
set_option maxRecDepth 20000 in
theorem gX2_setMark_X2_isMark : GoodIn wsX2_setMark (va_wsS RX2 39 yX2_isMark wsX2_isMark) := goodIn_app (goodIn_of _ (by decide +kernel)) ggX2_setMark_X2_isMark
set_option maxRecDepth 20000 in
theorem ggX2_setMark_X2_isMarkNumber : GoodIn wsX2_setMark wsX2_isMarkNumber := goodIn_r _ [18] (by decide +kernel) (by decide +kernel)
set_option maxRecDepth 20000 in
theorem gX2_setMark_X2_isMarkNumber : GoodIn wsX2_setMark (va_wsS RX2 28 yX2_isMarkNumber wsX2_isMarkNumber) := goodIn_app (goodIn_of _ (by decide +kernel)) ggX2_setMark_X2_isMarkNumber
set_option maxRecDepth 20000 in
theorem ggX2_setMark_X3_put : GoodIn wsX2_setMark wsX3_put := goodIn_r _ [22, 23, 24, 25, 26, 27, 10, 28, 12, 30, 31, 32, 33] (by decide +kernel) (by decide +kernel)
set_option maxRecDepth 20000 in
theorem gX2_setMark_X3_put : GoodIn wsX2_setMark (wsV RX2 34 RX3 yX3_put wsX3_put) := goodIn_app (goodIn_of _ (by decide +kernel)) ggX2_setMark_X3_put
theorem dX2_setMark_0 : decode cX2_setMark 0 = .ok (.aload_n 0, 1) := by decide +kernel
theorem dX2_setMark_1 : decode cX2_setMark 1 = .ok (.iload_n 1, 1) := by decide +kernel
theorem dX2_setMark_2 : decode cX2_setMark 2 = .ok (.invokevirtual 38, 3) := by decide +kernel
theorem dX2_setMark_5 : decode cX2_setMark 5 = .ok (.ifCond .eq 17, 3) := by decide +kernel
theorem dX2_setMark_8 : decode cX2_setMark 8 = .ok (.iload_n 2, 1) := by decide +kernel
theorem dX2_setMark_9 : decode cX2_setMark 9 = .ok (.invokestatic 39, 3) := by decide +kernel
theorem dX2_setMark_12 : decode cX2_setMark 12 = .ok (.ifCond .eq 10, 3) := by decide +kernel
theorem dX2_setMark_15 : decode cX2_setMark 15 = .ok (.iload_n 3, 1) := by decide +kernel
theorem dX2_setMark_16 : decode cX2_setMark 16 = .ok (.invokestatic 28, 3) := by decide +kernel
theorem dX2_setMark_19 : decode cX2_setMark 19 = .ok (.ifCond .ne 5, 3) := by decide +kernel
theorem dX2_setMark_22 : decode cX2_setMark 22 = .ok (.iconst 0, 1) := by decide +kernel
theorem dX2_setMark_23 : decode cX2_setMark 23 = .ok (.ireturn, 1) := by decide +kernel
theorem dX2_setMark_24 : decode cX2_setMark 24 = .ok (.aload_n 0, 1) := by decide +kernel
theorem dX2_setMark_25 : decode cX2_setMark 25 = .ok (.getfield 16, 3) := by decide +kernel
theorem dX2_setMark_28 : decode cX2_setMark 28 = .ok (.iload_n 1, 1) := by decide +kernel
theorem dX2_setMark_29 : decode cX2_setMark 29 = .ok (.iload_n 2, 1) := by decide +kernel
theorem dX2_setMark_30 : decode cX2_setMark 30 = .ok (.iload_n 3, 1) := by decide +kernel
theorem dX2_setMark_31 : decode cX2_setMark 31 = .ok (.invokevirtual 34, 3) := by decide +kernel
theorem dX2_setMark_34 : decode cX2_setMark 34 = .ok (.iconst 1, 1) := by decide +kernel
theorem dX2_setMark_35 : decode cX2_setMark 35 = .ok (.ireturn, 1) := by decide +kernel
set_option maxRecDepth 20000 in
theorem ggX2_markOf_X2_isMark : GoodIn wsX2_markOf wsX2_isMark := goodIn_r _ [5] (by decide +kernel) (by decide +kernel)
set_option maxRecDepth 20000 in
theorem gX2_markOf_X2_isMark : GoodIn wsX2_markOf (va_wsS RX2 39 yX2_isMark wsX2_isMark) := goodIn_app (goodIn_of _ (by decide +kernel)) ggX2_markOf_X2_isMark
set_option maxRecDepth 20000 in
theorem ggX2_markOf_X3_at : GoodIn wsX2_markOf wsX3_at := goodIn_r _ [10, 11, 12, 13, 14, 15, 9, 16, 17, 19, 20, 21, 22] (by decide +kernel) (by decide +kernel)
set_option maxRecDepth 20000 in
theorem gX2_markOf_X3_at : GoodIn wsX2_markOf (wsV RX2 42 RX3 yX3_at wsX3_at) := goodIn_app (goodIn_of _ (by decide +kernel)) ggX2_markOf_X3_at
theorem dX2_markOf_0 : decode cX2_markOf 0 = .ok (.iload_n 2, 1) := by decide +kernel
theorem dX2_markOf_1 : decode cX2_markOf 1 = .ok (.invokestatic 39, 3) := by decide +kernel
theorem dX2_markOf_4 : decode cX2_markOf 4 = .ok (.ifCond .eq 15, 3) := by decide +kernel
theorem dX2_markOf_7 : decode cX2_markOf 7 = .ok (.aload_n 0, 1) := by decide +kernel
theorem dX2_markOf_8 : decode cX2_markOf 8 = .ok (.getfield 16, 3) := by decide +kernel
theorem dX2_markOf_11 : decode cX2_markOf 11 = .ok (.iload_n 1, 1) := by decide +kernel
theorem dX2_markOf_12 : decode cX2_markOf 12 = .ok (.iload_n 2, 1) := by decide +kernel
theorem dX2_markOf_13 : decode cX2_markOf 13 = .ok (.invokevirtual 42, 3) := by decide +kernel
theorem dX2_markOf_16 : decode cX2_markOf 16 = .ok (.goto 4, 3) := by decide +kernel
theorem dX2_markOf_19 : decode cX2_markOf 19 = .ok (.iconst (-1), 1) := by decide +kernel
theorem dX2_markOf_20 : decode cX2_markOf 20 = .ok (.ireturn, 1) := by decide +kernel
set_option maxRecDepth 20000 in
theorem ggX2_holderOf_X3_at : GoodIn wsX2_holderOf wsX3_at := goodIn_r _ [6, 7, 8, 9, 10, 11, 5, 12, 13, 15, 16, 17, 18] (by decide +kernel) (by decide +kernel)
set_option maxRecDepth 20000 in
theorem gX2_holderOf_X3_at : GoodIn wsX2_holderOf (wsV RX2 42 RX3 yX3_at wsX3_at) := goodIn_app (goodIn_of _ (by decide +kernel)) ggX2_holderOf_X3_at
theorem dX2_holderOf_0 : decode cX2_holderOf 0 = .ok (.aload_n 0, 1) := by decide +kernel
theorem dX2_holderOf_1 : decode cX2_holderOf 1 = .ok (.getfield 16, 3) := by decide +kernel
theorem dX2_holderOf_4 : decode cX2_holderOf 4 = .ok (.iload_n 1, 1) := by decide +kernel
theorem dX2_holderOf_5 : decode cX2_holderOf 5 = .ok (.iconst 4, 1) := by decide +kernel
theorem dX2_holderOf_6 : decode cX2_holderOf 6 = .ok (.invokevirtual 42, 3) := by decide +kernel
theorem dX2_holderOf_9 : decode cX2_holderOf 9 = .ok (.ireturn, 1) := by decide +kernel
set_option maxRecDepth 20000 in
theorem ggX2_headOf_X3_at : GoodIn wsX2_headOf wsX3_at := goodIn_r _ [6, 7, 8, 9, 10, 11, 5, 12, 13, 15, 16, 17, 18] (by decide +kernel) (by decide +kernel)
set_option maxRecDepth 20000 in
theorem gX2_headOf_X3_at : GoodIn wsX2_headOf (wsV RX2 42 RX3 yX3_at wsX3_at) := goodIn_app (goodIn_of _ (by decide +kernel)) ggX2_headOf_X3_at
theorem dX2_headOf_0 : decode cX2_headOf 0 = .ok (.iload_n 1, 1) := by decide +kernel
theorem dX2_headOf_1 : decode cX2_headOf 1 = .ok (.istore_n 2, 1) := by decide +kernel
theorem dX2_headOf_2 : decode cX2_headOf 2 = .ok (.iconst 0, 1) := by decide +kernel
theorem dX2_headOf_3 : decode cX2_headOf 3 = .ok (.istore_n 3, 1) := by decide +kernel
theorem dX2_headOf_4 : decode cX2_headOf 4 = .ok (.iload_n 3, 1) := by decide +kernel
theorem dX2_headOf_5 : decode cX2_headOf 5 = .ok (.bipush 24, 2) := by decide +kernel
theorem dX2_headOf_7 : decode cX2_headOf 7 = .ok (.if_icmp .ge 32, 3) := by decide +kernel
theorem dX2_headOf_10 : decode cX2_headOf 10 = .ok (.aload_n 0, 1) := by decide +kernel
theorem dX2_headOf_11 : decode cX2_headOf 11 = .ok (.getfield 16, 3) := by decide +kernel
theorem dX2_headOf_14 : decode cX2_headOf 14 = .ok (.iload_n 2, 1) := by decide +kernel
theorem dX2_headOf_15 : decode cX2_headOf 15 = .ok (.iconst 4, 1) := by decide +kernel
theorem dX2_headOf_16 : decode cX2_headOf 16 = .ok (.invokevirtual 42, 3) := by decide +kernel
theorem dX2_headOf_19 : decode cX2_headOf 19 = .ok (.iconst (-1), 1) := by decide +kernel
theorem dX2_headOf_20 : decode cX2_headOf 20 = .ok (.if_icmp .eq 19, 3) := by decide +kernel
theorem dX2_headOf_23 : decode cX2_headOf 23 = .ok (.aload_n 0, 1) := by decide +kernel
theorem dX2_headOf_24 : decode cX2_headOf 24 = .ok (.getfield 16, 3) := by decide +kernel
theorem dX2_headOf_27 : decode cX2_headOf 27 = .ok (.iload_n 2, 1) := by decide +kernel
theorem dX2_headOf_28 : decode cX2_headOf 28 = .ok (.iconst 4, 1) := by decide +kernel
theorem dX2_headOf_29 : decode cX2_headOf 29 = .ok (.invokevirtual 42, 3) := by decide +kernel
theorem dX2_headOf_32 : decode cX2_headOf 32 = .ok (.istore_n 2, 1) := by decide +kernel
theorem dX2_headOf_33 : decode cX2_headOf 33 = .ok (.iinc 3 1, 3) := by decide +kernel
theorem dX2_headOf_36 : decode cX2_headOf 36 = .ok (.goto (-32), 3) := by decide +kernel
theorem dX2_headOf_39 : decode cX2_headOf 39 = .ok (.iload_n 2, 1) := by decide +kernel
theorem dX2_headOf_40 : decode cX2_headOf 40 = .ok (.ireturn, 1) := by decide +kernel
set_option maxRecDepth 20000 in
theorem ggX2_isStruckOut_X3_at : GoodIn wsX2_isStruckOut wsX3_at := goodIn_r _ [6, 7, 8, 9, 10, 11, 5, 12, 13, 15, 16, 17, 18] (by decide +kernel) (by decide +kernel)
set_option maxRecDepth 20000 in
theorem gX2_isStruckOut_X3_at : GoodIn wsX2_isStruckOut (wsV RX2 42 RX3 yX3_at wsX3_at) := goodIn_app (goodIn_of _ (by decide +kernel)) ggX2_isStruckOut_X3_at
theorem dX2_isStruckOut_0 : decode cX2_isStruckOut 0 = .ok (.aload_n 0, 1) := by decide +kernel
theorem dX2_isStruckOut_1 : decode cX2_isStruckOut 1 = .ok (.getfield 16, 3) := by decide +kernel
theorem dX2_isStruckOut_4 : decode cX2_isStruckOut 4 = .ok (.iload_n 1, 1) := by decide +kernel
theorem dX2_isStruckOut_5 : decode cX2_isStruckOut 5 = .ok (.iconst 5, 1) := by decide +kernel
theorem dX2_isStruckOut_6 : decode cX2_isStruckOut 6 = .ok (.invokevirtual 42, 3) := by decide +kernel
theorem dX2_isStruckOut_9 : decode cX2_isStruckOut 9 = .ok (.iconst 1, 1) := by decide +kernel
theorem dX2_isStruckOut_10 : decode cX2_isStruckOut 10 = .ok (.if_icmp .ne 7, 3) := by decide +kernel
theorem dX2_isStruckOut_13 : decode cX2_isStruckOut 13 = .ok (.iconst 1, 1) := by decide +kernel
theorem dX2_isStruckOut_14 : decode cX2_isStruckOut 14 = .ok (.goto 4, 3) := by decide +kernel
theorem dX2_isStruckOut_17 : decode cX2_isStruckOut 17 = .ok (.iconst 0, 1) := by decide +kernel
theorem dX2_isStruckOut_18 : decode cX2_isStruckOut 18 = .ok (.ireturn, 1) := by decide +kernel
set_option maxRecDepth 20000 in
theorem ggX2_join_X2_isHead : GoodIn wsX2_join wsX2_isHead := goodIn_r _ [6, 7, 8, 9, 5, 10, 1, 11, 12, 13, 14, 15, 16, 17, 18, 19, 20, 21, 22, 23, 24, 25, 26, 27, 28, 29, 30, 47, 48, 49, 50, 51] (by decide +kernel) (by decide +kernel)
set_option maxRecDepth 20000 in
theorem gX2_join_X2_isHead : GoodIn wsX2_join (wsV RX2 46 RX2 yX2_isHead wsX2_isHead) := goodIn_app (goodIn_of _ (by decide +kernel)) ggX2_join_X2_isHead
set_option maxRecDepth 20000 in
theorem ggX2_join_X3_put : GoodIn wsX2_join wsX3_put := goodIn_r _ [34, 25, 26, 27, 28, 29, 14, 30, 16, 48, 49, 50, 51] (by decide +kernel) (by decide +kernel)
set_option maxRecDepth 20000 in
theorem gX2_join_X3_put : GoodIn wsX2_join (wsV RX2 34 RX3 yX3_put wsX3_put) := goodIn_app (goodIn_of _ (by decide +kernel)) ggX2_join_X3_put
set_option maxRecDepth 20000 in
theorem ggX2_join_X2_isStruckOut : GoodIn wsX2_join wsX2_isStruckOut := goodIn_r _ [38, 1, 21, 22, 23, 14, 24, 25, 26, 27, 28, 29, 30, 16, 47, 48, 49, 50, 51] (by decide +kernel) (by decide +kernel)
set_option maxRecDepth 20000 in
theorem gX2_join_X2_isStruckOut : GoodIn wsX2_join (wsV RX2 49 RX2 yX2_isStruckOut wsX2_isStruckOut) := goodIn_app (goodIn_of _ (by decide +kernel)) ggX2_join_X2_isStruckOut
set_option maxRecDepth 20000 in
theorem ggX2_join_X2_strikeOutAllUnder : GoodIn wsX2_join wsX2_strikeOutAllUnder := goodIn_r _ [42, 1, 7, 8, 9, 5, 10, 11, 12, 13, 14, 15, 16, 43, 44, 45, 46, 21, 22, 23, 24, 25, 26, 27, 28, 29, 30, 31, 32, 33, 34, 47, 48, 49, 50, 51] (by decide +kernel) (by decide +kernel)
set_option maxRecDepth 20000 in
theorem gX2_join_X2_strikeOutAllUnder : GoodIn wsX2_join (wsV RX2 52 RX2 yX2_strikeOutAllUnder wsX2_strikeOutAllUnder) := goodIn_app (goodIn_of _ (by decide +kernel)) ggX2_join_X2_strikeOutAllUnder
theorem dX2_join_0 : decode cX2_join 0 = .ok (.iload_n 1, 1) := by decide +kernel
theorem dX2_join_1 : decode cX2_join 1 = .ok (.iload_n 2, 1) := by decide +kernel
theorem dX2_join_2 : decode cX2_join 2 = .ok (.if_icmp .eq 19, 3) := by decide +kernel
theorem dX2_join_5 : decode cX2_join 5 = .ok (.aload_n 0, 1) := by decide +kernel
theorem dX2_join_6 : decode cX2_join 6 = .ok (.iload_n 1, 1) := by decide +kernel
theorem dX2_join_7 : decode cX2_join 7 = .ok (.invokevirtual 46, 3) := by decide +kernel
theorem dX2_join_10 : decode cX2_join 10 = .ok (.ifCond .eq 11, 3) := by decide +kernel
theorem dX2_join_13 : decode cX2_join 13 = .ok (.aload_n 0, 1) := by decide +kernel
theorem dX2_join_14 : decode cX2_join 14 = .ok (.iload_n 2, 1) := by decide +kernel
theorem dX2_join_15 : decode cX2_join 15 = .ok (.invokevirtual 46, 3) := by decide +kernel
theorem dX2_join_18 : decode cX2_join 18 = .ok (.ifCond .ne 5, 3) := by decide +kernel
theorem dX2_join_21 : decode cX2_join 21 = .ok (.iconst 0, 1) := by decide +kernel
theorem dX2_join_22 : decode cX2_join 22 = .ok (.ireturn, 1) := by decide +kernel
theorem dX2_join_23 : decode cX2_join 23 = .ok (.aload_n 0, 1) := by decide +kernel
theorem dX2_join_24 : decode cX2_join 24 = .ok (.getfield 16, 3) := by decide +kernel
theorem dX2_join_27 : decode cX2_join 27 = .ok (.iload_n 2, 1) := by decide +kernel
theorem dX2_join_28 : decode cX2_join 28 = .ok (.iconst 4, 1) := by decide +kernel
theorem dX2_join_29 : decode cX2_join 29 = .ok (.iload_n 1, 1) := by decide +kernel
theorem dX2_join_30 : decode cX2_join 30 = .ok (.invokevirtual 34, 3) := by decide +kernel
theorem dX2_join_33 : decode cX2_join 33 = .ok (.aload_n 0, 1) := by decide +kernel
theorem dX2_join_34 : decode cX2_join 34 = .ok (.iload_n 1, 1) := by decide +kernel
theorem dX2_join_35 : decode cX2_join 35 = .ok (.invokevirtual 49, 3) := by decide +kernel
theorem dX2_join_38 : decode cX2_join 38 = .ok (.ifCond .ne 11, 3) := by decide +kernel
theorem dX2_join_41 : decode cX2_join 41 = .ok (.aload_n 0, 1) := by decide +kernel
theorem dX2_join_42 : decode cX2_join 42 = .ok (.iload_n 2, 1) := by decide +kernel
theorem dX2_join_43 : decode cX2_join 43 = .ok (.invokevirtual 49, 3) := by decide +kernel
theorem dX2_join_46 : decode cX2_join 46 = .ok (.ifCond .eq 8, 3) := by decide +kernel
theorem dX2_join_49 : decode cX2_join 49 = .ok (.aload_n 0, 1) := by decide +kernel
theorem dX2_join_50 : decode cX2_join 50 = .ok (.iload_n 1, 1) := by decide +kernel
theorem dX2_join_51 : decode cX2_join 51 = .ok (.invokevirtual 52, 3) := by decide +kernel
theorem dX2_join_54 : decode cX2_join 54 = .ok (.iconst 1, 1) := by decide +kernel
theorem dX2_join_55 : decode cX2_join 55 = .ok (.ireturn, 1) := by decide +kernel
set_option maxRecDepth 20000 in
theorem ggX2_leave_X2_holderOf : GoodIn wsX2_leave wsX2_holderOf := goodIn_r _ [6, 1, 7, 8, 9, 10, 11, 12, 13, 14, 15, 16, 17, 18, 23, 24, 25, 26, 27] (by decide +kernel) (by decide +kernel)
set_option maxRecDepth 20000 in
theorem gX2_leave_X2_holderOf : GoodIn wsX2_leave (wsV RX2 56 RX2 yX2_holderOf wsX2_holderOf) := goodIn_app (goodIn_of _ (by decide +kernel)) ggX2_leave_X2_holderOf
set_option maxRecDepth 20000 in
theorem ggX2_leave_X3_put : GoodIn wsX2_leave wsX3_put := goodIn_r _ [22, 12, 13, 14, 15, 16, 10, 17, 18, 24, 25, 26, 27] (by decide +kernel) (by decide +kernel)
set_option maxRecDepth 20000 in
theorem gX2_leave_X3_put : GoodIn wsX2_leave (wsV RX2 34 RX3 yX3_put wsX3_put) := goodIn_app (goodIn_of _ (by decide +kernel)) ggX2_leave_X3_put
theorem dX2_leave_0 : decode cX2_leave 0 = .ok (.aload_n 0, 1) := by decide +kernel
theorem dX2_leave_1 : decode cX2_leave 1 = .ok (.iload_n 1, 1) := by decide +kernel
theorem dX2_leave_2 : decode cX2_leave 2 = .ok (.invokevirtual 56, 3) := by decide +kernel
theorem dX2_leave_5 : decode cX2_leave 5 = .ok (.iconst (-1), 1) := by decide +kernel
theorem dX2_leave_6 : decode cX2_leave 6 = .ok (.if_icmp .ne 5, 3) := by decide +kernel
theorem dX2_leave_9 : decode cX2_leave 9 = .ok (.iconst 0, 1) := by decide +kernel
theorem dX2_leave_10 : decode cX2_leave 10 = .ok (.ireturn, 1) := by decide +kernel
theorem dX2_leave_11 : decode cX2_leave 11 = .ok (.aload_n 0, 1) := by decide +kernel
theorem dX2_leave_12 : decode cX2_leave 12 = .ok (.getfield 16, 3) := by decide +kernel
theorem dX2_leave_15 : decode cX2_leave 15 = .ok (.iload_n 1, 1) := by decide +kernel
theorem dX2_leave_16 : decode cX2_leave 16 = .ok (.iconst 4, 1) := by decide +kernel
theorem dX2_leave_17 : decode cX2_leave 17 = .ok (.iconst (-1), 1) := by decide +kernel
theorem dX2_leave_18 : decode cX2_leave 18 = .ok (.invokevirtual 34, 3) := by decide +kernel
theorem dX2_leave_21 : decode cX2_leave 21 = .ok (.iconst 1, 1) := by decide +kernel
theorem dX2_leave_22 : decode cX2_leave 22 = .ok (.ireturn, 1) := by decide +kernel
set_option maxRecDepth 20000 in
theorem ggX2_strikeOut_X2_isThere : GoodIn wsX2_strikeOut wsX2_isThere := goodIn_r _ [5, 6, 7, 8, 9, 10, 11, 12, 39, 40, 41, 42, 43] (by decide +kernel) (by decide +kernel)
set_option maxRecDepth 20000 in
theorem gX2_strikeOut_X2_isThere : GoodIn wsX2_strikeOut (wsV RX2 38 RX2 yX2_isThere wsX2_isThere) := goodIn_app (goodIn_of _ (by decide +kernel)) ggX2_strikeOut_X2_isThere
set_option maxRecDepth 20000 in
theorem ggX2_strikeOut_X2_isStruckOut : GoodIn wsX2_strikeOut wsX2_isStruckOut := goodIn_r _ [16, 6, 17, 18, 19, 10, 20, 21, 22, 23, 24, 25, 26, 12, 39, 40, 41, 42, 43] (by decide +kernel) (by decide +kernel)
set_option maxRecDepth 20000 in
theorem gX2_strikeOut_X2_isStruckOut : GoodIn wsX2_strikeOut (wsV RX2 49 RX2 yX2_isStruckOut wsX2_isStruckOut) := goodIn_app (goodIn_of _ (by decide +kernel)) ggX2_strikeOut_X2_isStruckOut
set_option maxRecDepth 20000 in
theorem ggX2_strikeOut_X2_headOf : GoodIn wsX2_strikeOut wsX2_headOf := goodIn_r _ [30, 6, 17, 18, 19, 10, 20, 21, 22, 23, 24, 25, 26, 12, 39, 40, 41, 42, 43] (by decide +kernel) (by decide +kernel)
set_option maxRecDepth 20000 in
theorem gX2_strikeOut_X2_headOf : GoodIn wsX2_strikeOut (wsV RX2 60 RX2 yX2_headOf wsX2_headOf) := goodIn_app (goodIn_of _ (by decide +kernel)) ggX2_strikeOut_X2_headOf
set_option maxRecDepth 20000 in
theorem ggX2_strikeOut_X2_strikeOutAllUnder : GoodIn wsX2_strikeOut wsX2_strikeOutAllUnder := goodIn_r _ [34, 6, 1, 2, 3, 4, 5, 7, 8, 9, 10, 11, 12, 27, 28, 29, 30, 17, 18, 19, 20, 21, 22, 23, 24, 25, 26, 35, 36, 37, 38, 39, 40, 41, 42, 43] (by decide +kernel) (by decide +kernel)
set_option maxRecDepth 20000 in
theorem gX2_strikeOut_X2_strikeOutAllUnder : GoodIn wsX2_strikeOut (wsV RX2 52 RX2 yX2_strikeOutAllUnder wsX2_strikeOutAllUnder) := goodIn_app (goodIn_of _ (by decide +kernel)) ggX2_strikeOut_X2_strikeOutAllUnder
theorem dX2_strikeOut_0 : decode cX2_strikeOut 0 = .ok (.aload_n 0, 1) := by decide +kernel
theorem dX2_strikeOut_1 : decode cX2_strikeOut 1 = .ok (.iload_n 1, 1) := by decide +kernel
theorem dX2_strikeOut_2 : decode cX2_strikeOut 2 = .ok (.invokevirtual 38, 3) := by decide +kernel
theorem dX2_strikeOut_5 : decode cX2_strikeOut 5 = .ok (.ifCond .eq 11, 3) := by decide +kernel
theorem dX2_strikeOut_8 : decode cX2_strikeOut 8 = .ok (.aload_n 0, 1) := by decide +kernel
theorem dX2_strikeOut_9 : decode cX2_strikeOut 9 = .ok (.iload_n 1, 1) := by decide +kernel
theorem dX2_strikeOut_10 : decode cX2_strikeOut 10 = .ok (.invokevirtual 49, 3) := by decide +kernel
theorem dX2_strikeOut_13 : decode cX2_strikeOut 13 = .ok (.ifCond .eq 5, 3) := by decide +kernel
theorem dX2_strikeOut_16 : decode cX2_strikeOut 16 = .ok (.iconst 0, 1) := by decide +kernel
theorem dX2_strikeOut_17 : decode cX2_strikeOut 17 = .ok (.ireturn, 1) := by decide +kernel
theorem dX2_strikeOut_18 : decode cX2_strikeOut 18 = .ok (.aload_n 0, 1) := by decide +kernel
theorem dX2_strikeOut_19 : decode cX2_strikeOut 19 = .ok (.aload_n 0, 1) := by decide +kernel
theorem dX2_strikeOut_20 : decode cX2_strikeOut 20 = .ok (.iload_n 1, 1) := by decide +kernel
theorem dX2_strikeOut_21 : decode cX2_strikeOut 21 = .ok (.invokevirtual 60, 3) := by decide +kernel
theorem dX2_strikeOut_24 : decode cX2_strikeOut 24 = .ok (.invokevirtual 52, 3) := by decide +kernel
theorem dX2_strikeOut_27 : decode cX2_strikeOut 27 = .ok (.iconst 1, 1) := by decide +kernel
theorem dX2_strikeOut_28 : decode cX2_strikeOut 28 = .ok (.ireturn, 1) := by decide +kernel
set_option maxRecDepth 20000 in
theorem ggX2_groupSize_X2_isAmong : GoodIn wsX2_groupSize wsX2_isAmong := goodIn_r _ [4] (by decide +kernel) (by decide +kernel)
set_option maxRecDepth 20000 in
theorem gX2_groupSize_X2_isAmong : GoodIn wsX2_groupSize (va_wsS RX2 63 yX2_isAmong wsX2_isAmong) := goodIn_app (goodIn_of _ (by decide +kernel)) ggX2_groupSize_X2_isAmong
set_option maxRecDepth 20000 in
theorem ggX2_groupSize_X2_areAlike : GoodIn wsX2_groupSize wsX2_areAlike := goodIn_r _ [8, 1, 2, 3, 4, 9, 10, 11, 12, 13, 14, 15, 16, 17, 18, 19, 20, 21, 22, 23, 24, 25, 26, 27, 28, 29, 30, 31, 32, 33] (by decide +kernel) (by decide +kernel)
set_option maxRecDepth 20000 in
theorem gX2_groupSize_X2_areAlike : GoodIn wsX2_groupSize (wsV RX2 67 RX2 yX2_areAlike wsX2_areAlike) := goodIn_app (goodIn_of _ (by decide +kernel)) ggX2_groupSize_X2_areAlike
theorem dX2_groupSize_0 : decode cX2_groupSize 0 = .ok (.iload_n 1, 1) := by decide +kernel
theorem dX2_groupSize_1 : decode cX2_groupSize 1 = .ok (.iload_n 2, 1) := by decide +kernel
theorem dX2_groupSize_2 : decode cX2_groupSize 2 = .ok (.invokestatic 63, 3) := by decide +kernel
theorem dX2_groupSize_5 : decode cX2_groupSize 5 = .ok (.ifCond .ne 5, 3) := by decide +kernel
theorem dX2_groupSize_8 : decode cX2_groupSize 8 = .ok (.iconst 0, 1) := by decide +kernel
theorem dX2_groupSize_9 : decode cX2_groupSize 9 = .ok (.ireturn, 1) := by decide +kernel
theorem dX2_groupSize_10 : decode cX2_groupSize 10 = .ok (.iconst 0, 1) := by decide +kernel
theorem dX2_groupSize_11 : decode cX2_groupSize 11 = .ok (.istore 4, 2) := by decide +kernel
theorem dX2_groupSize_13 : decode cX2_groupSize 13 = .ok (.iconst 0, 1) := by decide +kernel
theorem dX2_groupSize_14 : decode cX2_groupSize 14 = .ok (.istore 5, 2) := by decide +kernel
theorem dX2_groupSize_16 : decode cX2_groupSize 16 = .ok (.iload 5, 2) := by decide +kernel
theorem dX2_groupSize_18 : decode cX2_groupSize 18 = .ok (.bipush 24, 2) := by decide +kernel
theorem dX2_groupSize_20 : decode cX2_groupSize 20 = .ok (.if_icmp .ge 32, 3) := by decide +kernel
theorem dX2_groupSize_23 : decode cX2_groupSize 23 = .ok (.iload_n 1, 1) := by decide +kernel
theorem dX2_groupSize_24 : decode cX2_groupSize 24 = .ok (.iload 5, 2) := by decide +kernel
theorem dX2_groupSize_26 : decode cX2_groupSize 26 = .ok (.invokestatic 63, 3) := by decide +kernel
theorem dX2_groupSize_29 : decode cX2_groupSize 29 = .ok (.ifCond .eq 17, 3) := by decide +kernel
theorem dX2_groupSize_32 : decode cX2_groupSize 32 = .ok (.aload_n 0, 1) := by decide +kernel
theorem dX2_groupSize_33 : decode cX2_groupSize 33 = .ok (.iload_n 2, 1) := by decide +kernel
theorem dX2_groupSize_34 : decode cX2_groupSize 34 = .ok (.iload 5, 2) := by decide +kernel
theorem dX2_groupSize_36 : decode cX2_groupSize 36 = .ok (.iload_n 3, 1) := by decide +kernel
theorem dX2_groupSize_37 : decode cX2_groupSize 37 = .ok (.invokevirtual 67, 3) := by decide +kernel
theorem dX2_groupSize_40 : decode cX2_groupSize 40 = .ok (.ifCond .eq 6, 3) := by decide +kernel
theorem dX2_groupSize_43 : decode cX2_groupSize 43 = .ok (.iinc 4 1, 3) := by decide +kernel
theorem dX2_groupSize_46 : decode cX2_groupSize 46 = .ok (.iinc 5 1, 3) := by decide +kernel
theorem dX2_groupSize_49 : decode cX2_groupSize 49 = .ok (.goto (-33), 3) := by decide +kernel
theorem dX2_groupSize_52 : decode cX2_groupSize 52 = .ok (.iload 4, 2) := by decide +kernel
theorem dX2_groupSize_54 : decode cX2_groupSize 54 = .ok (.ireturn, 1) := by decide +kernel
set_option maxRecDepth 20000 in
theorem ggX2_countHaving_X2_isAmong : GoodIn wsX2_countHaving wsX2_isAmong := goodIn_r _ [4] (by decide +kernel) (by decide +kernel)
set_option maxRecDepth 20000 in
theorem gX2_countHaving_X2_isAmong : GoodIn wsX2_countHaving (va_wsS RX2 63 yX2_isAmong wsX2_isAmong) := goodIn_app (goodIn_of _ (by decide +kernel)) ggX2_countHaving_X2_isAmong
set_option maxRecDepth 20000 in
theorem ggX2_countHaving_X2_markOf : GoodIn wsX2_countHaving wsX2_markOf := goodIn_r _ [8, 9, 10, 11, 3, 12, 13, 14, 15, 16, 17, 18, 19, 20, 21, 22, 23, 24, 25, 26, 27, 28, 29] (by decide +kernel) (by decide +kernel)
set_option maxRecDepth 20000 in
theorem gX2_countHaving_X2_markOf : GoodIn wsX2_countHaving (wsV RX2 71 RX2 yX2_markOf wsX2_markOf) := goodIn_app (goodIn_of _ (by decide +kernel)) ggX2_countHaving_X2_markOf
theorem dX2_countHaving_0 : decode cX2_countHaving 0 = .ok (.iconst 0, 1) := by decide +kernel
theorem dX2_countHaving_1 : decode cX2_countHaving 1 = .ok (.istore 4, 2) := by decide +kernel
theorem dX2_countHaving_3 : decode cX2_countHaving 3 = .ok (.iconst 0, 1) := by decide +kernel
theorem dX2_countHaving_4 : decode cX2_countHaving 4 = .ok (.istore 5, 2) := by decide +kernel
theorem dX2_countHaving_6 : decode cX2_countHaving 6 = .ok (.iload 5, 2) := by decide +kernel
theorem dX2_countHaving_8 : decode cX2_countHaving 8 = .ok (.bipush 24, 2) := by decide +kernel
theorem dX2_countHaving_10 : decode cX2_countHaving 10 = .ok (.if_icmp .ge 32, 3) := by decide +kernel
theorem dX2_countHaving_13 : decode cX2_countHaving 13 = .ok (.iload_n 1, 1) := by decide +kernel
theorem dX2_countHaving_14 : decode cX2_countHaving 14 = .ok (.iload 5, 2) := by decide +kernel
theorem dX2_countHaving_16 : decode cX2_countHaving 16 = .ok (.invokestatic 63, 3) := by decide +kernel
theorem dX2_countHaving_19 : decode cX2_countHaving 19 = .ok (.ifCond .eq 17, 3) := by decide +kernel
theorem dX2_countHaving_22 : decode cX2_countHaving 22 = .ok (.aload_n 0, 1) := by decide +kernel
theorem dX2_countHaving_23 : decode cX2_countHaving 23 = .ok (.iload 5, 2) := by decide +kernel
theorem dX2_countHaving_25 : decode cX2_countHaving 25 = .ok (.iload_n 2, 1) := by decide +kernel
theorem dX2_countHaving_26 : decode cX2_countHaving 26 = .ok (.invokevirtual 71, 3) := by decide +kernel
theorem dX2_countHaving_29 : decode cX2_countHaving 29 = .ok (.iload_n 3, 1) := by decide +kernel
theorem dX2_countHaving_30 : decode cX2_countHaving 30 = .ok (.if_icmp .ne 6, 3) := by decide +kernel
theorem dX2_countHaving_33 : decode cX2_countHaving 33 = .ok (.iinc 4 1, 3) := by decide +kernel
theorem dX2_countHaving_36 : decode cX2_countHaving 36 = .ok (.iinc 5 1, 3) := by decide +kernel
theorem dX2_countHaving_39 : decode cX2_countHaving 39 = .ok (.goto (-33), 3) := by decide +kernel
theorem dX2_countHaving_42 : decode cX2_countHaving 42 = .ok (.iload 4, 2) := by decide +kernel
theorem dX2_countHaving_44 : decode cX2_countHaving 44 = .ok (.ireturn, 1) := by decide +kernel
set_option maxRecDepth 20000 in
theorem ggX2_isHead_X2_isThere : GoodIn wsX2_isHead wsX2_isThere := goodIn_r _ [5, 6, 7, 8, 9, 10, 11, 12, 27, 28, 29, 30, 31] (by decide +kernel) (by decide +kernel)
set_option maxRecDepth 20000 in
theorem gX2_isHead_X2_isThere : GoodIn wsX2_isHead (wsV RX2 38 RX2 yX2_isThere wsX2_isThere) := goodIn_app (goodIn_of _ (by decide +kernel)) ggX2_isHead_X2_isThere
set_option maxRecDepth 20000 in
theorem ggX2_isHead_X2_holderOf : GoodIn wsX2_isHead wsX2_holderOf := goodIn_r _ [16, 6, 17, 18, 19, 10, 20, 21, 22, 23, 24, 25, 26, 12, 27, 28, 29, 30, 31] (by decide +kernel) (by decide +kernel)
set_option maxRecDepth 20000 in
theorem gX2_isHead_X2_holderOf : GoodIn wsX2_isHead (wsV RX2 56 RX2 yX2_holderOf wsX2_holderOf) := goodIn_app (goodIn_of _ (by decide +kernel)) ggX2_isHead_X2_holderOf
theorem dX2_isHead_0 : decode cX2_isHead 0 = .ok (.aload_n 0, 1) := by decide +kernel
theorem dX2_isHead_1 : decode cX2_isHead 1 = .ok (.iload_n 1, 1) := by decide +kernel
theorem dX2_isHead_2 : decode cX2_isHead 2 = .ok (.invokevirtual 38, 3) := by decide +kernel
theorem dX2_isHead_5 : decode cX2_isHead 5 = .ok (.ifCond .eq 16, 3) := by decide +kernel
theorem dX2_isHead_8 : decode cX2_isHead 8 = .ok (.aload_n 0, 1) := by decide +kernel
theorem dX2_isHead_9 : decode cX2_isHead 9 = .ok (.iload_n 1, 1) := by decide +kernel
theorem dX2_isHead_10 : decode cX2_isHead 10 = .ok (.invokevirtual 56, 3) := by decide +kernel
theorem dX2_isHead_13 : decode cX2_isHead 13 = .ok (.iconst (-1), 1) := by decide +kernel
theorem dX2_isHead_14 : decode cX2_isHead 14 = .ok (.if_icmp .ne 7, 3) := by decide +kernel
theorem dX2_isHead_17 : decode cX2_isHead 17 = .ok (.iconst 1, 1) := by decide +kernel
theorem dX2_isHead_18 : decode cX2_isHead 18 = .ok (.goto 4, 3) := by decide +kernel
theorem dX2_isHead_21 : decode cX2_isHead 21 = .ok (.iconst 0, 1) := by decide +kernel
theorem dX2_isHead_22 : decode cX2_isHead 22 = .ok (.ireturn, 1) := by decide +kernel
set_option maxRecDepth 20000 in
theorem ggX2_strikeOutAllUnder_X2_isThere : GoodIn wsX2_strikeOutAllUnder wsX2_isThere := goodIn_r _ [6, 1, 7, 8, 9, 10, 11, 12, 31, 32, 33, 34, 35] (by decide +kernel) (by decide +kernel)
set_option maxRecDepth 20000 in
theorem gX2_strikeOutAllUnder_X2_isThere : GoodIn wsX2_strikeOutAllUnder (wsV RX2 38 RX2 yX2_isThere wsX2_isThere) := goodIn_app (goodIn_of _ (by decide +kernel)) ggX2_strikeOutAllUnder_X2_isThere
set_option maxRecDepth 20000 in
theorem ggX2_strikeOutAllUnder_X2_headOf : GoodIn wsX2_strikeOutAllUnder wsX2_headOf := goodIn_r _ [16, 1, 17, 18, 19, 10, 20, 21, 22, 23, 24, 25, 26, 12, 31, 32, 33, 34, 35] (by decide +kernel) (by decide +kernel)
set_option maxRecDepth 20000 in
theorem gX2_strikeOutAllUnder_X2_headOf : GoodIn wsX2_strikeOutAllUnder (wsV RX2 60 RX2 yX2_headOf wsX2_headOf) := goodIn_app (goodIn_of _ (by decide +kernel)) ggX2_strikeOutAllUnder_X2_headOf
set_option maxRecDepth 20000 in
theorem ggX2_strikeOutAllUnder_X3_put : GoodIn wsX2_strikeOutAllUnder wsX3_put := goodIn_r _ [30, 21, 22, 23, 24, 25, 10, 26, 12, 32, 33, 34, 35] (by decide +kernel) (by decide +kernel)
set_option maxRecDepth 20000 in
theorem gX2_strikeOutAllUnder_X3_put : GoodIn wsX2_strikeOutAllUnder (wsV RX2 34 RX3 yX3_put wsX3_put) := goodIn_app (goodIn_of _ (by decide +kernel)) ggX2_strikeOutAllUnder_X3_put
theorem dX2_strikeOutAllUnder_0 : decode cX2_strikeOutAllUnder 0 = .ok (.iconst 0, 1) := by decide +kernel
theorem dX2_strikeOutAllUnder_1 : decode cX2_strikeOutAllUnder 1 = .ok (.istore_n 2, 1) := by decide +kernel
theorem dX2_strikeOutAllUnder_2 : decode cX2_strikeOutAllUnder 2 = .ok (.iload_n 2, 1) := by decide +kernel
theorem dX2_strikeOutAllUnder_3 : decode cX2_strikeOutAllUnder 3 = .ok (.bipush 24, 2) := by decide +kernel
theorem dX2_strikeOutAllUnder_5 : decode cX2_strikeOutAllUnder 5 = .ok (.if_icmp .ge 36, 3) := by decide +kernel
theorem dX2_strikeOutAllUnder_8 : decode cX2_strikeOutAllUnder 8 = .ok (.aload_n 0, 1) := by decide +kernel
theorem dX2_strikeOutAllUnder_9 : decode cX2_strikeOutAllUnder 9 = .ok (.iload_n 2, 1) := by decide +kernel
theorem dX2_strikeOutAllUnder_10 : decode cX2_strikeOutAllUnder 10 = .ok (.invokevirtual 38, 3) := by decide +kernel
theorem dX2_strikeOutAllUnder_13 : decode cX2_strikeOutAllUnder 13 = .ok (.ifCond .eq 22, 3) := by decide +kernel
theorem dX2_strikeOutAllUnder_16 : decode cX2_strikeOutAllUnder 16 = .ok (.aload_n 0, 1) := by decide +kernel
theorem dX2_strikeOutAllUnder_17 : decode cX2_strikeOutAllUnder 17 = .ok (.iload_n 2, 1) := by decide +kernel
theorem dX2_strikeOutAllUnder_18 : decode cX2_strikeOutAllUnder 18 = .ok (.invokevirtual 60, 3) := by decide +kernel
theorem dX2_strikeOutAllUnder_21 : decode cX2_strikeOutAllUnder 21 = .ok (.iload_n 1, 1) := by decide +kernel
theorem dX2_strikeOutAllUnder_22 : decode cX2_strikeOutAllUnder 22 = .ok (.if_icmp .ne 13, 3) := by decide +kernel
theorem dX2_strikeOutAllUnder_25 : decode cX2_strikeOutAllUnder 25 = .ok (.aload_n 0, 1) := by decide +kernel
theorem dX2_strikeOutAllUnder_26 : decode cX2_strikeOutAllUnder 26 = .ok (.getfield 16, 3) := by decide +kernel
theorem dX2_strikeOutAllUnder_29 : decode cX2_strikeOutAllUnder 29 = .ok (.iload_n 2, 1) := by decide +kernel
theorem dX2_strikeOutAllUnder_30 : decode cX2_strikeOutAllUnder 30 = .ok (.iconst 5, 1) := by decide +kernel
theorem dX2_strikeOutAllUnder_31 : decode cX2_strikeOutAllUnder 31 = .ok (.iconst 1, 1) := by decide +kernel
theorem dX2_strikeOutAllUnder_32 : decode cX2_strikeOutAllUnder 32 = .ok (.invokevirtual 34, 3) := by decide +kernel
theorem dX2_strikeOutAllUnder_35 : decode cX2_strikeOutAllUnder 35 = .ok (.iinc 2 1, 3) := by decide +kernel
theorem dX2_strikeOutAllUnder_38 : decode cX2_strikeOutAllUnder 38 = .ok (.goto (-36), 3) := by decide +kernel
theorem dX2_strikeOutAllUnder_41 : decode cX2_strikeOutAllUnder 41 = .ok (.return_, 1) := by decide +kernel
set_option maxRecDepth 20000 in
theorem ggX2_areAlike_X2_isAmong : GoodIn wsX2_areAlike wsX2_isAmong := goodIn_r _ [4] (by decide +kernel) (by decide +kernel)
set_option maxRecDepth 20000 in
theorem gX2_areAlike_X2_isAmong : GoodIn wsX2_areAlike (va_wsS RX2 63 yX2_isAmong wsX2_isAmong) := goodIn_app (goodIn_of _ (by decide +kernel)) ggX2_areAlike_X2_isAmong
set_option maxRecDepth 20000 in
theorem ggX2_areAlike_X2_markOf : GoodIn wsX2_areAlike wsX2_markOf := goodIn_r _ [8, 9, 10, 11, 3, 12, 13, 14, 15, 16, 17, 18, 19, 20, 21, 22, 23, 24, 25, 26, 27, 28, 29] (by decide +kernel) (by decide +kernel)
set_option maxRecDepth 20000 in
theorem gX2_areAlike_X2_markOf : GoodIn wsX2_areAlike (wsV RX2 71 RX2 yX2_markOf wsX2_markOf) := goodIn_app (goodIn_of _ (by decide +kernel)) ggX2_areAlike_X2_markOf
theorem dX2_areAlike_0 : decode cX2_areAlike 0 = .ok (.iconst 0, 1) := by decide +kernel
theorem dX2_areAlike_1 : decode cX2_areAlike 1 = .ok (.istore 4, 2) := by decide +kernel
theorem dX2_areAlike_3 : decode cX2_areAlike 3 = .ok (.iload 4, 2) := by decide +kernel
theorem dX2_areAlike_5 : decode cX2_areAlike 5 = .ok (.iconst 4, 1) := by decide +kernel
theorem dX2_areAlike_6 : decode cX2_areAlike 6 = .ok (.if_icmp .ge 37, 3) := by decide +kernel
theorem dX2_areAlike_9 : decode cX2_areAlike 9 = .ok (.iload_n 3, 1) := by decide +kernel
theorem dX2_areAlike_10 : decode cX2_areAlike 10 = .ok (.iload 4, 2) := by decide +kernel
theorem dX2_areAlike_12 : decode cX2_areAlike 12 = .ok (.invokestatic 63, 3) := by decide +kernel
theorem dX2_areAlike_15 : decode cX2_areAlike 15 = .ok (.ifCond .eq 22, 3) := by decide +kernel
theorem dX2_areAlike_18 : decode cX2_areAlike 18 = .ok (.aload_n 0, 1) := by decide +kernel
theorem dX2_areAlike_19 : decode cX2_areAlike 19 = .ok (.iload_n 1, 1) := by decide +kernel
theorem dX2_areAlike_20 : decode cX2_areAlike 20 = .ok (.iload 4, 2) := by decide +kernel
theorem dX2_areAlike_22 : decode cX2_areAlike 22 = .ok (.invokevirtual 71, 3) := by decide +kernel
theorem dX2_areAlike_25 : decode cX2_areAlike 25 = .ok (.aload_n 0, 1) := by decide +kernel
theorem dX2_areAlike_26 : decode cX2_areAlike 26 = .ok (.iload_n 2, 1) := by decide +kernel
theorem dX2_areAlike_27 : decode cX2_areAlike 27 = .ok (.iload 4, 2) := by decide +kernel
theorem dX2_areAlike_29 : decode cX2_areAlike 29 = .ok (.invokevirtual 71, 3) := by decide +kernel
theorem dX2_areAlike_32 : decode cX2_areAlike 32 = .ok (.if_icmp .eq 5, 3) := by decide +kernel
theorem dX2_areAlike_35 : decode cX2_areAlike 35 = .ok (.iconst 0, 1) := by decide +kernel
theorem dX2_areAlike_36 : decode cX2_areAlike 36 = .ok (.ireturn, 1) := by decide +kernel
theorem dX2_areAlike_37 : decode cX2_areAlike 37 = .ok (.iinc 4 1, 3) := by decide +kernel
theorem dX2_areAlike_40 : decode cX2_areAlike 40 = .ok (.goto (-37), 3) := by decide +kernel
theorem dX2_areAlike_43 : decode cX2_areAlike 43 = .ok (.iconst 1, 1) := by decide +kernel
theorem dX2_areAlike_44 : decode cX2_areAlike 44 = .ok (.ireturn, 1) := by decide +kernel
theorem dX2_isAmong_0 : decode cX2_isAmong 0 = .ok (.iload_n 0, 1) := by decide +kernel
theorem dX2_isAmong_1 : decode cX2_isAmong 1 = .ok (.iload_n 1, 1) := by decide +kernel
theorem dX2_isAmong_2 : decode cX2_isAmong 2 = .ok (.ishr, 1) := by decide +kernel
theorem dX2_isAmong_3 : decode cX2_isAmong 3 = .ok (.iconst 1, 1) := by decide +kernel
theorem dX2_isAmong_4 : decode cX2_isAmong 4 = .ok (.iand, 1) := by decide +kernel
theorem dX2_isAmong_5 : decode cX2_isAmong 5 = .ok (.iconst 1, 1) := by decide +kernel
theorem dX2_isAmong_6 : decode cX2_isAmong 6 = .ok (.if_icmp .ne 7, 3) := by decide +kernel
theorem dX2_isAmong_9 : decode cX2_isAmong 9 = .ok (.iconst 1, 1) := by decide +kernel
theorem dX2_isAmong_10 : decode cX2_isAmong 10 = .ok (.goto 4, 3) := by decide +kernel
theorem dX2_isAmong_13 : decode cX2_isAmong 13 = .ok (.iconst 0, 1) := by decide +kernel
theorem dX2_isAmong_14 : decode cX2_isAmong 14 = .ok (.ireturn, 1) := by decide +kernel
theorem dX3_init_0 : decode cX3_init 0 = .ok (.aload_n 0, 1) := by decide +kernel
theorem dX3_init_1 : decode cX3_init 1 = .ok (.invokespecial 3, 3) := by decide +kernel
theorem dX3_init_4 : decode cX3_init 4 = .ok (.aload_n 0, 1) := by decide +kernel
theorem dX3_init_5 : decode cX3_init 5 = .ok (.iconst 0, 1) := by decide +kernel
theorem dX3_init_6 : decode cX3_init 6 = .ok (.iload_n 1, 1) := by decide +kernel
theorem dX3_init_7 : decode cX3_init 7 = .ok (.invokestatic 9, 3) := by decide +kernel
theorem dX3_init_10 : decode cX3_init 10 = .ok (.putfield 15, 3) := by decide +kernel
theorem dX3_init_13 : decode cX3_init 13 = .ok (.aload_n 0, 1) := by decide +kernel
theorem dX3_init_14 : decode cX3_init 14 = .ok (.iconst 0, 1) := by decide +kernel
theorem dX3_init_15 : decode cX3_init 15 = .ok (.iload_n 2, 1) := by decide +kernel
theorem dX3_init_16 : decode cX3_init 16 = .ok (.invokestatic 9, 3) := by decide +kernel
theorem dX3_init_19 : decode cX3_init 19 = .ok (.putfield 21, 3) := by decide +kernel
theorem dX3_init_22 : decode cX3_init 22 = .ok (.aload_n 0, 1) := by decide +kernel
theorem dX3_init_23 : decode cX3_init 23 = .ok (.aload_n 0, 1) := by decide +kernel
theorem dX3_init_24 : decode cX3_init 24 = .ok (.getfield 15, 3) := by decide +kernel
theorem dX3_init_27 : decode cX3_init 27 = .ok (.aload_n 0, 1) := by decide +kernel
theorem dX3_init_28 : decode cX3_init 28 = .ok (.getfield 21, 3) := by decide +kernel
theorem dX3_init_31 : decode cX3_init 31 = .ok (.imul, 1) := by decide +kernel
theorem dX3_init_32 : decode cX3_init 32 = .ok (.newarray .int, 2) := by decide +kernel
theorem dX3_init_34 : decode cX3_init 34 = .ok (.putfield 24, 3) := by decide +kernel
theorem dX3_init_37 : decode cX3_init 37 = .ok (.aload_n 0, 1) := by decide +kernel
theorem dX3_init_38 : decode cX3_init 38 = .ok (.iconst 0, 1) := by decide +kernel
theorem dX3_init_39 : decode cX3_init 39 = .ok (.putfield 28, 3) := by decide +kernel
theorem dX3_init_42 : decode cX3_init 42 = .ok (.return_, 1) := by decide +kernel
theorem dX3_size_0 : decode cX3_size 0 = .ok (.aload_n 0, 1) := by decide +kernel
theorem dX3_size_1 : decode cX3_size 1 = .ok (.getfield 28, 3) := by decide +kernel
theorem dX3_size_4 : decode cX3_size 4 = .ok (.ireturn, 1) := by decide +kernel
theorem dX3_isFull_0 : decode cX3_isFull 0 = .ok (.aload_n 0, 1) := by decide +kernel
theorem dX3_isFull_1 : decode cX3_isFull 1 = .ok (.getfield 28, 3) := by decide +kernel
theorem dX3_isFull_4 : decode cX3_isFull 4 = .ok (.aload_n 0, 1) := by decide +kernel
theorem dX3_isFull_5 : decode cX3_isFull 5 = .ok (.getfield 15, 3) := by decide +kernel
theorem dX3_isFull_8 : decode cX3_isFull 8 = .ok (.if_icmp .lt 7, 3) := by decide +kernel
theorem dX3_isFull_11 : decode cX3_isFull 11 = .ok (.iconst 1, 1) := by decide +kernel
theorem dX3_isFull_12 : decode cX3_isFull 12 = .ok (.goto 4, 3) := by decide +kernel
theorem dX3_isFull_15 : decode cX3_isFull 15 = .ok (.iconst 0, 1) := by decide +kernel
theorem dX3_isFull_16 : decode cX3_isFull 16 = .ok (.ireturn, 1) := by decide +kernel
theorem dX3_isThere_0 : decode cX3_isThere 0 = .ok (.iload_n 1, 1) := by decide +kernel
theorem dX3_isThere_1 : decode cX3_isThere 1 = .ok (.ifCond .lt 15, 3) := by decide +kernel
theorem dX3_isThere_4 : decode cX3_isThere 4 = .ok (.iload_n 1, 1) := by decide +kernel
theorem dX3_isThere_5 : decode cX3_isThere 5 = .ok (.aload_n 0, 1) := by decide +kernel
theorem dX3_isThere_6 : decode cX3_isThere 6 = .ok (.getfield 28, 3) := by decide +kernel
theorem dX3_isThere_9 : decode cX3_isThere 9 = .ok (.if_icmp .ge 7, 3) := by decide +kernel
theorem dX3_isThere_12 : decode cX3_isThere 12 = .ok (.iconst 1, 1) := by decide +kernel
theorem dX3_isThere_13 : decode cX3_isThere 13 = .ok (.goto 4, 3) := by decide +kernel
theorem dX3_isThere_16 : decode cX3_isThere 16 = .ok (.iconst 0, 1) := by decide +kernel
theorem dX3_isThere_17 : decode cX3_isThere 17 = .ok (.ireturn, 1) := by decide +kernel
set_option maxRecDepth 20000 in
theorem ggX3_addRow_X3_isFull : GoodIn wsX3_addRow wsX3_isFull := goodIn_r _ [6, 1, 7, 8, 9, 10, 11] (by decide +kernel) (by decide +kernel)
set_option maxRecDepth 20000 in
theorem gX3_addRow_X3_isFull : GoodIn wsX3_addRow (wsV RX3 31 RX3 yX3_isFull wsX3_isFull) := goodIn_app (goodIn_of _ (by decide +kernel)) ggX3_addRow_X3_isFull
theorem dX3_addRow_0 : decode cX3_addRow 0 = .ok (.aload_n 0, 1) := by decide +kernel
theorem dX3_addRow_1 : decode cX3_addRow 1 = .ok (.invokevirtual 31, 3) := by decide +kernel
theorem dX3_addRow_4 : decode cX3_addRow 4 = .ok (.ifCond .eq 5, 3) := by decide +kernel
theorem dX3_addRow_7 : decode cX3_addRow 7 = .ok (.iconst (-1), 1) := by decide +kernel
theorem dX3_addRow_8 : decode cX3_addRow 8 = .ok (.ireturn, 1) := by decide +kernel
theorem dX3_addRow_9 : decode cX3_addRow 9 = .ok (.aload_n 0, 1) := by decide +kernel
theorem dX3_addRow_10 : decode cX3_addRow 10 = .ok (.dup, 1) := by decide +kernel
theorem dX3_addRow_11 : decode cX3_addRow 11 = .ok (.getfield 28, 3) := by decide +kernel
theorem dX3_addRow_14 : decode cX3_addRow 14 = .ok (.iconst 1, 1) := by decide +kernel
theorem dX3_addRow_15 : decode cX3_addRow 15 = .ok (.iadd, 1) := by decide +kernel
theorem dX3_addRow_16 : decode cX3_addRow 16 = .ok (.putfield 28, 3) := by decide +kernel
theorem dX3_addRow_19 : decode cX3_addRow 19 = .ok (.aload_n 0, 1) := by decide +kernel
theorem dX3_addRow_20 : decode cX3_addRow 20 = .ok (.getfield 28, 3) := by decide +kernel
theorem dX3_addRow_23 : decode cX3_addRow 23 = .ok (.iconst 1, 1) := by decide +kernel
theorem dX3_addRow_24 : decode cX3_addRow 24 = .ok (.isub, 1) := by decide +kernel
theorem dX3_addRow_25 : decode cX3_addRow 25 = .ok (.ireturn, 1) := by decide +kernel
set_option maxRecDepth 20000 in
theorem ggX3_at_X3_hasCell : GoodIn wsX3_at wsX3_hasCell := goodIn_r _ [7, 8, 2, 9, 10, 11, 12] (by decide +kernel) (by decide +kernel)
set_option maxRecDepth 20000 in
theorem gX3_at_X3_hasCell : GoodIn wsX3_at (wsV RX3 35 RX3 yX3_hasCell wsX3_hasCell) := goodIn_app (goodIn_of _ (by decide +kernel)) ggX3_at_X3_hasCell
theorem dX3_at_0 : decode cX3_at 0 = .ok (.aload_n 0, 1) := by decide +kernel
theorem dX3_at_1 : decode cX3_at 1 = .ok (.iload_n 1, 1) := by decide +kernel
theorem dX3_at_2 : decode cX3_at 2 = .ok (.iload_n 2, 1) := by decide +kernel
theorem dX3_at_3 : decode cX3_at 3 = .ok (.invokevirtual 35, 3) := by decide +kernel
theorem dX3_at_6 : decode cX3_at 6 = .ok (.ifCond .eq 19, 3) := by decide +kernel
theorem dX3_at_9 : decode cX3_at 9 = .ok (.aload_n 0, 1) := by decide +kernel
theorem dX3_at_10 : decode cX3_at 10 = .ok (.getfield 24, 3) := by decide +kernel
theorem dX3_at_13 : decode cX3_at 13 = .ok (.iload_n 1, 1) := by decide +kernel
theorem dX3_at_14 : decode cX3_at 14 = .ok (.aload_n 0, 1) := by decide +kernel
theorem dX3_at_15 : decode cX3_at 15 = .ok (.getfield 21, 3) := by decide +kernel
theorem dX3_at_18 : decode cX3_at 18 = .ok (.imul, 1) := by decide +kernel
theorem dX3_at_19 : decode cX3_at 19 = .ok (.iload_n 2, 1) := by decide +kernel
theorem dX3_at_20 : decode cX3_at 20 = .ok (.iadd, 1) := by decide +kernel
theorem dX3_at_21 : decode cX3_at 21 = .ok (.iaload, 1) := by decide +kernel
theorem dX3_at_22 : decode cX3_at 22 = .ok (.goto 4, 3) := by decide +kernel
theorem dX3_at_25 : decode cX3_at 25 = .ok (.iconst (-1), 1) := by decide +kernel
theorem dX3_at_26 : decode cX3_at 26 = .ok (.ireturn, 1) := by decide +kernel
set_option maxRecDepth 20000 in
theorem ggX3_put_X3_hasCell : GoodIn wsX3_put wsX3_hasCell := goodIn_r _ [7, 8, 2, 9, 10, 11, 12] (by decide +kernel) (by decide +kernel)
set_option maxRecDepth 20000 in
theorem gX3_put_X3_hasCell : GoodIn wsX3_put (wsV RX3 35 RX3 yX3_hasCell wsX3_hasCell) := goodIn_app (goodIn_of _ (by decide +kernel)) ggX3_put_X3_hasCell
theorem dX3_put_0 : decode cX3_put 0 = .ok (.aload_n 0, 1) := by decide +kernel
theorem dX3_put_1 : decode cX3_put 1 = .ok (.iload_n 1, 1) := by decide +kernel
theorem dX3_put_2 : decode cX3_put 2 = .ok (.iload_n 2, 1) := by decide +kernel
theorem dX3_put_3 : decode cX3_put 3 = .ok (.invokevirtual 35, 3) := by decide +kernel
theorem dX3_put_6 : decode cX3_put 6 = .ok (.ifCond .eq 17, 3) := by decide +kernel
theorem dX3_put_9 : decode cX3_put 9 = .ok (.aload_n 0, 1) := by decide +kernel
theorem dX3_put_10 : decode cX3_put 10 = .ok (.getfield 24, 3) := by decide +kernel
theorem dX3_put_13 : decode cX3_put 13 = .ok (.iload_n 1, 1) := by decide +kernel
theorem dX3_put_14 : decode cX3_put 14 = .ok (.aload_n 0, 1) := by decide +kernel
theorem dX3_put_15 : decode cX3_put 15 = .ok (.getfield 21, 3) := by decide +kernel
theorem dX3_put_18 : decode cX3_put 18 = .ok (.imul, 1) := by decide +kernel
theorem dX3_put_19 : decode cX3_put 19 = .ok (.iload_n 2, 1) := by decide +kernel
theorem dX3_put_20 : decode cX3_put 20 = .ok (.iadd, 1) := by decide +kernel
theorem dX3_put_21 : decode cX3_put 21 = .ok (.iload_n 3, 1) := by decide +kernel
theorem dX3_put_22 : decode cX3_put 22 = .ok (.iastore, 1) := by decide +kernel
theorem dX3_put_23 : decode cX3_put 23 = .ok (.return_, 1) := by decide +kernel
theorem dX3_hasCell_0 : decode cX3_hasCell 0 = .ok (.iload_n 1, 1) := by decide +kernel
theorem dX3_hasCell_1 : decode cX3_hasCell 1 = .ok (.ifCond .lt 27, 3) := by decide +kernel
theorem dX3_hasCell_4 : decode cX3_hasCell 4 = .ok (.iload_n 1, 1) := by decide +kernel
theorem dX3_hasCell_5 : decode cX3_hasCell 5 = .ok (.aload_n 0, 1) := by decide +kernel
theorem dX3_hasCell_6 : decode cX3_hasCell 6 = .ok (.getfield 28, 3) := by decide +kernel
theorem dX3_hasCell_9 : decode cX3_hasCell 9 = .ok (.if_icmp .ge 19, 3) := by decide +kernel
theorem dX3_hasCell_12 : decode cX3_hasCell 12 = .ok (.iload_n 2, 1) := by decide +kernel
theorem dX3_hasCell_13 : decode cX3_hasCell 13 = .ok (.ifCond .lt 15, 3) := by decide +kernel
theorem dX3_hasCell_16 : decode cX3_hasCell 16 = .ok (.iload_n 2, 1) := by decide +kernel
theorem dX3_hasCell_17 : decode cX3_hasCell 17 = .ok (.aload_n 0, 1) := by decide +kernel
theorem dX3_hasCell_18 : decode cX3_hasCell 18 = .ok (.getfield 21, 3) := by decide +kernel
theorem dX3_hasCell_21 : decode cX3_hasCell 21 = .ok (.if_icmp .ge 7, 3) := by decide +kernel
theorem dX3_hasCell_24 : decode cX3_hasCell 24 = .ok (.iconst 1, 1) := by decide +kernel
theorem dX3_hasCell_25 : decode cX3_hasCell 25 = .ok (.goto 4, 3) := by decide +kernel
theorem dX3_hasCell_28 : decode cX3_hasCell 28 = .ok (.iconst 0, 1) := by decide +kernel
theorem dX3_hasCell_29 : decode cX3_hasCell 29 = .ok (.ireturn, 1) := by decide +kernel
theorem dJ6_bitCount_0f7a4_0 : decode cJ6_bitCount_0f7a4 0 = .ok (.iload_n 0, 1) := by decide +kernel
theorem dJ6_bitCount_0f7a4_1 : decode cJ6_bitCount_0f7a4 1 = .ok (.iload_n 0, 1) := by decide +kernel
theorem dJ6_bitCount_0f7a4_2 : decode cJ6_bitCount_0f7a4 2 = .ok (.iconst 1, 1) := by decide +kernel
theorem dJ6_bitCount_0f7a4_3 : decode cJ6_bitCount_0f7a4 3 = .ok (.iushr, 1) := by decide +kernel
theorem dJ6_bitCount_0f7a4_4 : decode cJ6_bitCount_0f7a4 4 = .ok (.ldc_w 265, 3) := by decide +kernel
theorem dJ6_bitCount_0f7a4_7 : decode cJ6_bitCount_0f7a4 7 = .ok (.iand, 1) := by decide +kernel
theorem dJ6_bitCount_0f7a4_8 : decode cJ6_bitCount_0f7a4 8 = .ok (.isub, 1) := by decide +kernel
theorem dJ6_bitCount_0f7a4_9 : decode cJ6_bitCount_0f7a4 9 = .ok (.istore_n 0, 1) := by decide +kernel
theorem dJ6_bitCount_0f7a4_10 : decode cJ6_bitCount_0f7a4 10 = .ok (.iload_n 0, 1) := by decide +kernel
theorem dJ6_bitCount_0f7a4_11 : decode cJ6_bitCount_0f7a4 11 = .ok (.ldc_w 266, 3) := by decide +kernel
theorem dJ6_bitCount_0f7a4_14 : decode cJ6_bitCount_0f7a4 14 = .ok (.iand, 1) := by decide +kernel
theorem dJ6_bitCount_0f7a4_15 : decode cJ6_bitCount_0f7a4 15 = .ok (.iload_n 0, 1) := by decide +kernel
theorem dJ6_bitCount_0f7a4_16 : decode cJ6_bitCount_0f7a4 16 = .ok (.iconst 2, 1) := by decide +kernel
theorem dJ6_bitCount_0f7a4_17 : decode cJ6_bitCount_0f7a4 17 = .ok (.iushr, 1) := by decide +kernel
theorem dJ6_bitCount_0f7a4_18 : decode cJ6_bitCount_0f7a4 18 = .ok (.ldc_w 266, 3) := by decide +kernel
theorem dJ6_bitCount_0f7a4_21 : decode cJ6_bitCount_0f7a4 21 = .ok (.iand, 1) := by decide +kernel
theorem dJ6_bitCount_0f7a4_22 : decode cJ6_bitCount_0f7a4 22 = .ok (.iadd, 1) := by decide +kernel
theorem dJ6_bitCount_0f7a4_23 : decode cJ6_bitCount_0f7a4 23 = .ok (.istore_n 0, 1) := by decide +kernel
theorem dJ6_bitCount_0f7a4_24 : decode cJ6_bitCount_0f7a4 24 = .ok (.iload_n 0, 1) := by decide +kernel
theorem dJ6_bitCount_0f7a4_25 : decode cJ6_bitCount_0f7a4 25 = .ok (.iload_n 0, 1) := by decide +kernel
theorem dJ6_bitCount_0f7a4_26 : decode cJ6_bitCount_0f7a4 26 = .ok (.iconst 4, 1) := by decide +kernel
theorem dJ6_bitCount_0f7a4_27 : decode cJ6_bitCount_0f7a4 27 = .ok (.iushr, 1) := by decide +kernel
theorem dJ6_bitCount_0f7a4_28 : decode cJ6_bitCount_0f7a4 28 = .ok (.iadd, 1) := by decide +kernel
theorem dJ6_bitCount_0f7a4_29 : decode cJ6_bitCount_0f7a4 29 = .ok (.ldc_w 267, 3) := by decide +kernel
theorem dJ6_bitCount_0f7a4_32 : decode cJ6_bitCount_0f7a4 32 = .ok (.iand, 1) := by decide +kernel
theorem dJ6_bitCount_0f7a4_33 : decode cJ6_bitCount_0f7a4 33 = .ok (.istore_n 0, 1) := by decide +kernel
theorem dJ6_bitCount_0f7a4_34 : decode cJ6_bitCount_0f7a4 34 = .ok (.iload_n 0, 1) := by decide +kernel
theorem dJ6_bitCount_0f7a4_35 : decode cJ6_bitCount_0f7a4 35 = .ok (.iload_n 0, 1) := by decide +kernel
theorem dJ6_bitCount_0f7a4_36 : decode cJ6_bitCount_0f7a4 36 = .ok (.bipush 8, 2) := by decide +kernel
theorem dJ6_bitCount_0f7a4_38 : decode cJ6_bitCount_0f7a4 38 = .ok (.iushr, 1) := by decide +kernel
theorem dJ6_bitCount_0f7a4_39 : decode cJ6_bitCount_0f7a4 39 = .ok (.iadd, 1) := by decide +kernel
theorem dJ6_bitCount_0f7a4_40 : decode cJ6_bitCount_0f7a4 40 = .ok (.istore_n 0, 1) := by decide +kernel
theorem dJ6_bitCount_0f7a4_41 : decode cJ6_bitCount_0f7a4 41 = .ok (.iload_n 0, 1) := by decide +kernel
theorem dJ6_bitCount_0f7a4_42 : decode cJ6_bitCount_0f7a4 42 = .ok (.iload_n 0, 1) := by decide +kernel
theorem dJ6_bitCount_0f7a4_43 : decode cJ6_bitCount_0f7a4 43 = .ok (.bipush 16, 2) := by decide +kernel
theorem dJ6_bitCount_0f7a4_45 : decode cJ6_bitCount_0f7a4 45 = .ok (.iushr, 1) := by decide +kernel
theorem dJ6_bitCount_0f7a4_46 : decode cJ6_bitCount_0f7a4 46 = .ok (.iadd, 1) := by decide +kernel
theorem dJ6_bitCount_0f7a4_47 : decode cJ6_bitCount_0f7a4 47 = .ok (.istore_n 0, 1) := by decide +kernel
theorem dJ6_bitCount_0f7a4_48 : decode cJ6_bitCount_0f7a4 48 = .ok (.iload_n 0, 1) := by decide +kernel
theorem dJ6_bitCount_0f7a4_49 : decode cJ6_bitCount_0f7a4 49 = .ok (.bipush 63, 2) := by decide +kernel
theorem dJ6_bitCount_0f7a4_51 : decode cJ6_bitCount_0f7a4 51 = .ok (.iand, 1) := by decide +kernel
theorem dJ6_bitCount_0f7a4_52 : decode cJ6_bitCount_0f7a4 52 = .ok (.ireturn, 1) := by decide +kernel
theorem dJ9_max_7cf53_0 : decode cJ9_max_7cf53 0 = .ok (.iload_n 0, 1) := by decide +kernel
theorem dJ9_max_7cf53_1 : decode cJ9_max_7cf53 1 = .ok (.iload_n 1, 1) := by decide +kernel
theorem dJ9_max_7cf53_2 : decode cJ9_max_7cf53 2 = .ok (.if_icmp .lt 7, 3) := by decide +kernel
theorem dJ9_max_7cf53_5 : decode cJ9_max_7cf53 5 = .ok (.iload_n 0, 1) := by decide +kernel
theorem dJ9_max_7cf53_6 : decode cJ9_max_7cf53 6 = .ok (.goto 4, 3) := by decide +kernel
theorem dJ9_max_7cf53_9 : decode cJ9_max_7cf53 9 = .ok (.iload_n 1, 1) := by decide +kernel
theorem dJ9_max_7cf53_10 : decode cJ9_max_7cf53 10 = .ok (.ireturn, 1) := by decide +kernel
