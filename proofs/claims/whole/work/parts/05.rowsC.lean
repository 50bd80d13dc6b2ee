theorem dX5_init_0 : decode cX5_init 0 = .ok (.aload_n 0, 1) := by decide +kernel
theorem dX5_init_1 : decode cX5_init 1 = .ok (.invokespecial 1, 3) := by decide +kernel
theorem dX5_init_4 : decode cX5_init 4 = .ok (.aload_n 0, 1) := by decide +kernel
theorem dX5_init_5 : decode cX5_init 5 = .ok (.bipush 96, 2) := by decide +kernel
theorem dX5_init_7 : decode cX5_init 7 = .ok (.newarray .int, 2) := by decide +kernel
theorem dX5_init_9 : decode cX5_init 9 = .ok (.putfield 7, 3) := by decide +kernel
theorem dX5_init_12 : decode cX5_init 12 = .ok (.aload_n 0, 1) := by decide +kernel
theorem dX5_init_13 : decode cX5_init 13 = .ok (.bipush 24, 2) := by decide +kernel
theorem dX5_init_15 : decode cX5_init 15 = .ok (.newarray .int, 2) := by decide +kernel
theorem dX5_init_17 : decode cX5_init 17 = .ok (.putfield 13, 3) := by decide +kernel
theorem dX5_init_20 : decode cX5_init 20 = .ok (.aload_n 0, 1) := by decide +kernel
theorem dX5_init_21 : decode cX5_init 21 = .ok (.bipush 24, 2) := by decide +kernel
theorem dX5_init_23 : decode cX5_init 23 = .ok (.newarray .boolean, 2) := by decide +kernel
theorem dX5_init_25 : decode cX5_init 25 = .ok (.putfield 16, 3) := by decide +kernel
theorem dX5_init_28 : decode cX5_init 28 = .ok (.aload_n 0, 1) := by decide +kernel
theorem dX5_init_29 : decode cX5_init 29 = .ok (.iconst 5, 1) := by decide +kernel
theorem dX5_init_30 : decode cX5_init 30 = .ok (.newarray .int, 2) := by decide +kernel
theorem dX5_init_32 : decode cX5_init 32 = .ok (.putfield 20, 3) := by decide +kernel
theorem dX5_init_35 : decode cX5_init 35 = .ok (.aload_n 0, 1) := by decide +kernel
theorem dX5_init_36 : decode cX5_init 36 = .ok (.iconst 5, 1) := by decide +kernel
theorem dX5_init_37 : decode cX5_init 37 = .ok (.newarray .int, 2) := by decide +kernel
theorem dX5_init_39 : decode cX5_init 39 = .ok (.putfield 23, 3) := by decide +kernel
theorem dX5_init_42 : decode cX5_init 42 = .ok (.aload_n 0, 1) := by decide +kernel
theorem dX5_init_43 : decode cX5_init 43 = .ok (.iconst 5, 1) := by decide +kernel
theorem dX5_init_44 : decode cX5_init 44 = .ok (.newarray .int, 2) := by decide +kernel
theorem dX5_init_46 : decode cX5_init 46 = .ok (.putfield 26, 3) := by decide +kernel
theorem dX5_init_49 : decode cX5_init 49 = .ok (.aload_n 0, 1) := by decide +kernel
theorem dX5_init_50 : decode cX5_init 50 = .ok (.iconst 5, 1) := by decide +kernel
theorem dX5_init_51 : decode cX5_init 51 = .ok (.newarray .int, 2) := by decide +kernel
theorem dX5_init_53 : decode cX5_init 53 = .ok (.putfield 29, 3) := by decide +kernel
theorem dX5_init_56 : decode cX5_init 56 = .ok (.aload_n 0, 1) := by decide +kernel
theorem dX5_init_57 : decode cX5_init 57 = .ok (.iconst 5, 1) := by decide +kernel
theorem dX5_init_58 : decode cX5_init 58 = .ok (.newarray .int, 2) := by decide +kernel
theorem dX5_init_60 : decode cX5_init 60 = .ok (.putfield 32, 3) := by decide +kernel
theorem dX5_init_63 : decode cX5_init 63 = .ok (.aload_n 0, 1) := by decide +kernel
theorem dX5_init_64 : decode cX5_init 64 = .ok (.iconst 5, 1) := by decide +kernel
theorem dX5_init_65 : decode cX5_init 65 = .ok (.newarray .int, 2) := by decide +kernel
theorem dX5_init_67 : decode cX5_init 67 = .ok (.putfield 35, 3) := by decide +kernel
theorem dX5_init_70 : decode cX5_init 70 = .ok (.aload_n 0, 1) := by decide +kernel
theorem dX5_init_71 : decode cX5_init 71 = .ok (.iconst 5, 1) := by decide +kernel
theorem dX5_init_72 : decode cX5_init 72 = .ok (.newarray .boolean, 2) := by decide +kernel
theorem dX5_init_74 : decode cX5_init 74 = .ok (.putfield 38, 3) := by decide +kernel
theorem dX5_init_77 : decode cX5_init 77 = .ok (.aload_n 0, 1) := by decide +kernel
theorem dX5_init_78 : decode cX5_init 78 = .ok (.sipush 200, 3) := by decide +kernel
theorem dX5_init_81 : decode cX5_init 81 = .ok (.newarray .int, 2) := by decide +kernel
theorem dX5_init_83 : decode cX5_init 83 = .ok (.putfield 41, 3) := by decide +kernel
theorem dX5_init_86 : decode cX5_init 86 = .ok (.aload_n 0, 1) := by decide +kernel
theorem dX5_init_87 : decode cX5_init 87 = .ok (.sipush 200, 3) := by decide +kernel
theorem dX5_init_90 : decode cX5_init 90 = .ok (.newarray .int, 2) := by decide +kernel
theorem dX5_init_92 : decode cX5_init 92 = .ok (.putfield 44, 3) := by decide +kernel
theorem dX5_init_95 : decode cX5_init 95 = .ok (.aload_n 0, 1) := by decide +kernel
theorem dX5_init_96 : decode cX5_init 96 = .ok (.sipush 200, 3) := by decide +kernel
theorem dX5_init_99 : decode cX5_init 99 = .ok (.newarray .int, 2) := by decide +kernel
theorem dX5_init_101 : decode cX5_init 101 = .ok (.putfield 47, 3) := by decide +kernel
theorem dX5_init_104 : decode cX5_init 104 = .ok (.aload_n 0, 1) := by decide +kernel
theorem dX5_init_105 : decode cX5_init 105 = .ok (.sipush 200, 3) := by decide +kernel
theorem dX5_init_108 : decode cX5_init 108 = .ok (.newarray .int, 2) := by decide +kernel
theorem dX5_init_110 : decode cX5_init 110 = .ok (.putfield 50, 3) := by decide +kernel
theorem dX5_init_113 : decode cX5_init 113 = .ok (.aload_n 0, 1) := by decide +kernel
theorem dX5_init_114 : decode cX5_init 114 = .ok (.sipush 200, 3) := by decide +kernel
theorem dX5_init_117 : decode cX5_init 117 = .ok (.newarray .int, 2) := by decide +kernel
theorem dX5_init_119 : decode cX5_init 119 = .ok (.putfield 53, 3) := by decide +kernel
theorem dX5_init_122 : decode cX5_init 122 = .ok (.aload_n 0, 1) := by decide +kernel
theorem dX5_init_123 : decode cX5_init 123 = .ok (.bipush 20, 2) := by decide +kernel
theorem dX5_init_125 : decode cX5_init 125 = .ok (.newarray .int, 2) := by decide +kernel
theorem dX5_init_127 : decode cX5_init 127 = .ok (.putfield 56, 3) := by decide +kernel
theorem dX5_init_130 : decode cX5_init 130 = .ok (.aload_n 0, 1) := by decide +kernel
theorem dX5_init_131 : decode cX5_init 131 = .ok (.bipush 20, 2) := by decide +kernel
theorem dX5_init_133 : decode cX5_init 133 = .ok (.newarray .int, 2) := by decide +kernel
theorem dX5_init_135 : decode cX5_init 135 = .ok (.putfield 59, 3) := by decide +kernel
theorem dX5_init_138 : decode cX5_init 138 = .ok (.aload_n 0, 1) := by decide +kernel
theorem dX5_init_139 : decode cX5_init 139 = .ok (.bipush 20, 2) := by decide +kernel
theorem dX5_init_141 : decode cX5_init 141 = .ok (.newarray .int, 2) := by decide +kernel
theorem dX5_init_143 : decode cX5_init 143 = .ok (.putfield 62, 3) := by decide +kernel
theorem dX5_init_146 : decode cX5_init 146 = .ok (.aload_n 0, 1) := by decide +kernel
theorem dX5_init_147 : decode cX5_init 147 = .ok (.bipush 20, 2) := by decide +kernel
theorem dX5_init_149 : decode cX5_init 149 = .ok (.newarray .int, 2) := by decide +kernel
theorem dX5_init_151 : decode cX5_init 151 = .ok (.putfield 65, 3) := by decide +kernel
theorem dX5_init_154 : decode cX5_init 154 = .ok (.aload_n 0, 1) := by decide +kernel
theorem dX5_init_155 : decode cX5_init 155 = .ok (.sipush 1200, 3) := by decide +kernel
theorem dX5_init_158 : decode cX5_init 158 = .ok (.newarray .int, 2) := by decide +kernel
theorem dX5_init_160 : decode cX5_init 160 = .ok (.putfield 68, 3) := by decide +kernel
theorem dX5_init_163 : decode cX5_init 163 = .ok (.return_, 1) := by decide +kernel
theorem dX5_in_0 : decode cX5_in 0 = .ok (.iload_n 0, 1) := by decide +kernel
theorem dX5_in_1 : decode cX5_in 1 = .ok (.iload_n 1, 1) := by decide +kernel
theorem dX5_in_2 : decode cX5_in 2 = .ok (.if_icmp .lt 12, 3) := by decide +kernel
theorem dX5_in_5 : decode cX5_in 5 = .ok (.iload_n 0, 1) := by decide +kernel
theorem dX5_in_6 : decode cX5_in 6 = .ok (.iload_n 2, 1) := by decide +kernel
theorem dX5_in_7 : decode cX5_in 7 = .ok (.if_icmp .gt 7, 3) := by decide +kernel
theorem dX5_in_10 : decode cX5_in 10 = .ok (.iconst 1, 1) := by decide +kernel
theorem dX5_in_11 : decode cX5_in 11 = .ok (.goto 4, 3) := by decide +kernel
theorem dX5_in_14 : decode cX5_in 14 = .ok (.iconst 0, 1) := by decide +kernel
theorem dX5_in_15 : decode cX5_in 15 = .ok (.ireturn, 1) := by decide +kernel
theorem dX5_isPerson_0 : decode cX5_isPerson 0 = .ok (.iload_n 1, 1) := by decide +kernel
theorem dX5_isPerson_1 : decode cX5_isPerson 1 = .ok (.ifCond .lt 15, 3) := by decide +kernel
theorem dX5_isPerson_4 : decode cX5_isPerson 4 = .ok (.iload_n 1, 1) := by decide +kernel
theorem dX5_isPerson_5 : decode cX5_isPerson 5 = .ok (.aload_n 0, 1) := by decide +kernel
theorem dX5_isPerson_6 : decode cX5_isPerson 6 = .ok (.getfield 71, 3) := by decide +kernel
theorem dX5_isPerson_9 : decode cX5_isPerson 9 = .ok (.if_icmp .ge 7, 3) := by decide +kernel
theorem dX5_isPerson_12 : decode cX5_isPerson 12 = .ok (.iconst 1, 1) := by decide +kernel
theorem dX5_isPerson_13 : decode cX5_isPerson 13 = .ok (.goto 4, 3) := by decide +kernel
theorem dX5_isPerson_16 : decode cX5_isPerson 16 = .ok (.iconst 0, 1) := by decide +kernel
theorem dX5_isPerson_17 : decode cX5_isPerson 17 = .ok (.ireturn, 1) := by decide +kernel
theorem dX5_isMark_0 : decode cX5_isMark 0 = .ok (.iload_n 0, 1) := by decide +kernel
theorem dX5_isMark_1 : decode cX5_isMark 1 = .ok (.ifCond .lt 13, 3) := by decide +kernel
theorem dX5_isMark_4 : decode cX5_isMark 4 = .ok (.iload_n 0, 1) := by decide +kernel
theorem dX5_isMark_5 : decode cX5_isMark 5 = .ok (.bipush 7, 2) := by decide +kernel
theorem dX5_isMark_7 : decode cX5_isMark 7 = .ok (.if_icmp .gt 7, 3) := by decide +kernel
theorem dX5_isMark_10 : decode cX5_isMark 10 = .ok (.iconst 1, 1) := by decide +kernel
theorem dX5_isMark_11 : decode cX5_isMark 11 = .ok (.goto 4, 3) := by decide +kernel
theorem dX5_isMark_14 : decode cX5_isMark 14 = .ok (.iconst 0, 1) := by decide +kernel
theorem dX5_isMark_15 : decode cX5_isMark 15 = .ok (.ireturn, 1) := by decide +kernel
set_option maxRecDepth 20000 in
theorem ggX5_person_X5_isMark : GoodIn wsX5_person wsX5_isMark := goodIn_r _ [7] (by decide +kernel) (by decide +kernel)
set_option maxRecDepth 20000 in
theorem gX5_person_X5_isMark : GoodIn wsX5_person (va_wsS RX5 75 yX5_isMark wsX5_isMark) := goodIn_app (goodIn_of _ (by decide +kernel)) ggX5_person_X5_isMark
theorem dX5_person_0 : decode cX5_person 0 = .ok (.iload_n 1, 1) := by decide +kernel
theorem dX5_person_1 : decode cX5_person 1 = .ok (.invokestatic 75, 3) := by decide +kernel
theorem dX5_person_4 : decode cX5_person 4 = .ok (.ifCond .eq 34, 3) := by decide +kernel
theorem dX5_person_7 : decode cX5_person 7 = .ok (.iload_n 2, 1) := by decide +kernel
theorem dX5_person_8 : decode cX5_person 8 = .ok (.invokestatic 75, 3) := by decide +kernel
theorem dX5_person_11 : decode cX5_person 11 = .ok (.ifCond .eq 27, 3) := by decide +kernel
theorem dX5_person_14 : decode cX5_person 14 = .ok (.iload_n 3, 1) := by decide +kernel
theorem dX5_person_15 : decode cX5_person 15 = .ok (.invokestatic 75, 3) := by decide +kernel
theorem dX5_person_18 : decode cX5_person 18 = .ok (.ifCond .eq 20, 3) := by decide +kernel
theorem dX5_person_21 : decode cX5_person 21 = .ok (.iload 4, 2) := by decide +kernel
theorem dX5_person_23 : decode cX5_person 23 = .ok (.invokestatic 75, 3) := by decide +kernel
theorem dX5_person_26 : decode cX5_person 26 = .ok (.ifCond .eq 12, 3) := by decide +kernel
theorem dX5_person_29 : decode cX5_person 29 = .ok (.aload_n 0, 1) := by decide +kernel
theorem dX5_person_30 : decode cX5_person 30 = .ok (.getfield 71, 3) := by decide +kernel
theorem dX5_person_33 : decode cX5_person 33 = .ok (.bipush 24, 2) := by decide +kernel
theorem dX5_person_35 : decode cX5_person 35 = .ok (.if_icmp .ne 5, 3) := by decide +kernel
theorem dX5_person_38 : decode cX5_person 38 = .ok (.iconst (-1), 1) := by decide +kernel
theorem dX5_person_39 : decode cX5_person 39 = .ok (.ireturn, 1) := by decide +kernel
theorem dX5_person_40 : decode cX5_person 40 = .ok (.aload_n 0, 1) := by decide +kernel
theorem dX5_person_41 : decode cX5_person 41 = .ok (.getfield 7, 3) := by decide +kernel
theorem dX5_person_44 : decode cX5_person 44 = .ok (.iconst 4, 1) := by decide +kernel
theorem dX5_person_45 : decode cX5_person 45 = .ok (.aload_n 0, 1) := by decide +kernel
theorem dX5_person_46 : decode cX5_person 46 = .ok (.getfield 71, 3) := by decide +kernel
theorem dX5_person_49 : decode cX5_person 49 = .ok (.imul, 1) := by decide +kernel
theorem dX5_person_50 : decode cX5_person 50 = .ok (.iload_n 1, 1) := by decide +kernel
theorem dX5_person_51 : decode cX5_person 51 = .ok (.iastore, 1) := by decide +kernel
theorem dX5_person_52 : decode cX5_person 52 = .ok (.aload_n 0, 1) := by decide +kernel
theorem dX5_person_53 : decode cX5_person 53 = .ok (.getfield 7, 3) := by decide +kernel
theorem dX5_person_56 : decode cX5_person 56 = .ok (.iconst 4, 1) := by decide +kernel
theorem dX5_person_57 : decode cX5_person 57 = .ok (.aload_n 0, 1) := by decide +kernel
theorem dX5_person_58 : decode cX5_person 58 = .ok (.getfield 71, 3) := by decide +kernel
theorem dX5_person_61 : decode cX5_person 61 = .ok (.imul, 1) := by decide +kernel
theorem dX5_person_62 : decode cX5_person 62 = .ok (.iconst 1, 1) := by decide +kernel
theorem dX5_person_63 : decode cX5_person 63 = .ok (.iadd, 1) := by decide +kernel
theorem dX5_person_64 : decode cX5_person 64 = .ok (.iload_n 2, 1) := by decide +kernel
theorem dX5_person_65 : decode cX5_person 65 = .ok (.iastore, 1) := by decide +kernel
theorem dX5_person_66 : decode cX5_person 66 = .ok (.aload_n 0, 1) := by decide +kernel
theorem dX5_person_67 : decode cX5_person 67 = .ok (.getfield 7, 3) := by decide +kernel
theorem dX5_person_70 : decode cX5_person 70 = .ok (.iconst 4, 1) := by decide +kernel
theorem dX5_person_71 : decode cX5_person 71 = .ok (.aload_n 0, 1) := by decide +kernel
theorem dX5_person_72 : decode cX5_person 72 = .ok (.getfield 71, 3) := by decide +kernel
theorem dX5_person_75 : decode cX5_person 75 = .ok (.imul, 1) := by decide +kernel
theorem dX5_person_76 : decode cX5_person 76 = .ok (.iconst 2, 1) := by decide +kernel
theorem dX5_person_77 : decode cX5_person 77 = .ok (.iadd, 1) := by decide +kernel
theorem dX5_person_78 : decode cX5_person 78 = .ok (.iload_n 3, 1) := by decide +kernel
theorem dX5_person_79 : decode cX5_person 79 = .ok (.iastore, 1) := by decide +kernel
theorem dX5_person_80 : decode cX5_person 80 = .ok (.aload_n 0, 1) := by decide +kernel
theorem dX5_person_81 : decode cX5_person 81 = .ok (.getfield 7, 3) := by decide +kernel
theorem dX5_person_84 : decode cX5_person 84 = .ok (.iconst 4, 1) := by decide +kernel
theorem dX5_person_85 : decode cX5_person 85 = .ok (.aload_n 0, 1) := by decide +kernel
theorem dX5_person_86 : decode cX5_person 86 = .ok (.getfield 71, 3) := by decide +kernel
theorem dX5_person_89 : decode cX5_person 89 = .ok (.imul, 1) := by decide +kernel
theorem dX5_person_90 : decode cX5_person 90 = .ok (.iconst 3, 1) := by decide +kernel
theorem dX5_person_91 : decode cX5_person 91 = .ok (.iadd, 1) := by decide +kernel
theorem dX5_person_92 : decode cX5_person 92 = .ok (.iload 4, 2) := by decide +kernel
theorem dX5_person_94 : decode cX5_person 94 = .ok (.iastore, 1) := by decide +kernel
theorem dX5_person_95 : decode cX5_person 95 = .ok (.aload_n 0, 1) := by decide +kernel
theorem dX5_person_96 : decode cX5_person 96 = .ok (.getfield 13, 3) := by decide +kernel
theorem dX5_person_99 : decode cX5_person 99 = .ok (.aload_n 0, 1) := by decide +kernel
theorem dX5_person_100 : decode cX5_person 100 = .ok (.getfield 71, 3) := by decide +kernel
theorem dX5_person_103 : decode cX5_person 103 = .ok (.iconst (-1), 1) := by decide +kernel
theorem dX5_person_104 : decode cX5_person 104 = .ok (.iastore, 1) := by decide +kernel
theorem dX5_person_105 : decode cX5_person 105 = .ok (.aload_n 0, 1) := by decide +kernel
theorem dX5_person_106 : decode cX5_person 106 = .ok (.aload_n 0, 1) := by decide +kernel
theorem dX5_person_107 : decode cX5_person 107 = .ok (.getfield 71, 3) := by decide +kernel
theorem dX5_person_110 : decode cX5_person 110 = .ok (.iconst 1, 1) := by decide +kernel
theorem dX5_person_111 : decode cX5_person 111 = .ok (.iadd, 1) := by decide +kernel
theorem dX5_person_112 : decode cX5_person 112 = .ok (.putfield 71, 3) := by decide +kernel
theorem dX5_person_115 : decode cX5_person 115 = .ok (.aload_n 0, 1) := by decide +kernel
theorem dX5_person_116 : decode cX5_person 116 = .ok (.getfield 71, 3) := by decide +kernel
theorem dX5_person_119 : decode cX5_person 119 = .ok (.iconst 1, 1) := by decide +kernel
theorem dX5_person_120 : decode cX5_person 120 = .ok (.isub, 1) := by decide +kernel
theorem dX5_person_121 : decode cX5_person 121 = .ok (.ireturn, 1) := by decide +kernel
set_option maxRecDepth 20000 in
theorem ggX5_mark_X5_isPerson : GoodIn wsX5_mark wsX5_isPerson := goodIn_r _ [6, 7, 14, 15, 16, 17, 18, 19, 20, 21, 22, 23, 24, 25, 26, 27, 28, 29, 30, 31, 32, 33, 34, 35, 36, 37, 38, 39] (by decide +kernel) (by decide +kernel)
set_option maxRecDepth 20000 in
theorem gX5_mark_X5_isPerson : GoodIn wsX5_mark (wsV RX5 79 RX5 yX5_isPerson wsX5_isPerson) := goodIn_app (goodIn_of _ (by decide +kernel)) ggX5_mark_X5_isPerson
set_option maxRecDepth 20000 in
theorem ggX5_mark_X5_in : GoodIn wsX5_mark wsX5_in := goodIn_r _ [10] (by decide +kernel) (by decide +kernel)
set_option maxRecDepth 20000 in
theorem gX5_mark_X5_in : GoodIn wsX5_mark (va_wsS RX5 82 yX5_in wsX5_in) := goodIn_app (goodIn_of _ (by decide +kernel)) ggX5_mark_X5_in
set_option maxRecDepth 20000 in
theorem ggX5_mark_X5_isMark : GoodIn wsX5_mark wsX5_isMark := goodIn_r _ [13] (by decide +kernel) (by decide +kernel)
set_option maxRecDepth 20000 in
theorem gX5_mark_X5_isMark : GoodIn wsX5_mark (va_wsS RX5 75 yX5_isMark wsX5_isMark) := goodIn_app (goodIn_of _ (by decide +kernel)) ggX5_mark_X5_isMark
theorem dX5_mark_0 : decode cX5_mark 0 = .ok (.aload_n 0, 1) := by decide +kernel
theorem dX5_mark_1 : decode cX5_mark 1 = .ok (.iload_n 1, 1) := by decide +kernel
theorem dX5_mark_2 : decode cX5_mark 2 = .ok (.invokevirtual 79, 3) := by decide +kernel
theorem dX5_mark_5 : decode cX5_mark 5 = .ok (.ifCond .eq 19, 3) := by decide +kernel
theorem dX5_mark_8 : decode cX5_mark 8 = .ok (.iload_n 2, 1) := by decide +kernel
theorem dX5_mark_9 : decode cX5_mark 9 = .ok (.iconst 0, 1) := by decide +kernel
theorem dX5_mark_10 : decode cX5_mark 10 = .ok (.iconst 3, 1) := by decide +kernel
theorem dX5_mark_11 : decode cX5_mark 11 = .ok (.invokestatic 82, 3) := by decide +kernel
theorem dX5_mark_14 : decode cX5_mark 14 = .ok (.ifCond .eq 10, 3) := by decide +kernel
theorem dX5_mark_17 : decode cX5_mark 17 = .ok (.iload_n 3, 1) := by decide +kernel
theorem dX5_mark_18 : decode cX5_mark 18 = .ok (.invokestatic 75, 3) := by decide +kernel
theorem dX5_mark_21 : decode cX5_mark 21 = .ok (.ifCond .ne 5, 3) := by decide +kernel
theorem dX5_mark_24 : decode cX5_mark 24 = .ok (.iconst 0, 1) := by decide +kernel
theorem dX5_mark_25 : decode cX5_mark 25 = .ok (.ireturn, 1) := by decide +kernel
theorem dX5_mark_26 : decode cX5_mark 26 = .ok (.aload_n 0, 1) := by decide +kernel
theorem dX5_mark_27 : decode cX5_mark 27 = .ok (.getfield 7, 3) := by decide +kernel
theorem dX5_mark_30 : decode cX5_mark 30 = .ok (.iconst 4, 1) := by decide +kernel
theorem dX5_mark_31 : decode cX5_mark 31 = .ok (.iload_n 1, 1) := by decide +kernel
theorem dX5_mark_32 : decode cX5_mark 32 = .ok (.imul, 1) := by decide +kernel
theorem dX5_mark_33 : decode cX5_mark 33 = .ok (.iload_n 2, 1) := by decide +kernel
theorem dX5_mark_34 : decode cX5_mark 34 = .ok (.iadd, 1) := by decide +kernel
theorem dX5_mark_35 : decode cX5_mark 35 = .ok (.iload_n 3, 1) := by decide +kernel
theorem dX5_mark_36 : decode cX5_mark 36 = .ok (.iastore, 1) := by decide +kernel
theorem dX5_mark_37 : decode cX5_mark 37 = .ok (.iconst 1, 1) := by decide +kernel
theorem dX5_mark_38 : decode cX5_mark 38 = .ok (.ireturn, 1) := by decide +kernel
theorem dX5_head_0 : decode cX5_head 0 = .ok (.iload_n 1, 1) := by decide +kernel
theorem dX5_head_1 : decode cX5_head 1 = .ok (.istore_n 2, 1) := by decide +kernel
theorem dX5_head_2 : decode cX5_head 2 = .ok (.aload_n 0, 1) := by decide +kernel
theorem dX5_head_3 : decode cX5_head 3 = .ok (.getfield 13, 3) := by decide +kernel
theorem dX5_head_6 : decode cX5_head 6 = .ok (.iload_n 2, 1) := by decide +kernel
theorem dX5_head_7 : decode cX5_head 7 = .ok (.iaload, 1) := by decide +kernel
theorem dX5_head_8 : decode cX5_head 8 = .ok (.iconst (-1), 1) := by decide +kernel
theorem dX5_head_9 : decode cX5_head 9 = .ok (.if_icmp .eq 13, 3) := by decide +kernel
theorem dX5_head_12 : decode cX5_head 12 = .ok (.aload_n 0, 1) := by decide +kernel
theorem dX5_head_13 : decode cX5_head 13 = .ok (.getfield 13, 3) := by decide +kernel
theorem dX5_head_16 : decode cX5_head 16 = .ok (.iload_n 2, 1) := by decide +kernel
theorem dX5_head_17 : decode cX5_head 17 = .ok (.iaload, 1) := by decide +kernel
theorem dX5_head_18 : decode cX5_head 18 = .ok (.istore_n 2, 1) := by decide +kernel
theorem dX5_head_19 : decode cX5_head 19 = .ok (.goto (-17), 3) := by decide +kernel
theorem dX5_head_22 : decode cX5_head 22 = .ok (.iload_n 2, 1) := by decide +kernel
theorem dX5_head_23 : decode cX5_head 23 = .ok (.ireturn, 1) := by decide +kernel
set_option maxRecDepth 20000 in
theorem ggX5_strikes_X5_head : GoodIn wsX5_strikes wsX5_head := goodIn_r _ [7, 8, 9, 10, 11, 12, 13, 14, 15, 16, 17, 18, 19, 20, 21, 22, 23, 24, 25, 26, 27, 28, 29, 30, 31, 32, 33, 34] (by decide +kernel) (by decide +kernel)
set_option maxRecDepth 20000 in
theorem gX5_strikes_X5_head : GoodIn wsX5_strikes (wsV RX5 86 RX5 yX5_head wsX5_head) := goodIn_app (goodIn_of _ (by decide +kernel)) ggX5_strikes_X5_head
theorem dX5_strikes_0 : decode cX5_strikes 0 = .ok (.iconst 0, 1) := by decide +kernel
theorem dX5_strikes_1 : decode cX5_strikes 1 = .ok (.istore_n 2, 1) := by decide +kernel
theorem dX5_strikes_2 : decode cX5_strikes 2 = .ok (.iload_n 2, 1) := by decide +kernel
theorem dX5_strikes_3 : decode cX5_strikes 3 = .ok (.aload_n 0, 1) := by decide +kernel
theorem dX5_strikes_4 : decode cX5_strikes 4 = .ok (.getfield 71, 3) := by decide +kernel
theorem dX5_strikes_7 : decode cX5_strikes 7 = .ok (.if_icmp .ge 25, 3) := by decide +kernel
theorem dX5_strikes_10 : decode cX5_strikes 10 = .ok (.aload_n 0, 1) := by decide +kernel
theorem dX5_strikes_11 : decode cX5_strikes 11 = .ok (.iload_n 2, 1) := by decide +kernel
theorem dX5_strikes_12 : decode cX5_strikes 12 = .ok (.invokevirtual 86, 3) := by decide +kernel
theorem dX5_strikes_15 : decode cX5_strikes 15 = .ok (.iload_n 1, 1) := by decide +kernel
theorem dX5_strikes_16 : decode cX5_strikes 16 = .ok (.if_icmp .ne 10, 3) := by decide +kernel
theorem dX5_strikes_19 : decode cX5_strikes 19 = .ok (.aload_n 0, 1) := by decide +kernel
theorem dX5_strikes_20 : decode cX5_strikes 20 = .ok (.getfield 16, 3) := by decide +kernel
theorem dX5_strikes_23 : decode cX5_strikes 23 = .ok (.iload_n 2, 1) := by decide +kernel
theorem dX5_strikes_24 : decode cX5_strikes 24 = .ok (.iconst 1, 1) := by decide +kernel
theorem dX5_strikes_25 : decode cX5_strikes 25 = .ok (.bastore, 1) := by decide +kernel
theorem dX5_strikes_26 : decode cX5_strikes 26 = .ok (.iinc 2 1, 3) := by decide +kernel
theorem dX5_strikes_29 : decode cX5_strikes 29 = .ok (.goto (-27), 3) := by decide +kernel
theorem dX5_strikes_32 : decode cX5_strikes 32 = .ok (.return_, 1) := by decide +kernel
set_option maxRecDepth 20000 in
theorem ggX5_one_X5_isPerson : GoodIn wsX5_one wsX5_isPerson := goodIn_r _ [7, 8, 17, 18, 19, 20, 21, 22, 23, 24, 25, 26, 27, 28, 29, 30, 31, 32, 33, 34, 35, 36, 37, 38, 39, 40, 41, 42] (by decide +kernel) (by decide +kernel)
set_option maxRecDepth 20000 in
theorem gX5_one_X5_isPerson : GoodIn wsX5_one (wsV RX5 79 RX5 yX5_isPerson wsX5_isPerson) := goodIn_app (goodIn_of _ (by decide +kernel)) ggX5_one_X5_isPerson
set_option maxRecDepth 20000 in
theorem ggX5_one_X5_strikes : GoodIn wsX5_one wsX5_strikes := goodIn_r _ [12, 8, 2, 13, 14, 15, 6, 16, 1, 17, 18, 19, 20, 21, 22, 23, 24, 25, 26, 27, 28, 29, 30, 31, 32, 33, 34, 35, 36, 37, 38, 39, 40, 41, 42] (by decide +kernel) (by decide +kernel)
set_option maxRecDepth 20000 in
theorem gX5_one_X5_strikes : GoodIn wsX5_one (wsV RX5 90 RX5 yX5_strikes wsX5_strikes) := goodIn_app (goodIn_of _ (by decide +kernel)) ggX5_one_X5_strikes
theorem dX5_one_0 : decode cX5_one 0 = .ok (.aload_n 0, 1) := by decide +kernel
theorem dX5_one_1 : decode cX5_one 1 = .ok (.iload_n 1, 1) := by decide +kernel
theorem dX5_one_2 : decode cX5_one 2 = .ok (.invokevirtual 79, 3) := by decide +kernel
theorem dX5_one_5 : decode cX5_one 5 = .ok (.ifCond .eq 36, 3) := by decide +kernel
theorem dX5_one_8 : decode cX5_one 8 = .ok (.aload_n 0, 1) := by decide +kernel
theorem dX5_one_9 : decode cX5_one 9 = .ok (.iload_n 2, 1) := by decide +kernel
theorem dX5_one_10 : decode cX5_one 10 = .ok (.invokevirtual 79, 3) := by decide +kernel
theorem dX5_one_13 : decode cX5_one 13 = .ok (.ifCond .eq 28, 3) := by decide +kernel
theorem dX5_one_16 : decode cX5_one 16 = .ok (.iload_n 1, 1) := by decide +kernel
theorem dX5_one_17 : decode cX5_one 17 = .ok (.iload_n 2, 1) := by decide +kernel
theorem dX5_one_18 : decode cX5_one 18 = .ok (.if_icmp .eq 23, 3) := by decide +kernel
theorem dX5_one_21 : decode cX5_one 21 = .ok (.aload_n 0, 1) := by decide +kernel
theorem dX5_one_22 : decode cX5_one 22 = .ok (.getfield 13, 3) := by decide +kernel
theorem dX5_one_25 : decode cX5_one 25 = .ok (.iload_n 1, 1) := by decide +kernel
theorem dX5_one_26 : decode cX5_one 26 = .ok (.iaload, 1) := by decide +kernel
theorem dX5_one_27 : decode cX5_one 27 = .ok (.iconst (-1), 1) := by decide +kernel
theorem dX5_one_28 : decode cX5_one 28 = .ok (.if_icmp .ne 13, 3) := by decide +kernel
theorem dX5_one_31 : decode cX5_one 31 = .ok (.aload_n 0, 1) := by decide +kernel
theorem dX5_one_32 : decode cX5_one 32 = .ok (.getfield 13, 3) := by decide +kernel
theorem dX5_one_35 : decode cX5_one 35 = .ok (.iload_n 2, 1) := by decide +kernel
theorem dX5_one_36 : decode cX5_one 36 = .ok (.iaload, 1) := by decide +kernel
theorem dX5_one_37 : decode cX5_one 37 = .ok (.iconst (-1), 1) := by decide +kernel
theorem dX5_one_38 : decode cX5_one 38 = .ok (.if_icmp .eq 5, 3) := by decide +kernel
theorem dX5_one_41 : decode cX5_one 41 = .ok (.iconst 0, 1) := by decide +kernel
theorem dX5_one_42 : decode cX5_one 42 = .ok (.ireturn, 1) := by decide +kernel
theorem dX5_one_43 : decode cX5_one 43 = .ok (.aload_n 0, 1) := by decide +kernel
theorem dX5_one_44 : decode cX5_one 44 = .ok (.getfield 16, 3) := by decide +kernel
theorem dX5_one_47 : decode cX5_one 47 = .ok (.iload_n 1, 1) := by decide +kernel
theorem dX5_one_48 : decode cX5_one 48 = .ok (.baload, 1) := by decide +kernel
theorem dX5_one_49 : decode cX5_one 49 = .ok (.ifCond .ne 12, 3) := by decide +kernel
theorem dX5_one_52 : decode cX5_one 52 = .ok (.aload_n 0, 1) := by decide +kernel
theorem dX5_one_53 : decode cX5_one 53 = .ok (.getfield 16, 3) := by decide +kernel
theorem dX5_one_56 : decode cX5_one 56 = .ok (.iload_n 2, 1) := by decide +kernel
theorem dX5_one_57 : decode cX5_one 57 = .ok (.baload, 1) := by decide +kernel
theorem dX5_one_58 : decode cX5_one 58 = .ok (.ifCond .eq 7, 3) := by decide +kernel
theorem dX5_one_61 : decode cX5_one 61 = .ok (.iconst 1, 1) := by decide +kernel
theorem dX5_one_62 : decode cX5_one 62 = .ok (.goto 4, 3) := by decide +kernel
theorem dX5_one_65 : decode cX5_one 65 = .ok (.iconst 0, 1) := by decide +kernel
theorem dX5_one_66 : decode cX5_one 66 = .ok (.istore_n 3, 1) := by decide +kernel
theorem dX5_one_67 : decode cX5_one 67 = .ok (.aload_n 0, 1) := by decide +kernel
theorem dX5_one_68 : decode cX5_one 68 = .ok (.getfield 13, 3) := by decide +kernel
theorem dX5_one_71 : decode cX5_one 71 = .ok (.iload_n 2, 1) := by decide +kernel
theorem dX5_one_72 : decode cX5_one 72 = .ok (.iload_n 1, 1) := by decide +kernel
theorem dX5_one_73 : decode cX5_one 73 = .ok (.iastore, 1) := by decide +kernel
theorem dX5_one_74 : decode cX5_one 74 = .ok (.iload_n 3, 1) := by decide +kernel
theorem dX5_one_75 : decode cX5_one 75 = .ok (.ifCond .eq 8, 3) := by decide +kernel
theorem dX5_one_78 : decode cX5_one 78 = .ok (.aload_n 0, 1) := by decide +kernel
theorem dX5_one_79 : decode cX5_one 79 = .ok (.iload_n 1, 1) := by decide +kernel
theorem dX5_one_80 : decode cX5_one 80 = .ok (.invokevirtual 90, 3) := by decide +kernel
theorem dX5_one_83 : decode cX5_one 83 = .ok (.iconst 1, 1) := by decide +kernel
theorem dX5_one_84 : decode cX5_one 84 = .ok (.ireturn, 1) := by decide +kernel
set_option maxRecDepth 20000 in
theorem ggX5_part_X5_isPerson : GoodIn wsX5_part wsX5_isPerson := goodIn_r _ [6, 7, 8, 9, 10, 11, 12, 13, 14, 15, 16, 17, 18, 19, 20, 21, 22, 23, 24, 25, 26, 27, 28, 29, 30, 31, 32, 33] (by decide +kernel) (by decide +kernel)
set_option maxRecDepth 20000 in
theorem gX5_part_X5_isPerson : GoodIn wsX5_part (wsV RX5 79 RX5 yX5_isPerson wsX5_isPerson) := goodIn_app (goodIn_of _ (by decide +kernel)) ggX5_part_X5_isPerson
theorem dX5_part_0 : decode cX5_part 0 = .ok (.aload_n 0, 1) := by decide +kernel
theorem dX5_part_1 : decode cX5_part 1 = .ok (.iload_n 1, 1) := by decide +kernel
theorem dX5_part_2 : decode cX5_part 2 = .ok (.invokevirtual 79, 3) := by decide +kernel
theorem dX5_part_5 : decode cX5_part 5 = .ok (.ifCond .eq 13, 3) := by decide +kernel
theorem dX5_part_8 : decode cX5_part 8 = .ok (.aload_n 0, 1) := by decide +kernel
theorem dX5_part_9 : decode cX5_part 9 = .ok (.getfield 13, 3) := by decide +kernel
theorem dX5_part_12 : decode cX5_part 12 = .ok (.iload_n 1, 1) := by decide +kernel
theorem dX5_part_13 : decode cX5_part 13 = .ok (.iaload, 1) := by decide +kernel
theorem dX5_part_14 : decode cX5_part 14 = .ok (.iconst (-1), 1) := by decide +kernel
theorem dX5_part_15 : decode cX5_part 15 = .ok (.if_icmp .ne 5, 3) := by decide +kernel
theorem dX5_part_18 : decode cX5_part 18 = .ok (.iconst 0, 1) := by decide +kernel
theorem dX5_part_19 : decode cX5_part 19 = .ok (.ireturn, 1) := by decide +kernel
theorem dX5_part_20 : decode cX5_part 20 = .ok (.aload_n 0, 1) := by decide +kernel
theorem dX5_part_21 : decode cX5_part 21 = .ok (.getfield 13, 3) := by decide +kernel
theorem dX5_part_24 : decode cX5_part 24 = .ok (.iload_n 1, 1) := by decide +kernel
theorem dX5_part_25 : decode cX5_part 25 = .ok (.iconst (-1), 1) := by decide +kernel
theorem dX5_part_26 : decode cX5_part 26 = .ok (.iastore, 1) := by decide +kernel
theorem dX5_part_27 : decode cX5_part 27 = .ok (.iconst 1, 1) := by decide +kernel
theorem dX5_part_28 : decode cX5_part 28 = .ok (.ireturn, 1) := by decide +kernel
set_option maxRecDepth 20000 in
theorem ggX5_strike_X5_isPerson : GoodIn wsX5_strike wsX5_isPerson := goodIn_r _ [6, 7, 17, 18, 19, 20, 21, 22, 23, 24, 25, 26, 27, 28, 29, 30, 31, 32, 33, 34, 35, 36, 37, 38, 39, 40, 41, 42] (by decide +kernel) (by decide +kernel)
set_option maxRecDepth 20000 in
theorem gX5_strike_X5_isPerson : GoodIn wsX5_strike (wsV RX5 79 RX5 yX5_isPerson wsX5_isPerson) := goodIn_app (goodIn_of _ (by decide +kernel)) ggX5_strike_X5_isPerson
set_option maxRecDepth 20000 in
theorem ggX5_strike_X5_head : GoodIn wsX5_strike wsX5_head := goodIn_r _ [11, 12, 17, 18, 19, 20, 21, 22, 23, 24, 25, 26, 27, 28, 29, 30, 31, 32, 33, 34, 35, 36, 37, 38, 39, 40, 41, 42] (by decide +kernel) (by decide +kernel)
set_option maxRecDepth 20000 in
theorem gX5_strike_X5_head : GoodIn wsX5_strike (wsV RX5 86 RX5 yX5_head wsX5_head) := goodIn_app (goodIn_of _ (by decide +kernel)) ggX5_strike_X5_head
set_option maxRecDepth 20000 in
theorem ggX5_strike_X5_strikes : GoodIn wsX5_strike wsX5_strikes := goodIn_r _ [16, 7, 1, 8, 9, 10, 5, 11, 12, 17, 18, 19, 20, 21, 22, 23, 24, 25, 26, 27, 28, 29, 30, 31, 32, 33, 34, 35, 36, 37, 38, 39, 40, 41, 42] (by decide +kernel) (by decide +kernel)
set_option maxRecDepth 20000 in
theorem gX5_strike_X5_strikes : GoodIn wsX5_strike (wsV RX5 90 RX5 yX5_strikes wsX5_strikes) := goodIn_app (goodIn_of _ (by decide +kernel)) ggX5_strike_X5_strikes
theorem dX5_strike_0 : decode cX5_strike 0 = .ok (.aload_n 0, 1) := by decide +kernel
theorem dX5_strike_1 : decode cX5_strike 1 = .ok (.iload_n 1, 1) := by decide +kernel
theorem dX5_strike_2 : decode cX5_strike 2 = .ok (.invokevirtual 79, 3) := by decide +kernel
theorem dX5_strike_5 : decode cX5_strike 5 = .ok (.ifCond .eq 12, 3) := by decide +kernel
theorem dX5_strike_8 : decode cX5_strike 8 = .ok (.aload_n 0, 1) := by decide +kernel
theorem dX5_strike_9 : decode cX5_strike 9 = .ok (.getfield 16, 3) := by decide +kernel
theorem dX5_strike_12 : decode cX5_strike 12 = .ok (.iload_n 1, 1) := by decide +kernel
theorem dX5_strike_13 : decode cX5_strike 13 = .ok (.baload, 1) := by decide +kernel
theorem dX5_strike_14 : decode cX5_strike 14 = .ok (.ifCond .eq 5, 3) := by decide +kernel
theorem dX5_strike_17 : decode cX5_strike 17 = .ok (.iconst 0, 1) := by decide +kernel
theorem dX5_strike_18 : decode cX5_strike 18 = .ok (.ireturn, 1) := by decide +kernel
theorem dX5_strike_19 : decode cX5_strike 19 = .ok (.aload_n 0, 1) := by decide +kernel
theorem dX5_strike_20 : decode cX5_strike 20 = .ok (.aload_n 0, 1) := by decide +kernel
theorem dX5_strike_21 : decode cX5_strike 21 = .ok (.iload_n 1, 1) := by decide +kernel
theorem dX5_strike_22 : decode cX5_strike 22 = .ok (.invokevirtual 86, 3) := by decide +kernel
theorem dX5_strike_25 : decode cX5_strike 25 = .ok (.invokevirtual 90, 3) := by decide +kernel
theorem dX5_strike_28 : decode cX5_strike 28 = .ok (.iconst 1, 1) := by decide +kernel
theorem dX5_strike_29 : decode cX5_strike 29 = .ok (.ireturn, 1) := by decide +kernel
theorem dX5_day_0 : decode cX5_day 0 = .ok (.iload_n 1, 1) := by decide +kernel
theorem dX5_day_1 : decode cX5_day 1 = .ok (.aload_n 0, 1) := by decide +kernel
theorem dX5_day_2 : decode cX5_day 2 = .ok (.getfield 94, 3) := by decide +kernel
theorem dX5_day_5 : decode cX5_day 5 = .ok (.if_icmp .lt 10, 3) := by decide +kernel
theorem dX5_day_8 : decode cX5_day 8 = .ok (.iload_n 1, 1) := by decide +kernel
theorem dX5_day_9 : decode cX5_day 9 = .ok (.sipush 3000, 3) := by decide +kernel
theorem dX5_day_12 : decode cX5_day 12 = .ok (.if_icmp .le 5, 3) := by decide +kernel
theorem dX5_day_15 : decode cX5_day 15 = .ok (.iconst 0, 1) := by decide +kernel
theorem dX5_day_16 : decode cX5_day 16 = .ok (.ireturn, 1) := by decide +kernel
theorem dX5_day_17 : decode cX5_day 17 = .ok (.aload_n 0, 1) := by decide +kernel
theorem dX5_day_18 : decode cX5_day 18 = .ok (.iload_n 1, 1) := by decide +kernel
theorem dX5_day_19 : decode cX5_day 19 = .ok (.putfield 94, 3) := by decide +kernel
theorem dX5_day_22 : decode cX5_day 22 = .ok (.iconst 1, 1) := by decide +kernel
theorem dX5_day_23 : decode cX5_day 23 = .ok (.ireturn, 1) := by decide +kernel
theorem dX5_isHouse_0 : decode cX5_isHouse 0 = .ok (.iload_n 1, 1) := by decide +kernel
theorem dX5_isHouse_1 : decode cX5_isHouse 1 = .ok (.ifCond .lt 15, 3) := by decide +kernel
theorem dX5_isHouse_4 : decode cX5_isHouse 4 = .ok (.iload_n 1, 1) := by decide +kernel
theorem dX5_isHouse_5 : decode cX5_isHouse 5 = .ok (.aload_n 0, 1) := by decide +kernel
theorem dX5_isHouse_6 : decode cX5_isHouse 6 = .ok (.getfield 97, 3) := by decide +kernel
theorem dX5_isHouse_9 : decode cX5_isHouse 9 = .ok (.if_icmp .ge 7, 3) := by decide +kernel
theorem dX5_isHouse_12 : decode cX5_isHouse 12 = .ok (.iconst 1, 1) := by decide +kernel
theorem dX5_isHouse_13 : decode cX5_isHouse 13 = .ok (.goto 4, 3) := by decide +kernel
theorem dX5_isHouse_16 : decode cX5_isHouse 16 = .ok (.iconst 0, 1) := by decide +kernel
theorem dX5_isHouse_17 : decode cX5_isHouse 17 = .ok (.ireturn, 1) := by decide +kernel
set_option maxRecDepth 20000 in
theorem ggX5_house_X5_in : GoodIn wsX5_house wsX5_in := goodIn_r _ [10] (by decide +kernel) (by decide +kernel)
set_option maxRecDepth 20000 in
theorem gX5_house_X5_in : GoodIn wsX5_house (va_wsS RX5 82 yX5_in wsX5_in) := goodIn_app (goodIn_of _ (by decide +kernel)) ggX5_house_X5_in
theorem dX5_house_0 : decode cX5_house 0 = .ok (.iload_n 1, 1) := by decide +kernel
theorem dX5_house_1 : decode cX5_house 1 = .ok (.iconst 0, 1) := by decide +kernel
theorem dX5_house_2 : decode cX5_house 2 = .ok (.iconst 2, 1) := by decide +kernel
theorem dX5_house_3 : decode cX5_house 3 = .ok (.invokestatic 82, 3) := by decide +kernel
theorem dX5_house_6 : decode cX5_house 6 = .ok (.ifCond .eq 56, 3) := by decide +kernel
theorem dX5_house_9 : decode cX5_house 9 = .ok (.iload_n 2, 1) := by decide +kernel
theorem dX5_house_10 : decode cX5_house 10 = .ok (.iconst 1, 1) := by decide +kernel
theorem dX5_house_11 : decode cX5_house 11 = .ok (.sipush 365, 3) := by decide +kernel
theorem dX5_house_14 : decode cX5_house 14 = .ok (.invokestatic 82, 3) := by decide +kernel
theorem dX5_house_17 : decode cX5_house 17 = .ok (.ifCond .eq 45, 3) := by decide +kernel
theorem dX5_house_20 : decode cX5_house 20 = .ok (.iload_n 3, 1) := by decide +kernel
theorem dX5_house_21 : decode cX5_house 21 = .ok (.iconst 1, 1) := by decide +kernel
theorem dX5_house_22 : decode cX5_house 22 = .ok (.sipush 9972, 3) := by decide +kernel
theorem dX5_house_25 : decode cX5_house 25 = .ok (.invokestatic 82, 3) := by decide +kernel
theorem dX5_house_28 : decode cX5_house 28 = .ok (.ifCond .eq 34, 3) := by decide +kernel
theorem dX5_house_31 : decode cX5_house 31 = .ok (.iload 4, 2) := by decide +kernel
theorem dX5_house_33 : decode cX5_house 33 = .ok (.iconst 0, 1) := by decide +kernel
theorem dX5_house_34 : decode cX5_house 34 = .ok (.sipush 255, 3) := by decide +kernel
theorem dX5_house_37 : decode cX5_house 37 = .ok (.invokestatic 82, 3) := by decide +kernel
theorem dX5_house_40 : decode cX5_house 40 = .ok (.ifCond .eq 22, 3) := by decide +kernel
theorem dX5_house_43 : decode cX5_house 43 = .ok (.iload 5, 2) := by decide +kernel
theorem dX5_house_45 : decode cX5_house 45 = .ok (.iconst 0, 1) := by decide +kernel
theorem dX5_house_46 : decode cX5_house 46 = .ok (.bipush 24, 2) := by decide +kernel
theorem dX5_house_48 : decode cX5_house 48 = .ok (.invokestatic 82, 3) := by decide +kernel
theorem dX5_house_51 : decode cX5_house 51 = .ok (.ifCond .eq 11, 3) := by decide +kernel
theorem dX5_house_54 : decode cX5_house 54 = .ok (.aload_n 0, 1) := by decide +kernel
theorem dX5_house_55 : decode cX5_house 55 = .ok (.getfield 97, 3) := by decide +kernel
theorem dX5_house_58 : decode cX5_house 58 = .ok (.iconst 5, 1) := by decide +kernel
theorem dX5_house_59 : decode cX5_house 59 = .ok (.if_icmp .ne 5, 3) := by decide +kernel
theorem dX5_house_62 : decode cX5_house 62 = .ok (.iconst (-1), 1) := by decide +kernel
theorem dX5_house_63 : decode cX5_house 63 = .ok (.ireturn, 1) := by decide +kernel
theorem dX5_house_64 : decode cX5_house 64 = .ok (.aload_n 0, 1) := by decide +kernel
theorem dX5_house_65 : decode cX5_house 65 = .ok (.getfield 20, 3) := by decide +kernel
theorem dX5_house_68 : decode cX5_house 68 = .ok (.aload_n 0, 1) := by decide +kernel
theorem dX5_house_69 : decode cX5_house 69 = .ok (.getfield 97, 3) := by decide +kernel
theorem dX5_house_72 : decode cX5_house 72 = .ok (.iload_n 1, 1) := by decide +kernel
theorem dX5_house_73 : decode cX5_house 73 = .ok (.iastore, 1) := by decide +kernel
theorem dX5_house_74 : decode cX5_house 74 = .ok (.aload_n 0, 1) := by decide +kernel
theorem dX5_house_75 : decode cX5_house 75 = .ok (.getfield 23, 3) := by decide +kernel
theorem dX5_house_78 : decode cX5_house 78 = .ok (.aload_n 0, 1) := by decide +kernel
theorem dX5_house_79 : decode cX5_house 79 = .ok (.getfield 97, 3) := by decide +kernel
theorem dX5_house_82 : decode cX5_house 82 = .ok (.iload_n 2, 1) := by decide +kernel
theorem dX5_house_83 : decode cX5_house 83 = .ok (.iastore, 1) := by decide +kernel
theorem dX5_house_84 : decode cX5_house 84 = .ok (.aload_n 0, 1) := by decide +kernel
theorem dX5_house_85 : decode cX5_house 85 = .ok (.getfield 26, 3) := by decide +kernel
theorem dX5_house_88 : decode cX5_house 88 = .ok (.aload_n 0, 1) := by decide +kernel
theorem dX5_house_89 : decode cX5_house 89 = .ok (.getfield 97, 3) := by decide +kernel
theorem dX5_house_92 : decode cX5_house 92 = .ok (.iload_n 3, 1) := by decide +kernel
theorem dX5_house_93 : decode cX5_house 93 = .ok (.iastore, 1) := by decide +kernel
theorem dX5_house_94 : decode cX5_house 94 = .ok (.aload_n 0, 1) := by decide +kernel
theorem dX5_house_95 : decode cX5_house 95 = .ok (.getfield 29, 3) := by decide +kernel
theorem dX5_house_98 : decode cX5_house 98 = .ok (.aload_n 0, 1) := by decide +kernel
theorem dX5_house_99 : decode cX5_house 99 = .ok (.getfield 97, 3) := by decide +kernel
theorem dX5_house_102 : decode cX5_house 102 = .ok (.iload 4, 2) := by decide +kernel
theorem dX5_house_104 : decode cX5_house 104 = .ok (.iastore, 1) := by decide +kernel
theorem dX5_house_105 : decode cX5_house 105 = .ok (.aload_n 0, 1) := by decide +kernel
theorem dX5_house_106 : decode cX5_house 106 = .ok (.getfield 32, 3) := by decide +kernel
theorem dX5_house_109 : decode cX5_house 109 = .ok (.aload_n 0, 1) := by decide +kernel
theorem dX5_house_110 : decode cX5_house 110 = .ok (.getfield 97, 3) := by decide +kernel
theorem dX5_house_113 : decode cX5_house 113 = .ok (.iload 5, 2) := by decide +kernel
theorem dX5_house_115 : decode cX5_house 115 = .ok (.iastore, 1) := by decide +kernel
theorem dX5_house_116 : decode cX5_house 116 = .ok (.aload_n 0, 1) := by decide +kernel
theorem dX5_house_117 : decode cX5_house 117 = .ok (.aload_n 0, 1) := by decide +kernel
theorem dX5_house_118 : decode cX5_house 118 = .ok (.getfield 97, 3) := by decide +kernel
theorem dX5_house_121 : decode cX5_house 121 = .ok (.iconst 1, 1) := by decide +kernel
theorem dX5_house_122 : decode cX5_house 122 = .ok (.iadd, 1) := by decide +kernel
theorem dX5_house_123 : decode cX5_house 123 = .ok (.putfield 97, 3) := by decide +kernel
theorem dX5_house_126 : decode cX5_house 126 = .ok (.aload_n 0, 1) := by decide +kernel
theorem dX5_house_127 : decode cX5_house 127 = .ok (.getfield 97, 3) := by decide +kernel
theorem dX5_house_130 : decode cX5_house 130 = .ok (.iconst 1, 1) := by decide +kernel
theorem dX5_house_131 : decode cX5_house 131 = .ok (.isub, 1) := by decide +kernel
theorem dX5_house_132 : decode cX5_house 132 = .ok (.ireturn, 1) := by decide +kernel
theorem dX5_spanNow_0 : decode cX5_spanNow 0 = .ok (.aload_n 0, 1) := by decide +kernel
theorem dX5_spanNow_1 : decode cX5_spanNow 1 = .ok (.getfield 20, 3) := by decide +kernel
theorem dX5_spanNow_4 : decode cX5_spanNow 4 = .ok (.iload_n 1, 1) := by decide +kernel
theorem dX5_spanNow_5 : decode cX5_spanNow 5 = .ok (.iaload, 1) := by decide +kernel
theorem dX5_spanNow_6 : decode cX5_spanNow 6 = .ok (.iconst 1, 1) := by decide +kernel
theorem dX5_spanNow_7 : decode cX5_spanNow 7 = .ok (.if_icmp .ne 17, 3) := by decide +kernel
theorem dX5_spanNow_10 : decode cX5_spanNow 10 = .ok (.aload_n 0, 1) := by decide +kernel
theorem dX5_spanNow_11 : decode cX5_spanNow 11 = .ok (.getfield 94, 3) := by decide +kernel
theorem dX5_spanNow_14 : decode cX5_spanNow 14 = .ok (.aload_n 0, 1) := by decide +kernel
theorem dX5_spanNow_15 : decode cX5_spanNow 15 = .ok (.getfield 23, 3) := by decide +kernel
theorem dX5_spanNow_18 : decode cX5_spanNow 18 = .ok (.iload_n 1, 1) := by decide +kernel
theorem dX5_spanNow_19 : decode cX5_spanNow 19 = .ok (.iaload, 1) := by decide +kernel
theorem dX5_spanNow_20 : decode cX5_spanNow 20 = .ok (.idiv, 1) := by decide +kernel
theorem dX5_spanNow_21 : decode cX5_spanNow 21 = .ok (.goto 4, 3) := by decide +kernel
theorem dX5_spanNow_24 : decode cX5_spanNow 24 = .ok (.iconst 0, 1) := by decide +kernel
theorem dX5_spanNow_25 : decode cX5_spanNow 25 = .ok (.ireturn, 1) := by decide +kernel
set_option maxRecDepth 20000 in
theorem ggX5_firstOf_X5_head : GoodIn wsX5_firstOf wsX5_head := goodIn_r _ [9, 10, 11, 12, 13, 14, 15, 16, 17, 18, 19, 20, 21, 22, 23, 24, 25, 26, 27, 28, 29, 30, 31, 32, 33, 34, 35, 36] (by decide +kernel) (by decide +kernel)
set_option maxRecDepth 20000 in
theorem gX5_firstOf_X5_head : GoodIn wsX5_firstOf (wsV RX5 86 RX5 yX5_head wsX5_head) := goodIn_app (goodIn_of _ (by decide +kernel)) ggX5_firstOf_X5_head
theorem dX5_firstOf_0 : decode cX5_firstOf 0 = .ok (.iconst 0, 1) := by decide +kernel
theorem dX5_firstOf_1 : decode cX5_firstOf 1 = .ok (.istore 4, 2) := by decide +kernel
theorem dX5_firstOf_3 : decode cX5_firstOf 3 = .ok (.iload 4, 2) := by decide +kernel
theorem dX5_firstOf_5 : decode cX5_firstOf 5 = .ok (.aload_n 0, 1) := by decide +kernel
theorem dX5_firstOf_6 : decode cX5_firstOf 6 = .ok (.getfield 100, 3) := by decide +kernel
theorem dX5_firstOf_9 : decode cX5_firstOf 9 = .ok (.if_icmp .ge 49, 3) := by decide +kernel
theorem dX5_firstOf_12 : decode cX5_firstOf 12 = .ok (.aload_n 0, 1) := by decide +kernel
theorem dX5_firstOf_13 : decode cX5_firstOf 13 = .ok (.getfield 41, 3) := by decide +kernel
theorem dX5_firstOf_16 : decode cX5_firstOf 16 = .ok (.iload 4, 2) := by decide +kernel
theorem dX5_firstOf_18 : decode cX5_firstOf 18 = .ok (.iaload, 1) := by decide +kernel
theorem dX5_firstOf_19 : decode cX5_firstOf 19 = .ok (.iload_n 1, 1) := by decide +kernel
theorem dX5_firstOf_20 : decode cX5_firstOf 20 = .ok (.if_icmp .ne 32, 3) := by decide +kernel
theorem dX5_firstOf_23 : decode cX5_firstOf 23 = .ok (.aload_n 0, 1) := by decide +kernel
theorem dX5_firstOf_24 : decode cX5_firstOf 24 = .ok (.getfield 53, 3) := by decide +kernel
theorem dX5_firstOf_27 : decode cX5_firstOf 27 = .ok (.iload 4, 2) := by decide +kernel
theorem dX5_firstOf_29 : decode cX5_firstOf 29 = .ok (.iaload, 1) := by decide +kernel
theorem dX5_firstOf_30 : decode cX5_firstOf 30 = .ok (.iload_n 2, 1) := by decide +kernel
theorem dX5_firstOf_31 : decode cX5_firstOf 31 = .ok (.if_icmp .ne 21, 3) := by decide +kernel
theorem dX5_firstOf_34 : decode cX5_firstOf 34 = .ok (.aload_n 0, 1) := by decide +kernel
theorem dX5_firstOf_35 : decode cX5_firstOf 35 = .ok (.aload_n 0, 1) := by decide +kernel
theorem dX5_firstOf_36 : decode cX5_firstOf 36 = .ok (.getfield 47, 3) := by decide +kernel
theorem dX5_firstOf_39 : decode cX5_firstOf 39 = .ok (.iload 4, 2) := by decide +kernel
theorem dX5_firstOf_41 : decode cX5_firstOf 41 = .ok (.iaload, 1) := by decide +kernel
theorem dX5_firstOf_42 : decode cX5_firstOf 42 = .ok (.invokevirtual 86, 3) := by decide +kernel
theorem dX5_firstOf_45 : decode cX5_firstOf 45 = .ok (.iload_n 3, 1) := by decide +kernel
theorem dX5_firstOf_46 : decode cX5_firstOf 46 = .ok (.if_icmp .ne 6, 3) := by decide +kernel
theorem dX5_firstOf_49 : decode cX5_firstOf 49 = .ok (.iload 4, 2) := by decide +kernel
theorem dX5_firstOf_51 : decode cX5_firstOf 51 = .ok (.ireturn, 1) := by decide +kernel
theorem dX5_firstOf_52 : decode cX5_firstOf 52 = .ok (.iinc 4 1, 3) := by decide +kernel
theorem dX5_firstOf_55 : decode cX5_firstOf 55 = .ok (.goto (-52), 3) := by decide +kernel
theorem dX5_firstOf_58 : decode cX5_firstOf 58 = .ok (.iconst (-1), 1) := by decide +kernel
theorem dX5_firstOf_59 : decode cX5_firstOf 59 = .ok (.ireturn, 1) := by decide +kernel
theorem dX5_find_0 : decode cX5_find 0 = .ok (.iconst 0, 1) := by decide +kernel
theorem dX5_find_1 : decode cX5_find 1 = .ok (.istore_n 3, 1) := by decide +kernel
theorem dX5_find_2 : decode cX5_find 2 = .ok (.iload_n 3, 1) := by decide +kernel
theorem dX5_find_3 : decode cX5_find 3 = .ok (.aload_n 0, 1) := by decide +kernel
theorem dX5_find_4 : decode cX5_find 4 = .ok (.getfield 100, 3) := by decide +kernel
theorem dX5_find_7 : decode cX5_find 7 = .ok (.if_icmp .ge 31, 3) := by decide +kernel
theorem dX5_find_10 : decode cX5_find 10 = .ok (.aload_n 0, 1) := by decide +kernel
theorem dX5_find_11 : decode cX5_find 11 = .ok (.getfield 41, 3) := by decide +kernel
theorem dX5_find_14 : decode cX5_find 14 = .ok (.iload_n 3, 1) := by decide +kernel
theorem dX5_find_15 : decode cX5_find 15 = .ok (.iaload, 1) := by decide +kernel
theorem dX5_find_16 : decode cX5_find 16 = .ok (.iload_n 1, 1) := by decide +kernel
theorem dX5_find_17 : decode cX5_find 17 = .ok (.if_icmp .ne 15, 3) := by decide +kernel
theorem dX5_find_20 : decode cX5_find 20 = .ok (.aload_n 0, 1) := by decide +kernel
theorem dX5_find_21 : decode cX5_find 21 = .ok (.getfield 44, 3) := by decide +kernel
theorem dX5_find_24 : decode cX5_find 24 = .ok (.iload_n 3, 1) := by decide +kernel
theorem dX5_find_25 : decode cX5_find 25 = .ok (.iaload, 1) := by decide +kernel
theorem dX5_find_26 : decode cX5_find 26 = .ok (.iload_n 2, 1) := by decide +kernel
theorem dX5_find_27 : decode cX5_find 27 = .ok (.if_icmp .ne 5, 3) := by decide +kernel
theorem dX5_find_30 : decode cX5_find 30 = .ok (.iload_n 3, 1) := by decide +kernel
theorem dX5_find_31 : decode cX5_find 31 = .ok (.ireturn, 1) := by decide +kernel
theorem dX5_find_32 : decode cX5_find 32 = .ok (.iinc 3 1, 3) := by decide +kernel
theorem dX5_find_35 : decode cX5_find 35 = .ok (.goto (-33), 3) := by decide +kernel
theorem dX5_find_38 : decode cX5_find 38 = .ok (.iconst (-1), 1) := by decide +kernel
theorem dX5_find_39 : decode cX5_find 39 = .ok (.ireturn, 1) := by decide +kernel
set_option maxRecDepth 20000 in
theorem ggX5_namesOf_X5_head : GoodIn wsX5_namesOf wsX5_head := goodIn_r _ [15, 16, 26, 27, 28, 29, 30, 31, 32, 33, 34, 35, 36, 37, 38, 39, 40, 41, 42, 43, 44, 45, 46, 47, 48, 49, 50, 51] (by decide +kernel) (by decide +kernel)
set_option maxRecDepth 20000 in
theorem gX5_namesOf_X5_head : GoodIn wsX5_namesOf (wsV RX5 86 RX5 yX5_head wsX5_head) := goodIn_app (goodIn_of _ (by decide +kernel)) ggX5_namesOf_X5_head
set_option maxRecDepth 20000 in
theorem ggX5_namesOf_X5_spanNow : GoodIn wsX5_namesOf wsX5_spanNow := goodIn_r _ [20, 1, 9, 21, 26, 27, 28, 29, 30, 31, 32, 33, 34, 35, 36, 37, 38, 39, 40, 41, 42, 43, 44, 45, 46, 47, 48, 49, 50, 51] (by decide +kernel) (by decide +kernel)
set_option maxRecDepth 20000 in
theorem gX5_namesOf_X5_spanNow : GoodIn wsX5_namesOf (wsV RX5 103 RX5 yX5_spanNow wsX5_spanNow) := goodIn_app (goodIn_of _ (by decide +kernel)) ggX5_namesOf_X5_spanNow
set_option maxRecDepth 20000 in
theorem ggX5_namesOf_X5_firstOf : GoodIn wsX5_namesOf wsX5_firstOf := goodIn_r _ [25, 2, 4, 10, 7, 11, 12, 13, 14, 15, 16, 26, 27, 28, 29, 30, 31, 32, 33, 34, 35, 36, 37, 38, 39, 40, 41, 42, 43, 44, 45, 46, 47, 48, 49, 50, 51] (by decide +kernel) (by decide +kernel)
set_option maxRecDepth 20000 in
theorem gX5_namesOf_X5_firstOf : GoodIn wsX5_namesOf (wsV RX5 106 RX5 yX5_firstOf wsX5_firstOf) := goodIn_app (goodIn_of _ (by decide +kernel)) ggX5_namesOf_X5_firstOf
theorem dX5_namesOf_0 : decode cX5_namesOf 0 = .ok (.aload_n 0, 1) := by decide +kernel
theorem dX5_namesOf_1 : decode cX5_namesOf 1 = .ok (.iload_n 2, 1) := by decide +kernel
theorem dX5_namesOf_2 : decode cX5_namesOf 2 = .ok (.invokevirtual 86, 3) := by decide +kernel
theorem dX5_namesOf_5 : decode cX5_namesOf 5 = .ok (.istore_n 3, 1) := by decide +kernel
theorem dX5_namesOf_6 : decode cX5_namesOf 6 = .ok (.aload_n 0, 1) := by decide +kernel
theorem dX5_namesOf_7 : decode cX5_namesOf 7 = .ok (.getfield 20, 3) := by decide +kernel
theorem dX5_namesOf_10 : decode cX5_namesOf 10 = .ok (.iload_n 1, 1) := by decide +kernel
theorem dX5_namesOf_11 : decode cX5_namesOf 11 = .ok (.iaload, 1) := by decide +kernel
theorem dX5_namesOf_12 : decode cX5_namesOf 12 = .ok (.iconst 2, 1) := by decide +kernel
theorem dX5_namesOf_13 : decode cX5_namesOf 13 = .ok (.if_icmp .ne 7, 3) := by decide +kernel
theorem dX5_namesOf_16 : decode cX5_namesOf 16 = .ok (.iconst (-1), 1) := by decide +kernel
theorem dX5_namesOf_17 : decode cX5_namesOf 17 = .ok (.goto 14, 3) := by decide +kernel
theorem dX5_namesOf_20 : decode cX5_namesOf 20 = .ok (.aload_n 0, 1) := by decide +kernel
theorem dX5_namesOf_21 : decode cX5_namesOf 21 = .ok (.iload_n 1, 1) := by decide +kernel
theorem dX5_namesOf_22 : decode cX5_namesOf 22 = .ok (.aload_n 0, 1) := by decide +kernel
theorem dX5_namesOf_23 : decode cX5_namesOf 23 = .ok (.iload_n 1, 1) := by decide +kernel
theorem dX5_namesOf_24 : decode cX5_namesOf 24 = .ok (.invokevirtual 103, 3) := by decide +kernel
theorem dX5_namesOf_27 : decode cX5_namesOf 27 = .ok (.iload_n 3, 1) := by decide +kernel
theorem dX5_namesOf_28 : decode cX5_namesOf 28 = .ok (.invokevirtual 106, 3) := by decide +kernel
theorem dX5_namesOf_31 : decode cX5_namesOf 31 = .ok (.istore 4, 2) := by decide +kernel
theorem dX5_namesOf_33 : decode cX5_namesOf 33 = .ok (.iload 4, 2) := by decide +kernel
theorem dX5_namesOf_35 : decode cX5_namesOf 35 = .ok (.iconst (-1), 1) := by decide +kernel
theorem dX5_namesOf_36 : decode cX5_namesOf 36 = .ok (.if_icmp .eq 6, 3) := by decide +kernel
theorem dX5_namesOf_39 : decode cX5_namesOf 39 = .ok (.iload 4, 2) := by decide +kernel
theorem dX5_namesOf_41 : decode cX5_namesOf 41 = .ok (.ireturn, 1) := by decide +kernel
theorem dX5_namesOf_42 : decode cX5_namesOf 42 = .ok (.aload_n 0, 1) := by decide +kernel
theorem dX5_namesOf_43 : decode cX5_namesOf 43 = .ok (.getfield 100, 3) := by decide +kernel
theorem dX5_namesOf_46 : decode cX5_namesOf 46 = .ok (.sipush 200, 3) := by decide +kernel
theorem dX5_namesOf_49 : decode cX5_namesOf 49 = .ok (.if_icmp .ne 5, 3) := by decide +kernel
theorem dX5_namesOf_52 : decode cX5_namesOf 52 = .ok (.iconst (-1), 1) := by decide +kernel
theorem dX5_namesOf_53 : decode cX5_namesOf 53 = .ok (.ireturn, 1) := by decide +kernel
theorem dX5_namesOf_54 : decode cX5_namesOf 54 = .ok (.aload_n 0, 1) := by decide +kernel
theorem dX5_namesOf_55 : decode cX5_namesOf 55 = .ok (.getfield 35, 3) := by decide +kernel
theorem dX5_namesOf_58 : decode cX5_namesOf 58 = .ok (.iload_n 1, 1) := by decide +kernel
theorem dX5_namesOf_59 : decode cX5_namesOf 59 = .ok (.aload_n 0, 1) := by decide +kernel
theorem dX5_namesOf_60 : decode cX5_namesOf 60 = .ok (.getfield 35, 3) := by decide +kernel
theorem dX5_namesOf_63 : decode cX5_namesOf 63 = .ok (.iload_n 1, 1) := by decide +kernel
theorem dX5_namesOf_64 : decode cX5_namesOf 64 = .ok (.iaload, 1) := by decide +kernel
theorem dX5_namesOf_65 : decode cX5_namesOf 65 = .ok (.iconst 1, 1) := by decide +kernel
theorem dX5_namesOf_66 : decode cX5_namesOf 66 = .ok (.iadd, 1) := by decide +kernel
theorem dX5_namesOf_67 : decode cX5_namesOf 67 = .ok (.iastore, 1) := by decide +kernel
theorem dX5_namesOf_68 : decode cX5_namesOf 68 = .ok (.aload_n 0, 1) := by decide +kernel
theorem dX5_namesOf_69 : decode cX5_namesOf 69 = .ok (.getfield 41, 3) := by decide +kernel
theorem dX5_namesOf_72 : decode cX5_namesOf 72 = .ok (.aload_n 0, 1) := by decide +kernel
theorem dX5_namesOf_73 : decode cX5_namesOf 73 = .ok (.getfield 100, 3) := by decide +kernel
theorem dX5_namesOf_76 : decode cX5_namesOf 76 = .ok (.iload_n 1, 1) := by decide +kernel
theorem dX5_namesOf_77 : decode cX5_namesOf 77 = .ok (.iastore, 1) := by decide +kernel
theorem dX5_namesOf_78 : decode cX5_namesOf 78 = .ok (.aload_n 0, 1) := by decide +kernel
theorem dX5_namesOf_79 : decode cX5_namesOf 79 = .ok (.getfield 44, 3) := by decide +kernel
theorem dX5_namesOf_82 : decode cX5_namesOf 82 = .ok (.aload_n 0, 1) := by decide +kernel
theorem dX5_namesOf_83 : decode cX5_namesOf 83 = .ok (.getfield 100, 3) := by decide +kernel
theorem dX5_namesOf_86 : decode cX5_namesOf 86 = .ok (.aload_n 0, 1) := by decide +kernel
theorem dX5_namesOf_87 : decode cX5_namesOf 87 = .ok (.getfield 26, 3) := by decide +kernel
theorem dX5_namesOf_90 : decode cX5_namesOf 90 = .ok (.iload_n 1, 1) := by decide +kernel
theorem dX5_namesOf_91 : decode cX5_namesOf 91 = .ok (.iaload, 1) := by decide +kernel
theorem dX5_namesOf_92 : decode cX5_namesOf 92 = .ok (.aload_n 0, 1) := by decide +kernel
theorem dX5_namesOf_93 : decode cX5_namesOf 93 = .ok (.getfield 35, 3) := by decide +kernel
theorem dX5_namesOf_96 : decode cX5_namesOf 96 = .ok (.iload_n 1, 1) := by decide +kernel
theorem dX5_namesOf_97 : decode cX5_namesOf 97 = .ok (.iaload, 1) := by decide +kernel
theorem dX5_namesOf_98 : decode cX5_namesOf 98 = .ok (.imul, 1) := by decide +kernel
theorem dX5_namesOf_99 : decode cX5_namesOf 99 = .ok (.sipush 9973, 3) := by decide +kernel
theorem dX5_namesOf_102 : decode cX5_namesOf 102 = .ok (.irem, 1) := by decide +kernel
theorem dX5_namesOf_103 : decode cX5_namesOf 103 = .ok (.iastore, 1) := by decide +kernel
theorem dX5_namesOf_104 : decode cX5_namesOf 104 = .ok (.aload_n 0, 1) := by decide +kernel
theorem dX5_namesOf_105 : decode cX5_namesOf 105 = .ok (.getfield 47, 3) := by decide +kernel
theorem dX5_namesOf_108 : decode cX5_namesOf 108 = .ok (.aload_n 0, 1) := by decide +kernel
theorem dX5_namesOf_109 : decode cX5_namesOf 109 = .ok (.getfield 100, 3) := by decide +kernel
theorem dX5_namesOf_112 : decode cX5_namesOf 112 = .ok (.iload_n 3, 1) := by decide +kernel
theorem dX5_namesOf_113 : decode cX5_namesOf 113 = .ok (.iastore, 1) := by decide +kernel
theorem dX5_namesOf_114 : decode cX5_namesOf 114 = .ok (.aload_n 0, 1) := by decide +kernel
theorem dX5_namesOf_115 : decode cX5_namesOf 115 = .ok (.getfield 50, 3) := by decide +kernel
theorem dX5_namesOf_118 : decode cX5_namesOf 118 = .ok (.aload_n 0, 1) := by decide +kernel
theorem dX5_namesOf_119 : decode cX5_namesOf 119 = .ok (.getfield 100, 3) := by decide +kernel
theorem dX5_namesOf_122 : decode cX5_namesOf 122 = .ok (.aload_n 0, 1) := by decide +kernel
theorem dX5_namesOf_123 : decode cX5_namesOf 123 = .ok (.getfield 94, 3) := by decide +kernel
theorem dX5_namesOf_126 : decode cX5_namesOf 126 = .ok (.iastore, 1) := by decide +kernel
theorem dX5_namesOf_127 : decode cX5_namesOf 127 = .ok (.aload_n 0, 1) := by decide +kernel
theorem dX5_namesOf_128 : decode cX5_namesOf 128 = .ok (.getfield 53, 3) := by decide +kernel
theorem dX5_namesOf_131 : decode cX5_namesOf 131 = .ok (.aload_n 0, 1) := by decide +kernel
theorem dX5_namesOf_132 : decode cX5_namesOf 132 = .ok (.getfield 100, 3) := by decide +kernel
theorem dX5_namesOf_135 : decode cX5_namesOf 135 = .ok (.aload_n 0, 1) := by decide +kernel
theorem dX5_namesOf_136 : decode cX5_namesOf 136 = .ok (.getfield 20, 3) := by decide +kernel
theorem dX5_namesOf_139 : decode cX5_namesOf 139 = .ok (.iload_n 1, 1) := by decide +kernel
theorem dX5_namesOf_140 : decode cX5_namesOf 140 = .ok (.iaload, 1) := by decide +kernel
theorem dX5_namesOf_141 : decode cX5_namesOf 141 = .ok (.iconst 2, 1) := by decide +kernel
theorem dX5_namesOf_142 : decode cX5_namesOf 142 = .ok (.if_icmp .ne 12, 3) := by decide +kernel
theorem dX5_namesOf_145 : decode cX5_namesOf 145 = .ok (.aload_n 0, 1) := by decide +kernel
theorem dX5_namesOf_146 : decode cX5_namesOf 146 = .ok (.getfield 35, 3) := by decide +kernel
theorem dX5_namesOf_149 : decode cX5_namesOf 149 = .ok (.iload_n 1, 1) := by decide +kernel
theorem dX5_namesOf_150 : decode cX5_namesOf 150 = .ok (.iaload, 1) := by decide +kernel
theorem dX5_namesOf_151 : decode cX5_namesOf 151 = .ok (.goto 8, 3) := by decide +kernel
theorem dX5_namesOf_154 : decode cX5_namesOf 154 = .ok (.aload_n 0, 1) := by decide +kernel
theorem dX5_namesOf_155 : decode cX5_namesOf 155 = .ok (.iload_n 1, 1) := by decide +kernel
theorem dX5_namesOf_156 : decode cX5_namesOf 156 = .ok (.invokevirtual 103, 3) := by decide +kernel
theorem dX5_namesOf_159 : decode cX5_namesOf 159 = .ok (.iastore, 1) := by decide +kernel
theorem dX5_namesOf_160 : decode cX5_namesOf 160 = .ok (.aload_n 0, 1) := by decide +kernel
theorem dX5_namesOf_161 : decode cX5_namesOf 161 = .ok (.aload_n 0, 1) := by decide +kernel
theorem dX5_namesOf_162 : decode cX5_namesOf 162 = .ok (.getfield 100, 3) := by decide +kernel
theorem dX5_namesOf_165 : decode cX5_namesOf 165 = .ok (.iconst 1, 1) := by decide +kernel
theorem dX5_namesOf_166 : decode cX5_namesOf 166 = .ok (.iadd, 1) := by decide +kernel
theorem dX5_namesOf_167 : decode cX5_namesOf 167 = .ok (.putfield 100, 3) := by decide +kernel
theorem dX5_namesOf_170 : decode cX5_namesOf 170 = .ok (.aload_n 0, 1) := by decide +kernel
theorem dX5_namesOf_171 : decode cX5_namesOf 171 = .ok (.getfield 100, 3) := by decide +kernel
theorem dX5_namesOf_174 : decode cX5_namesOf 174 = .ok (.iconst 1, 1) := by decide +kernel
theorem dX5_namesOf_175 : decode cX5_namesOf 175 = .ok (.isub, 1) := by decide +kernel
theorem dX5_namesOf_176 : decode cX5_namesOf 176 = .ok (.ireturn, 1) := by decide +kernel
set_option maxRecDepth 20000 in
theorem ggX5_name_X5_isHouse : GoodIn wsX5_name wsX5_isHouse := goodIn_r _ [7, 8, 41, 42, 43, 44, 45, 46, 47, 48, 49, 50, 51, 52, 53, 54, 55, 56, 57, 58, 59, 60, 61, 62, 63, 64, 65, 66] (by decide +kernel) (by decide +kernel)
set_option maxRecDepth 20000 in
theorem gX5_name_X5_isHouse : GoodIn wsX5_name (wsV RX5 110 RX5 yX5_isHouse wsX5_isHouse) := goodIn_app (goodIn_of _ (by decide +kernel)) ggX5_name_X5_isHouse
set_option maxRecDepth 20000 in
theorem ggX5_name_X5_isPerson : GoodIn wsX5_name wsX5_isPerson := goodIn_r _ [12, 13, 41, 42, 43, 44, 45, 46, 47, 48, 49, 50, 51, 52, 53, 54, 55, 56, 57, 58, 59, 60, 61, 62, 63, 64, 65, 66] (by decide +kernel) (by decide +kernel)
set_option maxRecDepth 20000 in
theorem gX5_name_X5_isPerson : GoodIn wsX5_name (wsV RX5 79 RX5 yX5_isPerson wsX5_isPerson) := goodIn_app (goodIn_of _ (by decide +kernel)) ggX5_name_X5_isPerson
set_option maxRecDepth 20000 in
theorem ggX5_name_X5_namesOf : GoodIn wsX5_name wsX5_namesOf := goodIn_r _ [17, 18, 19, 20, 21, 2, 22, 23, 24, 25, 26, 27, 28, 29, 6, 30, 31, 32, 33, 34, 35, 36, 37, 38, 39, 40, 41, 42, 43, 44, 45, 46, 47, 48, 49, 50, 51, 52, 53, 54, 55, 56, 57, 58, 59, 60, 61, 62, 63, 64, 65, 66] (by decide +kernel) (by decide +kernel)
set_option maxRecDepth 20000 in
theorem gX5_name_X5_namesOf : GoodIn wsX5_name (wsV RX5 113 RX5 yX5_namesOf wsX5_namesOf) := goodIn_app (goodIn_of _ (by decide +kernel)) ggX5_name_X5_namesOf
theorem dX5_name_0 : decode cX5_name 0 = .ok (.aload_n 0, 1) := by decide +kernel
theorem dX5_name_1 : decode cX5_name 1 = .ok (.iload_n 1, 1) := by decide +kernel
theorem dX5_name_2 : decode cX5_name 2 = .ok (.invokevirtual 110, 3) := by decide +kernel
theorem dX5_name_5 : decode cX5_name 5 = .ok (.ifCond .eq 20, 3) := by decide +kernel
theorem dX5_name_8 : decode cX5_name 8 = .ok (.aload_n 0, 1) := by decide +kernel
theorem dX5_name_9 : decode cX5_name 9 = .ok (.iload_n 2, 1) := by decide +kernel
theorem dX5_name_10 : decode cX5_name 10 = .ok (.invokevirtual 79, 3) := by decide +kernel
theorem dX5_name_13 : decode cX5_name 13 = .ok (.ifCond .eq 12, 3) := by decide +kernel
theorem dX5_name_16 : decode cX5_name 16 = .ok (.aload_n 0, 1) := by decide +kernel
theorem dX5_name_17 : decode cX5_name 17 = .ok (.getfield 16, 3) := by decide +kernel
theorem dX5_name_20 : decode cX5_name 20 = .ok (.iload_n 2, 1) := by decide +kernel
theorem dX5_name_21 : decode cX5_name 21 = .ok (.baload, 1) := by decide +kernel
theorem dX5_name_22 : decode cX5_name 22 = .ok (.ifCond .eq 5, 3) := by decide +kernel
theorem dX5_name_25 : decode cX5_name 25 = .ok (.iconst (-1), 1) := by decide +kernel
theorem dX5_name_26 : decode cX5_name 26 = .ok (.ireturn, 1) := by decide +kernel
theorem dX5_name_27 : decode cX5_name 27 = .ok (.aload_n 0, 1) := by decide +kernel
theorem dX5_name_28 : decode cX5_name 28 = .ok (.iload_n 1, 1) := by decide +kernel
theorem dX5_name_29 : decode cX5_name 29 = .ok (.iload_n 2, 1) := by decide +kernel
theorem dX5_name_30 : decode cX5_name 30 = .ok (.invokevirtual 113, 3) := by decide +kernel
theorem dX5_name_33 : decode cX5_name 33 = .ok (.istore_n 3, 1) := by decide +kernel
theorem dX5_name_34 : decode cX5_name 34 = .ok (.iload_n 3, 1) := by decide +kernel
theorem dX5_name_35 : decode cX5_name 35 = .ok (.iconst (-1), 1) := by decide +kernel
theorem dX5_name_36 : decode cX5_name 36 = .ok (.if_icmp .ne 7, 3) := by decide +kernel
theorem dX5_name_39 : decode cX5_name 39 = .ok (.iconst (-1), 1) := by decide +kernel
theorem dX5_name_40 : decode cX5_name 40 = .ok (.goto 9, 3) := by decide +kernel
theorem dX5_name_43 : decode cX5_name 43 = .ok (.aload_n 0, 1) := by decide +kernel
theorem dX5_name_44 : decode cX5_name 44 = .ok (.getfield 44, 3) := by decide +kernel
theorem dX5_name_47 : decode cX5_name 47 = .ok (.iload_n 3, 1) := by decide +kernel
theorem dX5_name_48 : decode cX5_name 48 = .ok (.iaload, 1) := by decide +kernel
theorem dX5_name_49 : decode cX5_name 49 = .ok (.ireturn, 1) := by decide +kernel
set_option maxRecDepth 20000 in
theorem ggX5_leads_X5_isHouse : GoodIn wsX5_leads wsX5_isHouse := goodIn_r _ [9, 10, 26, 27, 28, 29, 30, 31, 32, 33, 34, 35, 36, 37, 38, 39, 40, 41, 42, 43, 44, 45, 46, 47, 48, 49, 50, 51] (by decide +kernel) (by decide +kernel)
set_option maxRecDepth 20000 in
theorem gX5_leads_X5_isHouse : GoodIn wsX5_leads (wsV RX5 110 RX5 yX5_isHouse wsX5_isHouse) := goodIn_app (goodIn_of _ (by decide +kernel)) ggX5_leads_X5_isHouse
set_option maxRecDepth 20000 in
theorem ggX5_leads_X5_find : GoodIn wsX5_leads wsX5_find := goodIn_r _ [14, 15, 16, 2, 26, 27, 28, 29, 30, 31, 32, 33, 34, 35, 36, 37, 38, 39, 40, 41, 42, 43, 44, 45, 46, 47, 48, 49, 50, 51] (by decide +kernel) (by decide +kernel)
set_option maxRecDepth 20000 in
theorem gX5_leads_X5_find : GoodIn wsX5_leads (wsV RX5 117 RX5 yX5_find wsX5_find) := goodIn_app (goodIn_of _ (by decide +kernel)) ggX5_leads_X5_find
set_option maxRecDepth 20000 in
theorem ggX5_leads_X5_head : GoodIn wsX5_leads wsX5_head := goodIn_r _ [20, 21, 26, 27, 28, 29, 30, 31, 32, 33, 34, 35, 36, 37, 38, 39, 40, 41, 42, 43, 44, 45, 46, 47, 48, 49, 50, 51] (by decide +kernel) (by decide +kernel)
set_option maxRecDepth 20000 in
theorem gX5_leads_X5_head : GoodIn wsX5_leads (wsV RX5 86 RX5 yX5_head wsX5_head) := goodIn_app (goodIn_of _ (by decide +kernel)) ggX5_leads_X5_head
set_option maxRecDepth 20000 in
theorem ggX5_leads_X5_firstOf : GoodIn wsX5_leads wsX5_firstOf := goodIn_r _ [25, 15, 16, 3, 4, 17, 18, 19, 8, 20, 21, 26, 27, 28, 29, 30, 31, 32, 33, 34, 35, 36, 37, 38, 39, 40, 41, 42, 43, 44, 45, 46, 47, 48, 49, 50, 51] (by decide +kernel) (by decide +kernel)
set_option maxRecDepth 20000 in
theorem gX5_leads_X5_firstOf : GoodIn wsX5_leads (wsV RX5 106 RX5 yX5_firstOf wsX5_firstOf) := goodIn_app (goodIn_of _ (by decide +kernel)) ggX5_leads_X5_firstOf
theorem dX5_leads_0 : decode cX5_leads 0 = .ok (.aload_n 0, 1) := by decide +kernel
theorem dX5_leads_1 : decode cX5_leads 1 = .ok (.iload_n 1, 1) := by decide +kernel
theorem dX5_leads_2 : decode cX5_leads 2 = .ok (.invokevirtual 110, 3) := by decide +kernel
theorem dX5_leads_5 : decode cX5_leads 5 = .ok (.ifCond .ne 5, 3) := by decide +kernel
theorem dX5_leads_8 : decode cX5_leads 8 = .ok (.iconst (-1), 1) := by decide +kernel
theorem dX5_leads_9 : decode cX5_leads 9 = .ok (.ireturn, 1) := by decide +kernel
theorem dX5_leads_10 : decode cX5_leads 10 = .ok (.aload_n 0, 1) := by decide +kernel
theorem dX5_leads_11 : decode cX5_leads 11 = .ok (.iload_n 1, 1) := by decide +kernel
theorem dX5_leads_12 : decode cX5_leads 12 = .ok (.iload_n 2, 1) := by decide +kernel
theorem dX5_leads_13 : decode cX5_leads 13 = .ok (.invokevirtual 117, 3) := by decide +kernel
theorem dX5_leads_16 : decode cX5_leads 16 = .ok (.istore_n 3, 1) := by decide +kernel
theorem dX5_leads_17 : decode cX5_leads 17 = .ok (.iload_n 3, 1) := by decide +kernel
theorem dX5_leads_18 : decode cX5_leads 18 = .ok (.iconst (-1), 1) := by decide +kernel
theorem dX5_leads_19 : decode cX5_leads 19 = .ok (.if_icmp .ne 5, 3) := by decide +kernel
theorem dX5_leads_22 : decode cX5_leads 22 = .ok (.iconst (-1), 1) := by decide +kernel
theorem dX5_leads_23 : decode cX5_leads 23 = .ok (.ireturn, 1) := by decide +kernel
theorem dX5_leads_24 : decode cX5_leads 24 = .ok (.aload_n 0, 1) := by decide +kernel
theorem dX5_leads_25 : decode cX5_leads 25 = .ok (.getfield 20, 3) := by decide +kernel
theorem dX5_leads_28 : decode cX5_leads 28 = .ok (.iload_n 1, 1) := by decide +kernel
theorem dX5_leads_29 : decode cX5_leads 29 = .ok (.iaload, 1) := by decide +kernel
theorem dX5_leads_30 : decode cX5_leads 30 = .ok (.iconst 2, 1) := by decide +kernel
theorem dX5_leads_31 : decode cX5_leads 31 = .ok (.if_icmp .ne 7, 3) := by decide +kernel
theorem dX5_leads_34 : decode cX5_leads 34 = .ok (.iload_n 2, 1) := by decide +kernel
theorem dX5_leads_35 : decode cX5_leads 35 = .ok (.goto 29, 3) := by decide +kernel
theorem dX5_leads_38 : decode cX5_leads 38 = .ok (.aload_n 0, 1) := by decide +kernel
theorem dX5_leads_39 : decode cX5_leads 39 = .ok (.getfield 44, 3) := by decide +kernel
theorem dX5_leads_42 : decode cX5_leads 42 = .ok (.aload_n 0, 1) := by decide +kernel
theorem dX5_leads_43 : decode cX5_leads 43 = .ok (.iload_n 1, 1) := by decide +kernel
theorem dX5_leads_44 : decode cX5_leads 44 = .ok (.aload_n 0, 1) := by decide +kernel
theorem dX5_leads_45 : decode cX5_leads 45 = .ok (.getfield 53, 3) := by decide +kernel
theorem dX5_leads_48 : decode cX5_leads 48 = .ok (.iload_n 3, 1) := by decide +kernel
theorem dX5_leads_49 : decode cX5_leads 49 = .ok (.iaload, 1) := by decide +kernel
theorem dX5_leads_50 : decode cX5_leads 50 = .ok (.aload_n 0, 1) := by decide +kernel
theorem dX5_leads_51 : decode cX5_leads 51 = .ok (.aload_n 0, 1) := by decide +kernel
theorem dX5_leads_52 : decode cX5_leads 52 = .ok (.getfield 47, 3) := by decide +kernel
theorem dX5_leads_55 : decode cX5_leads 55 = .ok (.iload_n 3, 1) := by decide +kernel
theorem dX5_leads_56 : decode cX5_leads 56 = .ok (.iaload, 1) := by decide +kernel
theorem dX5_leads_57 : decode cX5_leads 57 = .ok (.invokevirtual 86, 3) := by decide +kernel
theorem dX5_leads_60 : decode cX5_leads 60 = .ok (.invokevirtual 106, 3) := by decide +kernel
theorem dX5_leads_63 : decode cX5_leads 63 = .ok (.iaload, 1) := by decide +kernel
theorem dX5_leads_64 : decode cX5_leads 64 = .ok (.ireturn, 1) := by decide +kernel
set_option maxRecDepth 20000 in
theorem ggX5_bridge_X5_isHouse : GoodIn wsX5_bridge wsX5_isHouse := goodIn_r _ [10, 11, 12, 13, 14, 15, 16, 17, 18, 19, 20, 21, 22, 23, 24, 25, 26, 27, 28, 29, 30, 31, 32, 33, 34, 35, 36, 37] (by decide +kernel) (by decide +kernel)
set_option maxRecDepth 20000 in
theorem gX5_bridge_X5_isHouse : GoodIn wsX5_bridge (wsV RX5 110 RX5 yX5_isHouse wsX5_isHouse) := goodIn_app (goodIn_of _ (by decide +kernel)) ggX5_bridge_X5_isHouse
theorem dX5_bridge_0 : decode cX5_bridge 0 = .ok (.aload_n 0, 1) := by decide +kernel
theorem dX5_bridge_1 : decode cX5_bridge 1 = .ok (.iload_n 1, 1) := by decide +kernel
theorem dX5_bridge_2 : decode cX5_bridge 2 = .ok (.invokevirtual 110, 3) := by decide +kernel
theorem dX5_bridge_5 : decode cX5_bridge 5 = .ok (.ifCond .eq 43, 3) := by decide +kernel
theorem dX5_bridge_8 : decode cX5_bridge 8 = .ok (.aload_n 0, 1) := by decide +kernel
theorem dX5_bridge_9 : decode cX5_bridge 9 = .ok (.iload_n 2, 1) := by decide +kernel
theorem dX5_bridge_10 : decode cX5_bridge 10 = .ok (.invokevirtual 110, 3) := by decide +kernel
theorem dX5_bridge_13 : decode cX5_bridge 13 = .ok (.ifCond .eq 35, 3) := by decide +kernel
theorem dX5_bridge_16 : decode cX5_bridge 16 = .ok (.iload_n 1, 1) := by decide +kernel
theorem dX5_bridge_17 : decode cX5_bridge 17 = .ok (.iload_n 2, 1) := by decide +kernel
theorem dX5_bridge_18 : decode cX5_bridge 18 = .ok (.if_icmp .eq 30, 3) := by decide +kernel
theorem dX5_bridge_21 : decode cX5_bridge 21 = .ok (.iload_n 3, 1) := by decide +kernel
theorem dX5_bridge_22 : decode cX5_bridge 22 = .ok (.ifCond .lt 26, 3) := by decide +kernel
theorem dX5_bridge_25 : decode cX5_bridge 25 = .ok (.iload_n 3, 1) := by decide +kernel
theorem dX5_bridge_26 : decode cX5_bridge 26 = .ok (.iload 4, 2) := by decide +kernel
theorem dX5_bridge_28 : decode cX5_bridge 28 = .ok (.if_icmp .gt 20, 3) := by decide +kernel
theorem dX5_bridge_31 : decode cX5_bridge 31 = .ok (.iload 4, 2) := by decide +kernel
theorem dX5_bridge_33 : decode cX5_bridge 33 = .ok (.sipush 3000, 3) := by decide +kernel
theorem dX5_bridge_36 : decode cX5_bridge 36 = .ok (.if_icmp .gt 12, 3) := by decide +kernel
theorem dX5_bridge_39 : decode cX5_bridge 39 = .ok (.aload_n 0, 1) := by decide +kernel
theorem dX5_bridge_40 : decode cX5_bridge 40 = .ok (.getfield 120, 3) := by decide +kernel
theorem dX5_bridge_43 : decode cX5_bridge 43 = .ok (.bipush 20, 2) := by decide +kernel
theorem dX5_bridge_45 : decode cX5_bridge 45 = .ok (.if_icmp .ne 5, 3) := by decide +kernel
theorem dX5_bridge_48 : decode cX5_bridge 48 = .ok (.iconst 0, 1) := by decide +kernel
theorem dX5_bridge_49 : decode cX5_bridge 49 = .ok (.ireturn, 1) := by decide +kernel
theorem dX5_bridge_50 : decode cX5_bridge 50 = .ok (.aload_n 0, 1) := by decide +kernel
theorem dX5_bridge_51 : decode cX5_bridge 51 = .ok (.getfield 56, 3) := by decide +kernel
theorem dX5_bridge_54 : decode cX5_bridge 54 = .ok (.aload_n 0, 1) := by decide +kernel
theorem dX5_bridge_55 : decode cX5_bridge 55 = .ok (.getfield 120, 3) := by decide +kernel
theorem dX5_bridge_58 : decode cX5_bridge 58 = .ok (.iload_n 1, 1) := by decide +kernel
theorem dX5_bridge_59 : decode cX5_bridge 59 = .ok (.iastore, 1) := by decide +kernel
theorem dX5_bridge_60 : decode cX5_bridge 60 = .ok (.aload_n 0, 1) := by decide +kernel
theorem dX5_bridge_61 : decode cX5_bridge 61 = .ok (.getfield 59, 3) := by decide +kernel
theorem dX5_bridge_64 : decode cX5_bridge 64 = .ok (.aload_n 0, 1) := by decide +kernel
theorem dX5_bridge_65 : decode cX5_bridge 65 = .ok (.getfield 120, 3) := by decide +kernel
theorem dX5_bridge_68 : decode cX5_bridge 68 = .ok (.iload_n 2, 1) := by decide +kernel
theorem dX5_bridge_69 : decode cX5_bridge 69 = .ok (.iastore, 1) := by decide +kernel
theorem dX5_bridge_70 : decode cX5_bridge 70 = .ok (.aload_n 0, 1) := by decide +kernel
theorem dX5_bridge_71 : decode cX5_bridge 71 = .ok (.getfield 62, 3) := by decide +kernel
theorem dX5_bridge_74 : decode cX5_bridge 74 = .ok (.aload_n 0, 1) := by decide +kernel
theorem dX5_bridge_75 : decode cX5_bridge 75 = .ok (.getfield 120, 3) := by decide +kernel
theorem dX5_bridge_78 : decode cX5_bridge 78 = .ok (.iload_n 3, 1) := by decide +kernel
theorem dX5_bridge_79 : decode cX5_bridge 79 = .ok (.iastore, 1) := by decide +kernel
theorem dX5_bridge_80 : decode cX5_bridge 80 = .ok (.aload_n 0, 1) := by decide +kernel
theorem dX5_bridge_81 : decode cX5_bridge 81 = .ok (.getfield 65, 3) := by decide +kernel
theorem dX5_bridge_84 : decode cX5_bridge 84 = .ok (.aload_n 0, 1) := by decide +kernel
theorem dX5_bridge_85 : decode cX5_bridge 85 = .ok (.getfield 120, 3) := by decide +kernel
theorem dX5_bridge_88 : decode cX5_bridge 88 = .ok (.iload 4, 2) := by decide +kernel
theorem dX5_bridge_90 : decode cX5_bridge 90 = .ok (.iastore, 1) := by decide +kernel
theorem dX5_bridge_91 : decode cX5_bridge 91 = .ok (.aload_n 0, 1) := by decide +kernel
theorem dX5_bridge_92 : decode cX5_bridge 92 = .ok (.aload_n 0, 1) := by decide +kernel
theorem dX5_bridge_93 : decode cX5_bridge 93 = .ok (.getfield 120, 3) := by decide +kernel
theorem dX5_bridge_96 : decode cX5_bridge 96 = .ok (.iconst 1, 1) := by decide +kernel
theorem dX5_bridge_97 : decode cX5_bridge 97 = .ok (.iadd, 1) := by decide +kernel
theorem dX5_bridge_98 : decode cX5_bridge 98 = .ok (.putfield 120, 3) := by decide +kernel
theorem dX5_bridge_101 : decode cX5_bridge 101 = .ok (.iconst 1, 1) := by decide +kernel
theorem dX5_bridge_102 : decode cX5_bridge 102 = .ok (.ireturn, 1) := by decide +kernel
theorem dX5_isHeld_0 : decode cX5_isHeld 0 = .ok (.iconst 0, 1) := by decide +kernel
theorem dX5_isHeld_1 : decode cX5_isHeld 1 = .ok (.istore 4, 2) := by decide +kernel
theorem dX5_isHeld_3 : decode cX5_isHeld 3 = .ok (.iload 4, 2) := by decide +kernel
theorem dX5_isHeld_5 : decode cX5_isHeld 5 = .ok (.aload_n 0, 1) := by decide +kernel
theorem dX5_isHeld_6 : decode cX5_isHeld 6 = .ok (.getfield 120, 3) := by decide +kernel
theorem dX5_isHeld_9 : decode cX5_isHeld 9 = .ok (.if_icmp .ge 55, 3) := by decide +kernel
theorem dX5_isHeld_12 : decode cX5_isHeld 12 = .ok (.aload_n 0, 1) := by decide +kernel
theorem dX5_isHeld_13 : decode cX5_isHeld 13 = .ok (.getfield 56, 3) := by decide +kernel
theorem dX5_isHeld_16 : decode cX5_isHeld 16 = .ok (.iload 4, 2) := by decide +kernel
theorem dX5_isHeld_18 : decode cX5_isHeld 18 = .ok (.iaload, 1) := by decide +kernel
theorem dX5_isHeld_19 : decode cX5_isHeld 19 = .ok (.iload_n 1, 1) := by decide +kernel
theorem dX5_isHeld_20 : decode cX5_isHeld 20 = .ok (.if_icmp .ne 38, 3) := by decide +kernel
theorem dX5_isHeld_23 : decode cX5_isHeld 23 = .ok (.aload_n 0, 1) := by decide +kernel
theorem dX5_isHeld_24 : decode cX5_isHeld 24 = .ok (.getfield 59, 3) := by decide +kernel
theorem dX5_isHeld_27 : decode cX5_isHeld 27 = .ok (.iload 4, 2) := by decide +kernel
theorem dX5_isHeld_29 : decode cX5_isHeld 29 = .ok (.iaload, 1) := by decide +kernel
theorem dX5_isHeld_30 : decode cX5_isHeld 30 = .ok (.iload_n 2, 1) := by decide +kernel
theorem dX5_isHeld_31 : decode cX5_isHeld 31 = .ok (.if_icmp .ne 27, 3) := by decide +kernel
theorem dX5_isHeld_34 : decode cX5_isHeld 34 = .ok (.iload_n 3, 1) := by decide +kernel
theorem dX5_isHeld_35 : decode cX5_isHeld 35 = .ok (.aload_n 0, 1) := by decide +kernel
theorem dX5_isHeld_36 : decode cX5_isHeld 36 = .ok (.getfield 62, 3) := by decide +kernel
theorem dX5_isHeld_39 : decode cX5_isHeld 39 = .ok (.iload 4, 2) := by decide +kernel
theorem dX5_isHeld_41 : decode cX5_isHeld 41 = .ok (.iaload, 1) := by decide +kernel
theorem dX5_isHeld_42 : decode cX5_isHeld 42 = .ok (.if_icmp .lt 16, 3) := by decide +kernel
theorem dX5_isHeld_45 : decode cX5_isHeld 45 = .ok (.iload_n 3, 1) := by decide +kernel
theorem dX5_isHeld_46 : decode cX5_isHeld 46 = .ok (.aload_n 0, 1) := by decide +kernel
theorem dX5_isHeld_47 : decode cX5_isHeld 47 = .ok (.getfield 65, 3) := by decide +kernel
theorem dX5_isHeld_50 : decode cX5_isHeld 50 = .ok (.iload 4, 2) := by decide +kernel
theorem dX5_isHeld_52 : decode cX5_isHeld 52 = .ok (.iaload, 1) := by decide +kernel
theorem dX5_isHeld_53 : decode cX5_isHeld 53 = .ok (.if_icmp .gt 5, 3) := by decide +kernel
theorem dX5_isHeld_56 : decode cX5_isHeld 56 = .ok (.iconst 1, 1) := by decide +kernel
theorem dX5_isHeld_57 : decode cX5_isHeld 57 = .ok (.ireturn, 1) := by decide +kernel
theorem dX5_isHeld_58 : decode cX5_isHeld 58 = .ok (.iinc 4 1, 3) := by decide +kernel
theorem dX5_isHeld_61 : decode cX5_isHeld 61 = .ok (.goto (-58), 3) := by decide +kernel
theorem dX5_isHeld_64 : decode cX5_isHeld 64 = .ok (.iconst 0, 1) := by decide +kernel
theorem dX5_isHeld_65 : decode cX5_isHeld 65 = .ok (.ireturn, 1) := by decide +kernel
set_option maxRecDepth 20000 in
theorem ggX5_holds_X5_isHouse : GoodIn wsX5_holds wsX5_isHouse := goodIn_r _ [5, 6, 19, 20, 21, 22, 23, 24, 25, 26, 27, 28, 29, 30, 31, 32, 33, 34, 35, 36, 37, 38, 39, 40, 41, 42, 43, 44] (by decide +kernel) (by decide +kernel)
set_option maxRecDepth 20000 in
theorem gX5_holds_X5_isHouse : GoodIn wsX5_holds (wsV RX5 110 RX5 yX5_isHouse wsX5_isHouse) := goodIn_app (goodIn_of _ (by decide +kernel)) ggX5_holds_X5_isHouse
set_option maxRecDepth 20000 in
theorem ggX5_holds_X5_in : GoodIn wsX5_holds wsX5_in := goodIn_r _ [9] (by decide +kernel) (by decide +kernel)
set_option maxRecDepth 20000 in
theorem gX5_holds_X5_in : GoodIn wsX5_holds (va_wsS RX5 82 yX5_in wsX5_in) := goodIn_app (goodIn_of _ (by decide +kernel)) ggX5_holds_X5_in
set_option maxRecDepth 20000 in
theorem ggX5_holds_X5_isHeld : GoodIn wsX5_holds wsX5_isHeld := goodIn_r _ [13, 14, 15, 16, 17, 18, 19, 20, 21, 22, 23, 24, 25, 26, 27, 28, 29, 30, 31, 32, 33, 34, 35, 36, 37, 38, 39, 40, 41, 42, 43, 44] (by decide +kernel) (by decide +kernel)
set_option maxRecDepth 20000 in
theorem gX5_holds_X5_isHeld : GoodIn wsX5_holds (wsV RX5 123 RX5 yX5_isHeld wsX5_isHeld) := goodIn_app (goodIn_of _ (by decide +kernel)) ggX5_holds_X5_isHeld
theorem dX5_holds_0 : decode cX5_holds 0 = .ok (.aload_n 0, 1) := by decide +kernel
theorem dX5_holds_1 : decode cX5_holds 1 = .ok (.iload_n 1, 1) := by decide +kernel
theorem dX5_holds_2 : decode cX5_holds 2 = .ok (.invokevirtual 110, 3) := by decide +kernel
theorem dX5_holds_5 : decode cX5_holds 5 = .ok (.ifCond .eq 27, 3) := by decide +kernel
theorem dX5_holds_8 : decode cX5_holds 8 = .ok (.aload_n 0, 1) := by decide +kernel
theorem dX5_holds_9 : decode cX5_holds 9 = .ok (.iload_n 2, 1) := by decide +kernel
theorem dX5_holds_10 : decode cX5_holds 10 = .ok (.invokevirtual 110, 3) := by decide +kernel
theorem dX5_holds_13 : decode cX5_holds 13 = .ok (.ifCond .eq 19, 3) := by decide +kernel
theorem dX5_holds_16 : decode cX5_holds 16 = .ok (.iload_n 1, 1) := by decide +kernel
theorem dX5_holds_17 : decode cX5_holds 17 = .ok (.iload_n 2, 1) := by decide +kernel
theorem dX5_holds_18 : decode cX5_holds 18 = .ok (.if_icmp .eq 14, 3) := by decide +kernel
theorem dX5_holds_21 : decode cX5_holds 21 = .ok (.iload_n 3, 1) := by decide +kernel
theorem dX5_holds_22 : decode cX5_holds 22 = .ok (.iconst 0, 1) := by decide +kernel
theorem dX5_holds_23 : decode cX5_holds 23 = .ok (.sipush 3000, 3) := by decide +kernel
theorem dX5_holds_26 : decode cX5_holds 26 = .ok (.invokestatic 82, 3) := by decide +kernel
theorem dX5_holds_29 : decode cX5_holds 29 = .ok (.ifCond .ne 5, 3) := by decide +kernel
theorem dX5_holds_32 : decode cX5_holds 32 = .ok (.iconst (-1), 1) := by decide +kernel
theorem dX5_holds_33 : decode cX5_holds 33 = .ok (.ireturn, 1) := by decide +kernel
theorem dX5_holds_34 : decode cX5_holds 34 = .ok (.aload_n 0, 1) := by decide +kernel
theorem dX5_holds_35 : decode cX5_holds 35 = .ok (.iload_n 1, 1) := by decide +kernel
theorem dX5_holds_36 : decode cX5_holds 36 = .ok (.iload_n 2, 1) := by decide +kernel
theorem dX5_holds_37 : decode cX5_holds 37 = .ok (.iload_n 3, 1) := by decide +kernel
theorem dX5_holds_38 : decode cX5_holds 38 = .ok (.invokevirtual 123, 3) := by decide +kernel
theorem dX5_holds_41 : decode cX5_holds 41 = .ok (.ifCond .eq 7, 3) := by decide +kernel
theorem dX5_holds_44 : decode cX5_holds 44 = .ok (.iconst 1, 1) := by decide +kernel
theorem dX5_holds_45 : decode cX5_holds 45 = .ok (.goto 4, 3) := by decide +kernel
theorem dX5_holds_48 : decode cX5_holds 48 = .ok (.iconst 0, 1) := by decide +kernel
theorem dX5_holds_49 : decode cX5_holds 49 = .ok (.ireturn, 1) := by decide +kernel
theorem dX5_writes_0 : decode cX5_writes 0 = .ok (.bipush 6, 2) := by decide +kernel
theorem dX5_writes_2 : decode cX5_writes 2 = .ok (.aload_n 0, 1) := by decide +kernel
theorem dX5_writes_3 : decode cX5_writes 3 = .ok (.getfield 126, 3) := by decide +kernel
theorem dX5_writes_6 : decode cX5_writes 6 = .ok (.imul, 1) := by decide +kernel
theorem dX5_writes_7 : decode cX5_writes 7 = .ok (.istore 6, 2) := by decide +kernel
theorem dX5_writes_9 : decode cX5_writes 9 = .ok (.aload_n 0, 1) := by decide +kernel
theorem dX5_writes_10 : decode cX5_writes 10 = .ok (.getfield 68, 3) := by decide +kernel
theorem dX5_writes_13 : decode cX5_writes 13 = .ok (.iload 6, 2) := by decide +kernel
theorem dX5_writes_15 : decode cX5_writes 15 = .ok (.iload_n 1, 1) := by decide +kernel
theorem dX5_writes_16 : decode cX5_writes 16 = .ok (.iastore, 1) := by decide +kernel
theorem dX5_writes_17 : decode cX5_writes 17 = .ok (.aload_n 0, 1) := by decide +kernel
theorem dX5_writes_18 : decode cX5_writes 18 = .ok (.getfield 68, 3) := by decide +kernel
theorem dX5_writes_21 : decode cX5_writes 21 = .ok (.iload 6, 2) := by decide +kernel
theorem dX5_writes_23 : decode cX5_writes 23 = .ok (.iconst 1, 1) := by decide +kernel
theorem dX5_writes_24 : decode cX5_writes 24 = .ok (.iadd, 1) := by decide +kernel
theorem dX5_writes_25 : decode cX5_writes 25 = .ok (.iload_n 2, 1) := by decide +kernel
theorem dX5_writes_26 : decode cX5_writes 26 = .ok (.iastore, 1) := by decide +kernel
theorem dX5_writes_27 : decode cX5_writes 27 = .ok (.aload_n 0, 1) := by decide +kernel
theorem dX5_writes_28 : decode cX5_writes 28 = .ok (.getfield 68, 3) := by decide +kernel
theorem dX5_writes_31 : decode cX5_writes 31 = .ok (.iload 6, 2) := by decide +kernel
theorem dX5_writes_33 : decode cX5_writes 33 = .ok (.iconst 2, 1) := by decide +kernel
theorem dX5_writes_34 : decode cX5_writes 34 = .ok (.iadd, 1) := by decide +kernel
theorem dX5_writes_35 : decode cX5_writes 35 = .ok (.iload_n 3, 1) := by decide +kernel
theorem dX5_writes_36 : decode cX5_writes 36 = .ok (.iastore, 1) := by decide +kernel
theorem dX5_writes_37 : decode cX5_writes 37 = .ok (.aload_n 0, 1) := by decide +kernel
theorem dX5_writes_38 : decode cX5_writes 38 = .ok (.getfield 68, 3) := by decide +kernel
theorem dX5_writes_41 : decode cX5_writes 41 = .ok (.iload 6, 2) := by decide +kernel
theorem dX5_writes_43 : decode cX5_writes 43 = .ok (.iconst 3, 1) := by decide +kernel
theorem dX5_writes_44 : decode cX5_writes 44 = .ok (.iadd, 1) := by decide +kernel
theorem dX5_writes_45 : decode cX5_writes 45 = .ok (.iload 4, 2) := by decide +kernel
theorem dX5_writes_47 : decode cX5_writes 47 = .ok (.iastore, 1) := by decide +kernel
theorem dX5_writes_48 : decode cX5_writes 48 = .ok (.aload_n 0, 1) := by decide +kernel
theorem dX5_writes_49 : decode cX5_writes 49 = .ok (.getfield 68, 3) := by decide +kernel
theorem dX5_writes_52 : decode cX5_writes 52 = .ok (.iload 6, 2) := by decide +kernel
theorem dX5_writes_54 : decode cX5_writes 54 = .ok (.iconst 4, 1) := by decide +kernel
theorem dX5_writes_55 : decode cX5_writes 55 = .ok (.iadd, 1) := by decide +kernel
theorem dX5_writes_56 : decode cX5_writes 56 = .ok (.iload 5, 2) := by decide +kernel
theorem dX5_writes_58 : decode cX5_writes 58 = .ok (.iastore, 1) := by decide +kernel
theorem dX5_writes_59 : decode cX5_writes 59 = .ok (.aload_n 0, 1) := by decide +kernel
theorem dX5_writes_60 : decode cX5_writes 60 = .ok (.getfield 68, 3) := by decide +kernel
theorem dX5_writes_63 : decode cX5_writes 63 = .ok (.iload 6, 2) := by decide +kernel
theorem dX5_writes_65 : decode cX5_writes 65 = .ok (.iconst 5, 1) := by decide +kernel
theorem dX5_writes_66 : decode cX5_writes 66 = .ok (.iadd, 1) := by decide +kernel
theorem dX5_writes_67 : decode cX5_writes 67 = .ok (.aload_n 0, 1) := by decide +kernel
theorem dX5_writes_68 : decode cX5_writes 68 = .ok (.getfield 94, 3) := by decide +kernel
theorem dX5_writes_71 : decode cX5_writes 71 = .ok (.iastore, 1) := by decide +kernel
theorem dX5_writes_72 : decode cX5_writes 72 = .ok (.aload_n 0, 1) := by decide +kernel
theorem dX5_writes_73 : decode cX5_writes 73 = .ok (.aload_n 0, 1) := by decide +kernel
theorem dX5_writes_74 : decode cX5_writes 74 = .ok (.getfield 126, 3) := by decide +kernel
theorem dX5_writes_77 : decode cX5_writes 77 = .ok (.iconst 1, 1) := by decide +kernel
theorem dX5_writes_78 : decode cX5_writes 78 = .ok (.iadd, 1) := by decide +kernel
theorem dX5_writes_79 : decode cX5_writes 79 = .ok (.putfield 126, 3) := by decide +kernel
theorem dX5_writes_82 : decode cX5_writes 82 = .ok (.return_, 1) := by decide +kernel
set_option maxRecDepth 20000 in
theorem ggX5_crossed_X5_find : GoodIn wsX5_crossed wsX5_find := goodIn_r _ [11, 12, 13, 14, 45, 46, 47, 48, 49, 50, 51, 52, 53, 54, 55, 56, 57, 58, 59, 60, 61, 62, 63, 64, 65, 66, 67, 68, 69, 70] (by decide +kernel) (by decide +kernel)
set_option maxRecDepth 20000 in
theorem gX5_crossed_X5_find : GoodIn wsX5_crossed (wsV RX5 117 RX5 yX5_find wsX5_find) := goodIn_app (goodIn_of _ (by decide +kernel)) ggX5_crossed_X5_find
set_option maxRecDepth 20000 in
theorem ggX5_crossed_X5_isHeld : GoodIn wsX5_crossed wsX5_isHeld := goodIn_r _ [18, 19, 20, 21, 22, 23, 45, 46, 47, 48, 49, 50, 51, 52, 53, 54, 55, 56, 57, 58, 59, 60, 61, 62, 63, 64, 65, 66, 67, 68, 69, 70] (by decide +kernel) (by decide +kernel)
set_option maxRecDepth 20000 in
theorem gX5_crossed_X5_isHeld : GoodIn wsX5_crossed (wsV RX5 123 RX5 yX5_isHeld wsX5_isHeld) := goodIn_app (goodIn_of _ (by decide +kernel)) ggX5_crossed_X5_isHeld
set_option maxRecDepth 20000 in
theorem ggX5_crossed_X5_spanNow : GoodIn wsX5_crossed wsX5_spanNow := goodIn_r _ [27, 5, 1, 28, 45, 46, 47, 48, 49, 50, 51, 52, 53, 54, 55, 56, 57, 58, 59, 60, 61, 62, 63, 64, 65, 66, 67, 68, 69, 70] (by decide +kernel) (by decide +kernel)
set_option maxRecDepth 20000 in
theorem gX5_crossed_X5_spanNow : GoodIn wsX5_crossed (wsV RX5 103 RX5 yX5_spanNow wsX5_spanNow) := goodIn_app (goodIn_of _ (by decide +kernel)) ggX5_crossed_X5_spanNow
set_option maxRecDepth 20000 in
theorem ggX5_crossed_X5_namesOf : GoodIn wsX5_crossed wsX5_namesOf := goodIn_r _ [32, 5, 12, 33, 13, 14, 34, 4, 35, 1, 6, 36, 37, 38, 10, 39, 40, 24, 25, 26, 27, 28, 41, 42, 43, 44, 45, 46, 47, 48, 49, 50, 51, 52, 53, 54, 55, 56, 57, 58, 59, 60, 61, 62, 63, 64, 65, 66, 67, 68, 69, 70] (by decide +kernel) (by decide +kernel)
set_option maxRecDepth 20000 in
theorem gX5_crossed_X5_namesOf : GoodIn wsX5_crossed (wsV RX5 113 RX5 yX5_namesOf wsX5_namesOf) := goodIn_app (goodIn_of _ (by decide +kernel)) ggX5_crossed_X5_namesOf
theorem dX5_crossed_0 : decode cX5_crossed 0 = .ok (.aload_n 0, 1) := by decide +kernel
theorem dX5_crossed_1 : decode cX5_crossed 1 = .ok (.iload_n 1, 1) := by decide +kernel
theorem dX5_crossed_2 : decode cX5_crossed 2 = .ok (.iload_n 3, 1) := by decide +kernel
theorem dX5_crossed_3 : decode cX5_crossed 3 = .ok (.invokevirtual 117, 3) := by decide +kernel
theorem dX5_crossed_6 : decode cX5_crossed 6 = .ok (.istore 4, 2) := by decide +kernel
theorem dX5_crossed_8 : decode cX5_crossed 8 = .ok (.iload 4, 2) := by decide +kernel
theorem dX5_crossed_10 : decode cX5_crossed 10 = .ok (.iconst (-1), 1) := by decide +kernel
theorem dX5_crossed_11 : decode cX5_crossed 11 = .ok (.if_icmp .eq 65, 3) := by decide +kernel
theorem dX5_crossed_14 : decode cX5_crossed 14 = .ok (.aload_n 0, 1) := by decide +kernel
theorem dX5_crossed_15 : decode cX5_crossed 15 = .ok (.iload_n 1, 1) := by decide +kernel
theorem dX5_crossed_16 : decode cX5_crossed 16 = .ok (.iload_n 2, 1) := by decide +kernel
theorem dX5_crossed_17 : decode cX5_crossed 17 = .ok (.aload_n 0, 1) := by decide +kernel
theorem dX5_crossed_18 : decode cX5_crossed 18 = .ok (.getfield 94, 3) := by decide +kernel
theorem dX5_crossed_21 : decode cX5_crossed 21 = .ok (.invokevirtual 123, 3) := by decide +kernel
theorem dX5_crossed_24 : decode cX5_crossed 24 = .ok (.ifCond .eq 52, 3) := by decide +kernel
theorem dX5_crossed_27 : decode cX5_crossed 27 = .ok (.aload_n 0, 1) := by decide +kernel
theorem dX5_crossed_28 : decode cX5_crossed 28 = .ok (.getfield 38, 3) := by decide +kernel
theorem dX5_crossed_31 : decode cX5_crossed 31 = .ok (.iload_n 1, 1) := by decide +kernel
theorem dX5_crossed_32 : decode cX5_crossed 32 = .ok (.baload, 1) := by decide +kernel
theorem dX5_crossed_33 : decode cX5_crossed 33 = .ok (.ifCond .ne 43, 3) := by decide +kernel
theorem dX5_crossed_36 : decode cX5_crossed 36 = .ok (.aload_n 0, 1) := by decide +kernel
theorem dX5_crossed_37 : decode cX5_crossed 37 = .ok (.getfield 16, 3) := by decide +kernel
theorem dX5_crossed_40 : decode cX5_crossed 40 = .ok (.aload_n 0, 1) := by decide +kernel
theorem dX5_crossed_41 : decode cX5_crossed 41 = .ok (.getfield 47, 3) := by decide +kernel
theorem dX5_crossed_44 : decode cX5_crossed 44 = .ok (.iload 4, 2) := by decide +kernel
theorem dX5_crossed_46 : decode cX5_crossed 46 = .ok (.iaload, 1) := by decide +kernel
theorem dX5_crossed_47 : decode cX5_crossed 47 = .ok (.baload, 1) := by decide +kernel
theorem dX5_crossed_48 : decode cX5_crossed 48 = .ok (.ifCond .ne 28, 3) := by decide +kernel
theorem dX5_crossed_51 : decode cX5_crossed 51 = .ok (.aload_n 0, 1) := by decide +kernel
theorem dX5_crossed_52 : decode cX5_crossed 52 = .ok (.getfield 20, 3) := by decide +kernel
theorem dX5_crossed_55 : decode cX5_crossed 55 = .ok (.iload_n 1, 1) := by decide +kernel
theorem dX5_crossed_56 : decode cX5_crossed 56 = .ok (.iaload, 1) := by decide +kernel
theorem dX5_crossed_57 : decode cX5_crossed 57 = .ok (.iconst 1, 1) := by decide +kernel
theorem dX5_crossed_58 : decode cX5_crossed 58 = .ok (.if_icmp .ne 20, 3) := by decide +kernel
theorem dX5_crossed_61 : decode cX5_crossed 61 = .ok (.aload_n 0, 1) := by decide +kernel
theorem dX5_crossed_62 : decode cX5_crossed 62 = .ok (.getfield 53, 3) := by decide +kernel
theorem dX5_crossed_65 : decode cX5_crossed 65 = .ok (.iload 4, 2) := by decide +kernel
theorem dX5_crossed_67 : decode cX5_crossed 67 = .ok (.iaload, 1) := by decide +kernel
theorem dX5_crossed_68 : decode cX5_crossed 68 = .ok (.aload_n 0, 1) := by decide +kernel
theorem dX5_crossed_69 : decode cX5_crossed 69 = .ok (.iload_n 1, 1) := by decide +kernel
theorem dX5_crossed_70 : decode cX5_crossed 70 = .ok (.invokevirtual 103, 3) := by decide +kernel
theorem dX5_crossed_73 : decode cX5_crossed 73 = .ok (.if_icmp .eq 5, 3) := by decide +kernel
theorem dX5_crossed_76 : decode cX5_crossed 76 = .ok (.iconst (-1), 1) := by decide +kernel
theorem dX5_crossed_77 : decode cX5_crossed 77 = .ok (.ireturn, 1) := by decide +kernel
theorem dX5_crossed_78 : decode cX5_crossed 78 = .ok (.aload_n 0, 1) := by decide +kernel
theorem dX5_crossed_79 : decode cX5_crossed 79 = .ok (.iload_n 2, 1) := by decide +kernel
theorem dX5_crossed_80 : decode cX5_crossed 80 = .ok (.aload_n 0, 1) := by decide +kernel
theorem dX5_crossed_81 : decode cX5_crossed 81 = .ok (.getfield 47, 3) := by decide +kernel
theorem dX5_crossed_84 : decode cX5_crossed 84 = .ok (.iload 4, 2) := by decide +kernel
theorem dX5_crossed_86 : decode cX5_crossed 86 = .ok (.iaload, 1) := by decide +kernel
theorem dX5_crossed_87 : decode cX5_crossed 87 = .ok (.invokevirtual 113, 3) := by decide +kernel
theorem dX5_crossed_90 : decode cX5_crossed 90 = .ok (.ireturn, 1) := by decide +kernel
set_option maxRecDepth 20000 in
theorem ggX5_cross_X5_isHouse : GoodIn wsX5_cross wsX5_isHouse := goodIn_r _ [7, 8, 63, 64, 65, 66, 67, 68, 69, 70, 71, 72, 73, 74, 75, 76, 77, 78, 79, 80, 81, 82, 83, 84, 85, 86, 87, 88] (by decide +kernel) (by decide +kernel)
set_option maxRecDepth 20000 in
theorem gX5_cross_X5_isHouse : GoodIn wsX5_cross (wsV RX5 110 RX5 yX5_isHouse wsX5_isHouse) := goodIn_app (goodIn_of _ (by decide +kernel)) ggX5_cross_X5_isHouse
set_option maxRecDepth 20000 in
theorem ggX5_cross_X5_in : GoodIn wsX5_cross wsX5_in := goodIn_r _ [11] (by decide +kernel) (by decide +kernel)
set_option maxRecDepth 20000 in
theorem gX5_cross_X5_in : GoodIn wsX5_cross (va_wsS RX5 82 yX5_in wsX5_in) := goodIn_app (goodIn_of _ (by decide +kernel)) ggX5_cross_X5_in
set_option maxRecDepth 20000 in
theorem ggX5_cross_X5_crossed : GoodIn wsX5_cross wsX5_crossed := goodIn_r _ [15, 16, 17, 18, 19, 20, 21, 22, 23, 24, 6, 25, 26, 27, 2, 28, 29, 30, 31, 32, 33, 34, 35, 36, 37, 38, 39, 40, 41, 42, 43, 44, 45, 46, 47, 48, 49, 50, 51, 52, 53, 54, 55, 56, 57, 63, 64, 65, 66, 67, 68, 69, 70, 71, 72, 73, 74, 75, 76, 77, 78, 79, 80, 81, 82, 83, 84, 85, 86, 87, 88] (by decide +kernel) (by decide +kernel)
set_option maxRecDepth 20000 in
theorem gX5_cross_X5_crossed : GoodIn wsX5_cross (wsV RX5 129 RX5 yX5_crossed wsX5_crossed) := goodIn_app (goodIn_of _ (by decide +kernel)) ggX5_cross_X5_crossed
set_option maxRecDepth 20000 in
theorem ggX5_cross_X5_writes : GoodIn wsX5_cross wsX5_writes := goodIn_r _ [61, 1, 62, 16, 63, 64, 65, 66, 67, 68, 69, 70, 71, 72, 73, 74, 75, 76, 77, 78, 79, 80, 81, 82, 83, 84, 85, 86, 87, 88] (by decide +kernel) (by decide +kernel)
set_option maxRecDepth 20000 in
theorem gX5_cross_X5_writes : GoodIn wsX5_cross (wsV RX5 132 RX5 yX5_writes wsX5_writes) := goodIn_app (goodIn_of _ (by decide +kernel)) ggX5_cross_X5_writes
theorem dX5_cross_0 : decode cX5_cross 0 = .ok (.aload_n 0, 1) := by decide +kernel
theorem dX5_cross_1 : decode cX5_cross 1 = .ok (.iload_n 1, 1) := by decide +kernel
theorem dX5_cross_2 : decode cX5_cross 2 = .ok (.invokevirtual 110, 3) := by decide +kernel
theorem dX5_cross_5 : decode cX5_cross 5 = .ok (.ifCond .eq 32, 3) := by decide +kernel
theorem dX5_cross_8 : decode cX5_cross 8 = .ok (.aload_n 0, 1) := by decide +kernel
theorem dX5_cross_9 : decode cX5_cross 9 = .ok (.iload_n 2, 1) := by decide +kernel
theorem dX5_cross_10 : decode cX5_cross 10 = .ok (.invokevirtual 110, 3) := by decide +kernel
theorem dX5_cross_13 : decode cX5_cross 13 = .ok (.ifCond .eq 24, 3) := by decide +kernel
theorem dX5_cross_16 : decode cX5_cross 16 = .ok (.iload 4, 2) := by decide +kernel
theorem dX5_cross_18 : decode cX5_cross 18 = .ok (.iconst 0, 1) := by decide +kernel
theorem dX5_cross_19 : decode cX5_cross 19 = .ok (.bipush 9, 2) := by decide +kernel
theorem dX5_cross_21 : decode cX5_cross 21 = .ok (.invokestatic 82, 3) := by decide +kernel
theorem dX5_cross_24 : decode cX5_cross 24 = .ok (.ifCond .eq 13, 3) := by decide +kernel
theorem dX5_cross_27 : decode cX5_cross 27 = .ok (.aload_n 0, 1) := by decide +kernel
theorem dX5_cross_28 : decode cX5_cross 28 = .ok (.getfield 126, 3) := by decide +kernel
theorem dX5_cross_31 : decode cX5_cross 31 = .ok (.sipush 200, 3) := by decide +kernel
theorem dX5_cross_34 : decode cX5_cross 34 = .ok (.if_icmp .ne 5, 3) := by decide +kernel
theorem dX5_cross_37 : decode cX5_cross 37 = .ok (.iconst (-1), 1) := by decide +kernel
theorem dX5_cross_38 : decode cX5_cross 38 = .ok (.ireturn, 1) := by decide +kernel
theorem dX5_cross_39 : decode cX5_cross 39 = .ok (.aload_n 0, 1) := by decide +kernel
theorem dX5_cross_40 : decode cX5_cross 40 = .ok (.iload_n 1, 1) := by decide +kernel
theorem dX5_cross_41 : decode cX5_cross 41 = .ok (.iload_n 2, 1) := by decide +kernel
theorem dX5_cross_42 : decode cX5_cross 42 = .ok (.iload_n 3, 1) := by decide +kernel
theorem dX5_cross_43 : decode cX5_cross 43 = .ok (.invokevirtual 129, 3) := by decide +kernel
theorem dX5_cross_46 : decode cX5_cross 46 = .ok (.istore 5, 2) := by decide +kernel
theorem dX5_cross_48 : decode cX5_cross 48 = .ok (.aload_n 0, 1) := by decide +kernel
theorem dX5_cross_49 : decode cX5_cross 49 = .ok (.iload 5, 2) := by decide +kernel
theorem dX5_cross_51 : decode cX5_cross 51 = .ok (.iconst (-1), 1) := by decide +kernel
theorem dX5_cross_52 : decode cX5_cross 52 = .ok (.if_icmp .ne 7, 3) := by decide +kernel
theorem dX5_cross_55 : decode cX5_cross 55 = .ok (.iconst 2, 1) := by decide +kernel
theorem dX5_cross_56 : decode cX5_cross 56 = .ok (.goto 4, 3) := by decide +kernel
theorem dX5_cross_59 : decode cX5_cross 59 = .ok (.iconst 0, 1) := by decide +kernel
theorem dX5_cross_60 : decode cX5_cross 60 = .ok (.iload_n 1, 1) := by decide +kernel
theorem dX5_cross_61 : decode cX5_cross 61 = .ok (.iload_n 3, 1) := by decide +kernel
theorem dX5_cross_62 : decode cX5_cross 62 = .ok (.iload 4, 2) := by decide +kernel
theorem dX5_cross_64 : decode cX5_cross 64 = .ok (.iconst (-1), 1) := by decide +kernel
theorem dX5_cross_65 : decode cX5_cross 65 = .ok (.invokevirtual 132, 3) := by decide +kernel
theorem dX5_cross_68 : decode cX5_cross 68 = .ok (.iload 5, 2) := by decide +kernel
theorem dX5_cross_70 : decode cX5_cross 70 = .ok (.iconst (-1), 1) := by decide +kernel
theorem dX5_cross_71 : decode cX5_cross 71 = .ok (.if_icmp .ne 7, 3) := by decide +kernel
theorem dX5_cross_74 : decode cX5_cross 74 = .ok (.iconst (-1), 1) := by decide +kernel
theorem dX5_cross_75 : decode cX5_cross 75 = .ok (.goto 10, 3) := by decide +kernel
theorem dX5_cross_78 : decode cX5_cross 78 = .ok (.aload_n 0, 1) := by decide +kernel
theorem dX5_cross_79 : decode cX5_cross 79 = .ok (.getfield 44, 3) := by decide +kernel
theorem dX5_cross_82 : decode cX5_cross 82 = .ok (.iload 5, 2) := by decide +kernel
theorem dX5_cross_84 : decode cX5_cross 84 = .ok (.iaload, 1) := by decide +kernel
theorem dX5_cross_85 : decode cX5_cross 85 = .ok (.ireturn, 1) := by decide +kernel
set_option maxRecDepth 20000 in
theorem ggX5_back_X5_isHouse : GoodIn wsX5_back wsX5_isHouse := goodIn_r _ [10, 11, 33, 34, 35, 36, 37, 38, 39, 40, 41, 42, 43, 44, 45, 46, 47, 48, 49, 50, 51, 52, 53, 54, 55, 56, 57, 58] (by decide +kernel) (by decide +kernel)
set_option maxRecDepth 20000 in
theorem gX5_back_X5_isHouse : GoodIn wsX5_back (wsV RX5 110 RX5 yX5_isHouse wsX5_isHouse) := goodIn_app (goodIn_of _ (by decide +kernel)) ggX5_back_X5_isHouse
set_option maxRecDepth 20000 in
theorem ggX5_back_X5_in : GoodIn wsX5_back wsX5_in := goodIn_r _ [14] (by decide +kernel) (by decide +kernel)
set_option maxRecDepth 20000 in
theorem gX5_back_X5_in : GoodIn wsX5_back (va_wsS RX5 82 yX5_in wsX5_in) := goodIn_app (goodIn_of _ (by decide +kernel)) ggX5_back_X5_in
set_option maxRecDepth 20000 in
theorem ggX5_back_X5_find : GoodIn wsX5_back wsX5_find := goodIn_r _ [18, 19, 20, 21, 33, 34, 35, 36, 37, 38, 39, 40, 41, 42, 43, 44, 45, 46, 47, 48, 49, 50, 51, 52, 53, 54, 55, 56, 57, 58] (by decide +kernel) (by decide +kernel)
set_option maxRecDepth 20000 in
theorem gX5_back_X5_find : GoodIn wsX5_back (wsV RX5 117 RX5 yX5_find wsX5_find) := goodIn_app (goodIn_of _ (by decide +kernel)) ggX5_back_X5_find
set_option maxRecDepth 20000 in
theorem ggX5_back_X5_writes : GoodIn wsX5_back wsX5_writes := goodIn_r _ [25, 1, 26, 27, 33, 34, 35, 36, 37, 38, 39, 40, 41, 42, 43, 44, 45, 46, 47, 48, 49, 50, 51, 52, 53, 54, 55, 56, 57, 58] (by decide +kernel) (by decide +kernel)
set_option maxRecDepth 20000 in
theorem gX5_back_X5_writes : GoodIn wsX5_back (wsV RX5 132 RX5 yX5_writes wsX5_writes) := goodIn_app (goodIn_of _ (by decide +kernel)) ggX5_back_X5_writes
set_option maxRecDepth 20000 in
theorem ggX5_back_X5_head : GoodIn wsX5_back wsX5_head := goodIn_r _ [31, 32, 33, 34, 35, 36, 37, 38, 39, 40, 41, 42, 43, 44, 45, 46, 47, 48, 49, 50, 51, 52, 53, 54, 55, 56, 57, 58] (by decide +kernel) (by decide +kernel)
set_option maxRecDepth 20000 in
theorem gX5_back_X5_head : GoodIn wsX5_back (wsV RX5 86 RX5 yX5_head wsX5_head) := goodIn_app (goodIn_of _ (by decide +kernel)) ggX5_back_X5_head
theorem dX5_back_0 : decode cX5_back 0 = .ok (.aload_n 0, 1) := by decide +kernel
theorem dX5_back_1 : decode cX5_back 1 = .ok (.iload_n 1, 1) := by decide +kernel
theorem dX5_back_2 : decode cX5_back 2 = .ok (.invokevirtual 110, 3) := by decide +kernel
theorem dX5_back_5 : decode cX5_back 5 = .ok (.ifCond .eq 45, 3) := by decide +kernel
theorem dX5_back_8 : decode cX5_back 8 = .ok (.iload_n 3, 1) := by decide +kernel
theorem dX5_back_9 : decode cX5_back 9 = .ok (.iconst 0, 1) := by decide +kernel
theorem dX5_back_10 : decode cX5_back 10 = .ok (.bipush 7, 2) := by decide +kernel
theorem dX5_back_12 : decode cX5_back 12 = .ok (.invokestatic 82, 3) := by decide +kernel
theorem dX5_back_15 : decode cX5_back 15 = .ok (.ifCond .eq 35, 3) := by decide +kernel
theorem dX5_back_18 : decode cX5_back 18 = .ok (.iload 4, 2) := by decide +kernel
theorem dX5_back_20 : decode cX5_back 20 = .ok (.iconst 0, 1) := by decide +kernel
theorem dX5_back_21 : decode cX5_back 21 = .ok (.bipush 9, 2) := by decide +kernel
theorem dX5_back_23 : decode cX5_back 23 = .ok (.invokestatic 82, 3) := by decide +kernel
theorem dX5_back_26 : decode cX5_back 26 = .ok (.ifCond .eq 24, 3) := by decide +kernel
theorem dX5_back_29 : decode cX5_back 29 = .ok (.iload 5, 2) := by decide +kernel
theorem dX5_back_31 : decode cX5_back 31 = .ok (.iconst 0, 1) := by decide +kernel
theorem dX5_back_32 : decode cX5_back 32 = .ok (.bipush 9, 2) := by decide +kernel
theorem dX5_back_34 : decode cX5_back 34 = .ok (.invokestatic 82, 3) := by decide +kernel
theorem dX5_back_37 : decode cX5_back 37 = .ok (.ifCond .eq 13, 3) := by decide +kernel
theorem dX5_back_40 : decode cX5_back 40 = .ok (.aload_n 0, 1) := by decide +kernel
theorem dX5_back_41 : decode cX5_back 41 = .ok (.getfield 126, 3) := by decide +kernel
theorem dX5_back_44 : decode cX5_back 44 = .ok (.sipush 200, 3) := by decide +kernel
theorem dX5_back_47 : decode cX5_back 47 = .ok (.if_icmp .ne 5, 3) := by decide +kernel
theorem dX5_back_50 : decode cX5_back 50 = .ok (.iconst (-1), 1) := by decide +kernel
theorem dX5_back_51 : decode cX5_back 51 = .ok (.ireturn, 1) := by decide +kernel
theorem dX5_back_52 : decode cX5_back 52 = .ok (.aload_n 0, 1) := by decide +kernel
theorem dX5_back_53 : decode cX5_back 53 = .ok (.iload_n 1, 1) := by decide +kernel
theorem dX5_back_54 : decode cX5_back 54 = .ok (.iload_n 2, 1) := by decide +kernel
theorem dX5_back_55 : decode cX5_back 55 = .ok (.invokevirtual 117, 3) := by decide +kernel
theorem dX5_back_58 : decode cX5_back 58 = .ok (.istore 6, 2) := by decide +kernel
theorem dX5_back_60 : decode cX5_back 60 = .ok (.iload 6, 2) := by decide +kernel
theorem dX5_back_62 : decode cX5_back 62 = .ok (.iconst (-1), 1) := by decide +kernel
theorem dX5_back_63 : decode cX5_back 63 = .ok (.if_icmp .eq 52, 3) := by decide +kernel
theorem dX5_back_66 : decode cX5_back 66 = .ok (.iload 4, 2) := by decide +kernel
theorem dX5_back_68 : decode cX5_back 68 = .ok (.iload 5, 2) := by decide +kernel
theorem dX5_back_70 : decode cX5_back 70 = .ok (.if_icmp .eq 45, 3) := by decide +kernel
theorem dX5_back_73 : decode cX5_back 73 = .ok (.aload_n 0, 1) := by decide +kernel
theorem dX5_back_74 : decode cX5_back 74 = .ok (.getfield 29, 3) := by decide +kernel
theorem dX5_back_77 : decode cX5_back 77 = .ok (.iload_n 1, 1) := by decide +kernel
theorem dX5_back_78 : decode cX5_back 78 = .ok (.iaload, 1) := by decide +kernel
theorem dX5_back_79 : decode cX5_back 79 = .ok (.iload_n 3, 1) := by decide +kernel
theorem dX5_back_80 : decode cX5_back 80 = .ok (.ishr, 1) := by decide +kernel
theorem dX5_back_81 : decode cX5_back 81 = .ok (.iconst 1, 1) := by decide +kernel
theorem dX5_back_82 : decode cX5_back 82 = .ok (.iand, 1) := by decide +kernel
theorem dX5_back_83 : decode cX5_back 83 = .ok (.iconst 1, 1) := by decide +kernel
theorem dX5_back_84 : decode cX5_back 84 = .ok (.if_icmp .ne 31, 3) := by decide +kernel
theorem dX5_back_87 : decode cX5_back 87 = .ok (.aload_n 0, 1) := by decide +kernel
theorem dX5_back_88 : decode cX5_back 88 = .ok (.getfield 38, 3) := by decide +kernel
theorem dX5_back_91 : decode cX5_back 91 = .ok (.iload_n 1, 1) := by decide +kernel
theorem dX5_back_92 : decode cX5_back 92 = .ok (.baload, 1) := by decide +kernel
theorem dX5_back_93 : decode cX5_back 93 = .ok (.ifCond .ne 22, 3) := by decide +kernel
theorem dX5_back_96 : decode cX5_back 96 = .ok (.aload_n 0, 1) := by decide +kernel
theorem dX5_back_97 : decode cX5_back 97 = .ok (.getfield 16, 3) := by decide +kernel
theorem dX5_back_100 : decode cX5_back 100 = .ok (.aload_n 0, 1) := by decide +kernel
theorem dX5_back_101 : decode cX5_back 101 = .ok (.getfield 47, 3) := by decide +kernel
theorem dX5_back_104 : decode cX5_back 104 = .ok (.iload 6, 2) := by decide +kernel
theorem dX5_back_106 : decode cX5_back 106 = .ok (.iaload, 1) := by decide +kernel
theorem dX5_back_107 : decode cX5_back 107 = .ok (.baload, 1) := by decide +kernel
theorem dX5_back_108 : decode cX5_back 108 = .ok (.ifCond .ne 7, 3) := by decide +kernel
theorem dX5_back_111 : decode cX5_back 111 = .ok (.iconst 1, 1) := by decide +kernel
theorem dX5_back_112 : decode cX5_back 112 = .ok (.goto 4, 3) := by decide +kernel
theorem dX5_back_115 : decode cX5_back 115 = .ok (.iconst 0, 1) := by decide +kernel
theorem dX5_back_116 : decode cX5_back 116 = .ok (.istore 7, 2) := by decide +kernel
theorem dX5_back_118 : decode cX5_back 118 = .ok (.aload_n 0, 1) := by decide +kernel
theorem dX5_back_119 : decode cX5_back 119 = .ok (.iload 7, 2) := by decide +kernel
theorem dX5_back_121 : decode cX5_back 121 = .ok (.ifCond .eq 7, 3) := by decide +kernel
theorem dX5_back_124 : decode cX5_back 124 = .ok (.iconst 1, 1) := by decide +kernel
theorem dX5_back_125 : decode cX5_back 125 = .ok (.goto 4, 3) := by decide +kernel
theorem dX5_back_128 : decode cX5_back 128 = .ok (.iconst 3, 1) := by decide +kernel
theorem dX5_back_129 : decode cX5_back 129 = .ok (.iload_n 1, 1) := by decide +kernel
theorem dX5_back_130 : decode cX5_back 130 = .ok (.iload_n 2, 1) := by decide +kernel
theorem dX5_back_131 : decode cX5_back 131 = .ok (.iload 4, 2) := by decide +kernel
theorem dX5_back_133 : decode cX5_back 133 = .ok (.iload 5, 2) := by decide +kernel
theorem dX5_back_135 : decode cX5_back 135 = .ok (.invokevirtual 132, 3) := by decide +kernel
theorem dX5_back_138 : decode cX5_back 138 = .ok (.iload 7, 2) := by decide +kernel
theorem dX5_back_140 : decode cX5_back 140 = .ok (.ifCond .eq 17, 3) := by decide +kernel
theorem dX5_back_143 : decode cX5_back 143 = .ok (.aload_n 0, 1) := by decide +kernel
theorem dX5_back_144 : decode cX5_back 144 = .ok (.aload_n 0, 1) := by decide +kernel
theorem dX5_back_145 : decode cX5_back 145 = .ok (.getfield 47, 3) := by decide +kernel
theorem dX5_back_148 : decode cX5_back 148 = .ok (.iload 6, 2) := by decide +kernel
theorem dX5_back_150 : decode cX5_back 150 = .ok (.iaload, 1) := by decide +kernel
theorem dX5_back_151 : decode cX5_back 151 = .ok (.invokevirtual 86, 3) := by decide +kernel
theorem dX5_back_154 : decode cX5_back 154 = .ok (.goto 4, 3) := by decide +kernel
theorem dX5_back_157 : decode cX5_back 157 = .ok (.iconst (-1), 1) := by decide +kernel
theorem dX5_back_158 : decode cX5_back 158 = .ok (.ireturn, 1) := by decide +kernel
set_option maxRecDepth 20000 in
theorem ggX5_lose_X5_isHouse : GoodIn wsX5_lose wsX5_isHouse := goodIn_r _ [6, 7, 8, 9, 10, 11, 12, 13, 14, 15, 16, 17, 18, 19, 20, 21, 22, 23, 24, 25, 26, 27, 28, 29, 30, 31, 32, 33] (by decide +kernel) (by decide +kernel)
set_option maxRecDepth 20000 in
theorem gX5_lose_X5_isHouse : GoodIn wsX5_lose (wsV RX5 110 RX5 yX5_isHouse wsX5_isHouse) := goodIn_app (goodIn_of _ (by decide +kernel)) ggX5_lose_X5_isHouse
theorem dX5_lose_0 : decode cX5_lose 0 = .ok (.aload_n 0, 1) := by decide +kernel
theorem dX5_lose_1 : decode cX5_lose 1 = .ok (.iload_n 1, 1) := by decide +kernel
theorem dX5_lose_2 : decode cX5_lose 2 = .ok (.invokevirtual 110, 3) := by decide +kernel
theorem dX5_lose_5 : decode cX5_lose 5 = .ok (.ifCond .eq 12, 3) := by decide +kernel
theorem dX5_lose_8 : decode cX5_lose 8 = .ok (.aload_n 0, 1) := by decide +kernel
theorem dX5_lose_9 : decode cX5_lose 9 = .ok (.getfield 38, 3) := by decide +kernel
theorem dX5_lose_12 : decode cX5_lose 12 = .ok (.iload_n 1, 1) := by decide +kernel
theorem dX5_lose_13 : decode cX5_lose 13 = .ok (.baload, 1) := by decide +kernel
theorem dX5_lose_14 : decode cX5_lose 14 = .ok (.ifCond .eq 5, 3) := by decide +kernel
theorem dX5_lose_17 : decode cX5_lose 17 = .ok (.iconst 0, 1) := by decide +kernel
theorem dX5_lose_18 : decode cX5_lose 18 = .ok (.ireturn, 1) := by decide +kernel
theorem dX5_lose_19 : decode cX5_lose 19 = .ok (.aload_n 0, 1) := by decide +kernel
theorem dX5_lose_20 : decode cX5_lose 20 = .ok (.getfield 38, 3) := by decide +kernel
theorem dX5_lose_23 : decode cX5_lose 23 = .ok (.iload_n 1, 1) := by decide +kernel
theorem dX5_lose_24 : decode cX5_lose 24 = .ok (.iconst 1, 1) := by decide +kernel
theorem dX5_lose_25 : decode cX5_lose 25 = .ok (.bastore, 1) := by decide +kernel
theorem dX5_lose_26 : decode cX5_lose 26 = .ok (.iconst 1, 1) := by decide +kernel
theorem dX5_lose_27 : decode cX5_lose 27 = .ok (.ireturn, 1) := by decide +kernel
set_option maxRecDepth 20000 in
theorem ggX5_anew_X5_isHouse : GoodIn wsX5_anew wsX5_isHouse := goodIn_r _ [7, 8, 9, 10, 11, 12, 13, 14, 15, 16, 17, 18, 19, 20, 21, 22, 23, 24, 25, 26, 27, 28, 29, 30, 31, 32, 33, 34] (by decide +kernel) (by decide +kernel)
set_option maxRecDepth 20000 in
theorem gX5_anew_X5_isHouse : GoodIn wsX5_anew (wsV RX5 110 RX5 yX5_isHouse wsX5_isHouse) := goodIn_app (goodIn_of _ (by decide +kernel)) ggX5_anew_X5_isHouse
theorem dX5_anew_0 : decode cX5_anew 0 = .ok (.aload_n 0, 1) := by decide +kernel
theorem dX5_anew_1 : decode cX5_anew 1 = .ok (.iload_n 1, 1) := by decide +kernel
theorem dX5_anew_2 : decode cX5_anew 2 = .ok (.invokevirtual 110, 3) := by decide +kernel
theorem dX5_anew_5 : decode cX5_anew 5 = .ok (.ifCond .eq 22, 3) := by decide +kernel
theorem dX5_anew_8 : decode cX5_anew 8 = .ok (.aload_n 0, 1) := by decide +kernel
theorem dX5_anew_9 : decode cX5_anew 9 = .ok (.getfield 38, 3) := by decide +kernel
theorem dX5_anew_12 : decode cX5_anew 12 = .ok (.iload_n 1, 1) := by decide +kernel
theorem dX5_anew_13 : decode cX5_anew 13 = .ok (.baload, 1) := by decide +kernel
theorem dX5_anew_14 : decode cX5_anew 14 = .ok (.ifCond .eq 13, 3) := by decide +kernel
theorem dX5_anew_17 : decode cX5_anew 17 = .ok (.aload_n 0, 1) := by decide +kernel
theorem dX5_anew_18 : decode cX5_anew 18 = .ok (.getfield 26, 3) := by decide +kernel
theorem dX5_anew_21 : decode cX5_anew 21 = .ok (.iload_n 1, 1) := by decide +kernel
theorem dX5_anew_22 : decode cX5_anew 22 = .ok (.iaload, 1) := by decide +kernel
theorem dX5_anew_23 : decode cX5_anew 23 = .ok (.iload_n 2, 1) := by decide +kernel
theorem dX5_anew_24 : decode cX5_anew 24 = .ok (.if_icmp .eq 5, 3) := by decide +kernel
theorem dX5_anew_27 : decode cX5_anew 27 = .ok (.iconst 0, 1) := by decide +kernel
theorem dX5_anew_28 : decode cX5_anew 28 = .ok (.ireturn, 1) := by decide +kernel
theorem dX5_anew_29 : decode cX5_anew 29 = .ok (.aload_n 0, 1) := by decide +kernel
theorem dX5_anew_30 : decode cX5_anew 30 = .ok (.getfield 38, 3) := by decide +kernel
theorem dX5_anew_33 : decode cX5_anew 33 = .ok (.iload_n 1, 1) := by decide +kernel
theorem dX5_anew_34 : decode cX5_anew 34 = .ok (.iconst 0, 1) := by decide +kernel
theorem dX5_anew_35 : decode cX5_anew 35 = .ok (.bastore, 1) := by decide +kernel
theorem dX5_anew_36 : decode cX5_anew 36 = .ok (.iconst 1, 1) := by decide +kernel
theorem dX5_anew_37 : decode cX5_anew 37 = .ok (.ireturn, 1) := by decide +kernel
set_option maxRecDepth 20000 in
theorem ggX5_record_X5_in : GoodIn wsX5_record wsX5_in := goodIn_r _ [6] (by decide +kernel) (by decide +kernel)
set_option maxRecDepth 20000 in
theorem gX5_record_X5_in : GoodIn wsX5_record (va_wsS RX5 82 yX5_in wsX5_in) := goodIn_app (goodIn_of _ (by decide +kernel)) ggX5_record_X5_in
theorem dX5_record_0 : decode cX5_record 0 = .ok (.iload_n 1, 1) := by decide +kernel
theorem dX5_record_1 : decode cX5_record 1 = .ok (.ifCond .lt 34, 3) := by decide +kernel
theorem dX5_record_4 : decode cX5_record 4 = .ok (.iload_n 1, 1) := by decide +kernel
theorem dX5_record_5 : decode cX5_record 5 = .ok (.aload_n 0, 1) := by decide +kernel
theorem dX5_record_6 : decode cX5_record 6 = .ok (.getfield 126, 3) := by decide +kernel
theorem dX5_record_9 : decode cX5_record 9 = .ok (.if_icmp .ge 26, 3) := by decide +kernel
theorem dX5_record_12 : decode cX5_record 12 = .ok (.iload_n 2, 1) := by decide +kernel
theorem dX5_record_13 : decode cX5_record 13 = .ok (.iconst 0, 1) := by decide +kernel
theorem dX5_record_14 : decode cX5_record 14 = .ok (.iconst 5, 1) := by decide +kernel
theorem dX5_record_15 : decode cX5_record 15 = .ok (.invokestatic 82, 3) := by decide +kernel
theorem dX5_record_18 : decode cX5_record 18 = .ok (.ifCond .eq 17, 3) := by decide +kernel
theorem dX5_record_21 : decode cX5_record 21 = .ok (.aload_n 0, 1) := by decide +kernel
theorem dX5_record_22 : decode cX5_record 22 = .ok (.getfield 68, 3) := by decide +kernel
theorem dX5_record_25 : decode cX5_record 25 = .ok (.bipush 6, 2) := by decide +kernel
theorem dX5_record_27 : decode cX5_record 27 = .ok (.iload_n 1, 1) := by decide +kernel
theorem dX5_record_28 : decode cX5_record 28 = .ok (.imul, 1) := by decide +kernel
theorem dX5_record_29 : decode cX5_record 29 = .ok (.iload_n 2, 1) := by decide +kernel
theorem dX5_record_30 : decode cX5_record 30 = .ok (.iadd, 1) := by decide +kernel
theorem dX5_record_31 : decode cX5_record 31 = .ok (.iaload, 1) := by decide +kernel
theorem dX5_record_32 : decode cX5_record 32 = .ok (.goto 4, 3) := by decide +kernel
theorem dX5_record_35 : decode cX5_record 35 = .ok (.iconst (-1), 1) := by decide +kernel
theorem dX5_record_36 : decode cX5_record 36 = .ok (.ireturn, 1) := by decide +kernel
set_option maxRecDepth 20000 in
theorem ggX5_knows_X5_head : GoodIn wsX5_knows wsX5_head := goodIn_r _ [9, 10, 11, 12, 13, 14, 15, 16, 17, 18, 19, 20, 21, 22, 23, 24, 25, 26, 27, 28, 29, 30, 31, 32, 33, 34, 35, 36] (by decide +kernel) (by decide +kernel)
set_option maxRecDepth 20000 in
theorem gX5_knows_X5_head : GoodIn wsX5_knows (wsV RX5 86 RX5 yX5_head wsX5_head) := goodIn_app (goodIn_of _ (by decide +kernel)) ggX5_knows_X5_head
theorem dX5_knows_0 : decode cX5_knows 0 = .ok (.aload_n 0, 1) := by decide +kernel
theorem dX5_knows_1 : decode cX5_knows 1 = .ok (.iload_n 2, 1) := by decide +kernel
theorem dX5_knows_2 : decode cX5_knows 2 = .ok (.invokevirtual 86, 3) := by decide +kernel
theorem dX5_knows_5 : decode cX5_knows 5 = .ok (.iload_n 2, 1) := by decide +kernel
theorem dX5_knows_6 : decode cX5_knows 6 = .ok (.if_icmp .ne 12, 3) := by decide +kernel
theorem dX5_knows_9 : decode cX5_knows 9 = .ok (.aload_n 0, 1) := by decide +kernel
theorem dX5_knows_10 : decode cX5_knows 10 = .ok (.getfield 16, 3) := by decide +kernel
theorem dX5_knows_13 : decode cX5_knows 13 = .ok (.iload_n 2, 1) := by decide +kernel
theorem dX5_knows_14 : decode cX5_knows 14 = .ok (.baload, 1) := by decide +kernel
theorem dX5_knows_15 : decode cX5_knows 15 = .ok (.ifCond .eq 5, 3) := by decide +kernel
theorem dX5_knows_18 : decode cX5_knows 18 = .ok (.iconst 0, 1) := by decide +kernel
theorem dX5_knows_19 : decode cX5_knows 19 = .ok (.ireturn, 1) := by decide +kernel
theorem dX5_knows_20 : decode cX5_knows 20 = .ok (.iconst 0, 1) := by decide +kernel
theorem dX5_knows_21 : decode cX5_knows 21 = .ok (.istore_n 3, 1) := by decide +kernel
theorem dX5_knows_22 : decode cX5_knows 22 = .ok (.iload_n 3, 1) := by decide +kernel
theorem dX5_knows_23 : decode cX5_knows 23 = .ok (.aload_n 0, 1) := by decide +kernel
theorem dX5_knows_24 : decode cX5_knows 24 = .ok (.getfield 100, 3) := by decide +kernel
theorem dX5_knows_27 : decode cX5_knows 27 = .ok (.if_icmp .ge 35, 3) := by decide +kernel
theorem dX5_knows_30 : decode cX5_knows 30 = .ok (.aload_n 0, 1) := by decide +kernel
theorem dX5_knows_31 : decode cX5_knows 31 = .ok (.getfield 41, 3) := by decide +kernel
theorem dX5_knows_34 : decode cX5_knows 34 = .ok (.iload_n 3, 1) := by decide +kernel
theorem dX5_knows_35 : decode cX5_knows 35 = .ok (.iaload, 1) := by decide +kernel
theorem dX5_knows_36 : decode cX5_knows 36 = .ok (.iload_n 1, 1) := by decide +kernel
theorem dX5_knows_37 : decode cX5_knows 37 = .ok (.if_icmp .ne 19, 3) := by decide +kernel
theorem dX5_knows_40 : decode cX5_knows 40 = .ok (.aload_n 0, 1) := by decide +kernel
theorem dX5_knows_41 : decode cX5_knows 41 = .ok (.aload_n 0, 1) := by decide +kernel
theorem dX5_knows_42 : decode cX5_knows 42 = .ok (.getfield 47, 3) := by decide +kernel
theorem dX5_knows_45 : decode cX5_knows 45 = .ok (.iload_n 3, 1) := by decide +kernel
theorem dX5_knows_46 : decode cX5_knows 46 = .ok (.iaload, 1) := by decide +kernel
theorem dX5_knows_47 : decode cX5_knows 47 = .ok (.invokevirtual 86, 3) := by decide +kernel
theorem dX5_knows_50 : decode cX5_knows 50 = .ok (.iload_n 2, 1) := by decide +kernel
theorem dX5_knows_51 : decode cX5_knows 51 = .ok (.if_icmp .ne 5, 3) := by decide +kernel
theorem dX5_knows_54 : decode cX5_knows 54 = .ok (.iconst 1, 1) := by decide +kernel
theorem dX5_knows_55 : decode cX5_knows 55 = .ok (.ireturn, 1) := by decide +kernel
theorem dX5_knows_56 : decode cX5_knows 56 = .ok (.iinc 3 1, 3) := by decide +kernel
theorem dX5_knows_59 : decode cX5_knows 59 = .ok (.goto (-37), 3) := by decide +kernel
theorem dX5_knows_62 : decode cX5_knows 62 = .ok (.iconst 0, 1) := by decide +kernel
theorem dX5_knows_63 : decode cX5_knows 63 = .ok (.ireturn, 1) := by decide +kernel
theorem dX5_areAlike_0 : decode cX5_areAlike 0 = .ok (.iconst 1, 1) := by decide +kernel
theorem dX5_areAlike_1 : decode cX5_areAlike 1 = .ok (.istore 4, 2) := by decide +kernel
theorem dX5_areAlike_3 : decode cX5_areAlike 3 = .ok (.iconst 0, 1) := by decide +kernel
theorem dX5_areAlike_4 : decode cX5_areAlike 4 = .ok (.istore 5, 2) := by decide +kernel
theorem dX5_areAlike_6 : decode cX5_areAlike 6 = .ok (.iload 5, 2) := by decide +kernel
theorem dX5_areAlike_8 : decode cX5_areAlike 8 = .ok (.iconst 4, 1) := by decide +kernel
theorem dX5_areAlike_9 : decode cX5_areAlike 9 = .ok (.if_icmp .ge 55, 3) := by decide +kernel
theorem dX5_areAlike_12 : decode cX5_areAlike 12 = .ok (.iload 4, 2) := by decide +kernel
theorem dX5_areAlike_14 : decode cX5_areAlike 14 = .ok (.ifCond .eq 41, 3) := by decide +kernel
theorem dX5_areAlike_17 : decode cX5_areAlike 17 = .ok (.iload_n 3, 1) := by decide +kernel
theorem dX5_areAlike_18 : decode cX5_areAlike 18 = .ok (.iload 5, 2) := by decide +kernel
theorem dX5_areAlike_20 : decode cX5_areAlike 20 = .ok (.ishr, 1) := by decide +kernel
theorem dX5_areAlike_21 : decode cX5_areAlike 21 = .ok (.iconst 1, 1) := by decide +kernel
theorem dX5_areAlike_22 : decode cX5_areAlike 22 = .ok (.iand, 1) := by decide +kernel
theorem dX5_areAlike_23 : decode cX5_areAlike 23 = .ok (.ifCond .eq 28, 3) := by decide +kernel
theorem dX5_areAlike_26 : decode cX5_areAlike 26 = .ok (.aload_n 0, 1) := by decide +kernel
theorem dX5_areAlike_27 : decode cX5_areAlike 27 = .ok (.getfield 7, 3) := by decide +kernel
theorem dX5_areAlike_30 : decode cX5_areAlike 30 = .ok (.iconst 4, 1) := by decide +kernel
theorem dX5_areAlike_31 : decode cX5_areAlike 31 = .ok (.iload_n 1, 1) := by decide +kernel
theorem dX5_areAlike_32 : decode cX5_areAlike 32 = .ok (.imul, 1) := by decide +kernel
theorem dX5_areAlike_33 : decode cX5_areAlike 33 = .ok (.iload 5, 2) := by decide +kernel
theorem dX5_areAlike_35 : decode cX5_areAlike 35 = .ok (.iadd, 1) := by decide +kernel
theorem dX5_areAlike_36 : decode cX5_areAlike 36 = .ok (.iaload, 1) := by decide +kernel
theorem dX5_areAlike_37 : decode cX5_areAlike 37 = .ok (.aload_n 0, 1) := by decide +kernel
theorem dX5_areAlike_38 : decode cX5_areAlike 38 = .ok (.getfield 7, 3) := by decide +kernel
theorem dX5_areAlike_41 : decode cX5_areAlike 41 = .ok (.iconst 4, 1) := by decide +kernel
theorem dX5_areAlike_42 : decode cX5_areAlike 42 = .ok (.iload_n 2, 1) := by decide +kernel
theorem dX5_areAlike_43 : decode cX5_areAlike 43 = .ok (.imul, 1) := by decide +kernel
theorem dX5_areAlike_44 : decode cX5_areAlike 44 = .ok (.iload 5, 2) := by decide +kernel
theorem dX5_areAlike_46 : decode cX5_areAlike 46 = .ok (.iadd, 1) := by decide +kernel
theorem dX5_areAlike_47 : decode cX5_areAlike 47 = .ok (.iaload, 1) := by decide +kernel
theorem dX5_areAlike_48 : decode cX5_areAlike 48 = .ok (.if_icmp .ne 7, 3) := by decide +kernel
theorem dX5_areAlike_51 : decode cX5_areAlike 51 = .ok (.iconst 1, 1) := by decide +kernel
theorem dX5_areAlike_52 : decode cX5_areAlike 52 = .ok (.goto 4, 3) := by decide +kernel
theorem dX5_areAlike_55 : decode cX5_areAlike 55 = .ok (.iconst 0, 1) := by decide +kernel
theorem dX5_areAlike_56 : decode cX5_areAlike 56 = .ok (.istore 4, 2) := by decide +kernel
theorem dX5_areAlike_58 : decode cX5_areAlike 58 = .ok (.iinc 5 1, 3) := by decide +kernel
theorem dX5_areAlike_61 : decode cX5_areAlike 61 = .ok (.goto (-55), 3) := by decide +kernel
theorem dX5_areAlike_64 : decode cX5_areAlike 64 = .ok (.iload 4, 2) := by decide +kernel
theorem dX5_areAlike_66 : decode cX5_areAlike 66 = .ok (.ireturn, 1) := by decide +kernel
set_option maxRecDepth 20000 in
theorem ggX5_group_X5_knows : GoodIn wsX5_group wsX5_knows := goodIn_r _ [6, 7, 8, 9, 10, 11, 12, 13, 5, 14, 15, 21, 22, 23, 24, 25, 26, 27, 28, 29, 30, 31, 32, 33, 34, 35, 36, 37, 38, 39, 40, 41, 42, 43, 44, 45, 46] (by decide +kernel) (by decide +kernel)
set_option maxRecDepth 20000 in
theorem gX5_group_X5_knows : GoodIn wsX5_group (wsV RX5 136 RX5 yX5_knows wsX5_knows) := goodIn_app (goodIn_of _ (by decide +kernel)) ggX5_group_X5_knows
set_option maxRecDepth 20000 in
theorem ggX5_group_X5_areAlike : GoodIn wsX5_group wsX5_areAlike := goodIn_r _ [19, 20, 21, 22, 23, 24, 25, 26, 27, 28, 29, 30, 31, 32, 33, 34, 35, 36, 37, 38, 39, 40, 41, 42, 43, 44, 45, 46] (by decide +kernel) (by decide +kernel)
set_option maxRecDepth 20000 in
theorem gX5_group_X5_areAlike : GoodIn wsX5_group (wsV RX5 140 RX5 yX5_areAlike wsX5_areAlike) := goodIn_app (goodIn_of _ (by decide +kernel)) ggX5_group_X5_areAlike
theorem dX5_group_0 : decode cX5_group 0 = .ok (.iconst 0, 1) := by decide +kernel
theorem dX5_group_1 : decode cX5_group 1 = .ok (.istore 4, 2) := by decide +kernel
theorem dX5_group_3 : decode cX5_group 3 = .ok (.iconst 0, 1) := by decide +kernel
theorem dX5_group_4 : decode cX5_group 4 = .ok (.istore 5, 2) := by decide +kernel
theorem dX5_group_6 : decode cX5_group 6 = .ok (.iload 5, 2) := by decide +kernel
theorem dX5_group_8 : decode cX5_group 8 = .ok (.aload_n 0, 1) := by decide +kernel
theorem dX5_group_9 : decode cX5_group 9 = .ok (.getfield 71, 3) := by decide +kernel
theorem dX5_group_12 : decode cX5_group 12 = .ok (.if_icmp .ge 40, 3) := by decide +kernel
theorem dX5_group_15 : decode cX5_group 15 = .ok (.iload 4, 2) := by decide +kernel
theorem dX5_group_17 : decode cX5_group 17 = .ok (.aload_n 0, 1) := by decide +kernel
theorem dX5_group_18 : decode cX5_group 18 = .ok (.iload_n 1, 1) := by decide +kernel
theorem dX5_group_19 : decode cX5_group 19 = .ok (.iload 5, 2) := by decide +kernel
theorem dX5_group_21 : decode cX5_group 21 = .ok (.invokevirtual 136, 3) := by decide +kernel
theorem dX5_group_24 : decode cX5_group 24 = .ok (.ifCond .eq 18, 3) := by decide +kernel
theorem dX5_group_27 : decode cX5_group 27 = .ok (.aload_n 0, 1) := by decide +kernel
theorem dX5_group_28 : decode cX5_group 28 = .ok (.iload_n 2, 1) := by decide +kernel
theorem dX5_group_29 : decode cX5_group 29 = .ok (.iload 5, 2) := by decide +kernel
theorem dX5_group_31 : decode cX5_group 31 = .ok (.iload_n 3, 1) := by decide +kernel
theorem dX5_group_32 : decode cX5_group 32 = .ok (.invokevirtual 140, 3) := by decide +kernel
theorem dX5_group_35 : decode cX5_group 35 = .ok (.ifCond .eq 7, 3) := by decide +kernel
theorem dX5_group_38 : decode cX5_group 38 = .ok (.iconst 1, 1) := by decide +kernel
theorem dX5_group_39 : decode cX5_group 39 = .ok (.goto 4, 3) := by decide +kernel
theorem dX5_group_42 : decode cX5_group 42 = .ok (.iconst 0, 1) := by decide +kernel
theorem dX5_group_43 : decode cX5_group 43 = .ok (.iadd, 1) := by decide +kernel
theorem dX5_group_44 : decode cX5_group 44 = .ok (.istore 4, 2) := by decide +kernel
theorem dX5_group_46 : decode cX5_group 46 = .ok (.iinc 5 1, 3) := by decide +kernel
theorem dX5_group_49 : decode cX5_group 49 = .ok (.goto (-43), 3) := by decide +kernel
theorem dX5_group_52 : decode cX5_group 52 = .ok (.iload 4, 2) := by decide +kernel
theorem dX5_group_54 : decode cX5_group 54 = .ok (.ireturn, 1) := by decide +kernel
set_option maxRecDepth 20000 in
theorem ggX5_joins_X5_isHouse : GoodIn wsX5_joins wsX5_isHouse := goodIn_r _ [6, 7, 33, 34, 35, 36, 37, 38, 39, 40, 41, 42, 43, 44, 45, 46, 47, 48, 49, 50, 51, 52, 53, 54, 55, 56, 57, 58] (by decide +kernel) (by decide +kernel)
set_option maxRecDepth 20000 in
theorem gX5_joins_X5_isHouse : GoodIn wsX5_joins (wsV RX5 110 RX5 yX5_isHouse wsX5_isHouse) := goodIn_app (goodIn_of _ (by decide +kernel)) ggX5_joins_X5_isHouse
set_option maxRecDepth 20000 in
theorem ggX5_joins_X5_in : GoodIn wsX5_joins wsX5_in := goodIn_r _ [10] (by decide +kernel) (by decide +kernel)
set_option maxRecDepth 20000 in
theorem gX5_joins_X5_in : GoodIn wsX5_joins (va_wsS RX5 82 yX5_in wsX5_in) := goodIn_app (goodIn_of _ (by decide +kernel)) ggX5_joins_X5_in
set_option maxRecDepth 20000 in
theorem ggX5_joins_X5_knows : GoodIn wsX5_joins wsX5_knows := goodIn_r _ [14, 15, 16, 17, 18, 19, 20, 21, 5, 22, 23, 33, 34, 35, 36, 37, 38, 39, 40, 41, 42, 43, 44, 45, 46, 47, 48, 49, 50, 51, 52, 53, 54, 55, 56, 57, 58] (by decide +kernel) (by decide +kernel)
set_option maxRecDepth 20000 in
theorem gX5_joins_X5_knows : GoodIn wsX5_joins (wsV RX5 136 RX5 yX5_knows wsX5_knows) := goodIn_app (goodIn_of _ (by decide +kernel)) ggX5_joins_X5_knows
set_option maxRecDepth 20000 in
theorem ggX5_joins_X5_group : GoodIn wsX5_joins wsX5_group := goodIn_r _ [27, 1, 11, 12, 13, 5, 14, 15, 16, 17, 18, 19, 20, 21, 22, 23, 28, 29, 30, 31, 32, 33, 34, 35, 36, 37, 38, 39, 40, 41, 42, 43, 44, 45, 46, 47, 48, 49, 50, 51, 52, 53, 54, 55, 56, 57, 58] (by decide +kernel) (by decide +kernel)
set_option maxRecDepth 20000 in
theorem gX5_joins_X5_group : GoodIn wsX5_joins (wsV RX5 143 RX5 yX5_group wsX5_group) := goodIn_app (goodIn_of _ (by decide +kernel)) ggX5_joins_X5_group
theorem dX5_joins_0 : decode cX5_joins 0 = .ok (.aload_n 0, 1) := by decide +kernel
theorem dX5_joins_1 : decode cX5_joins 1 = .ok (.iload_n 1, 1) := by decide +kernel
theorem dX5_joins_2 : decode cX5_joins 2 = .ok (.invokevirtual 110, 3) := by decide +kernel
theorem dX5_joins_5 : decode cX5_joins 5 = .ok (.ifCond .eq 26, 3) := by decide +kernel
theorem dX5_joins_8 : decode cX5_joins 8 = .ok (.aload_n 0, 1) := by decide +kernel
theorem dX5_joins_9 : decode cX5_joins 9 = .ok (.iload_n 2, 1) := by decide +kernel
theorem dX5_joins_10 : decode cX5_joins 10 = .ok (.invokevirtual 110, 3) := by decide +kernel
theorem dX5_joins_13 : decode cX5_joins 13 = .ok (.ifCond .eq 18, 3) := by decide +kernel
theorem dX5_joins_16 : decode cX5_joins 16 = .ok (.iload_n 1, 1) := by decide +kernel
theorem dX5_joins_17 : decode cX5_joins 17 = .ok (.iload_n 2, 1) := by decide +kernel
theorem dX5_joins_18 : decode cX5_joins 18 = .ok (.if_icmp .eq 13, 3) := by decide +kernel
theorem dX5_joins_21 : decode cX5_joins 21 = .ok (.iload_n 3, 1) := by decide +kernel
theorem dX5_joins_22 : decode cX5_joins 22 = .ok (.iconst 0, 1) := by decide +kernel
theorem dX5_joins_23 : decode cX5_joins 23 = .ok (.bipush 15, 2) := by decide +kernel
theorem dX5_joins_25 : decode cX5_joins 25 = .ok (.invokestatic 82, 3) := by decide +kernel
theorem dX5_joins_28 : decode cX5_joins 28 = .ok (.ifCond .ne 5, 3) := by decide +kernel
theorem dX5_joins_31 : decode cX5_joins 31 = .ok (.iconst (-1), 1) := by decide +kernel
theorem dX5_joins_32 : decode cX5_joins 32 = .ok (.ireturn, 1) := by decide +kernel
theorem dX5_joins_33 : decode cX5_joins 33 = .ok (.iconst 0, 1) := by decide +kernel
theorem dX5_joins_34 : decode cX5_joins 34 = .ok (.istore 4, 2) := by decide +kernel
theorem dX5_joins_36 : decode cX5_joins 36 = .ok (.iconst 0, 1) := by decide +kernel
theorem dX5_joins_37 : decode cX5_joins 37 = .ok (.istore 5, 2) := by decide +kernel
theorem dX5_joins_39 : decode cX5_joins 39 = .ok (.iload 5, 2) := by decide +kernel
theorem dX5_joins_41 : decode cX5_joins 41 = .ok (.aload_n 0, 1) := by decide +kernel
theorem dX5_joins_42 : decode cX5_joins 42 = .ok (.getfield 71, 3) := by decide +kernel
theorem dX5_joins_45 : decode cX5_joins 45 = .ok (.if_icmp .ge 63, 3) := by decide +kernel
theorem dX5_joins_48 : decode cX5_joins 48 = .ok (.iload 4, 2) := by decide +kernel
theorem dX5_joins_50 : decode cX5_joins 50 = .ok (.aload_n 0, 1) := by decide +kernel
theorem dX5_joins_51 : decode cX5_joins 51 = .ok (.iload_n 1, 1) := by decide +kernel
theorem dX5_joins_52 : decode cX5_joins 52 = .ok (.iload 5, 2) := by decide +kernel
theorem dX5_joins_54 : decode cX5_joins 54 = .ok (.invokevirtual 136, 3) := by decide +kernel
theorem dX5_joins_57 : decode cX5_joins 57 = .ok (.ifCond .eq 41, 3) := by decide +kernel
theorem dX5_joins_60 : decode cX5_joins 60 = .ok (.aload_n 0, 1) := by decide +kernel
theorem dX5_joins_61 : decode cX5_joins 61 = .ok (.iload_n 2, 1) := by decide +kernel
theorem dX5_joins_62 : decode cX5_joins 62 = .ok (.iload 5, 2) := by decide +kernel
theorem dX5_joins_64 : decode cX5_joins 64 = .ok (.invokevirtual 136, 3) := by decide +kernel
theorem dX5_joins_67 : decode cX5_joins 67 = .ok (.ifCond .eq 31, 3) := by decide +kernel
theorem dX5_joins_70 : decode cX5_joins 70 = .ok (.aload_n 0, 1) := by decide +kernel
theorem dX5_joins_71 : decode cX5_joins 71 = .ok (.iload_n 1, 1) := by decide +kernel
theorem dX5_joins_72 : decode cX5_joins 72 = .ok (.iload 5, 2) := by decide +kernel
theorem dX5_joins_74 : decode cX5_joins 74 = .ok (.iload_n 3, 1) := by decide +kernel
theorem dX5_joins_75 : decode cX5_joins 75 = .ok (.invokevirtual 143, 3) := by decide +kernel
theorem dX5_joins_78 : decode cX5_joins 78 = .ok (.iconst 1, 1) := by decide +kernel
theorem dX5_joins_79 : decode cX5_joins 79 = .ok (.if_icmp .ne 19, 3) := by decide +kernel
theorem dX5_joins_82 : decode cX5_joins 82 = .ok (.aload_n 0, 1) := by decide +kernel
theorem dX5_joins_83 : decode cX5_joins 83 = .ok (.iload_n 2, 1) := by decide +kernel
theorem dX5_joins_84 : decode cX5_joins 84 = .ok (.iload 5, 2) := by decide +kernel
theorem dX5_joins_86 : decode cX5_joins 86 = .ok (.iload_n 3, 1) := by decide +kernel
theorem dX5_joins_87 : decode cX5_joins 87 = .ok (.invokevirtual 143, 3) := by decide +kernel
theorem dX5_joins_90 : decode cX5_joins 90 = .ok (.iconst 1, 1) := by decide +kernel
theorem dX5_joins_91 : decode cX5_joins 91 = .ok (.if_icmp .ne 7, 3) := by decide +kernel
theorem dX5_joins_94 : decode cX5_joins 94 = .ok (.iconst 1, 1) := by decide +kernel
theorem dX5_joins_95 : decode cX5_joins 95 = .ok (.goto 4, 3) := by decide +kernel
theorem dX5_joins_98 : decode cX5_joins 98 = .ok (.iconst 0, 1) := by decide +kernel
theorem dX5_joins_99 : decode cX5_joins 99 = .ok (.iadd, 1) := by decide +kernel
theorem dX5_joins_100 : decode cX5_joins 100 = .ok (.istore 4, 2) := by decide +kernel
theorem dX5_joins_102 : decode cX5_joins 102 = .ok (.iinc 5 1, 3) := by decide +kernel
theorem dX5_joins_105 : decode cX5_joins 105 = .ok (.goto (-66), 3) := by decide +kernel
theorem dX5_joins_108 : decode cX5_joins 108 = .ok (.iload 4, 2) := by decide +kernel
theorem dX5_joins_110 : decode cX5_joins 110 = .ok (.ireturn, 1) := by decide +kernel
set_option maxRecDepth 20000 in
theorem ggX5_least_X5_isHouse : GoodIn wsX5_least wsX5_isHouse := goodIn_r _ [6, 7, 33, 34, 35, 36, 37, 38, 39, 40, 41, 42, 43, 44, 45, 46, 47, 48, 49, 50, 51, 52, 53, 54, 55, 56, 57, 58] (by decide +kernel) (by decide +kernel)
set_option maxRecDepth 20000 in
theorem gX5_least_X5_isHouse : GoodIn wsX5_least (wsV RX5 110 RX5 yX5_isHouse wsX5_isHouse) := goodIn_app (goodIn_of _ (by decide +kernel)) ggX5_least_X5_isHouse
set_option maxRecDepth 20000 in
theorem ggX5_least_X5_in : GoodIn wsX5_least wsX5_in := goodIn_r _ [10] (by decide +kernel) (by decide +kernel)
set_option maxRecDepth 20000 in
theorem gX5_least_X5_in : GoodIn wsX5_least (va_wsS RX5 82 yX5_in wsX5_in) := goodIn_app (goodIn_of _ (by decide +kernel)) ggX5_least_X5_in
set_option maxRecDepth 20000 in
theorem ggX5_least_X5_knows : GoodIn wsX5_least wsX5_knows := goodIn_r _ [14, 15, 16, 17, 18, 19, 20, 21, 5, 22, 23, 33, 34, 35, 36, 37, 38, 39, 40, 41, 42, 43, 44, 45, 46, 47, 48, 49, 50, 51, 52, 53, 54, 55, 56, 57, 58] (by decide +kernel) (by decide +kernel)
set_option maxRecDepth 20000 in
theorem gX5_least_X5_knows : GoodIn wsX5_least (wsV RX5 136 RX5 yX5_knows wsX5_knows) := goodIn_app (goodIn_of _ (by decide +kernel)) ggX5_least_X5_knows
set_option maxRecDepth 20000 in
theorem ggX5_least_X5_group : GoodIn wsX5_least wsX5_group := goodIn_r _ [27, 1, 11, 12, 13, 5, 14, 15, 16, 17, 18, 19, 20, 21, 22, 23, 28, 29, 30, 31, 32, 33, 34, 35, 36, 37, 38, 39, 40, 41, 42, 43, 44, 45, 46, 47, 48, 49, 50, 51, 52, 53, 54, 55, 56, 57, 58] (by decide +kernel) (by decide +kernel)
set_option maxRecDepth 20000 in
theorem gX5_least_X5_group : GoodIn wsX5_least (wsV RX5 143 RX5 yX5_group wsX5_group) := goodIn_app (goodIn_of _ (by decide +kernel)) ggX5_least_X5_group
theorem dX5_least_0 : decode cX5_least 0 = .ok (.aload_n 0, 1) := by decide +kernel
theorem dX5_least_1 : decode cX5_least 1 = .ok (.iload_n 1, 1) := by decide +kernel
theorem dX5_least_2 : decode cX5_least 2 = .ok (.invokevirtual 110, 3) := by decide +kernel
theorem dX5_least_5 : decode cX5_least 5 = .ok (.ifCond .eq 13, 3) := by decide +kernel
theorem dX5_least_8 : decode cX5_least 8 = .ok (.iload_n 2, 1) := by decide +kernel
theorem dX5_least_9 : decode cX5_least 9 = .ok (.iconst 0, 1) := by decide +kernel
theorem dX5_least_10 : decode cX5_least 10 = .ok (.bipush 15, 2) := by decide +kernel
theorem dX5_least_12 : decode cX5_least 12 = .ok (.invokestatic 82, 3) := by decide +kernel
theorem dX5_least_15 : decode cX5_least 15 = .ok (.ifCond .ne 5, 3) := by decide +kernel
theorem dX5_least_18 : decode cX5_least 18 = .ok (.iconst (-1), 1) := by decide +kernel
theorem dX5_least_19 : decode cX5_least 19 = .ok (.ireturn, 1) := by decide +kernel
theorem dX5_least_20 : decode cX5_least 20 = .ok (.iconst 0, 1) := by decide +kernel
theorem dX5_least_21 : decode cX5_least 21 = .ok (.istore_n 3, 1) := by decide +kernel
theorem dX5_least_22 : decode cX5_least 22 = .ok (.iconst 0, 1) := by decide +kernel
theorem dX5_least_23 : decode cX5_least 23 = .ok (.istore 4, 2) := by decide +kernel
theorem dX5_least_25 : decode cX5_least 25 = .ok (.iload 4, 2) := by decide +kernel
theorem dX5_least_27 : decode cX5_least 27 = .ok (.aload_n 0, 1) := by decide +kernel
theorem dX5_least_28 : decode cX5_least 28 = .ok (.getfield 71, 3) := by decide +kernel
theorem dX5_least_31 : decode cX5_least 31 = .ok (.if_icmp .ge 49, 3) := by decide +kernel
theorem dX5_least_34 : decode cX5_least 34 = .ok (.aload_n 0, 1) := by decide +kernel
theorem dX5_least_35 : decode cX5_least 35 = .ok (.iload_n 1, 1) := by decide +kernel
theorem dX5_least_36 : decode cX5_least 36 = .ok (.iload 4, 2) := by decide +kernel
theorem dX5_least_38 : decode cX5_least 38 = .ok (.invokevirtual 136, 3) := by decide +kernel
theorem dX5_least_41 : decode cX5_least 41 = .ok (.ifCond .ne 6, 3) := by decide +kernel
theorem dX5_least_44 : decode cX5_least 44 = .ok (.goto 30, 3) := by decide +kernel
theorem dX5_least_47 : decode cX5_least 47 = .ok (.aload_n 0, 1) := by decide +kernel
theorem dX5_least_48 : decode cX5_least 48 = .ok (.iload_n 1, 1) := by decide +kernel
theorem dX5_least_49 : decode cX5_least 49 = .ok (.iload 4, 2) := by decide +kernel
theorem dX5_least_51 : decode cX5_least 51 = .ok (.iload_n 2, 1) := by decide +kernel
theorem dX5_least_52 : decode cX5_least 52 = .ok (.invokevirtual 143, 3) := by decide +kernel
theorem dX5_least_55 : decode cX5_least 55 = .ok (.istore 5, 2) := by decide +kernel
theorem dX5_least_57 : decode cX5_least 57 = .ok (.iload_n 3, 1) := by decide +kernel
theorem dX5_least_58 : decode cX5_least 58 = .ok (.ifCond .eq 9, 3) := by decide +kernel
theorem dX5_least_61 : decode cX5_least 61 = .ok (.iload 5, 2) := by decide +kernel
theorem dX5_least_63 : decode cX5_least 63 = .ok (.iload_n 3, 1) := by decide +kernel
theorem dX5_least_64 : decode cX5_least 64 = .ok (.if_icmp .ge 8, 3) := by decide +kernel
theorem dX5_least_67 : decode cX5_least 67 = .ok (.iload 5, 2) := by decide +kernel
theorem dX5_least_69 : decode cX5_least 69 = .ok (.goto 4, 3) := by decide +kernel
theorem dX5_least_72 : decode cX5_least 72 = .ok (.iload_n 3, 1) := by decide +kernel
theorem dX5_least_73 : decode cX5_least 73 = .ok (.istore_n 3, 1) := by decide +kernel
theorem dX5_least_74 : decode cX5_least 74 = .ok (.iinc 4 1, 3) := by decide +kernel
theorem dX5_least_77 : decode cX5_least 77 = .ok (.goto (-52), 3) := by decide +kernel
theorem dX5_least_80 : decode cX5_least 80 = .ok (.iload_n 3, 1) := by decide +kernel
theorem dX5_least_81 : decode cX5_least 81 = .ok (.ireturn, 1) := by decide +kernel
set_option maxRecDepth 20000 in
theorem ggX5_count_X5_isHouse : GoodIn wsX5_count wsX5_isHouse := goodIn_r _ [8, 9, 29, 30, 31, 32, 33, 34, 35, 36, 37, 38, 39, 40, 41, 42, 43, 44, 45, 46, 47, 48, 49, 50, 51, 52, 53, 54] (by decide +kernel) (by decide +kernel)
set_option maxRecDepth 20000 in
theorem gX5_count_X5_isHouse : GoodIn wsX5_count (wsV RX5 110 RX5 yX5_isHouse wsX5_isHouse) := goodIn_app (goodIn_of _ (by decide +kernel)) ggX5_count_X5_isHouse
set_option maxRecDepth 20000 in
theorem ggX5_count_X5_in : GoodIn wsX5_count wsX5_in := goodIn_r _ [12] (by decide +kernel) (by decide +kernel)
set_option maxRecDepth 20000 in
theorem gX5_count_X5_in : GoodIn wsX5_count (va_wsS RX5 82 yX5_in wsX5_in) := goodIn_app (goodIn_of _ (by decide +kernel)) ggX5_count_X5_in
set_option maxRecDepth 20000 in
theorem ggX5_count_X5_isMark : GoodIn wsX5_count wsX5_isMark := goodIn_r _ [15] (by decide +kernel) (by decide +kernel)
set_option maxRecDepth 20000 in
theorem gX5_count_X5_isMark : GoodIn wsX5_count (va_wsS RX5 75 yX5_isMark wsX5_isMark) := goodIn_app (goodIn_of _ (by decide +kernel)) ggX5_count_X5_isMark
set_option maxRecDepth 20000 in
theorem ggX5_count_X5_knows : GoodIn wsX5_count wsX5_knows := goodIn_r _ [19, 20, 21, 22, 23, 24, 25, 26, 7, 27, 28, 29, 30, 31, 32, 33, 34, 35, 36, 37, 38, 39, 40, 41, 42, 43, 44, 45, 46, 47, 48, 49, 50, 51, 52, 53, 54] (by decide +kernel) (by decide +kernel)
set_option maxRecDepth 20000 in
theorem gX5_count_X5_knows : GoodIn wsX5_count (wsV RX5 136 RX5 yX5_knows wsX5_knows) := goodIn_app (goodIn_of _ (by decide +kernel)) ggX5_count_X5_knows
theorem dX5_count_0 : decode cX5_count 0 = .ok (.aload_n 0, 1) := by decide +kernel
theorem dX5_count_1 : decode cX5_count 1 = .ok (.iload_n 1, 1) := by decide +kernel
theorem dX5_count_2 : decode cX5_count 2 = .ok (.invokevirtual 110, 3) := by decide +kernel
theorem dX5_count_5 : decode cX5_count 5 = .ok (.ifCond .eq 19, 3) := by decide +kernel
theorem dX5_count_8 : decode cX5_count 8 = .ok (.iload_n 2, 1) := by decide +kernel
theorem dX5_count_9 : decode cX5_count 9 = .ok (.iconst 0, 1) := by decide +kernel
theorem dX5_count_10 : decode cX5_count 10 = .ok (.iconst 3, 1) := by decide +kernel
theorem dX5_count_11 : decode cX5_count 11 = .ok (.invokestatic 82, 3) := by decide +kernel
theorem dX5_count_14 : decode cX5_count 14 = .ok (.ifCond .eq 10, 3) := by decide +kernel
theorem dX5_count_17 : decode cX5_count 17 = .ok (.iload_n 3, 1) := by decide +kernel
theorem dX5_count_18 : decode cX5_count 18 = .ok (.invokestatic 75, 3) := by decide +kernel
theorem dX5_count_21 : decode cX5_count 21 = .ok (.ifCond .ne 5, 3) := by decide +kernel
theorem dX5_count_24 : decode cX5_count 24 = .ok (.iconst (-1), 1) := by decide +kernel
theorem dX5_count_25 : decode cX5_count 25 = .ok (.ireturn, 1) := by decide +kernel
theorem dX5_count_26 : decode cX5_count 26 = .ok (.iconst 0, 1) := by decide +kernel
theorem dX5_count_27 : decode cX5_count 27 = .ok (.istore 4, 2) := by decide +kernel
theorem dX5_count_29 : decode cX5_count 29 = .ok (.iconst 0, 1) := by decide +kernel
theorem dX5_count_30 : decode cX5_count 30 = .ok (.istore 5, 2) := by decide +kernel
theorem dX5_count_32 : decode cX5_count 32 = .ok (.iconst 0, 1) := by decide +kernel
theorem dX5_count_33 : decode cX5_count 33 = .ok (.istore 6, 2) := by decide +kernel
theorem dX5_count_35 : decode cX5_count 35 = .ok (.iload 6, 2) := by decide +kernel
theorem dX5_count_37 : decode cX5_count 37 = .ok (.aload_n 0, 1) := by decide +kernel
theorem dX5_count_38 : decode cX5_count 38 = .ok (.getfield 71, 3) := by decide +kernel
theorem dX5_count_41 : decode cX5_count 41 = .ok (.if_icmp .ge 52, 3) := by decide +kernel
theorem dX5_count_44 : decode cX5_count 44 = .ok (.aload_n 0, 1) := by decide +kernel
theorem dX5_count_45 : decode cX5_count 45 = .ok (.iload_n 1, 1) := by decide +kernel
theorem dX5_count_46 : decode cX5_count 46 = .ok (.iload 6, 2) := by decide +kernel
theorem dX5_count_48 : decode cX5_count 48 = .ok (.invokevirtual 136, 3) := by decide +kernel
theorem dX5_count_51 : decode cX5_count 51 = .ok (.ifCond .ne 6, 3) := by decide +kernel
theorem dX5_count_54 : decode cX5_count 54 = .ok (.goto 33, 3) := by decide +kernel
theorem dX5_count_57 : decode cX5_count 57 = .ok (.aload_n 0, 1) := by decide +kernel
theorem dX5_count_58 : decode cX5_count 58 = .ok (.getfield 7, 3) := by decide +kernel
theorem dX5_count_61 : decode cX5_count 61 = .ok (.iconst 4, 1) := by decide +kernel
theorem dX5_count_62 : decode cX5_count 62 = .ok (.iload 6, 2) := by decide +kernel
theorem dX5_count_64 : decode cX5_count 64 = .ok (.imul, 1) := by decide +kernel
theorem dX5_count_65 : decode cX5_count 65 = .ok (.iload_n 2, 1) := by decide +kernel
theorem dX5_count_66 : decode cX5_count 66 = .ok (.iadd, 1) := by decide +kernel
theorem dX5_count_67 : decode cX5_count 67 = .ok (.iaload, 1) := by decide +kernel
theorem dX5_count_68 : decode cX5_count 68 = .ok (.iload_n 3, 1) := by decide +kernel
theorem dX5_count_69 : decode cX5_count 69 = .ok (.if_icmp .ne 12, 3) := by decide +kernel
theorem dX5_count_72 : decode cX5_count 72 = .ok (.iload 4, 2) := by decide +kernel
theorem dX5_count_74 : decode cX5_count 74 = .ok (.iconst 1, 1) := by decide +kernel
theorem dX5_count_75 : decode cX5_count 75 = .ok (.iadd, 1) := by decide +kernel
theorem dX5_count_76 : decode cX5_count 76 = .ok (.istore 4, 2) := by decide +kernel
theorem dX5_count_78 : decode cX5_count 78 = .ok (.goto 9, 3) := by decide +kernel
theorem dX5_count_81 : decode cX5_count 81 = .ok (.iload 5, 2) := by decide +kernel
theorem dX5_count_83 : decode cX5_count 83 = .ok (.iconst 1, 1) := by decide +kernel
theorem dX5_count_84 : decode cX5_count 84 = .ok (.iadd, 1) := by decide +kernel
theorem dX5_count_85 : decode cX5_count 85 = .ok (.istore 5, 2) := by decide +kernel
theorem dX5_count_87 : decode cX5_count 87 = .ok (.iinc 6 1, 3) := by decide +kernel
theorem dX5_count_90 : decode cX5_count 90 = .ok (.goto (-55), 3) := by decide +kernel
theorem dX5_count_93 : decode cX5_count 93 = .ok (.iload 4, 2) := by decide +kernel
theorem dX5_count_95 : decode cX5_count 95 = .ok (.ifCond .eq 14, 3) := by decide +kernel
theorem dX5_count_98 : decode cX5_count 98 = .ok (.iload 4, 2) := by decide +kernel
theorem dX5_count_100 : decode cX5_count 100 = .ok (.aload_n 0, 1) := by decide +kernel
theorem dX5_count_101 : decode cX5_count 101 = .ok (.getfield 32, 3) := by decide +kernel
theorem dX5_count_104 : decode cX5_count 104 = .ok (.iload_n 1, 1) := by decide +kernel
theorem dX5_count_105 : decode cX5_count 105 = .ok (.iaload, 1) := by decide +kernel
theorem dX5_count_106 : decode cX5_count 106 = .ok (.if_icmp .lt 19, 3) := by decide +kernel
theorem dX5_count_109 : decode cX5_count 109 = .ok (.iload 5, 2) := by decide +kernel
theorem dX5_count_111 : decode cX5_count 111 = .ok (.ifCond .eq 18, 3) := by decide +kernel
theorem dX5_count_114 : decode cX5_count 114 = .ok (.iload 5, 2) := by decide +kernel
theorem dX5_count_116 : decode cX5_count 116 = .ok (.aload_n 0, 1) := by decide +kernel
theorem dX5_count_117 : decode cX5_count 117 = .ok (.getfield 32, 3) := by decide +kernel
theorem dX5_count_120 : decode cX5_count 120 = .ok (.iload_n 1, 1) := by decide +kernel
theorem dX5_count_121 : decode cX5_count 121 = .ok (.iaload, 1) := by decide +kernel
theorem dX5_count_122 : decode cX5_count 122 = .ok (.if_icmp .ge 7, 3) := by decide +kernel
theorem dX5_count_125 : decode cX5_count 125 = .ok (.iconst 1, 1) := by decide +kernel
theorem dX5_count_126 : decode cX5_count 126 = .ok (.goto 4, 3) := by decide +kernel
theorem dX5_count_129 : decode cX5_count 129 = .ok (.iconst 0, 1) := by decide +kernel
theorem dX5_count_130 : decode cX5_count 130 = .ok (.istore 6, 2) := by decide +kernel
theorem dX5_count_132 : decode cX5_count 132 = .ok (.iload 6, 2) := by decide +kernel
theorem dX5_count_134 : decode cX5_count 134 = .ok (.ifCond .eq 8, 3) := by decide +kernel
theorem dX5_count_137 : decode cX5_count 137 = .ok (.bipush (-2), 2) := by decide +kernel
theorem dX5_count_139 : decode cX5_count 139 = .ok (.goto 5, 3) := by decide +kernel
theorem dX5_count_142 : decode cX5_count 142 = .ok (.iload 4, 2) := by decide +kernel
theorem dX5_count_144 : decode cX5_count 144 = .ok (.ireturn, 1) := by decide +kernel
theorem dX5_given_0 : decode cX5_given 0 = .ok (.iload_n 1, 1) := by decide +kernel
theorem dX5_given_1 : decode cX5_given 1 = .ok (.ifCond .lt 11, 3) := by decide +kernel
theorem dX5_given_4 : decode cX5_given 4 = .ok (.iload_n 1, 1) := by decide +kernel
theorem dX5_given_5 : decode cX5_given 5 = .ok (.aload_n 0, 1) := by decide +kernel
theorem dX5_given_6 : decode cX5_given 6 = .ok (.getfield 100, 3) := by decide +kernel
theorem dX5_given_9 : decode cX5_given 9 = .ok (.if_icmp .lt 5, 3) := by decide +kernel
theorem dX5_given_12 : decode cX5_given 12 = .ok (.iconst (-1), 1) := by decide +kernel
theorem dX5_given_13 : decode cX5_given 13 = .ok (.ireturn, 1) := by decide +kernel
theorem dX5_given_14 : decode cX5_given 14 = .ok (.iload_n 2, 1) := by decide +kernel
theorem dX5_given_15 : decode cX5_given 15 = .ok (.tableswitch 68 0 4 #[33, 40, 47, 54, 61], 33) := by decide +kernel
theorem dX5_given_48 : decode cX5_given 48 = .ok (.aload_n 0, 1) := by decide +kernel
theorem dX5_given_49 : decode cX5_given 49 = .ok (.getfield 41, 3) := by decide +kernel
theorem dX5_given_52 : decode cX5_given 52 = .ok (.iload_n 1, 1) := by decide +kernel
theorem dX5_given_53 : decode cX5_given 53 = .ok (.iaload, 1) := by decide +kernel
theorem dX5_given_54 : decode cX5_given 54 = .ok (.ireturn, 1) := by decide +kernel
theorem dX5_given_55 : decode cX5_given 55 = .ok (.aload_n 0, 1) := by decide +kernel
theorem dX5_given_56 : decode cX5_given 56 = .ok (.getfield 44, 3) := by decide +kernel
theorem dX5_given_59 : decode cX5_given 59 = .ok (.iload_n 1, 1) := by decide +kernel
theorem dX5_given_60 : decode cX5_given 60 = .ok (.iaload, 1) := by decide +kernel
theorem dX5_given_61 : decode cX5_given 61 = .ok (.ireturn, 1) := by decide +kernel
theorem dX5_given_62 : decode cX5_given 62 = .ok (.aload_n 0, 1) := by decide +kernel
theorem dX5_given_63 : decode cX5_given 63 = .ok (.getfield 47, 3) := by decide +kernel
theorem dX5_given_66 : decode cX5_given 66 = .ok (.iload_n 1, 1) := by decide +kernel
theorem dX5_given_67 : decode cX5_given 67 = .ok (.iaload, 1) := by decide +kernel
theorem dX5_given_68 : decode cX5_given 68 = .ok (.ireturn, 1) := by decide +kernel
theorem dX5_given_69 : decode cX5_given 69 = .ok (.aload_n 0, 1) := by decide +kernel
theorem dX5_given_70 : decode cX5_given 70 = .ok (.getfield 50, 3) := by decide +kernel
theorem dX5_given_73 : decode cX5_given 73 = .ok (.iload_n 1, 1) := by decide +kernel
theorem dX5_given_74 : decode cX5_given 74 = .ok (.iaload, 1) := by decide +kernel
theorem dX5_given_75 : decode cX5_given 75 = .ok (.ireturn, 1) := by decide +kernel
theorem dX5_given_76 : decode cX5_given 76 = .ok (.aload_n 0, 1) := by decide +kernel
theorem dX5_given_77 : decode cX5_given 77 = .ok (.getfield 53, 3) := by decide +kernel
theorem dX5_given_80 : decode cX5_given 80 = .ok (.iload_n 1, 1) := by decide +kernel
theorem dX5_given_81 : decode cX5_given 81 = .ok (.iaload, 1) := by decide +kernel
theorem dX5_given_82 : decode cX5_given 82 = .ok (.ireturn, 1) := by decide +kernel
theorem dX5_given_83 : decode cX5_given 83 = .ok (.iconst (-1), 1) := by decide +kernel
theorem dX5_given_84 : decode cX5_given 84 = .ok (.ireturn, 1) := by decide +kernel
set_option maxRecDepth 20000 in
theorem ggX5_look_X5_isPerson : GoodIn wsX5_look wsX5_isPerson := goodIn_r _ [10, 11, 16, 17, 18, 19, 20, 21, 22, 23, 24, 25, 26, 27, 28, 29, 30, 31, 32, 33, 34, 35, 36, 37, 38, 39, 40, 41] (by decide +kernel) (by decide +kernel)
set_option maxRecDepth 20000 in
theorem gX5_look_X5_isPerson : GoodIn wsX5_look (wsV RX5 79 RX5 yX5_isPerson wsX5_isPerson) := goodIn_app (goodIn_of _ (by decide +kernel)) ggX5_look_X5_isPerson
set_option maxRecDepth 20000 in
theorem ggX5_look_X5_head : GoodIn wsX5_look wsX5_head := goodIn_r _ [15, 1, 16, 17, 18, 19, 20, 21, 22, 23, 24, 25, 26, 27, 28, 29, 30, 31, 32, 33, 34, 35, 36, 37, 38, 39, 40, 41] (by decide +kernel) (by decide +kernel)
set_option maxRecDepth 20000 in
theorem gX5_look_X5_head : GoodIn wsX5_look (wsV RX5 86 RX5 yX5_head wsX5_head) := goodIn_app (goodIn_of _ (by decide +kernel)) ggX5_look_X5_head
theorem dX5_look_0 : decode cX5_look 0 = .ok (.aload_n 0, 1) := by decide +kernel
theorem dX5_look_1 : decode cX5_look 1 = .ok (.iload_n 1, 1) := by decide +kernel
theorem dX5_look_2 : decode cX5_look 2 = .ok (.invokevirtual 79, 3) := by decide +kernel
theorem dX5_look_5 : decode cX5_look 5 = .ok (.ifCond .ne 5, 3) := by decide +kernel
theorem dX5_look_8 : decode cX5_look 8 = .ok (.iconst (-1), 1) := by decide +kernel
theorem dX5_look_9 : decode cX5_look 9 = .ok (.ireturn, 1) := by decide +kernel
theorem dX5_look_10 : decode cX5_look 10 = .ok (.iconst 0, 1) := by decide +kernel
theorem dX5_look_11 : decode cX5_look 11 = .ok (.istore_n 3, 1) := by decide +kernel
theorem dX5_look_12 : decode cX5_look 12 = .ok (.iload_n 2, 1) := by decide +kernel
theorem dX5_look_13 : decode cX5_look 13 = .ok (.tableswitch 127 0 7 #[47, 53, 60, 75, 114, 114, 114, 114], 47) := by decide +kernel
theorem dX5_look_60 : decode cX5_look 60 = .ok (.aload_n 0, 1) := by decide +kernel
theorem dX5_look_61 : decode cX5_look 61 = .ok (.iload_n 1, 1) := by decide +kernel
theorem dX5_look_62 : decode cX5_look 62 = .ok (.invokevirtual 86, 3) := by decide +kernel
theorem dX5_look_65 : decode cX5_look 65 = .ok (.ireturn, 1) := by decide +kernel
theorem dX5_look_66 : decode cX5_look 66 = .ok (.aload_n 0, 1) := by decide +kernel
theorem dX5_look_67 : decode cX5_look 67 = .ok (.getfield 13, 3) := by decide +kernel
theorem dX5_look_70 : decode cX5_look 70 = .ok (.iload_n 1, 1) := by decide +kernel
theorem dX5_look_71 : decode cX5_look 71 = .ok (.iaload, 1) := by decide +kernel
theorem dX5_look_72 : decode cX5_look 72 = .ok (.ireturn, 1) := by decide +kernel
theorem dX5_look_73 : decode cX5_look 73 = .ok (.aload_n 0, 1) := by decide +kernel
theorem dX5_look_74 : decode cX5_look 74 = .ok (.getfield 16, 3) := by decide +kernel
theorem dX5_look_77 : decode cX5_look 77 = .ok (.iload_n 1, 1) := by decide +kernel
theorem dX5_look_78 : decode cX5_look 78 = .ok (.baload, 1) := by decide +kernel
theorem dX5_look_79 : decode cX5_look 79 = .ok (.ifCond .eq 7, 3) := by decide +kernel
theorem dX5_look_82 : decode cX5_look 82 = .ok (.iconst 1, 1) := by decide +kernel
theorem dX5_look_83 : decode cX5_look 83 = .ok (.goto 4, 3) := by decide +kernel
theorem dX5_look_86 : decode cX5_look 86 = .ok (.iconst 0, 1) := by decide +kernel
theorem dX5_look_87 : decode cX5_look 87 = .ok (.ireturn, 1) := by decide +kernel
theorem dX5_look_88 : decode cX5_look 88 = .ok (.iconst 0, 1) := by decide +kernel
theorem dX5_look_89 : decode cX5_look 89 = .ok (.istore 4, 2) := by decide +kernel
theorem dX5_look_91 : decode cX5_look 91 = .ok (.iload 4, 2) := by decide +kernel
theorem dX5_look_93 : decode cX5_look 93 = .ok (.aload_n 0, 1) := by decide +kernel
theorem dX5_look_94 : decode cX5_look 94 = .ok (.getfield 100, 3) := by decide +kernel
theorem dX5_look_97 : decode cX5_look 97 = .ok (.if_icmp .ge 28, 3) := by decide +kernel
theorem dX5_look_100 : decode cX5_look 100 = .ok (.iload_n 3, 1) := by decide +kernel
theorem dX5_look_101 : decode cX5_look 101 = .ok (.aload_n 0, 1) := by decide +kernel
theorem dX5_look_102 : decode cX5_look 102 = .ok (.getfield 47, 3) := by decide +kernel
theorem dX5_look_105 : decode cX5_look 105 = .ok (.iload 4, 2) := by decide +kernel
theorem dX5_look_107 : decode cX5_look 107 = .ok (.iaload, 1) := by decide +kernel
theorem dX5_look_108 : decode cX5_look 108 = .ok (.iload_n 1, 1) := by decide +kernel
theorem dX5_look_109 : decode cX5_look 109 = .ok (.if_icmp .ne 7, 3) := by decide +kernel
theorem dX5_look_112 : decode cX5_look 112 = .ok (.iconst 1, 1) := by decide +kernel
theorem dX5_look_113 : decode cX5_look 113 = .ok (.goto 4, 3) := by decide +kernel
theorem dX5_look_116 : decode cX5_look 116 = .ok (.iconst 0, 1) := by decide +kernel
theorem dX5_look_117 : decode cX5_look 117 = .ok (.iadd, 1) := by decide +kernel
theorem dX5_look_118 : decode cX5_look 118 = .ok (.istore_n 3, 1) := by decide +kernel
theorem dX5_look_119 : decode cX5_look 119 = .ok (.iinc 4 1, 3) := by decide +kernel
theorem dX5_look_122 : decode cX5_look 122 = .ok (.goto (-31), 3) := by decide +kernel
theorem dX5_look_125 : decode cX5_look 125 = .ok (.iload_n 3, 1) := by decide +kernel
theorem dX5_look_126 : decode cX5_look 126 = .ok (.ireturn, 1) := by decide +kernel
theorem dX5_look_127 : decode cX5_look 127 = .ok (.aload_n 0, 1) := by decide +kernel
theorem dX5_look_128 : decode cX5_look 128 = .ok (.getfield 7, 3) := by decide +kernel
theorem dX5_look_131 : decode cX5_look 131 = .ok (.iconst 4, 1) := by decide +kernel
theorem dX5_look_132 : decode cX5_look 132 = .ok (.iload_n 1, 1) := by decide +kernel
theorem dX5_look_133 : decode cX5_look 133 = .ok (.imul, 1) := by decide +kernel
theorem dX5_look_134 : decode cX5_look 134 = .ok (.iload_n 2, 1) := by decide +kernel
theorem dX5_look_135 : decode cX5_look 135 = .ok (.iadd, 1) := by decide +kernel
theorem dX5_look_136 : decode cX5_look 136 = .ok (.iconst 4, 1) := by decide +kernel
theorem dX5_look_137 : decode cX5_look 137 = .ok (.isub, 1) := by decide +kernel
theorem dX5_look_138 : decode cX5_look 138 = .ok (.iaload, 1) := by decide +kernel
theorem dX5_look_139 : decode cX5_look 139 = .ok (.ireturn, 1) := by decide +kernel
theorem dX5_look_140 : decode cX5_look 140 = .ok (.iconst (-1), 1) := by decide +kernel
theorem dX5_look_141 : decode cX5_look 141 = .ok (.ireturn, 1) := by decide +kernel
set_option maxRecDepth 20000 in
theorem ggX5_known_X5_knows : GoodIn wsX5_known wsX5_knows := goodIn_r _ [6, 7, 8, 9, 10, 11, 12, 13, 5, 14, 15, 16, 17, 18, 19, 20, 21, 22, 23, 24, 25, 26, 27, 28, 29, 30, 31, 32, 33, 34, 35, 36, 37, 38, 39, 40, 41] (by decide +kernel) (by decide +kernel)
set_option maxRecDepth 20000 in
theorem gX5_known_X5_knows : GoodIn wsX5_known (wsV RX5 136 RX5 yX5_knows wsX5_knows) := goodIn_app (goodIn_of _ (by decide +kernel)) ggX5_known_X5_knows
theorem dX5_known_0 : decode cX5_known 0 = .ok (.iconst 0, 1) := by decide +kernel
theorem dX5_known_1 : decode cX5_known 1 = .ok (.istore_n 2, 1) := by decide +kernel
theorem dX5_known_2 : decode cX5_known 2 = .ok (.iconst 0, 1) := by decide +kernel
theorem dX5_known_3 : decode cX5_known 3 = .ok (.istore_n 3, 1) := by decide +kernel
theorem dX5_known_4 : decode cX5_known 4 = .ok (.iload_n 3, 1) := by decide +kernel
theorem dX5_known_5 : decode cX5_known 5 = .ok (.aload_n 0, 1) := by decide +kernel
theorem dX5_known_6 : decode cX5_known 6 = .ok (.getfield 71, 3) := by decide +kernel
theorem dX5_known_9 : decode cX5_known 9 = .ok (.if_icmp .ge 26, 3) := by decide +kernel
theorem dX5_known_12 : decode cX5_known 12 = .ok (.iload_n 2, 1) := by decide +kernel
theorem dX5_known_13 : decode cX5_known 13 = .ok (.aload_n 0, 1) := by decide +kernel
theorem dX5_known_14 : decode cX5_known 14 = .ok (.iload_n 1, 1) := by decide +kernel
theorem dX5_known_15 : decode cX5_known 15 = .ok (.iload_n 3, 1) := by decide +kernel
theorem dX5_known_16 : decode cX5_known 16 = .ok (.invokevirtual 136, 3) := by decide +kernel
theorem dX5_known_19 : decode cX5_known 19 = .ok (.ifCond .eq 7, 3) := by decide +kernel
theorem dX5_known_22 : decode cX5_known 22 = .ok (.iconst 1, 1) := by decide +kernel
theorem dX5_known_23 : decode cX5_known 23 = .ok (.goto 4, 3) := by decide +kernel
theorem dX5_known_26 : decode cX5_known 26 = .ok (.iconst 0, 1) := by decide +kernel
theorem dX5_known_27 : decode cX5_known 27 = .ok (.iadd, 1) := by decide +kernel
theorem dX5_known_28 : decode cX5_known 28 = .ok (.istore_n 2, 1) := by decide +kernel
theorem dX5_known_29 : decode cX5_known 29 = .ok (.iinc 3 1, 3) := by decide +kernel
theorem dX5_known_32 : decode cX5_known 32 = .ok (.goto (-28), 3) := by decide +kernel
theorem dX5_known_35 : decode cX5_known 35 = .ok (.iload_n 2, 1) := by decide +kernel
theorem dX5_known_36 : decode cX5_known 36 = .ok (.ireturn, 1) := by decide +kernel
set_option maxRecDepth 20000 in
theorem ggX5_tell_X5_known : GoodIn wsX5_tell wsX5_known := goodIn_r _ [13, 1, 14, 15, 16, 12, 17, 18, 4, 19, 20, 21, 22, 23, 24, 25, 26, 27, 28, 29, 30, 31, 32, 33, 34, 35, 36, 37, 38, 39, 40, 41, 42, 43, 44, 45, 46, 47, 48, 49, 50, 51] (by decide +kernel) (by decide +kernel)
set_option maxRecDepth 20000 in
theorem gX5_tell_X5_known : GoodIn wsX5_tell (wsV RX5 146 RX5 yX5_known wsX5_known) := goodIn_app (goodIn_of _ (by decide +kernel)) ggX5_tell_X5_known
theorem dX5_tell_0 : decode cX5_tell 0 = .ok (.iload_n 1, 1) := by decide +kernel
theorem dX5_tell_1 : decode cX5_tell 1 = .ok (.tableswitch 69 0 5 #[39, 44, 49, 54, 59, 64], 39) := by decide +kernel
theorem dX5_tell_40 : decode cX5_tell 40 = .ok (.aload_n 0, 1) := by decide +kernel
theorem dX5_tell_41 : decode cX5_tell 41 = .ok (.getfield 71, 3) := by decide +kernel
theorem dX5_tell_44 : decode cX5_tell 44 = .ok (.ireturn, 1) := by decide +kernel
theorem dX5_tell_45 : decode cX5_tell 45 = .ok (.aload_n 0, 1) := by decide +kernel
theorem dX5_tell_46 : decode cX5_tell 46 = .ok (.getfield 97, 3) := by decide +kernel
theorem dX5_tell_49 : decode cX5_tell 49 = .ok (.ireturn, 1) := by decide +kernel
theorem dX5_tell_50 : decode cX5_tell 50 = .ok (.aload_n 0, 1) := by decide +kernel
theorem dX5_tell_51 : decode cX5_tell 51 = .ok (.getfield 94, 3) := by decide +kernel
theorem dX5_tell_54 : decode cX5_tell 54 = .ok (.ireturn, 1) := by decide +kernel
theorem dX5_tell_55 : decode cX5_tell 55 = .ok (.aload_n 0, 1) := by decide +kernel
theorem dX5_tell_56 : decode cX5_tell 56 = .ok (.getfield 100, 3) := by decide +kernel
theorem dX5_tell_59 : decode cX5_tell 59 = .ok (.ireturn, 1) := by decide +kernel
theorem dX5_tell_60 : decode cX5_tell 60 = .ok (.aload_n 0, 1) := by decide +kernel
theorem dX5_tell_61 : decode cX5_tell 61 = .ok (.getfield 126, 3) := by decide +kernel
theorem dX5_tell_64 : decode cX5_tell 64 = .ok (.ireturn, 1) := by decide +kernel
theorem dX5_tell_65 : decode cX5_tell 65 = .ok (.aload_n 0, 1) := by decide +kernel
theorem dX5_tell_66 : decode cX5_tell 66 = .ok (.getfield 120, 3) := by decide +kernel
theorem dX5_tell_69 : decode cX5_tell 69 = .ok (.ireturn, 1) := by decide +kernel
theorem dX5_tell_70 : decode cX5_tell 70 = .ok (.iload_n 1, 1) := by decide +kernel
theorem dX5_tell_71 : decode cX5_tell 71 = .ok (.bipush 10, 2) := by decide +kernel
theorem dX5_tell_73 : decode cX5_tell 73 = .ok (.if_icmp .lt 24, 3) := by decide +kernel
theorem dX5_tell_76 : decode cX5_tell 76 = .ok (.iload_n 1, 1) := by decide +kernel
theorem dX5_tell_77 : decode cX5_tell 77 = .ok (.bipush 10, 2) := by decide +kernel
theorem dX5_tell_79 : decode cX5_tell 79 = .ok (.aload_n 0, 1) := by decide +kernel
theorem dX5_tell_80 : decode cX5_tell 80 = .ok (.getfield 97, 3) := by decide +kernel
theorem dX5_tell_83 : decode cX5_tell 83 = .ok (.iadd, 1) := by decide +kernel
theorem dX5_tell_84 : decode cX5_tell 84 = .ok (.if_icmp .ge 13, 3) := by decide +kernel
theorem dX5_tell_87 : decode cX5_tell 87 = .ok (.aload_n 0, 1) := by decide +kernel
theorem dX5_tell_88 : decode cX5_tell 88 = .ok (.getfield 35, 3) := by decide +kernel
theorem dX5_tell_91 : decode cX5_tell 91 = .ok (.iload_n 1, 1) := by decide +kernel
theorem dX5_tell_92 : decode cX5_tell 92 = .ok (.bipush 10, 2) := by decide +kernel
theorem dX5_tell_94 : decode cX5_tell 94 = .ok (.isub, 1) := by decide +kernel
theorem dX5_tell_95 : decode cX5_tell 95 = .ok (.iaload, 1) := by decide +kernel
theorem dX5_tell_96 : decode cX5_tell 96 = .ok (.ireturn, 1) := by decide +kernel
theorem dX5_tell_97 : decode cX5_tell 97 = .ok (.iload_n 1, 1) := by decide +kernel
theorem dX5_tell_98 : decode cX5_tell 98 = .ok (.bipush 20, 2) := by decide +kernel
theorem dX5_tell_100 : decode cX5_tell 100 = .ok (.if_icmp .lt 23, 3) := by decide +kernel
theorem dX5_tell_103 : decode cX5_tell 103 = .ok (.iload_n 1, 1) := by decide +kernel
theorem dX5_tell_104 : decode cX5_tell 104 = .ok (.bipush 20, 2) := by decide +kernel
theorem dX5_tell_106 : decode cX5_tell 106 = .ok (.aload_n 0, 1) := by decide +kernel
theorem dX5_tell_107 : decode cX5_tell 107 = .ok (.getfield 97, 3) := by decide +kernel
theorem dX5_tell_110 : decode cX5_tell 110 = .ok (.iadd, 1) := by decide +kernel
theorem dX5_tell_111 : decode cX5_tell 111 = .ok (.if_icmp .ge 12, 3) := by decide +kernel
theorem dX5_tell_114 : decode cX5_tell 114 = .ok (.aload_n 0, 1) := by decide +kernel
theorem dX5_tell_115 : decode cX5_tell 115 = .ok (.iload_n 1, 1) := by decide +kernel
theorem dX5_tell_116 : decode cX5_tell 116 = .ok (.bipush 20, 2) := by decide +kernel
theorem dX5_tell_118 : decode cX5_tell 118 = .ok (.isub, 1) := by decide +kernel
theorem dX5_tell_119 : decode cX5_tell 119 = .ok (.invokevirtual 146, 3) := by decide +kernel
theorem dX5_tell_122 : decode cX5_tell 122 = .ok (.ireturn, 1) := by decide +kernel
theorem dX5_tell_123 : decode cX5_tell 123 = .ok (.iload_n 1, 1) := by decide +kernel
theorem dX5_tell_124 : decode cX5_tell 124 = .ok (.bipush 30, 2) := by decide +kernel
theorem dX5_tell_126 : decode cX5_tell 126 = .ok (.if_icmp .lt 34, 3) := by decide +kernel
theorem dX5_tell_129 : decode cX5_tell 129 = .ok (.iload_n 1, 1) := by decide +kernel
theorem dX5_tell_130 : decode cX5_tell 130 = .ok (.bipush 30, 2) := by decide +kernel
theorem dX5_tell_132 : decode cX5_tell 132 = .ok (.aload_n 0, 1) := by decide +kernel
theorem dX5_tell_133 : decode cX5_tell 133 = .ok (.getfield 97, 3) := by decide +kernel
theorem dX5_tell_136 : decode cX5_tell 136 = .ok (.iadd, 1) := by decide +kernel
theorem dX5_tell_137 : decode cX5_tell 137 = .ok (.if_icmp .ge 23, 3) := by decide +kernel
theorem dX5_tell_140 : decode cX5_tell 140 = .ok (.aload_n 0, 1) := by decide +kernel
theorem dX5_tell_141 : decode cX5_tell 141 = .ok (.getfield 38, 3) := by decide +kernel
theorem dX5_tell_144 : decode cX5_tell 144 = .ok (.iload_n 1, 1) := by decide +kernel
theorem dX5_tell_145 : decode cX5_tell 145 = .ok (.bipush 30, 2) := by decide +kernel
theorem dX5_tell_147 : decode cX5_tell 147 = .ok (.isub, 1) := by decide +kernel
theorem dX5_tell_148 : decode cX5_tell 148 = .ok (.baload, 1) := by decide +kernel
theorem dX5_tell_149 : decode cX5_tell 149 = .ok (.ifCond .eq 7, 3) := by decide +kernel
theorem dX5_tell_152 : decode cX5_tell 152 = .ok (.iconst 1, 1) := by decide +kernel
theorem dX5_tell_153 : decode cX5_tell 153 = .ok (.goto 8, 3) := by decide +kernel
theorem dX5_tell_156 : decode cX5_tell 156 = .ok (.iconst 0, 1) := by decide +kernel
theorem dX5_tell_157 : decode cX5_tell 157 = .ok (.goto 4, 3) := by decide +kernel
theorem dX5_tell_160 : decode cX5_tell 160 = .ok (.iconst (-1), 1) := by decide +kernel
theorem dX5_tell_161 : decode cX5_tell 161 = .ok (.ireturn, 1) := by decide +kernel
