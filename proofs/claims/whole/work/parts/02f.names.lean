theorem dX3_pointsWithin_75 : decode cX3_pointsWithin 75 = .ok (.getfield 163, 3) := by decide +kernel
theorem dX3_pointsWithin_78 : decode cX3_pointsWithin 78 = .ok (.iload_n 3, 1) := by decide +kernel
theorem dX3_pointsWithin_79 : decode cX3_pointsWithin 79 = .ok (.if_icmp .gt 32, 3) := by decide +kernel
theorem dX3_pointsWithin_82 : decode cX3_pointsWithin 82 = .ok (.aload 8, 2) := by decide +kernel
theorem dX3_pointsWithin_84 : decode cX3_pointsWithin 84 = .ok (.getfield 166, 3) := by decide +kernel
theorem dX3_pointsWithin_87 : decode cX3_pointsWithin 87 = .ok (.iload_n 2, 1) := by decide +kernel
theorem dX3_pointsWithin_88 : decode cX3_pointsWithin 88 = .ok (.if_icmp .lt 23, 3) := by decide +kernel
theorem dX3_pointsWithin_91 : decode cX3_pointsWithin 91 = .ok (.aload 8, 2) := by decide +kernel
theorem dX3_pointsWithin_93 : decode cX3_pointsWithin 93 = .ok (.getfield 166, 3) := by decide +kernel
theorem dX3_pointsWithin_96 : decode cX3_pointsWithin 96 = .ok (.iload 4, 2) := by decide +kernel
theorem dX3_pointsWithin_98 : decode cX3_pointsWithin 98 = .ok (.if_icmp .gt 13, 3) := by decide +kernel
theorem dX3_pointsWithin_101 : decode cX3_pointsWithin 101 = .ok (.lload 5, 2) := by decide +kernel
theorem dX3_pointsWithin_103 : decode cX3_pointsWithin 103 = .ok (.iload 7, 2) := by decide +kernel
theorem dX3_pointsWithin_105 : decode cX3_pointsWithin 105 = .ok (.invokestatic 169, 3) := by decide +kernel
theorem dX3_pointsWithin_108 : decode cX3_pointsWithin 108 = .ok (.lor, 1) := by decide +kernel
theorem dX3_pointsWithin_109 : decode cX3_pointsWithin 109 = .ok (.lstore 5, 2) := by decide +kernel
theorem dX3_pointsWithin_111 : decode cX3_pointsWithin 111 = .ok (.iinc 7 1, 3) := by decide +kernel
theorem dX3_pointsWithin_114 : decode cX3_pointsWithin 114 = .ok (.goto (-108), 3) := by decide +kernel
theorem dX3_pointsWithin_117 : decode cX3_pointsWithin 117 = .ok (.lload 5, 2) := by decide +kernel
theorem dX3_pointsWithin_119 : decode cX3_pointsWithin 119 = .ok (.lreturn, 1) := by decide +kernel
theorem dX4_init_0 : decode cX4_init 0 = .ok (.aload_n 0, 1) := by decide +kernel
theorem dX4_init_1 : decode cX4_init 1 = .ok (.invokespecial 1, 3) := by decide +kernel
theorem dX4_init_4 : decode cX4_init 4 = .ok (.aload_n 0, 1) := by decide +kernel
theorem dX4_init_5 : decode cX4_init 5 = .ok (.bipush 20, 2) := by decide +kernel
theorem dX4_init_7 : decode cX4_init 7 = .ok (.newarray .boolean, 2) := by decide +kernel
theorem dX4_init_9 : decode cX4_init 9 = .ok (.putfield 7, 3) := by decide +kernel
theorem dX4_init_12 : decode cX4_init 12 = .ok (.aload_n 0, 1) := by decide +kernel
theorem dX4_init_13 : decode cX4_init 13 = .ok (.bipush 6, 2) := by decide +kernel
theorem dX4_init_15 : decode cX4_init 15 = .ok (.newarray .int, 2) := by decide +kernel
theorem dX4_init_17 : decode cX4_init 17 = .ok (.putfield 13, 3) := by decide +kernel
theorem dX4_init_20 : decode cX4_init 20 = .ok (.aload_n 0, 1) := by decide +kernel
theorem dX4_init_21 : decode cX4_init 21 = .ok (.bipush 40, 2) := by decide +kernel
theorem dX4_init_23 : decode cX4_init 23 = .ok (.newarray .int, 2) := by decide +kernel
theorem dX4_init_25 : decode cX4_init 25 = .ok (.putfield 17, 3) := by decide +kernel
theorem dX4_init_28 : decode cX4_init 28 = .ok (.aload_n 0, 1) := by decide +kernel
theorem dX4_init_29 : decode cX4_init 29 = .ok (.bipush 40, 2) := by decide +kernel
theorem dX4_init_31 : decode cX4_init 31 = .ok (.newarray .int, 2) := by decide +kernel
theorem dX4_init_33 : decode cX4_init 33 = .ok (.putfield 20, 3) := by decide +kernel
theorem dX4_init_36 : decode cX4_init 36 = .ok (.aload_n 0, 1) := by decide +kernel
theorem dX4_init_37 : decode cX4_init 37 = .ok (.bipush 40, 2) := by decide +kernel
theorem dX4_init_39 : decode cX4_init 39 = .ok (.newarray .int, 2) := by decide +kernel
theorem dX4_init_41 : decode cX4_init 41 = .ok (.putfield 23, 3) := by decide +kernel
theorem dX4_init_44 : decode cX4_init 44 = .ok (.aload_n 0, 1) := by decide +kernel
theorem dX4_init_45 : decode cX4_init 45 = .ok (.sipush 1400, 3) := by decide +kernel
theorem dX4_init_48 : decode cX4_init 48 = .ok (.newarray .int, 2) := by decide +kernel
theorem dX4_init_50 : decode cX4_init 50 = .ok (.putfield 26, 3) := by decide +kernel
theorem dX4_init_53 : decode cX4_init 53 = .ok (.aload_n 0, 1) := by decide +kernel
theorem dX4_init_54 : decode cX4_init 54 = .ok (.sipush 1400, 3) := by decide +kernel
theorem dX4_init_57 : decode cX4_init 57 = .ok (.newarray .int, 2) := by decide +kernel
theorem dX4_init_59 : decode cX4_init 59 = .ok (.putfield 29, 3) := by decide +kernel
theorem dX4_init_62 : decode cX4_init 62 = .ok (.aload_n 0, 1) := by decide +kernel
theorem dX4_init_63 : decode cX4_init 63 = .ok (.sipush 1400, 3) := by decide +kernel
theorem dX4_init_66 : decode cX4_init 66 = .ok (.newarray .int, 2) := by decide +kernel
theorem dX4_init_68 : decode cX4_init 68 = .ok (.putfield 32, 3) := by decide +kernel
theorem dX4_init_71 : decode cX4_init 71 = .ok (.aload_n 0, 1) := by decide +kernel
theorem dX4_init_72 : decode cX4_init 72 = .ok (.sipush 1400, 3) := by decide +kernel
theorem dX4_init_75 : decode cX4_init 75 = .ok (.newarray .int, 2) := by decide +kernel
theorem dX4_init_77 : decode cX4_init 77 = .ok (.putfield 35, 3) := by decide +kernel
theorem dX4_init_80 : decode cX4_init 80 = .ok (.aload_n 0, 1) := by decide +kernel
theorem dX4_init_81 : decode cX4_init 81 = .ok (.sipush 1400, 3) := by decide +kernel
theorem dX4_init_84 : decode cX4_init 84 = .ok (.newarray .int, 2) := by decide +kernel
theorem dX4_init_86 : decode cX4_init 86 = .ok (.putfield 38, 3) := by decide +kernel
theorem dX4_init_89 : decode cX4_init 89 = .ok (.aload_n 0, 1) := by decide +kernel
theorem dX4_init_90 : decode cX4_init 90 = .ok (.sipush 1400, 3) := by decide +kernel
theorem dX4_init_93 : decode cX4_init 93 = .ok (.newarray .boolean, 2) := by decide +kernel
theorem dX4_init_95 : decode cX4_init 95 = .ok (.putfield 41, 3) := by decide +kernel
theorem dX4_init_98 : decode cX4_init 98 = .ok (.aload_n 0, 1) := by decide +kernel
theorem dX4_init_99 : decode cX4_init 99 = .ok (.sipush 1400, 3) := by decide +kernel
theorem dX4_init_102 : decode cX4_init 102 = .ok (.newarray .boolean, 2) := by decide +kernel
theorem dX4_init_104 : decode cX4_init 104 = .ok (.putfield 44, 3) := by decide +kernel
theorem dX4_init_107 : decode cX4_init 107 = .ok (.aload_n 0, 1) := by decide +kernel
theorem dX4_init_108 : decode cX4_init 108 = .ok (.sipush 1400, 3) := by decide +kernel
theorem dX4_init_111 : decode cX4_init 111 = .ok (.newarray .int, 2) := by decide +kernel
theorem dX4_init_113 : decode cX4_init 113 = .ok (.putfield 47, 3) := by decide +kernel
theorem dX4_init_116 : decode cX4_init 116 = .ok (.aload_n 0, 1) := by decide +kernel
theorem dX4_init_117 : decode cX4_init 117 = .ok (.sipush 1400, 3) := by decide +kernel
theorem dX4_init_120 : decode cX4_init 120 = .ok (.newarray .int, 2) := by decide +kernel
theorem dX4_init_122 : decode cX4_init 122 = .ok (.putfield 50, 3) := by decide +kernel
theorem dX4_init_125 : decode cX4_init 125 = .ok (.aload_n 0, 1) := by decide +kernel
theorem dX4_init_126 : decode cX4_init 126 = .ok (.sipush 8400, 3) := by decide +kernel
theorem dX4_init_129 : decode cX4_init 129 = .ok (.newarray .int, 2) := by decide +kernel
theorem dX4_init_131 : decode cX4_init 131 = .ok (.putfield 53, 3) := by decide +kernel
theorem dX4_init_134 : decode cX4_init 134 = .ok (.aload_n 0, 1) := by decide +kernel
theorem dX4_init_135 : decode cX4_init 135 = .ok (.bipush 40, 2) := by decide +kernel
theorem dX4_init_137 : decode cX4_init 137 = .ok (.newarray .boolean, 2) := by decide +kernel
theorem dX4_init_139 : decode cX4_init 139 = .ok (.putfield 56, 3) := by decide +kernel
theorem dX4_init_142 : decode cX4_init 142 = .ok (.aload_n 0, 1) := by decide +kernel
theorem dX4_init_143 : decode cX4_init 143 = .ok (.bipush 40, 2) := by decide +kernel
theorem dX4_init_145 : decode cX4_init 145 = .ok (.newarray .boolean, 2) := by decide +kernel
theorem dX4_init_147 : decode cX4_init 147 = .ok (.putfield 59, 3) := by decide +kernel
theorem dX4_init_150 : decode cX4_init 150 = .ok (.aload_n 0, 1) := by decide +kernel
theorem dX4_init_151 : decode cX4_init 151 = .ok (.bipush 6, 2) := by decide +kernel
theorem dX4_init_153 : decode cX4_init 153 = .ok (.newarray .int, 2) := by decide +kernel
theorem dX4_init_155 : decode cX4_init 155 = .ok (.putfield 62, 3) := by decide +kernel
theorem dX4_init_158 : decode cX4_init 158 = .ok (.return_, 1) := by decide +kernel
theorem dX4_thrown_0 : decode cX4_thrown 0 = .ok (.aload_n 0, 1) := by decide +kernel
theorem dX4_thrown_1 : decode cX4_thrown 1 = .ok (.getfield 65, 3) := by decide +kernel
theorem dX4_thrown_4 : decode cX4_thrown 4 = .ok (.ireturn, 1) := by decide +kernel
theorem dX4_in_0 : decode cX4_in 0 = .ok (.iload_n 0, 1) := by decide +kernel
theorem dX4_in_1 : decode cX4_in 1 = .ok (.iload_n 1, 1) := by decide +kernel
theorem dX4_in_2 : decode cX4_in 2 = .ok (.if_icmp .lt 12, 3) := by decide +kernel
theorem dX4_in_5 : decode cX4_in 5 = .ok (.iload_n 0, 1) := by decide +kernel
theorem dX4_in_6 : decode cX4_in 6 = .ok (.iload_n 2, 1) := by decide +kernel
theorem dX4_in_7 : decode cX4_in 7 = .ok (.if_icmp .gt 7, 3) := by decide +kernel
theorem dX4_in_10 : decode cX4_in 10 = .ok (.iconst 1, 1) := by decide +kernel
theorem dX4_in_11 : decode cX4_in 11 = .ok (.goto 4, 3) := by decide +kernel
theorem dX4_in_14 : decode cX4_in 14 = .ok (.iconst 0, 1) := by decide +kernel
theorem dX4_in_15 : decode cX4_in 15 = .ok (.ireturn, 1) := by decide +kernel
theorem dX4_goes_0 : decode cX4_goes 0 = .ok (.aload_n 0, 1) := by decide +kernel
theorem dX4_goes_1 : decode cX4_goes 1 = .ok (.iload_n 1, 1) := by decide +kernel
theorem dX4_goes_2 : decode cX4_goes 2 = .ok (.ifCond .ne 7, 3) := by decide +kernel
theorem dX4_goes_5 : decode cX4_goes 5 = .ok (.iconst 1, 1) := by decide +kernel
theorem dX4_goes_6 : decode cX4_goes 6 = .ok (.goto 20, 3) := by decide +kernel
theorem dX4_goes_9 : decode cX4_goes 9 = .ok (.iload_n 2, 1) := by decide +kernel
theorem dX4_goes_10 : decode cX4_goes 10 = .ok (.ifCond .ne 7, 3) := by decide +kernel
theorem dX4_goes_13 : decode cX4_goes 13 = .ok (.iconst 2, 1) := by decide +kernel
theorem dX4_goes_14 : decode cX4_goes 14 = .ok (.goto 12, 3) := by decide +kernel
theorem dX4_goes_17 : decode cX4_goes 17 = .ok (.iload_n 3, 1) := by decide +kernel
theorem dX4_goes_18 : decode cX4_goes 18 = .ok (.ifCond .ne 7, 3) := by decide +kernel
theorem dX4_goes_21 : decode cX4_goes 21 = .ok (.iconst 3, 1) := by decide +kernel
theorem dX4_goes_22 : decode cX4_goes 22 = .ok (.goto 4, 3) := by decide +kernel
theorem dX4_goes_25 : decode cX4_goes 25 = .ok (.iconst 0, 1) := by decide +kernel
theorem dX4_goes_26 : decode cX4_goes 26 = .ok (.putfield 65, 3) := by decide +kernel
theorem dX4_goes_29 : decode cX4_goes 29 = .ok (.aload_n 0, 1) := by decide +kernel
theorem dX4_goes_30 : decode cX4_goes 30 = .ok (.getfield 65, 3) := by decide +kernel
theorem dX4_goes_33 : decode cX4_goes 33 = .ok (.ifCond .ne 7, 3) := by decide +kernel
theorem dX4_goes_36 : decode cX4_goes 36 = .ok (.iconst 1, 1) := by decide +kernel
theorem dX4_goes_37 : decode cX4_goes 37 = .ok (.goto 4, 3) := by decide +kernel
theorem dX4_goes_40 : decode cX4_goes 40 = .ok (.iconst 0, 1) := by decide +kernel
theorem dX4_goes_41 : decode cX4_goes 41 = .ok (.ireturn, 1) := by decide +kernel
theorem dX4_told_0 : decode cX4_told 0 = .ok (.aload_n 0, 1) := by decide +kernel
theorem dX4_told_1 : decode cX4_told 1 = .ok (.iconst 0, 1) := by decide +kernel
theorem dX4_told_2 : decode cX4_told 2 = .ok (.putfield 65, 3) := by decide +kernel
theorem dX4_told_5 : decode cX4_told 5 = .ok (.iload_n 1, 1) := by decide +kernel
theorem dX4_told_6 : decode cX4_told 6 = .ok (.ireturn, 1) := by decide +kernel
set_option maxRecDepth 20000 in
theorem ggX4_isThing_X4_in : GoodIn wsX4_isThing wsX4_in := goodIn_r _ [5] (by decide +kernel) (by decide +kernel)
set_option maxRecDepth 20000 in
theorem gX4_isThing_X4_in : GoodIn wsX4_isThing (va_wsS RX4 72 yX4_in wsX4_in) := goodIn_app (goodIn_of _ (by decide +kernel)) ggX4_isThing_X4_in
theorem dX4_isThing_0 : decode cX4_isThing 0 = .ok (.iload_n 1, 1) := by decide +kernel
theorem dX4_isThing_1 : decode cX4_isThing 1 = .ok (.iconst 0, 1) := by decide +kernel
theorem dX4_isThing_2 : decode cX4_isThing 2 = .ok (.aload_n 0, 1) := by decide +kernel
theorem dX4_isThing_3 : decode cX4_isThing 3 = .ok (.getfield 69, 3) := by decide +kernel
theorem dX4_isThing_6 : decode cX4_isThing 6 = .ok (.iconst 1, 1) := by decide +kernel
theorem dX4_isThing_7 : decode cX4_isThing 7 = .ok (.isub, 1) := by decide +kernel
theorem dX4_isThing_8 : decode cX4_isThing 8 = .ok (.invokestatic 72, 3) := by decide +kernel
theorem dX4_isThing_11 : decode cX4_isThing 11 = .ok (.ireturn, 1) := by decide +kernel
set_option maxRecDepth 20000 in
theorem ggX4_isSet_X4_in : GoodIn wsX4_isSet wsX4_in := goodIn_r _ [5] (by decide +kernel) (by decide +kernel)
set_option maxRecDepth 20000 in
theorem gX4_isSet_X4_in : GoodIn wsX4_isSet (va_wsS RX4 72 yX4_in wsX4_in) := goodIn_app (goodIn_of _ (by decide +kernel)) ggX4_isSet_X4_in
theorem dX4_isSet_0 : decode cX4_isSet 0 = .ok (.iload_n 1, 1) := by decide +kernel
theorem dX4_isSet_1 : decode cX4_isSet 1 = .ok (.iconst 0, 1) := by decide +kernel
theorem dX4_isSet_2 : decode cX4_isSet 2 = .ok (.aload_n 0, 1) := by decide +kernel
theorem dX4_isSet_3 : decode cX4_isSet 3 = .ok (.getfield 76, 3) := by decide +kernel
theorem dX4_isSet_6 : decode cX4_isSet 6 = .ok (.iconst 1, 1) := by decide +kernel
theorem dX4_isSet_7 : decode cX4_isSet 7 = .ok (.isub, 1) := by decide +kernel
theorem dX4_isSet_8 : decode cX4_isSet 8 = .ok (.invokestatic 72, 3) := by decide +kernel
theorem dX4_isSet_11 : decode cX4_isSet 11 = .ok (.ireturn, 1) := by decide +kernel
theorem dX4_is_0 : decode cX4_is 0 = .ok (.aload_n 0, 1) := by decide +kernel
theorem dX4_is_1 : decode cX4_is 1 = .ok (.getfield 41, 3) := by decide +kernel
theorem dX4_is_4 : decode cX4_is 4 = .ok (.aload_n 0, 1) := by decide +kernel
theorem dX4_is_5 : decode cX4_is 5 = .ok (.getfield 20, 3) := by decide +kernel
theorem dX4_is_8 : decode cX4_is 8 = .ok (.iload_n 1, 1) := by decide +kernel
theorem dX4_is_9 : decode cX4_is 9 = .ok (.iaload, 1) := by decide +kernel
theorem dX4_is_10 : decode cX4_is 10 = .ok (.baload, 1) := by decide +kernel
theorem dX4_is_11 : decode cX4_is 11 = .ok (.ireturn, 1) := by decide +kernel
set_option maxRecDepth 20000 in
theorem ggX4_open_X4_goes : GoodIn wsX4_open wsX4_goes := goodIn_r _ [6, 7, 8, 9, 10, 11, 12, 13, 14, 15, 16, 17, 18, 19, 20, 21, 22, 23, 24, 25, 26, 27, 28, 29, 30, 31, 32, 33] (by decide +kernel) (by decide +kernel)
set_option maxRecDepth 20000 in
theorem gX4_open_X4_goes : GoodIn wsX4_open (wsV RX4 79 RX4 yX4_goes wsX4_goes) := goodIn_app (goodIn_of _ (by decide +kernel)) ggX4_open_X4_goes
theorem dX4_open_0 : decode cX4_open 0 = .ok (.aload_n 0, 1) := by decide +kernel
theorem dX4_open_1 : decode cX4_open 1 = .ok (.aload_n 0, 1) := by decide +kernel
theorem dX4_open_2 : decode cX4_open 2 = .ok (.getfield 76, 3) := by decide +kernel
theorem dX4_open_5 : decode cX4_open 5 = .ok (.bipush 20, 2) := by decide +kernel
theorem dX4_open_7 : decode cX4_open 7 = .ok (.if_icmp .ge 7, 3) := by decide +kernel
theorem dX4_open_10 : decode cX4_open 10 = .ok (.iconst 1, 1) := by decide +kernel
theorem dX4_open_11 : decode cX4_open 11 = .ok (.goto 4, 3) := by decide +kernel
theorem dX4_open_14 : decode cX4_open 14 = .ok (.iconst 0, 1) := by decide +kernel
theorem dX4_open_15 : decode cX4_open 15 = .ok (.iconst 1, 1) := by decide +kernel
theorem dX4_open_16 : decode cX4_open 16 = .ok (.iconst 1, 1) := by decide +kernel
theorem dX4_open_17 : decode cX4_open 17 = .ok (.invokevirtual 79, 3) := by decide +kernel
theorem dX4_open_20 : decode cX4_open 20 = .ok (.ifCond .ne 5, 3) := by decide +kernel
theorem dX4_open_23 : decode cX4_open 23 = .ok (.iconst 0, 1) := by decide +kernel
theorem dX4_open_24 : decode cX4_open 24 = .ok (.ireturn, 1) := by decide +kernel
theorem dX4_open_25 : decode cX4_open 25 = .ok (.aload_n 0, 1) := by decide +kernel
theorem dX4_open_26 : decode cX4_open 26 = .ok (.dup, 1) := by decide +kernel
theorem dX4_open_27 : decode cX4_open 27 = .ok (.getfield 76, 3) := by decide +kernel
theorem dX4_open_30 : decode cX4_open 30 = .ok (.iconst 1, 1) := by decide +kernel
theorem dX4_open_31 : decode cX4_open 31 = .ok (.iadd, 1) := by decide +kernel
theorem dX4_open_32 : decode cX4_open 32 = .ok (.putfield 76, 3) := by decide +kernel
theorem dX4_open_35 : decode cX4_open 35 = .ok (.aload_n 0, 1) := by decide +kernel
theorem dX4_open_36 : decode cX4_open 36 = .ok (.getfield 76, 3) := by decide +kernel
theorem dX4_open_39 : decode cX4_open 39 = .ok (.iconst 1, 1) := by decide +kernel
theorem dX4_open_40 : decode cX4_open 40 = .ok (.isub, 1) := by decide +kernel
theorem dX4_open_41 : decode cX4_open 41 = .ok (.ireturn, 1) := by decide +kernel
set_option maxRecDepth 20000 in
theorem ggX4_close_X4_isSet : GoodIn wsX4_close wsX4_isSet := goodIn_r _ [8, 9, 10, 11, 7, 12, 18, 19, 20, 21, 22, 23, 24, 25, 26, 27, 28, 29, 30, 31, 32, 33, 34, 35, 36, 37, 38, 39, 40, 41, 42, 43] (by decide +kernel) (by decide +kernel)
set_option maxRecDepth 20000 in
theorem gX4_close_X4_isSet : GoodIn wsX4_close (wsV RX4 83 RX4 yX4_isSet wsX4_isSet) := goodIn_app (goodIn_of _ (by decide +kernel)) ggX4_close_X4_isSet
set_option maxRecDepth 20000 in
theorem ggX4_close_X4_goes : GoodIn wsX4_close wsX4_goes := goodIn_r _ [16, 17, 18, 19, 20, 21, 22, 23, 24, 25, 26, 27, 28, 29, 30, 31, 32, 33, 34, 35, 36, 37, 38, 39, 40, 41, 42, 43] (by decide +kernel) (by decide +kernel)
set_option maxRecDepth 20000 in
theorem gX4_close_X4_goes : GoodIn wsX4_close (wsV RX4 79 RX4 yX4_goes wsX4_goes) := goodIn_app (goodIn_of _ (by decide +kernel)) ggX4_close_X4_goes
theorem dX4_close_0 : decode cX4_close 0 = .ok (.aload_n 0, 1) := by decide +kernel
theorem dX4_close_1 : decode cX4_close 1 = .ok (.iload_n 1, 1) := by decide +kernel
theorem dX4_close_2 : decode cX4_close 2 = .ok (.invokevirtual 83, 3) := by decide +kernel
theorem dX4_close_5 : decode cX4_close 5 = .ok (.istore_n 2, 1) := by decide +kernel
theorem dX4_close_6 : decode cX4_close 6 = .ok (.aload_n 0, 1) := by decide +kernel
theorem dX4_close_7 : decode cX4_close 7 = .ok (.iload_n 2, 1) := by decide +kernel
theorem dX4_close_8 : decode cX4_close 8 = .ok (.iload_n 2, 1) := by decide +kernel
theorem dX4_close_9 : decode cX4_close 9 = .ok (.ifCond .eq 16, 3) := by decide +kernel
theorem dX4_close_12 : decode cX4_close 12 = .ok (.aload_n 0, 1) := by decide +kernel
theorem dX4_close_13 : decode cX4_close 13 = .ok (.getfield 7, 3) := by decide +kernel
theorem dX4_close_16 : decode cX4_close 16 = .ok (.iload_n 1, 1) := by decide +kernel
theorem dX4_close_17 : decode cX4_close 17 = .ok (.baload, 1) := by decide +kernel
theorem dX4_close_18 : decode cX4_close 18 = .ok (.ifCond .ne 7, 3) := by decide +kernel
theorem dX4_close_21 : decode cX4_close 21 = .ok (.iconst 1, 1) := by decide +kernel
theorem dX4_close_22 : decode cX4_close 22 = .ok (.goto 4, 3) := by decide +kernel
theorem dX4_close_25 : decode cX4_close 25 = .ok (.iconst 0, 1) := by decide +kernel
theorem dX4_close_26 : decode cX4_close 26 = .ok (.iconst 1, 1) := by decide +kernel
theorem dX4_close_27 : decode cX4_close 27 = .ok (.invokevirtual 79, 3) := by decide +kernel
theorem dX4_close_30 : decode cX4_close 30 = .ok (.ifCond .ne 5, 3) := by decide +kernel
theorem dX4_close_33 : decode cX4_close 33 = .ok (.iconst 0, 1) := by decide +kernel
theorem dX4_close_34 : decode cX4_close 34 = .ok (.ireturn, 1) := by decide +kernel
theorem dX4_close_35 : decode cX4_close 35 = .ok (.aload_n 0, 1) := by decide +kernel
theorem dX4_close_36 : decode cX4_close 36 = .ok (.getfield 7, 3) := by decide +kernel
theorem dX4_close_39 : decode cX4_close 39 = .ok (.iload_n 1, 1) := by decide +kernel
theorem dX4_close_40 : decode cX4_close 40 = .ok (.iconst 1, 1) := by decide +kernel
theorem dX4_close_41 : decode cX4_close 41 = .ok (.bastore, 1) := by decide +kernel
theorem dX4_close_42 : decode cX4_close 42 = .ok (.iconst 0, 1) := by decide +kernel
theorem dX4_close_43 : decode cX4_close 43 = .ok (.istore_n 3, 1) := by decide +kernel
theorem dX4_close_44 : decode cX4_close 44 = .ok (.iconst 0, 1) := by decide +kernel
theorem dX4_close_45 : decode cX4_close 45 = .ok (.istore 4, 2) := by decide +kernel
theorem dX4_close_47 : decode cX4_close 47 = .ok (.iload 4, 2) := by decide +kernel
theorem dX4_close_49 : decode cX4_close 49 = .ok (.aload_n 0, 1) := by decide +kernel
theorem dX4_close_50 : decode cX4_close 50 = .ok (.getfield 87, 3) := by decide +kernel
theorem dX4_close_53 : decode cX4_close 53 = .ok (.if_icmp .ge 28, 3) := by decide +kernel
theorem dX4_close_56 : decode cX4_close 56 = .ok (.iload_n 3, 1) := by decide +kernel
theorem dX4_close_57 : decode cX4_close 57 = .ok (.aload_n 0, 1) := by decide +kernel
theorem dX4_close_58 : decode cX4_close 58 = .ok (.getfield 35, 3) := by decide +kernel
theorem dX4_close_61 : decode cX4_close 61 = .ok (.iload 4, 2) := by decide +kernel
theorem dX4_close_63 : decode cX4_close 63 = .ok (.iaload, 1) := by decide +kernel
theorem dX4_close_64 : decode cX4_close 64 = .ok (.iload_n 1, 1) := by decide +kernel
theorem dX4_close_65 : decode cX4_close 65 = .ok (.if_icmp .ne 7, 3) := by decide +kernel
theorem dX4_close_68 : decode cX4_close 68 = .ok (.iconst 1, 1) := by decide +kernel
theorem dX4_close_69 : decode cX4_close 69 = .ok (.goto 4, 3) := by decide +kernel
theorem dX4_close_72 : decode cX4_close 72 = .ok (.iconst 0, 1) := by decide +kernel
theorem dX4_close_73 : decode cX4_close 73 = .ok (.iadd, 1) := by decide +kernel
theorem dX4_close_74 : decode cX4_close 74 = .ok (.istore_n 3, 1) := by decide +kernel
theorem dX4_close_75 : decode cX4_close 75 = .ok (.iinc 4 1, 3) := by decide +kernel
theorem dX4_close_78 : decode cX4_close 78 = .ok (.goto (-31), 3) := by decide +kernel
theorem dX4_close_81 : decode cX4_close 81 = .ok (.iload_n 3, 1) := by decide +kernel
theorem dX4_close_82 : decode cX4_close 82 = .ok (.ireturn, 1) := by decide +kernel
set_option maxRecDepth 20000 in
theorem ggX4_refer_X4_isThing : GoodIn wsX4_refer wsX4_isThing := goodIn_r _ [7, 8, 9, 10, 6, 11, 17, 18, 19, 20, 21, 22, 23, 24, 25, 26, 27, 28, 29, 30, 31, 32, 33, 34, 35, 36, 37, 38, 39, 40, 41, 42] (by decide +kernel) (by decide +kernel)
set_option maxRecDepth 20000 in
theorem gX4_refer_X4_isThing : GoodIn wsX4_refer (wsV RX4 90 RX4 yX4_isThing wsX4_isThing) := goodIn_app (goodIn_of _ (by decide +kernel)) ggX4_refer_X4_isThing
set_option maxRecDepth 20000 in
theorem ggX4_refer_X4_goes : GoodIn wsX4_refer wsX4_goes := goodIn_r _ [15, 16, 17, 18, 19, 20, 21, 22, 23, 24, 25, 26, 27, 28, 29, 30, 31, 32, 33, 34, 35, 36, 37, 38, 39, 40, 41, 42] (by decide +kernel) (by decide +kernel)
set_option maxRecDepth 20000 in
theorem gX4_refer_X4_goes : GoodIn wsX4_refer (wsV RX4 79 RX4 yX4_goes wsX4_goes) := goodIn_app (goodIn_of _ (by decide +kernel)) ggX4_refer_X4_goes
theorem dX4_refer_0 : decode cX4_refer 0 = .ok (.aload_n 0, 1) := by decide +kernel
theorem dX4_refer_1 : decode cX4_refer 1 = .ok (.aload_n 0, 1) := by decide +kernel
theorem dX4_refer_2 : decode cX4_refer 2 = .ok (.iload_n 1, 1) := by decide +kernel
theorem dX4_refer_3 : decode cX4_refer 3 = .ok (.invokevirtual 90, 3) := by decide +kernel
theorem dX4_refer_6 : decode cX4_refer 6 = .ok (.aload_n 0, 1) := by decide +kernel
theorem dX4_refer_7 : decode cX4_refer 7 = .ok (.getfield 93, 3) := by decide +kernel
theorem dX4_refer_10 : decode cX4_refer 10 = .ok (.bipush 6, 2) := by decide +kernel
theorem dX4_refer_12 : decode cX4_refer 12 = .ok (.if_icmp .ge 7, 3) := by decide +kernel
theorem dX4_refer_15 : decode cX4_refer 15 = .ok (.iconst 1, 1) := by decide +kernel
theorem dX4_refer_16 : decode cX4_refer 16 = .ok (.goto 4, 3) := by decide +kernel
theorem dX4_refer_19 : decode cX4_refer 19 = .ok (.iconst 0, 1) := by decide +kernel
theorem dX4_refer_20 : decode cX4_refer 20 = .ok (.iconst 1, 1) := by decide +kernel
theorem dX4_refer_21 : decode cX4_refer 21 = .ok (.invokevirtual 79, 3) := by decide +kernel
theorem dX4_refer_24 : decode cX4_refer 24 = .ok (.ifCond .ne 5, 3) := by decide +kernel
theorem dX4_refer_27 : decode cX4_refer 27 = .ok (.iconst 0, 1) := by decide +kernel
theorem dX4_refer_28 : decode cX4_refer 28 = .ok (.ireturn, 1) := by decide +kernel
theorem dX4_refer_29 : decode cX4_refer 29 = .ok (.aload_n 0, 1) := by decide +kernel
theorem dX4_refer_30 : decode cX4_refer 30 = .ok (.getfield 13, 3) := by decide +kernel
theorem dX4_refer_33 : decode cX4_refer 33 = .ok (.aload_n 0, 1) := by decide +kernel
theorem dX4_refer_34 : decode cX4_refer 34 = .ok (.getfield 93, 3) := by decide +kernel
theorem dX4_refer_37 : decode cX4_refer 37 = .ok (.iload_n 1, 1) := by decide +kernel
theorem dX4_refer_38 : decode cX4_refer 38 = .ok (.iastore, 1) := by decide +kernel
theorem dX4_refer_39 : decode cX4_refer 39 = .ok (.aload_n 0, 1) := by decide +kernel
theorem dX4_refer_40 : decode cX4_refer 40 = .ok (.dup, 1) := by decide +kernel
theorem dX4_refer_41 : decode cX4_refer 41 = .ok (.getfield 93, 3) := by decide +kernel
theorem dX4_refer_44 : decode cX4_refer 44 = .ok (.iconst 1, 1) := by decide +kernel
theorem dX4_refer_45 : decode cX4_refer 45 = .ok (.iadd, 1) := by decide +kernel
theorem dX4_refer_46 : decode cX4_refer 46 = .ok (.putfield 93, 3) := by decide +kernel
theorem dX4_refer_49 : decode cX4_refer 49 = .ok (.aload_n 0, 1) := by decide +kernel
theorem dX4_refer_50 : decode cX4_refer 50 = .ok (.getfield 93, 3) := by decide +kernel
theorem dX4_refer_53 : decode cX4_refer 53 = .ok (.ireturn, 1) := by decide +kernel
set_option maxRecDepth 20000 in
theorem ggX4_wipe_X4_told : GoodIn wsX4_wipe wsX4_told := goodIn_r _ [6, 7, 8, 9, 10, 11, 12, 13, 14, 15, 16, 17, 18, 19, 20, 21, 22, 23, 24, 25, 26, 27, 28, 29, 30, 31, 32, 33] (by decide +kernel) (by decide +kernel)
set_option maxRecDepth 20000 in
theorem gX4_wipe_X4_told : GoodIn wsX4_wipe (wsV RX4 96 RX4 yX4_told wsX4_told) := goodIn_app (goodIn_of _ (by decide +kernel)) ggX4_wipe_X4_told
theorem dX4_wipe_0 : decode cX4_wipe 0 = .ok (.aload_n 0, 1) := by decide +kernel
theorem dX4_wipe_1 : decode cX4_wipe 1 = .ok (.getfield 93, 3) := by decide +kernel
theorem dX4_wipe_4 : decode cX4_wipe 4 = .ok (.istore_n 1, 1) := by decide +kernel
theorem dX4_wipe_5 : decode cX4_wipe 5 = .ok (.aload_n 0, 1) := by decide +kernel
theorem dX4_wipe_6 : decode cX4_wipe 6 = .ok (.iconst 0, 1) := by decide +kernel
theorem dX4_wipe_7 : decode cX4_wipe 7 = .ok (.putfield 93, 3) := by decide +kernel
theorem dX4_wipe_10 : decode cX4_wipe 10 = .ok (.aload_n 0, 1) := by decide +kernel
theorem dX4_wipe_11 : decode cX4_wipe 11 = .ok (.iload_n 1, 1) := by decide +kernel
theorem dX4_wipe_12 : decode cX4_wipe 12 = .ok (.invokevirtual 96, 3) := by decide +kernel
theorem dX4_wipe_15 : decode cX4_wipe 15 = .ok (.ireturn, 1) := by decide +kernel
theorem dX4_asksDraft_0 : decode cX4_asksDraft 0 = .ok (.aload_n 0, 1) := by decide +kernel
theorem dX4_asksDraft_1 : decode cX4_asksDraft 1 = .ok (.aload_n 0, 1) := by decide +kernel
theorem dX4_asksDraft_2 : decode cX4_asksDraft 2 = .ok (.getfield 93, 3) := by decide +kernel
theorem dX4_asksDraft_5 : decode cX4_asksDraft 5 = .ok (.putfield 100, 3) := by decide +kernel
theorem dX4_asksDraft_8 : decode cX4_asksDraft 8 = .ok (.iconst 0, 1) := by decide +kernel
theorem dX4_asksDraft_9 : decode cX4_asksDraft 9 = .ok (.istore_n 1, 1) := by decide +kernel
theorem dX4_asksDraft_10 : decode cX4_asksDraft 10 = .ok (.iload_n 1, 1) := by decide +kernel
theorem dX4_asksDraft_11 : decode cX4_asksDraft 11 = .ok (.aload_n 0, 1) := by decide +kernel
theorem dX4_asksDraft_12 : decode cX4_asksDraft 12 = .ok (.getfield 93, 3) := by decide +kernel
theorem dX4_asksDraft_15 : decode cX4_asksDraft 15 = .ok (.if_icmp .ge 21, 3) := by decide +kernel
theorem dX4_asksDraft_18 : decode cX4_asksDraft 18 = .ok (.aload_n 0, 1) := by decide +kernel
theorem dX4_asksDraft_19 : decode cX4_asksDraft 19 = .ok (.getfield 62, 3) := by decide +kernel
theorem dX4_asksDraft_22 : decode cX4_asksDraft 22 = .ok (.iload_n 1, 1) := by decide +kernel
theorem dX4_asksDraft_23 : decode cX4_asksDraft 23 = .ok (.aload_n 0, 1) := by decide +kernel
theorem dX4_asksDraft_24 : decode cX4_asksDraft 24 = .ok (.getfield 13, 3) := by decide +kernel
theorem dX4_asksDraft_27 : decode cX4_asksDraft 27 = .ok (.iload_n 1, 1) := by decide +kernel
theorem dX4_asksDraft_28 : decode cX4_asksDraft 28 = .ok (.iaload, 1) := by decide +kernel
theorem dX4_asksDraft_29 : decode cX4_asksDraft 29 = .ok (.iastore, 1) := by decide +kernel
theorem dX4_asksDraft_30 : decode cX4_asksDraft 30 = .ok (.iinc 1 1, 3) := by decide +kernel
theorem dX4_asksDraft_33 : decode cX4_asksDraft 33 = .ok (.goto (-23), 3) := by decide +kernel
theorem dX4_asksDraft_36 : decode cX4_asksDraft 36 = .ok (.return_, 1) := by decide +kernel
theorem dX4_asksVersion_0 : decode cX4_asksVersion 0 = .ok (.aload_n 0, 1) := by decide +kernel
theorem dX4_asksVersion_1 : decode cX4_asksVersion 1 = .ok (.aload_n 0, 1) := by decide +kernel
theorem dX4_asksVersion_2 : decode cX4_asksVersion 2 = .ok (.getfield 50, 3) := by decide +kernel
theorem dX4_asksVersion_5 : decode cX4_asksVersion 5 = .ok (.iload_n 1, 1) := by decide +kernel
theorem dX4_asksVersion_6 : decode cX4_asksVersion 6 = .ok (.iaload, 1) := by decide +kernel
theorem dX4_asksVersion_7 : decode cX4_asksVersion 7 = .ok (.putfield 100, 3) := by decide +kernel
theorem dX4_asksVersion_10 : decode cX4_asksVersion 10 = .ok (.iconst 0, 1) := by decide +kernel
theorem dX4_asksVersion_11 : decode cX4_asksVersion 11 = .ok (.istore_n 2, 1) := by decide +kernel
theorem dX4_asksVersion_12 : decode cX4_asksVersion 12 = .ok (.iload_n 2, 1) := by decide +kernel
theorem dX4_asksVersion_13 : decode cX4_asksVersion 13 = .ok (.aload_n 0, 1) := by decide +kernel
theorem dX4_asksVersion_14 : decode cX4_asksVersion 14 = .ok (.getfield 100, 3) := by decide +kernel
theorem dX4_asksVersion_17 : decode cX4_asksVersion 17 = .ok (.if_icmp .ge 26, 3) := by decide +kernel
theorem dX4_asksVersion_20 : decode cX4_asksVersion 20 = .ok (.aload_n 0, 1) := by decide +kernel
theorem dX4_asksVersion_21 : decode cX4_asksVersion 21 = .ok (.getfield 62, 3) := by decide +kernel
theorem dX4_asksVersion_24 : decode cX4_asksVersion 24 = .ok (.iload_n 2, 1) := by decide +kernel
theorem dX4_asksVersion_25 : decode cX4_asksVersion 25 = .ok (.aload_n 0, 1) := by decide +kernel
theorem dX4_asksVersion_26 : decode cX4_asksVersion 26 = .ok (.getfield 53, 3) := by decide +kernel
theorem dX4_asksVersion_29 : decode cX4_asksVersion 29 = .ok (.bipush 6, 2) := by decide +kernel
theorem dX4_asksVersion_31 : decode cX4_asksVersion 31 = .ok (.iload_n 1, 1) := by decide +kernel
theorem dX4_asksVersion_32 : decode cX4_asksVersion 32 = .ok (.imul, 1) := by decide +kernel
theorem dX4_asksVersion_33 : decode cX4_asksVersion 33 = .ok (.iload_n 2, 1) := by decide +kernel
theorem dX4_asksVersion_34 : decode cX4_asksVersion 34 = .ok (.iadd, 1) := by decide +kernel
theorem dX4_asksVersion_35 : decode cX4_asksVersion 35 = .ok (.iaload, 1) := by decide +kernel
theorem dX4_asksVersion_36 : decode cX4_asksVersion 36 = .ok (.iastore, 1) := by decide +kernel
theorem dX4_asksVersion_37 : decode cX4_asksVersion 37 = .ok (.iinc 2 1, 3) := by decide +kernel
theorem dX4_asksVersion_40 : decode cX4_asksVersion 40 = .ok (.goto (-28), 3) := by decide +kernel
theorem dX4_asksVersion_43 : decode cX4_asksVersion 43 = .ok (.return_, 1) := by decide +kernel
set_option maxRecDepth 20000 in
theorem ggX4_isUnlike_X4_is : GoodIn wsX4_isUnlike wsX4_is := goodIn_r _ [8, 9, 10, 11, 12, 13, 14, 15, 16, 17, 18, 19, 20, 21, 22, 23, 24, 25, 26, 27, 28, 29, 30, 31, 32, 33, 34, 35, 36] (by decide +kernel) (by decide +kernel)
set_option maxRecDepth 20000 in
theorem gX4_isUnlike_X4_is : GoodIn wsX4_isUnlike (wsV RX4 103 RX4 yX4_is wsX4_is) := goodIn_app (goodIn_of _ (by decide +kernel)) ggX4_isUnlike_X4_is
theorem dX4_isUnlike_0 : decode cX4_isUnlike 0 = .ok (.aload_n 0, 1) := by decide +kernel
theorem dX4_isUnlike_1 : decode cX4_isUnlike 1 = .ok (.getfield 100, 3) := by decide +kernel
theorem dX4_isUnlike_4 : decode cX4_isUnlike 4 = .ok (.iload_n 1, 1) := by decide +kernel
theorem dX4_isUnlike_5 : decode cX4_isUnlike 5 = .ok (.iconst 1, 1) := by decide +kernel
theorem dX4_isUnlike_6 : decode cX4_isUnlike 6 = .ok (.if_icmp .ne 7, 3) := by decide +kernel
theorem dX4_isUnlike_9 : decode cX4_isUnlike 9 = .ok (.iconst 2, 1) := by decide +kernel
theorem dX4_isUnlike_10 : decode cX4_isUnlike 10 = .ok (.goto 4, 3) := by decide +kernel
theorem dX4_isUnlike_13 : decode cX4_isUnlike 13 = .ok (.iconst 1, 1) := by decide +kernel
theorem dX4_isUnlike_14 : decode cX4_isUnlike 14 = .ok (.if_icmp .ge 7, 3) := by decide +kernel
theorem dX4_isUnlike_17 : decode cX4_isUnlike 17 = .ok (.iconst 1, 1) := by decide +kernel
theorem dX4_isUnlike_18 : decode cX4_isUnlike 18 = .ok (.goto 4, 3) := by decide +kernel
theorem dX4_isUnlike_21 : decode cX4_isUnlike 21 = .ok (.iconst 0, 1) := by decide +kernel
theorem dX4_isUnlike_22 : decode cX4_isUnlike 22 = .ok (.istore_n 2, 1) := by decide +kernel
theorem dX4_isUnlike_23 : decode cX4_isUnlike 23 = .ok (.iconst 0, 1) := by decide +kernel
theorem dX4_isUnlike_24 : decode cX4_isUnlike 24 = .ok (.istore_n 3, 1) := by decide +kernel
theorem dX4_isUnlike_25 : decode cX4_isUnlike 25 = .ok (.iload_n 3, 1) := by decide +kernel
theorem dX4_isUnlike_26 : decode cX4_isUnlike 26 = .ok (.aload_n 0, 1) := by decide +kernel
theorem dX4_isUnlike_27 : decode cX4_isUnlike 27 = .ok (.getfield 100, 3) := by decide +kernel
theorem dX4_isUnlike_30 : decode cX4_isUnlike 30 = .ok (.if_icmp .ge 51, 3) := by decide +kernel
theorem dX4_isUnlike_33 : decode cX4_isUnlike 33 = .ok (.iload_n 2, 1) := by decide +kernel
theorem dX4_isUnlike_34 : decode cX4_isUnlike 34 = .ok (.ifCond .ne 35, 3) := by decide +kernel
theorem dX4_isUnlike_37 : decode cX4_isUnlike 37 = .ok (.aload_n 0, 1) := by decide +kernel
theorem dX4_isUnlike_38 : decode cX4_isUnlike 38 = .ok (.aload_n 0, 1) := by decide +kernel
theorem dX4_isUnlike_39 : decode cX4_isUnlike 39 = .ok (.getfield 62, 3) := by decide +kernel
theorem dX4_isUnlike_42 : decode cX4_isUnlike 42 = .ok (.iload_n 3, 1) := by decide +kernel
theorem dX4_isUnlike_43 : decode cX4_isUnlike 43 = .ok (.iaload, 1) := by decide +kernel
theorem dX4_isUnlike_44 : decode cX4_isUnlike 44 = .ok (.invokevirtual 103, 3) := by decide +kernel
theorem dX4_isUnlike_47 : decode cX4_isUnlike 47 = .ok (.ifCond .eq 22, 3) := by decide +kernel
theorem dX4_isUnlike_50 : decode cX4_isUnlike 50 = .ok (.iload_n 1, 1) := by decide +kernel
theorem dX4_isUnlike_51 : decode cX4_isUnlike 51 = .ok (.iconst 1, 1) := by decide +kernel
theorem dX4_isUnlike_52 : decode cX4_isUnlike 52 = .ok (.if_icmp .ne 21, 3) := by decide +kernel
theorem dX4_isUnlike_55 : decode cX4_isUnlike 55 = .ok (.aload_n 0, 1) := by decide +kernel
theorem dX4_isUnlike_56 : decode cX4_isUnlike 56 = .ok (.getfield 17, 3) := by decide +kernel
theorem dX4_isUnlike_59 : decode cX4_isUnlike 59 = .ok (.aload_n 0, 1) := by decide +kernel
theorem dX4_isUnlike_60 : decode cX4_isUnlike 60 = .ok (.getfield 62, 3) := by decide +kernel
theorem dX4_isUnlike_63 : decode cX4_isUnlike 63 = .ok (.iload_n 3, 1) := by decide +kernel
theorem dX4_isUnlike_64 : decode cX4_isUnlike 64 = .ok (.iaload, 1) := by decide +kernel
theorem dX4_isUnlike_65 : decode cX4_isUnlike 65 = .ok (.iaload, 1) := by decide +kernel
theorem dX4_isUnlike_66 : decode cX4_isUnlike 66 = .ok (.ifCond .eq 7, 3) := by decide +kernel
theorem dX4_isUnlike_69 : decode cX4_isUnlike 69 = .ok (.iconst 1, 1) := by decide +kernel
theorem dX4_isUnlike_70 : decode cX4_isUnlike 70 = .ok (.goto 4, 3) := by decide +kernel
theorem dX4_isUnlike_73 : decode cX4_isUnlike 73 = .ok (.iconst 0, 1) := by decide +kernel
theorem dX4_isUnlike_74 : decode cX4_isUnlike 74 = .ok (.istore_n 2, 1) := by decide +kernel
theorem dX4_isUnlike_75 : decode cX4_isUnlike 75 = .ok (.iinc 3 1, 3) := by decide +kernel
theorem dX4_isUnlike_78 : decode cX4_isUnlike 78 = .ok (.goto (-53), 3) := by decide +kernel
theorem dX4_isUnlike_81 : decode cX4_isUnlike 81 = .ok (.iload_n 2, 1) := by decide +kernel
theorem dX4_isUnlike_82 : decode cX4_isUnlike 82 = .ok (.ireturn, 1) := by decide +kernel
set_option maxRecDepth 20000 in
theorem ggX4_hasMember_X4_is : GoodIn wsX4_hasMember wsX4_is := goodIn_r _ [8, 9, 2, 10, 11, 12, 13, 14, 15, 16, 17, 18, 19, 20, 21, 22, 23, 24, 25, 26, 27, 28, 29, 30, 31, 32, 33, 34, 35] (by decide +kernel) (by decide +kernel)
set_option maxRecDepth 20000 in
theorem gX4_hasMember_X4_is : GoodIn wsX4_hasMember (wsV RX4 103 RX4 yX4_is wsX4_is) := goodIn_app (goodIn_of _ (by decide +kernel)) ggX4_hasMember_X4_is
theorem dX4_hasMember_0 : decode cX4_hasMember 0 = .ok (.iconst 0, 1) := by decide +kernel
theorem dX4_hasMember_1 : decode cX4_hasMember 1 = .ok (.istore_n 3, 1) := by decide +kernel
theorem dX4_hasMember_2 : decode cX4_hasMember 2 = .ok (.iconst 0, 1) := by decide +kernel
theorem dX4_hasMember_3 : decode cX4_hasMember 3 = .ok (.istore 4, 2) := by decide +kernel
theorem dX4_hasMember_5 : decode cX4_hasMember 5 = .ok (.iload 4, 2) := by decide +kernel
theorem dX4_hasMember_7 : decode cX4_hasMember 7 = .ok (.aload_n 0, 1) := by decide +kernel
theorem dX4_hasMember_8 : decode cX4_hasMember 8 = .ok (.getfield 50, 3) := by decide +kernel
theorem dX4_hasMember_11 : decode cX4_hasMember 11 = .ok (.aload_n 0, 1) := by decide +kernel
theorem dX4_hasMember_12 : decode cX4_hasMember 12 = .ok (.getfield 20, 3) := by decide +kernel
theorem dX4_hasMember_15 : decode cX4_hasMember 15 = .ok (.iload_n 1, 1) := by decide +kernel
theorem dX4_hasMember_16 : decode cX4_hasMember 16 = .ok (.iaload, 1) := by decide +kernel
theorem dX4_hasMember_17 : decode cX4_hasMember 17 = .ok (.iaload, 1) := by decide +kernel
theorem dX4_hasMember_18 : decode cX4_hasMember 18 = .ok (.if_icmp .ge 40, 3) := by decide +kernel
theorem dX4_hasMember_21 : decode cX4_hasMember 21 = .ok (.iload_n 3, 1) := by decide +kernel
theorem dX4_hasMember_22 : decode cX4_hasMember 22 = .ok (.ifCond .ne 24, 3) := by decide +kernel
theorem dX4_hasMember_25 : decode cX4_hasMember 25 = .ok (.aload_n 0, 1) := by decide +kernel
theorem dX4_hasMember_26 : decode cX4_hasMember 26 = .ok (.getfield 53, 3) := by decide +kernel
theorem dX4_hasMember_29 : decode cX4_hasMember 29 = .ok (.bipush 6, 2) := by decide +kernel
theorem dX4_hasMember_31 : decode cX4_hasMember 31 = .ok (.aload_n 0, 1) := by decide +kernel
theorem dX4_hasMember_32 : decode cX4_hasMember 32 = .ok (.getfield 20, 3) := by decide +kernel
theorem dX4_hasMember_35 : decode cX4_hasMember 35 = .ok (.iload_n 1, 1) := by decide +kernel
theorem dX4_hasMember_36 : decode cX4_hasMember 36 = .ok (.iaload, 1) := by decide +kernel
theorem dX4_hasMember_37 : decode cX4_hasMember 37 = .ok (.imul, 1) := by decide +kernel
theorem dX4_hasMember_38 : decode cX4_hasMember 38 = .ok (.iload 4, 2) := by decide +kernel
theorem dX4_hasMember_40 : decode cX4_hasMember 40 = .ok (.iadd, 1) := by decide +kernel
theorem dX4_hasMember_41 : decode cX4_hasMember 41 = .ok (.iaload, 1) := by decide +kernel
theorem dX4_hasMember_42 : decode cX4_hasMember 42 = .ok (.iload_n 2, 1) := by decide +kernel
theorem dX4_hasMember_43 : decode cX4_hasMember 43 = .ok (.if_icmp .ne 7, 3) := by decide +kernel
theorem dX4_hasMember_46 : decode cX4_hasMember 46 = .ok (.iconst 1, 1) := by decide +kernel
theorem dX4_hasMember_47 : decode cX4_hasMember 47 = .ok (.goto 4, 3) := by decide +kernel
theorem dX4_hasMember_50 : decode cX4_hasMember 50 = .ok (.iconst 0, 1) := by decide +kernel
theorem dX4_hasMember_51 : decode cX4_hasMember 51 = .ok (.istore_n 3, 1) := by decide +kernel
theorem dX4_hasMember_52 : decode cX4_hasMember 52 = .ok (.iinc 4 1, 3) := by decide +kernel
theorem dX4_hasMember_55 : decode cX4_hasMember 55 = .ok (.goto (-50), 3) := by decide +kernel
theorem dX4_hasMember_58 : decode cX4_hasMember 58 = .ok (.aload_n 0, 1) := by decide +kernel
theorem dX4_hasMember_59 : decode cX4_hasMember 59 = .ok (.iload_n 1, 1) := by decide +kernel
theorem dX4_hasMember_60 : decode cX4_hasMember 60 = .ok (.invokevirtual 103, 3) := by decide +kernel
theorem dX4_hasMember_63 : decode cX4_hasMember 63 = .ok (.ifCond .eq 11, 3) := by decide +kernel
theorem dX4_hasMember_66 : decode cX4_hasMember 66 = .ok (.iload_n 3, 1) := by decide +kernel
theorem dX4_hasMember_67 : decode cX4_hasMember 67 = .ok (.ifCond .eq 7, 3) := by decide +kernel
theorem dX4_hasMember_70 : decode cX4_hasMember 70 = .ok (.iconst 1, 1) := by decide +kernel
theorem dX4_hasMember_71 : decode cX4_hasMember 71 = .ok (.goto 4, 3) := by decide +kernel
theorem dX4_hasMember_74 : decode cX4_hasMember 74 = .ok (.iconst 0, 1) := by decide +kernel
theorem dX4_hasMember_75 : decode cX4_hasMember 75 = .ok (.ireturn, 1) := by decide +kernel
set_option maxRecDepth 20000 in
theorem ggX4_isRing_X4_hasMember : GoodIn wsX4_isRing wsX4_hasMember := goodIn_r _ [10, 11, 12, 13, 14, 15, 16, 9, 17, 18, 19, 20, 21, 22, 23, 24, 25, 26, 27, 28, 29, 30, 31, 32, 33, 34, 35, 36, 37, 38, 39, 40, 41, 42, 43, 44] (by decide +kernel) (by decide +kernel)
set_option maxRecDepth 20000 in
theorem gX4_isRing_X4_hasMember : GoodIn wsX4_isRing (wsV RX4 106 RX4 yX4_hasMember wsX4_hasMember) := goodIn_app (goodIn_of _ (by decide +kernel)) ggX4_isRing_X4_hasMember
theorem dX4_isRing_0 : decode cX4_isRing 0 = .ok (.aload_n 0, 1) := by decide +kernel
theorem dX4_isRing_1 : decode cX4_isRing 1 = .ok (.getfield 17, 3) := by decide +kernel
theorem dX4_isRing_4 : decode cX4_isRing 4 = .ok (.iload_n 1, 1) := by decide +kernel
theorem dX4_isRing_5 : decode cX4_isRing 5 = .ok (.iaload, 1) := by decide +kernel
theorem dX4_isRing_6 : decode cX4_isRing 6 = .ok (.iconst 2, 1) := by decide +kernel
theorem dX4_isRing_7 : decode cX4_isRing 7 = .ok (.if_icmp .eq 5, 3) := by decide +kernel
theorem dX4_isRing_10 : decode cX4_isRing 10 = .ok (.iconst 0, 1) := by decide +kernel
theorem dX4_isRing_11 : decode cX4_isRing 11 = .ok (.ireturn, 1) := by decide +kernel
theorem dX4_isRing_12 : decode cX4_isRing 12 = .ok (.iconst 0, 1) := by decide +kernel
theorem dX4_isRing_13 : decode cX4_isRing 13 = .ok (.istore_n 2, 1) := by decide +kernel
theorem dX4_isRing_14 : decode cX4_isRing 14 = .ok (.iload_n 2, 1) := by decide +kernel
theorem dX4_isRing_15 : decode cX4_isRing 15 = .ok (.aload_n 0, 1) := by decide +kernel
theorem dX4_isRing_16 : decode cX4_isRing 16 = .ok (.getfield 69, 3) := by decide +kernel
theorem dX4_isRing_19 : decode cX4_isRing 19 = .ok (.if_icmp .ge 16, 3) := by decide +kernel
theorem dX4_isRing_22 : decode cX4_isRing 22 = .ok (.aload_n 0, 1) := by decide +kernel
theorem dX4_isRing_23 : decode cX4_isRing 23 = .ok (.getfield 56, 3) := by decide +kernel
theorem dX4_isRing_26 : decode cX4_isRing 26 = .ok (.iload_n 2, 1) := by decide +kernel
theorem dX4_isRing_27 : decode cX4_isRing 27 = .ok (.iconst 0, 1) := by decide +kernel
theorem dX4_isRing_28 : decode cX4_isRing 28 = .ok (.bastore, 1) := by decide +kernel
theorem dX4_isRing_29 : decode cX4_isRing 29 = .ok (.iinc 2 1, 3) := by decide +kernel
theorem dX4_isRing_32 : decode cX4_isRing 32 = .ok (.goto (-18), 3) := by decide +kernel
theorem dX4_isRing_35 : decode cX4_isRing 35 = .ok (.iconst 0, 1) := by decide +kernel
theorem dX4_isRing_36 : decode cX4_isRing 36 = .ok (.istore_n 2, 1) := by decide +kernel
theorem dX4_isRing_37 : decode cX4_isRing 37 = .ok (.iload_n 2, 1) := by decide +kernel
theorem dX4_isRing_38 : decode cX4_isRing 38 = .ok (.aload_n 0, 1) := by decide +kernel
theorem dX4_isRing_39 : decode cX4_isRing 39 = .ok (.getfield 100, 3) := by decide +kernel
theorem dX4_isRing_42 : decode cX4_isRing 42 = .ok (.if_icmp .ge 40, 3) := by decide +kernel
theorem dX4_isRing_45 : decode cX4_isRing 45 = .ok (.aload_n 0, 1) := by decide +kernel
theorem dX4_isRing_46 : decode cX4_isRing 46 = .ok (.getfield 56, 3) := by decide +kernel
theorem dX4_isRing_49 : decode cX4_isRing 49 = .ok (.aload_n 0, 1) := by decide +kernel
theorem dX4_isRing_50 : decode cX4_isRing 50 = .ok (.getfield 62, 3) := by decide +kernel
theorem dX4_isRing_53 : decode cX4_isRing 53 = .ok (.iload_n 2, 1) := by decide +kernel
theorem dX4_isRing_54 : decode cX4_isRing 54 = .ok (.iaload, 1) := by decide +kernel
theorem dX4_isRing_55 : decode cX4_isRing 55 = .ok (.aload_n 0, 1) := by decide +kernel
theorem dX4_isRing_56 : decode cX4_isRing 56 = .ok (.getfield 17, 3) := by decide +kernel
theorem dX4_isRing_59 : decode cX4_isRing 59 = .ok (.aload_n 0, 1) := by decide +kernel
theorem dX4_isRing_60 : decode cX4_isRing 60 = .ok (.getfield 62, 3) := by decide +kernel
theorem dX4_isRing_63 : decode cX4_isRing 63 = .ok (.iload_n 2, 1) := by decide +kernel
theorem dX4_isRing_64 : decode cX4_isRing 64 = .ok (.iaload, 1) := by decide +kernel
theorem dX4_isRing_65 : decode cX4_isRing 65 = .ok (.iaload, 1) := by decide +kernel
theorem dX4_isRing_66 : decode cX4_isRing 66 = .ok (.iconst 2, 1) := by decide +kernel
theorem dX4_isRing_67 : decode cX4_isRing 67 = .ok (.if_icmp .ne 7, 3) := by decide +kernel
theorem dX4_isRing_70 : decode cX4_isRing 70 = .ok (.iconst 1, 1) := by decide +kernel
theorem dX4_isRing_71 : decode cX4_isRing 71 = .ok (.goto 4, 3) := by decide +kernel
theorem dX4_isRing_74 : decode cX4_isRing 74 = .ok (.iconst 0, 1) := by decide +kernel
theorem dX4_isRing_75 : decode cX4_isRing 75 = .ok (.bastore, 1) := by decide +kernel
theorem dX4_isRing_76 : decode cX4_isRing 76 = .ok (.iinc 2 1, 3) := by decide +kernel
theorem dX4_isRing_79 : decode cX4_isRing 79 = .ok (.goto (-42), 3) := by decide +kernel
theorem dX4_isRing_82 : decode cX4_isRing 82 = .ok (.iconst 0, 1) := by decide +kernel
theorem dX4_isRing_83 : decode cX4_isRing 83 = .ok (.istore_n 2, 1) := by decide +kernel
theorem dX4_isRing_84 : decode cX4_isRing 84 = .ok (.iload_n 2, 1) := by decide +kernel
theorem dX4_isRing_85 : decode cX4_isRing 85 = .ok (.aload_n 0, 1) := by decide +kernel
theorem dX4_isRing_86 : decode cX4_isRing 86 = .ok (.getfield 69, 3) := by decide +kernel
theorem dX4_isRing_89 : decode cX4_isRing 89 = .ok (.if_icmp .ge 100, 3) := by decide +kernel
theorem dX4_isRing_92 : decode cX4_isRing 92 = .ok (.iconst 0, 1) := by decide +kernel
theorem dX4_isRing_93 : decode cX4_isRing 93 = .ok (.istore_n 3, 1) := by decide +kernel
theorem dX4_isRing_94 : decode cX4_isRing 94 = .ok (.iload_n 3, 1) := by decide +kernel
theorem dX4_isRing_95 : decode cX4_isRing 95 = .ok (.aload_n 0, 1) := by decide +kernel
theorem dX4_isRing_96 : decode cX4_isRing 96 = .ok (.getfield 69, 3) := by decide +kernel
theorem dX4_isRing_99 : decode cX4_isRing 99 = .ok (.if_icmp .ge 84, 3) := by decide +kernel
theorem dX4_isRing_102 : decode cX4_isRing 102 = .ok (.iconst 0, 1) := by decide +kernel
theorem dX4_isRing_103 : decode cX4_isRing 103 = .ok (.istore 4, 2) := by decide +kernel
theorem dX4_isRing_105 : decode cX4_isRing 105 = .ok (.iload 4, 2) := by decide +kernel
theorem dX4_isRing_107 : decode cX4_isRing 107 = .ok (.aload_n 0, 1) := by decide +kernel
theorem dX4_isRing_108 : decode cX4_isRing 108 = .ok (.getfield 69, 3) := by decide +kernel
theorem dX4_isRing_111 : decode cX4_isRing 111 = .ok (.if_icmp .ge 66, 3) := by decide +kernel
theorem dX4_isRing_114 : decode cX4_isRing 114 = .ok (.aload_n 0, 1) := by decide +kernel
theorem dX4_isRing_115 : decode cX4_isRing 115 = .ok (.getfield 56, 3) := by decide +kernel
theorem dX4_isRing_118 : decode cX4_isRing 118 = .ok (.iload 4, 2) := by decide +kernel
theorem dX4_isRing_120 : decode cX4_isRing 120 = .ok (.aload_n 0, 1) := by decide +kernel
theorem dX4_isRing_121 : decode cX4_isRing 121 = .ok (.getfield 56, 3) := by decide +kernel
theorem dX4_isRing_124 : decode cX4_isRing 124 = .ok (.iload 4, 2) := by decide +kernel
theorem dX4_isRing_126 : decode cX4_isRing 126 = .ok (.baload, 1) := by decide +kernel
theorem dX4_isRing_127 : decode cX4_isRing 127 = .ok (.ifCond .ne 38, 3) := by decide +kernel
theorem dX4_isRing_130 : decode cX4_isRing 130 = .ok (.aload_n 0, 1) := by decide +kernel
theorem dX4_isRing_131 : decode cX4_isRing 131 = .ok (.getfield 56, 3) := by decide +kernel
theorem dX4_isRing_134 : decode cX4_isRing 134 = .ok (.iload_n 3, 1) := by decide +kernel
theorem dX4_isRing_135 : decode cX4_isRing 135 = .ok (.baload, 1) := by decide +kernel
theorem dX4_isRing_136 : decode cX4_isRing 136 = .ok (.ifCond .eq 33, 3) := by decide +kernel
theorem dX4_isRing_139 : decode cX4_isRing 139 = .ok (.iload_n 3, 1) := by decide +kernel
theorem dX4_isRing_140 : decode cX4_isRing 140 = .ok (.iload_n 1, 1) := by decide +kernel
theorem dX4_isRing_141 : decode cX4_isRing 141 = .ok (.if_icmp .eq 28, 3) := by decide +kernel
theorem dX4_isRing_144 : decode cX4_isRing 144 = .ok (.aload_n 0, 1) := by decide +kernel
theorem dX4_isRing_145 : decode cX4_isRing 145 = .ok (.getfield 17, 3) := by decide +kernel
theorem dX4_isRing_148 : decode cX4_isRing 148 = .ok (.iload 4, 2) := by decide +kernel
theorem dX4_isRing_150 : decode cX4_isRing 150 = .ok (.iaload, 1) := by decide +kernel
theorem dX4_isRing_151 : decode cX4_isRing 151 = .ok (.iconst 2, 1) := by decide +kernel
theorem dX4_isRing_152 : decode cX4_isRing 152 = .ok (.if_icmp .ne 17, 3) := by decide +kernel
theorem dX4_isRing_155 : decode cX4_isRing 155 = .ok (.aload_n 0, 1) := by decide +kernel
theorem dX4_isRing_156 : decode cX4_isRing 156 = .ok (.iload_n 3, 1) := by decide +kernel
theorem dX4_isRing_157 : decode cX4_isRing 157 = .ok (.iload 4, 2) := by decide +kernel
theorem dX4_isRing_159 : decode cX4_isRing 159 = .ok (.invokevirtual 106, 3) := by decide +kernel
theorem dX4_isRing_162 : decode cX4_isRing 162 = .ok (.ifCond .eq 7, 3) := by decide +kernel
theorem dX4_isRing_165 : decode cX4_isRing 165 = .ok (.iconst 1, 1) := by decide +kernel
theorem dX4_isRing_166 : decode cX4_isRing 166 = .ok (.goto 4, 3) := by decide +kernel
theorem dX4_isRing_169 : decode cX4_isRing 169 = .ok (.iconst 0, 1) := by decide +kernel
theorem dX4_isRing_170 : decode cX4_isRing 170 = .ok (.bastore, 1) := by decide +kernel
theorem dX4_isRing_171 : decode cX4_isRing 171 = .ok (.iinc 4 1, 3) := by decide +kernel
theorem dX4_isRing_174 : decode cX4_isRing 174 = .ok (.goto (-69), 3) := by decide +kernel
theorem dX4_isRing_177 : decode cX4_isRing 177 = .ok (.iinc 3 1, 3) := by decide +kernel
theorem dX4_isRing_180 : decode cX4_isRing 180 = .ok (.goto (-86), 3) := by decide +kernel
theorem dX4_isRing_183 : decode cX4_isRing 183 = .ok (.iinc 2 1, 3) := by decide +kernel
theorem dX4_isRing_186 : decode cX4_isRing 186 = .ok (.goto (-102), 3) := by decide +kernel
theorem dX4_isRing_189 : decode cX4_isRing 189 = .ok (.aload_n 0, 1) := by decide +kernel
theorem dX4_isRing_190 : decode cX4_isRing 190 = .ok (.getfield 56, 3) := by decide +kernel
theorem dX4_isRing_193 : decode cX4_isRing 193 = .ok (.iload_n 1, 1) := by decide +kernel
theorem dX4_isRing_194 : decode cX4_isRing 194 = .ok (.baload, 1) := by decide +kernel
theorem dX4_isRing_195 : decode cX4_isRing 195 = .ok (.ireturn, 1) := by decide +kernel
set_option maxRecDepth 20000 in
theorem ggX4_users_X4_hasMember : GoodIn wsX4_users wsX4_hasMember := goodIn_r _ [6, 7, 8, 9, 10, 11, 12, 5, 13, 14, 15, 16, 17, 18, 19, 20, 21, 22, 23, 24, 25, 26, 27, 28, 29, 30, 31, 32, 33, 34, 35, 36, 37, 38, 39, 40] (by decide +kernel) (by decide +kernel)
set_option maxRecDepth 20000 in
theorem gX4_users_X4_hasMember : GoodIn wsX4_users (wsV RX4 106 RX4 yX4_hasMember wsX4_hasMember) := goodIn_app (goodIn_of _ (by decide +kernel)) ggX4_users_X4_hasMember
theorem dX4_users_0 : decode cX4_users 0 = .ok (.iconst 0, 1) := by decide +kernel
theorem dX4_users_1 : decode cX4_users 1 = .ok (.istore_n 2, 1) := by decide +kernel
theorem dX4_users_2 : decode cX4_users 2 = .ok (.iconst 0, 1) := by decide +kernel
theorem dX4_users_3 : decode cX4_users 3 = .ok (.istore_n 3, 1) := by decide +kernel
theorem dX4_users_4 : decode cX4_users 4 = .ok (.iload_n 3, 1) := by decide +kernel
theorem dX4_users_5 : decode cX4_users 5 = .ok (.aload_n 0, 1) := by decide +kernel
theorem dX4_users_6 : decode cX4_users 6 = .ok (.getfield 69, 3) := by decide +kernel
theorem dX4_users_9 : decode cX4_users 9 = .ok (.if_icmp .ge 26, 3) := by decide +kernel
theorem dX4_users_12 : decode cX4_users 12 = .ok (.iload_n 2, 1) := by decide +kernel
theorem dX4_users_13 : decode cX4_users 13 = .ok (.aload_n 0, 1) := by decide +kernel
theorem dX4_users_14 : decode cX4_users 14 = .ok (.iload_n 3, 1) := by decide +kernel
theorem dX4_users_15 : decode cX4_users 15 = .ok (.iload_n 1, 1) := by decide +kernel
theorem dX4_users_16 : decode cX4_users 16 = .ok (.invokevirtual 106, 3) := by decide +kernel
theorem dX4_users_19 : decode cX4_users 19 = .ok (.ifCond .eq 7, 3) := by decide +kernel
theorem dX4_users_22 : decode cX4_users 22 = .ok (.iconst 1, 1) := by decide +kernel
theorem dX4_users_23 : decode cX4_users 23 = .ok (.goto 4, 3) := by decide +kernel
theorem dX4_users_26 : decode cX4_users 26 = .ok (.iconst 0, 1) := by decide +kernel
theorem dX4_users_27 : decode cX4_users 27 = .ok (.iadd, 1) := by decide +kernel
theorem dX4_users_28 : decode cX4_users 28 = .ok (.istore_n 2, 1) := by decide +kernel
theorem dX4_users_29 : decode cX4_users 29 = .ok (.iinc 3 1, 3) := by decide +kernel
theorem dX4_users_32 : decode cX4_users 32 = .ok (.goto (-28), 3) := by decide +kernel
theorem dX4_users_35 : decode cX4_users 35 = .ok (.iload_n 2, 1) := by decide +kernel
theorem dX4_users_36 : decode cX4_users 36 = .ok (.ireturn, 1) := by decide +kernel
theorem dX4_makes_0 : decode cX4_makes 0 = .ok (.aload_n 0, 1) := by decide +kernel
theorem dX4_makes_1 : decode cX4_makes 1 = .ok (.getfield 26, 3) := by decide +kernel
theorem dX4_makes_4 : decode cX4_makes 4 = .ok (.aload_n 0, 1) := by decide +kernel
theorem dX4_makes_5 : decode cX4_makes 5 = .ok (.getfield 87, 3) := by decide +kernel
theorem dX4_makes_8 : decode cX4_makes 8 = .ok (.iload_n 2, 1) := by decide +kernel
theorem dX4_makes_9 : decode cX4_makes 9 = .ok (.iastore, 1) := by decide +kernel
theorem dX4_makes_10 : decode cX4_makes 10 = .ok (.aload_n 0, 1) := by decide +kernel
