theorem dX4_versionAt_26 : decode cX4_versionAt 26 = .ok (.iadd, 1) := by decide +kernel
theorem dX4_versionAt_27 : decode cX4_versionAt 27 = .ok (.invokevirtual 149, 3) := by decide +kernel
theorem dX4_versionAt_30 : decode cX4_versionAt 30 = .ok (.goto 4, 3) := by decide +kernel
theorem dX4_versionAt_33 : decode cX4_versionAt 33 = .ok (.iconst 0, 1) := by decide +kernel
theorem dX4_versionAt_34 : decode cX4_versionAt 34 = .ok (.ireturn, 1) := by decide +kernel
set_option maxRecDepth 20000 in
theorem ggX4_usesDrawn_X4_hasMember : GoodIn wsX4_usesDrawn wsX4_hasMember := goodIn_r _ [8, 9, 10, 11, 12, 13, 14, 7, 15, 16, 17, 18, 19, 20, 21, 22, 23, 24, 25, 26, 27, 28, 29, 30, 31, 32, 33, 34, 35, 36, 37, 38, 39, 40, 41, 42] (by decide +kernel) (by decide +kernel)
set_option maxRecDepth 20000 in
theorem gX4_usesDrawn_X4_hasMember : GoodIn wsX4_usesDrawn (wsV RX4 106 RX4 yX4_hasMember wsX4_hasMember) := goodIn_app (goodIn_of _ (by decide +kernel)) ggX4_usesDrawn_X4_hasMember
theorem dX4_usesDrawn_0 : decode cX4_usesDrawn 0 = .ok (.iconst 0, 1) := by decide +kernel
theorem dX4_usesDrawn_1 : decode cX4_usesDrawn 1 = .ok (.istore 4, 2) := by decide +kernel
theorem dX4_usesDrawn_3 : decode cX4_usesDrawn 3 = .ok (.iconst 0, 1) := by decide +kernel
theorem dX4_usesDrawn_4 : decode cX4_usesDrawn 4 = .ok (.istore 5, 2) := by decide +kernel
theorem dX4_usesDrawn_6 : decode cX4_usesDrawn 6 = .ok (.iload 5, 2) := by decide +kernel
theorem dX4_usesDrawn_8 : decode cX4_usesDrawn 8 = .ok (.aload_n 0, 1) := by decide +kernel
theorem dX4_usesDrawn_9 : decode cX4_usesDrawn 9 = .ok (.getfield 69, 3) := by decide +kernel
theorem dX4_usesDrawn_12 : decode cX4_usesDrawn 12 = .ok (.if_icmp .ge 63, 3) := by decide +kernel
theorem dX4_usesDrawn_15 : decode cX4_usesDrawn 15 = .ok (.iload 4, 2) := by decide +kernel
theorem dX4_usesDrawn_17 : decode cX4_usesDrawn 17 = .ok (.ifCond .ne 45, 3) := by decide +kernel
theorem dX4_usesDrawn_20 : decode cX4_usesDrawn 20 = .ok (.aload_n 0, 1) := by decide +kernel
theorem dX4_usesDrawn_21 : decode cX4_usesDrawn 21 = .ok (.getfield 59, 3) := by decide +kernel
theorem dX4_usesDrawn_24 : decode cX4_usesDrawn 24 = .ok (.iload 5, 2) := by decide +kernel
theorem dX4_usesDrawn_26 : decode cX4_usesDrawn 26 = .ok (.baload, 1) := by decide +kernel
theorem dX4_usesDrawn_27 : decode cX4_usesDrawn 27 = .ok (.ifCond .eq 39, 3) := by decide +kernel
theorem dX4_usesDrawn_30 : decode cX4_usesDrawn 30 = .ok (.aload_n 0, 1) := by decide +kernel
theorem dX4_usesDrawn_31 : decode cX4_usesDrawn 31 = .ok (.getfield 17, 3) := by decide +kernel
theorem dX4_usesDrawn_34 : decode cX4_usesDrawn 34 = .ok (.iload 5, 2) := by decide +kernel
theorem dX4_usesDrawn_36 : decode cX4_usesDrawn 36 = .ok (.iaload, 1) := by decide +kernel
theorem dX4_usesDrawn_37 : decode cX4_usesDrawn 37 = .ok (.iload_n 2, 1) := by decide +kernel
theorem dX4_usesDrawn_38 : decode cX4_usesDrawn 38 = .ok (.if_icmp .eq 14, 3) := by decide +kernel
theorem dX4_usesDrawn_41 : decode cX4_usesDrawn 41 = .ok (.aload_n 0, 1) := by decide +kernel
theorem dX4_usesDrawn_42 : decode cX4_usesDrawn 42 = .ok (.getfield 17, 3) := by decide +kernel
theorem dX4_usesDrawn_45 : decode cX4_usesDrawn 45 = .ok (.iload 5, 2) := by decide +kernel
theorem dX4_usesDrawn_47 : decode cX4_usesDrawn 47 = .ok (.iaload, 1) := by decide +kernel
theorem dX4_usesDrawn_48 : decode cX4_usesDrawn 48 = .ok (.iload_n 3, 1) := by decide +kernel
theorem dX4_usesDrawn_49 : decode cX4_usesDrawn 49 = .ok (.if_icmp .ne 17, 3) := by decide +kernel
theorem dX4_usesDrawn_52 : decode cX4_usesDrawn 52 = .ok (.aload_n 0, 1) := by decide +kernel
theorem dX4_usesDrawn_53 : decode cX4_usesDrawn 53 = .ok (.iload_n 1, 1) := by decide +kernel
theorem dX4_usesDrawn_54 : decode cX4_usesDrawn 54 = .ok (.iload 5, 2) := by decide +kernel
theorem dX4_usesDrawn_56 : decode cX4_usesDrawn 56 = .ok (.invokevirtual 106, 3) := by decide +kernel
theorem dX4_usesDrawn_59 : decode cX4_usesDrawn 59 = .ok (.ifCond .eq 7, 3) := by decide +kernel
theorem dX4_usesDrawn_62 : decode cX4_usesDrawn 62 = .ok (.iconst 1, 1) := by decide +kernel
theorem dX4_usesDrawn_63 : decode cX4_usesDrawn 63 = .ok (.goto 4, 3) := by decide +kernel
theorem dX4_usesDrawn_66 : decode cX4_usesDrawn 66 = .ok (.iconst 0, 1) := by decide +kernel
theorem dX4_usesDrawn_67 : decode cX4_usesDrawn 67 = .ok (.istore 4, 2) := by decide +kernel
theorem dX4_usesDrawn_69 : decode cX4_usesDrawn 69 = .ok (.iinc 5 1, 3) := by decide +kernel
theorem dX4_usesDrawn_72 : decode cX4_usesDrawn 72 = .ok (.goto (-66), 3) := by decide +kernel
theorem dX4_usesDrawn_75 : decode cX4_usesDrawn 75 = .ok (.iload 4, 2) := by decide +kernel
theorem dX4_usesDrawn_77 : decode cX4_usesDrawn 77 = .ok (.ireturn, 1) := by decide +kernel
theorem dX4_drawnOf_0 : decode cX4_drawnOf 0 = .ok (.iconst 0, 1) := by decide +kernel
theorem dX4_drawnOf_1 : decode cX4_drawnOf 1 = .ok (.istore_n 2, 1) := by decide +kernel
theorem dX4_drawnOf_2 : decode cX4_drawnOf 2 = .ok (.iconst 0, 1) := by decide +kernel
theorem dX4_drawnOf_3 : decode cX4_drawnOf 3 = .ok (.istore_n 3, 1) := by decide +kernel
theorem dX4_drawnOf_4 : decode cX4_drawnOf 4 = .ok (.iload_n 3, 1) := by decide +kernel
theorem dX4_drawnOf_5 : decode cX4_drawnOf 5 = .ok (.aload_n 0, 1) := by decide +kernel
theorem dX4_drawnOf_6 : decode cX4_drawnOf 6 = .ok (.getfield 69, 3) := by decide +kernel
theorem dX4_drawnOf_9 : decode cX4_drawnOf 9 = .ok (.if_icmp .ge 36, 3) := by decide +kernel
theorem dX4_drawnOf_12 : decode cX4_drawnOf 12 = .ok (.iload_n 2, 1) := by decide +kernel
theorem dX4_drawnOf_13 : decode cX4_drawnOf 13 = .ok (.aload_n 0, 1) := by decide +kernel
theorem dX4_drawnOf_14 : decode cX4_drawnOf 14 = .ok (.getfield 59, 3) := by decide +kernel
theorem dX4_drawnOf_17 : decode cX4_drawnOf 17 = .ok (.iload_n 3, 1) := by decide +kernel
theorem dX4_drawnOf_18 : decode cX4_drawnOf 18 = .ok (.baload, 1) := by decide +kernel
theorem dX4_drawnOf_19 : decode cX4_drawnOf 19 = .ok (.ifCond .eq 17, 3) := by decide +kernel
theorem dX4_drawnOf_22 : decode cX4_drawnOf 22 = .ok (.aload_n 0, 1) := by decide +kernel
theorem dX4_drawnOf_23 : decode cX4_drawnOf 23 = .ok (.getfield 17, 3) := by decide +kernel
theorem dX4_drawnOf_26 : decode cX4_drawnOf 26 = .ok (.iload_n 3, 1) := by decide +kernel
theorem dX4_drawnOf_27 : decode cX4_drawnOf 27 = .ok (.iaload, 1) := by decide +kernel
theorem dX4_drawnOf_28 : decode cX4_drawnOf 28 = .ok (.iload_n 1, 1) := by decide +kernel
theorem dX4_drawnOf_29 : decode cX4_drawnOf 29 = .ok (.if_icmp .ne 7, 3) := by decide +kernel
theorem dX4_drawnOf_32 : decode cX4_drawnOf 32 = .ok (.iconst 1, 1) := by decide +kernel
theorem dX4_drawnOf_33 : decode cX4_drawnOf 33 = .ok (.goto 4, 3) := by decide +kernel
theorem dX4_drawnOf_36 : decode cX4_drawnOf 36 = .ok (.iconst 0, 1) := by decide +kernel
theorem dX4_drawnOf_37 : decode cX4_drawnOf 37 = .ok (.iadd, 1) := by decide +kernel
theorem dX4_drawnOf_38 : decode cX4_drawnOf 38 = .ok (.istore_n 2, 1) := by decide +kernel
theorem dX4_drawnOf_39 : decode cX4_drawnOf 39 = .ok (.iinc 3 1, 3) := by decide +kernel
theorem dX4_drawnOf_42 : decode cX4_drawnOf 42 = .ok (.goto (-38), 3) := by decide +kernel
theorem dX4_drawnOf_45 : decode cX4_drawnOf 45 = .ok (.iload_n 2, 1) := by decide +kernel
theorem dX4_drawnOf_46 : decode cX4_drawnOf 46 = .ok (.ireturn, 1) := by decide +kernel
set_option maxRecDepth 20000 in
theorem ggX4_inBox_X4_in : GoodIn wsX4_inBox wsX4_in := goodIn_r _ [9] (by decide +kernel) (by decide +kernel)
set_option maxRecDepth 20000 in
theorem gX4_inBox_X4_in : GoodIn wsX4_inBox (va_wsS RX4 72 yX4_in wsX4_in) := goodIn_app (goodIn_of _ (by decide +kernel)) ggX4_inBox_X4_in
set_option maxRecDepth 20000 in
theorem ggX4_inBox_X4_goes : GoodIn wsX4_inBox wsX4_goes := goodIn_r _ [13, 14, 34, 35, 36, 37, 38, 39, 40, 41, 42, 43, 44, 45, 46, 47, 48, 49, 50, 51, 52, 53, 54, 55, 56, 57, 58, 59] (by decide +kernel) (by decide +kernel)
set_option maxRecDepth 20000 in
theorem gX4_inBox_X4_goes : GoodIn wsX4_inBox (wsV RX4 79 RX4 yX4_goes wsX4_goes) := goodIn_app (goodIn_of _ (by decide +kernel)) ggX4_inBox_X4_goes
set_option maxRecDepth 20000 in
theorem ggX4_inBox_X4_is : GoodIn wsX4_inBox wsX4_is := goodIn_r _ [18, 19, 3, 34, 35, 36, 37, 38, 39, 40, 41, 42, 43, 44, 45, 46, 47, 48, 49, 50, 51, 52, 53, 54, 55, 56, 57, 58, 59] (by decide +kernel) (by decide +kernel)
set_option maxRecDepth 20000 in
theorem gX4_inBox_X4_is : GoodIn wsX4_inBox (wsV RX4 103 RX4 yX4_is wsX4_is) := goodIn_app (goodIn_of _ (by decide +kernel)) ggX4_inBox_X4_is
set_option maxRecDepth 20000 in
theorem ggX4_inBox_X4_usesDrawn : GoodIn wsX4_inBox wsX4_usesDrawn := goodIn_r _ [23, 1, 4, 5, 24, 25, 26, 8, 27, 28, 3, 29, 15, 16, 17, 18, 19, 34, 35, 36, 37, 38, 39, 40, 41, 42, 43, 44, 45, 46, 47, 48, 49, 50, 51, 52, 53, 54, 55, 56, 57, 58, 59] (by decide +kernel) (by decide +kernel)
set_option maxRecDepth 20000 in
theorem gX4_inBox_X4_usesDrawn : GoodIn wsX4_inBox (wsV RX4 152 RX4 yX4_usesDrawn wsX4_usesDrawn) := goodIn_app (goodIn_of _ (by decide +kernel)) ggX4_inBox_X4_usesDrawn
set_option maxRecDepth 20000 in
theorem ggX4_inBox_X4_hasMember : GoodIn wsX4_inBox wsX4_hasMember := goodIn_r _ [27, 28, 3, 29, 15, 16, 17, 8, 18, 19, 34, 35, 36, 37, 38, 39, 40, 41, 42, 43, 44, 45, 46, 47, 48, 49, 50, 51, 52, 53, 54, 55, 56, 57, 58, 59] (by decide +kernel) (by decide +kernel)
set_option maxRecDepth 20000 in
theorem gX4_inBox_X4_hasMember : GoodIn wsX4_inBox (wsV RX4 106 RX4 yX4_hasMember wsX4_hasMember) := goodIn_app (goodIn_of _ (by decide +kernel)) ggX4_inBox_X4_hasMember
set_option maxRecDepth 20000 in
theorem ggX4_inBox_X4_drawnOf : GoodIn wsX4_inBox wsX4_drawnOf := goodIn_r _ [33, 1, 4, 5, 34, 35, 36, 37, 38, 39, 40, 41, 42, 43, 44, 45, 46, 47, 48, 49, 50, 51, 52, 53, 54, 55, 56, 57, 58, 59] (by decide +kernel) (by decide +kernel)
set_option maxRecDepth 20000 in
theorem gX4_inBox_X4_drawnOf : GoodIn wsX4_inBox (wsV RX4 155 RX4 yX4_drawnOf wsX4_drawnOf) := goodIn_app (goodIn_of _ (by decide +kernel)) ggX4_inBox_X4_drawnOf
theorem dX4_inBox_0 : decode cX4_inBox 0 = .ok (.iload_n 1, 1) := by decide +kernel
theorem dX4_inBox_1 : decode cX4_inBox 1 = .ok (.iconst 0, 1) := by decide +kernel
theorem dX4_inBox_2 : decode cX4_inBox 2 = .ok (.bipush 99, 2) := by decide +kernel
theorem dX4_inBox_4 : decode cX4_inBox 4 = .ok (.invokestatic 72, 3) := by decide +kernel
theorem dX4_inBox_7 : decode cX4_inBox 7 = .ok (.ifCond .eq 48, 3) := by decide +kernel
theorem dX4_inBox_10 : decode cX4_inBox 10 = .ok (.iload_n 2, 1) := by decide +kernel
theorem dX4_inBox_11 : decode cX4_inBox 11 = .ok (.iconst 0, 1) := by decide +kernel
theorem dX4_inBox_12 : decode cX4_inBox 12 = .ok (.bipush 99, 2) := by decide +kernel
theorem dX4_inBox_14 : decode cX4_inBox 14 = .ok (.invokestatic 72, 3) := by decide +kernel
theorem dX4_inBox_17 : decode cX4_inBox 17 = .ok (.ifCond .eq 38, 3) := by decide +kernel
theorem dX4_inBox_20 : decode cX4_inBox 20 = .ok (.iload_n 3, 1) := by decide +kernel
theorem dX4_inBox_21 : decode cX4_inBox 21 = .ok (.iload_n 1, 1) := by decide +kernel
theorem dX4_inBox_22 : decode cX4_inBox 22 = .ok (.bipush 99, 2) := by decide +kernel
theorem dX4_inBox_24 : decode cX4_inBox 24 = .ok (.invokestatic 72, 3) := by decide +kernel
theorem dX4_inBox_27 : decode cX4_inBox 27 = .ok (.ifCond .eq 28, 3) := by decide +kernel
theorem dX4_inBox_30 : decode cX4_inBox 30 = .ok (.iload 4, 2) := by decide +kernel
theorem dX4_inBox_32 : decode cX4_inBox 32 = .ok (.iload_n 2, 1) := by decide +kernel
theorem dX4_inBox_33 : decode cX4_inBox 33 = .ok (.bipush 99, 2) := by decide +kernel
theorem dX4_inBox_35 : decode cX4_inBox 35 = .ok (.invokestatic 72, 3) := by decide +kernel
theorem dX4_inBox_38 : decode cX4_inBox 38 = .ok (.ifCond .eq 17, 3) := by decide +kernel
theorem dX4_inBox_41 : decode cX4_inBox 41 = .ok (.iload 5, 2) := by decide +kernel
theorem dX4_inBox_43 : decode cX4_inBox 43 = .ok (.iconst 0, 1) := by decide +kernel
theorem dX4_inBox_44 : decode cX4_inBox 44 = .ok (.iconst 2, 1) := by decide +kernel
theorem dX4_inBox_45 : decode cX4_inBox 45 = .ok (.invokestatic 72, 3) := by decide +kernel
theorem dX4_inBox_48 : decode cX4_inBox 48 = .ok (.ifCond .eq 7, 3) := by decide +kernel
theorem dX4_inBox_51 : decode cX4_inBox 51 = .ok (.iconst 1, 1) := by decide +kernel
theorem dX4_inBox_52 : decode cX4_inBox 52 = .ok (.goto 4, 3) := by decide +kernel
theorem dX4_inBox_55 : decode cX4_inBox 55 = .ok (.iconst 0, 1) := by decide +kernel
theorem dX4_inBox_56 : decode cX4_inBox 56 = .ok (.istore 6, 2) := by decide +kernel
theorem dX4_inBox_58 : decode cX4_inBox 58 = .ok (.aload_n 0, 1) := by decide +kernel
theorem dX4_inBox_59 : decode cX4_inBox 59 = .ok (.iload 6, 2) := by decide +kernel
theorem dX4_inBox_61 : decode cX4_inBox 61 = .ok (.iconst 1, 1) := by decide +kernel
theorem dX4_inBox_62 : decode cX4_inBox 62 = .ok (.iconst 1, 1) := by decide +kernel
theorem dX4_inBox_63 : decode cX4_inBox 63 = .ok (.invokevirtual 79, 3) := by decide +kernel
theorem dX4_inBox_66 : decode cX4_inBox 66 = .ok (.ifCond .ne 5, 3) := by decide +kernel
theorem dX4_inBox_69 : decode cX4_inBox 69 = .ok (.iconst 0, 1) := by decide +kernel
theorem dX4_inBox_70 : decode cX4_inBox 70 = .ok (.ireturn, 1) := by decide +kernel
theorem dX4_inBox_71 : decode cX4_inBox 71 = .ok (.iconst 0, 1) := by decide +kernel
theorem dX4_inBox_72 : decode cX4_inBox 72 = .ok (.istore 7, 2) := by decide +kernel
theorem dX4_inBox_74 : decode cX4_inBox 74 = .ok (.iload 7, 2) := by decide +kernel
theorem dX4_inBox_76 : decode cX4_inBox 76 = .ok (.aload_n 0, 1) := by decide +kernel
theorem dX4_inBox_77 : decode cX4_inBox 77 = .ok (.getfield 69, 3) := by decide +kernel
theorem dX4_inBox_80 : decode cX4_inBox 80 = .ok (.if_icmp .ge 81, 3) := by decide +kernel
theorem dX4_inBox_83 : decode cX4_inBox 83 = .ok (.aload_n 0, 1) := by decide +kernel
theorem dX4_inBox_84 : decode cX4_inBox 84 = .ok (.getfield 47, 3) := by decide +kernel
theorem dX4_inBox_87 : decode cX4_inBox 87 = .ok (.aload_n 0, 1) := by decide +kernel
theorem dX4_inBox_88 : decode cX4_inBox 88 = .ok (.getfield 20, 3) := by decide +kernel
theorem dX4_inBox_91 : decode cX4_inBox 91 = .ok (.iload 7, 2) := by decide +kernel
theorem dX4_inBox_93 : decode cX4_inBox 93 = .ok (.iaload, 1) := by decide +kernel
theorem dX4_inBox_94 : decode cX4_inBox 94 = .ok (.iaload, 1) := by decide +kernel
theorem dX4_inBox_95 : decode cX4_inBox 95 = .ok (.istore 8, 2) := by decide +kernel
theorem dX4_inBox_97 : decode cX4_inBox 97 = .ok (.aload_n 0, 1) := by decide +kernel
theorem dX4_inBox_98 : decode cX4_inBox 98 = .ok (.getfield 59, 3) := by decide +kernel
theorem dX4_inBox_101 : decode cX4_inBox 101 = .ok (.iload 7, 2) := by decide +kernel
theorem dX4_inBox_103 : decode cX4_inBox 103 = .ok (.aload_n 0, 1) := by decide +kernel
theorem dX4_inBox_104 : decode cX4_inBox 104 = .ok (.getfield 17, 3) := by decide +kernel
theorem dX4_inBox_107 : decode cX4_inBox 107 = .ok (.iload 7, 2) := by decide +kernel
theorem dX4_inBox_109 : decode cX4_inBox 109 = .ok (.iaload, 1) := by decide +kernel
theorem dX4_inBox_110 : decode cX4_inBox 110 = .ok (.ifCond .ne 43, 3) := by decide +kernel
theorem dX4_inBox_113 : decode cX4_inBox 113 = .ok (.aload_n 0, 1) := by decide +kernel
theorem dX4_inBox_114 : decode cX4_inBox 114 = .ok (.iload 7, 2) := by decide +kernel
theorem dX4_inBox_116 : decode cX4_inBox 116 = .ok (.invokevirtual 103, 3) := by decide +kernel
theorem dX4_inBox_119 : decode cX4_inBox 119 = .ok (.ifCond .eq 34, 3) := by decide +kernel
theorem dX4_inBox_122 : decode cX4_inBox 122 = .ok (.iload 8, 2) := by decide +kernel
theorem dX4_inBox_124 : decode cX4_inBox 124 = .ok (.bipush 100, 2) := by decide +kernel
theorem dX4_inBox_126 : decode cX4_inBox 126 = .ok (.idiv, 1) := by decide +kernel
theorem dX4_inBox_127 : decode cX4_inBox 127 = .ok (.iload_n 1, 1) := by decide +kernel
theorem dX4_inBox_128 : decode cX4_inBox 128 = .ok (.iload_n 3, 1) := by decide +kernel
theorem dX4_inBox_129 : decode cX4_inBox 129 = .ok (.invokestatic 72, 3) := by decide +kernel
theorem dX4_inBox_132 : decode cX4_inBox 132 = .ok (.ifCond .eq 21, 3) := by decide +kernel
theorem dX4_inBox_135 : decode cX4_inBox 135 = .ok (.iload 8, 2) := by decide +kernel
theorem dX4_inBox_137 : decode cX4_inBox 137 = .ok (.bipush 100, 2) := by decide +kernel
theorem dX4_inBox_139 : decode cX4_inBox 139 = .ok (.irem, 1) := by decide +kernel
theorem dX4_inBox_140 : decode cX4_inBox 140 = .ok (.iload_n 2, 1) := by decide +kernel
theorem dX4_inBox_141 : decode cX4_inBox 141 = .ok (.iload 4, 2) := by decide +kernel
theorem dX4_inBox_143 : decode cX4_inBox 143 = .ok (.invokestatic 72, 3) := by decide +kernel
theorem dX4_inBox_146 : decode cX4_inBox 146 = .ok (.ifCond .eq 7, 3) := by decide +kernel
theorem dX4_inBox_149 : decode cX4_inBox 149 = .ok (.iconst 1, 1) := by decide +kernel
theorem dX4_inBox_150 : decode cX4_inBox 150 = .ok (.goto 4, 3) := by decide +kernel
theorem dX4_inBox_153 : decode cX4_inBox 153 = .ok (.iconst 0, 1) := by decide +kernel
theorem dX4_inBox_154 : decode cX4_inBox 154 = .ok (.bastore, 1) := by decide +kernel
theorem dX4_inBox_155 : decode cX4_inBox 155 = .ok (.iinc 7 1, 3) := by decide +kernel
theorem dX4_inBox_158 : decode cX4_inBox 158 = .ok (.goto (-84), 3) := by decide +kernel
theorem dX4_inBox_161 : decode cX4_inBox 161 = .ok (.iconst 0, 1) := by decide +kernel
theorem dX4_inBox_162 : decode cX4_inBox 162 = .ok (.istore 7, 2) := by decide +kernel
theorem dX4_inBox_164 : decode cX4_inBox 164 = .ok (.iload 7, 2) := by decide +kernel
theorem dX4_inBox_166 : decode cX4_inBox 166 = .ok (.aload_n 0, 1) := by decide +kernel
theorem dX4_inBox_167 : decode cX4_inBox 167 = .ok (.getfield 69, 3) := by decide +kernel
theorem dX4_inBox_170 : decode cX4_inBox 170 = .ok (.if_icmp .ge 53, 3) := by decide +kernel
theorem dX4_inBox_173 : decode cX4_inBox 173 = .ok (.aload_n 0, 1) := by decide +kernel
theorem dX4_inBox_174 : decode cX4_inBox 174 = .ok (.getfield 59, 3) := by decide +kernel
theorem dX4_inBox_177 : decode cX4_inBox 177 = .ok (.iload 7, 2) := by decide +kernel
theorem dX4_inBox_179 : decode cX4_inBox 179 = .ok (.aload_n 0, 1) := by decide +kernel
theorem dX4_inBox_180 : decode cX4_inBox 180 = .ok (.getfield 59, 3) := by decide +kernel
theorem dX4_inBox_183 : decode cX4_inBox 183 = .ok (.iload 7, 2) := by decide +kernel
theorem dX4_inBox_185 : decode cX4_inBox 185 = .ok (.baload, 1) := by decide +kernel
theorem dX4_inBox_186 : decode cX4_inBox 186 = .ok (.ifCond .ne 25, 3) := by decide +kernel
theorem dX4_inBox_189 : decode cX4_inBox 189 = .ok (.aload_n 0, 1) := by decide +kernel
theorem dX4_inBox_190 : decode cX4_inBox 190 = .ok (.getfield 17, 3) := by decide +kernel
theorem dX4_inBox_193 : decode cX4_inBox 193 = .ok (.iload 7, 2) := by decide +kernel
theorem dX4_inBox_195 : decode cX4_inBox 195 = .ok (.iaload, 1) := by decide +kernel
theorem dX4_inBox_196 : decode cX4_inBox 196 = .ok (.iconst 1, 1) := by decide +kernel
theorem dX4_inBox_197 : decode cX4_inBox 197 = .ok (.if_icmp .ne 18, 3) := by decide +kernel
theorem dX4_inBox_200 : decode cX4_inBox 200 = .ok (.aload_n 0, 1) := by decide +kernel
theorem dX4_inBox_201 : decode cX4_inBox 201 = .ok (.iload 7, 2) := by decide +kernel
theorem dX4_inBox_203 : decode cX4_inBox 203 = .ok (.iconst 0, 1) := by decide +kernel
theorem dX4_inBox_204 : decode cX4_inBox 204 = .ok (.iconst 0, 1) := by decide +kernel
theorem dX4_inBox_205 : decode cX4_inBox 205 = .ok (.invokevirtual 152, 3) := by decide +kernel
theorem dX4_inBox_208 : decode cX4_inBox 208 = .ok (.ifCond .eq 7, 3) := by decide +kernel
theorem dX4_inBox_211 : decode cX4_inBox 211 = .ok (.iconst 1, 1) := by decide +kernel
theorem dX4_inBox_212 : decode cX4_inBox 212 = .ok (.goto 4, 3) := by decide +kernel
theorem dX4_inBox_215 : decode cX4_inBox 215 = .ok (.iconst 0, 1) := by decide +kernel
theorem dX4_inBox_216 : decode cX4_inBox 216 = .ok (.bastore, 1) := by decide +kernel
theorem dX4_inBox_217 : decode cX4_inBox 217 = .ok (.iinc 7 1, 3) := by decide +kernel
theorem dX4_inBox_220 : decode cX4_inBox 220 = .ok (.goto (-56), 3) := by decide +kernel
theorem dX4_inBox_223 : decode cX4_inBox 223 = .ok (.iconst 0, 1) := by decide +kernel
theorem dX4_inBox_224 : decode cX4_inBox 224 = .ok (.istore 7, 2) := by decide +kernel
theorem dX4_inBox_226 : decode cX4_inBox 226 = .ok (.iload 7, 2) := by decide +kernel
theorem dX4_inBox_228 : decode cX4_inBox 228 = .ok (.aload_n 0, 1) := by decide +kernel
theorem dX4_inBox_229 : decode cX4_inBox 229 = .ok (.getfield 69, 3) := by decide +kernel
theorem dX4_inBox_232 : decode cX4_inBox 232 = .ok (.if_icmp .ge 81, 3) := by decide +kernel
theorem dX4_inBox_235 : decode cX4_inBox 235 = .ok (.iconst 0, 1) := by decide +kernel
theorem dX4_inBox_236 : decode cX4_inBox 236 = .ok (.istore 8, 2) := by decide +kernel
theorem dX4_inBox_238 : decode cX4_inBox 238 = .ok (.iload 8, 2) := by decide +kernel
theorem dX4_inBox_240 : decode cX4_inBox 240 = .ok (.aload_n 0, 1) := by decide +kernel
theorem dX4_inBox_241 : decode cX4_inBox 241 = .ok (.getfield 69, 3) := by decide +kernel
theorem dX4_inBox_244 : decode cX4_inBox 244 = .ok (.if_icmp .ge 63, 3) := by decide +kernel
theorem dX4_inBox_247 : decode cX4_inBox 247 = .ok (.aload_n 0, 1) := by decide +kernel
theorem dX4_inBox_248 : decode cX4_inBox 248 = .ok (.getfield 59, 3) := by decide +kernel
theorem dX4_inBox_251 : decode cX4_inBox 251 = .ok (.iload 8, 2) := by decide +kernel
theorem dX4_inBox_253 : decode cX4_inBox 253 = .ok (.aload_n 0, 1) := by decide +kernel
theorem dX4_inBox_254 : decode cX4_inBox 254 = .ok (.getfield 59, 3) := by decide +kernel
theorem dX4_inBox_257 : decode cX4_inBox 257 = .ok (.iload 8, 2) := by decide +kernel
theorem dX4_inBox_259 : decode cX4_inBox 259 = .ok (.baload, 1) := by decide +kernel
theorem dX4_inBox_260 : decode cX4_inBox 260 = .ok (.ifCond .ne 35, 3) := by decide +kernel
theorem dX4_inBox_263 : decode cX4_inBox 263 = .ok (.aload_n 0, 1) := by decide +kernel
theorem dX4_inBox_264 : decode cX4_inBox 264 = .ok (.getfield 59, 3) := by decide +kernel
theorem dX4_inBox_267 : decode cX4_inBox 267 = .ok (.iload 7, 2) := by decide +kernel
theorem dX4_inBox_269 : decode cX4_inBox 269 = .ok (.baload, 1) := by decide +kernel
theorem dX4_inBox_270 : decode cX4_inBox 270 = .ok (.ifCond .eq 29, 3) := by decide +kernel
theorem dX4_inBox_273 : decode cX4_inBox 273 = .ok (.aload_n 0, 1) := by decide +kernel
theorem dX4_inBox_274 : decode cX4_inBox 274 = .ok (.getfield 17, 3) := by decide +kernel
theorem dX4_inBox_277 : decode cX4_inBox 277 = .ok (.iload 7, 2) := by decide +kernel
theorem dX4_inBox_279 : decode cX4_inBox 279 = .ok (.iaload, 1) := by decide +kernel
theorem dX4_inBox_280 : decode cX4_inBox 280 = .ok (.iconst 1, 1) := by decide +kernel
theorem dX4_inBox_281 : decode cX4_inBox 281 = .ok (.if_icmp .ne 18, 3) := by decide +kernel
theorem dX4_inBox_284 : decode cX4_inBox 284 = .ok (.aload_n 0, 1) := by decide +kernel
theorem dX4_inBox_285 : decode cX4_inBox 285 = .ok (.iload 7, 2) := by decide +kernel
theorem dX4_inBox_287 : decode cX4_inBox 287 = .ok (.iload 8, 2) := by decide +kernel
theorem dX4_inBox_289 : decode cX4_inBox 289 = .ok (.invokevirtual 106, 3) := by decide +kernel
theorem dX4_inBox_292 : decode cX4_inBox 292 = .ok (.ifCond .eq 7, 3) := by decide +kernel
theorem dX4_inBox_295 : decode cX4_inBox 295 = .ok (.iconst 1, 1) := by decide +kernel
theorem dX4_inBox_296 : decode cX4_inBox 296 = .ok (.goto 4, 3) := by decide +kernel
theorem dX4_inBox_299 : decode cX4_inBox 299 = .ok (.iconst 0, 1) := by decide +kernel
theorem dX4_inBox_300 : decode cX4_inBox 300 = .ok (.bastore, 1) := by decide +kernel
theorem dX4_inBox_301 : decode cX4_inBox 301 = .ok (.iinc 8 1, 3) := by decide +kernel
theorem dX4_inBox_304 : decode cX4_inBox 304 = .ok (.goto (-66), 3) := by decide +kernel
theorem dX4_inBox_307 : decode cX4_inBox 307 = .ok (.iinc 7 1, 3) := by decide +kernel
theorem dX4_inBox_310 : decode cX4_inBox 310 = .ok (.goto (-84), 3) := by decide +kernel
theorem dX4_inBox_313 : decode cX4_inBox 313 = .ok (.iconst 0, 1) := by decide +kernel
theorem dX4_inBox_314 : decode cX4_inBox 314 = .ok (.istore 7, 2) := by decide +kernel
theorem dX4_inBox_316 : decode cX4_inBox 316 = .ok (.iload 7, 2) := by decide +kernel
theorem dX4_inBox_318 : decode cX4_inBox 318 = .ok (.aload_n 0, 1) := by decide +kernel
theorem dX4_inBox_319 : decode cX4_inBox 319 = .ok (.getfield 69, 3) := by decide +kernel
theorem dX4_inBox_322 : decode cX4_inBox 322 = .ok (.if_icmp .ge 53, 3) := by decide +kernel
theorem dX4_inBox_325 : decode cX4_inBox 325 = .ok (.aload_n 0, 1) := by decide +kernel
theorem dX4_inBox_326 : decode cX4_inBox 326 = .ok (.getfield 59, 3) := by decide +kernel
theorem dX4_inBox_329 : decode cX4_inBox 329 = .ok (.iload 7, 2) := by decide +kernel
theorem dX4_inBox_331 : decode cX4_inBox 331 = .ok (.aload_n 0, 1) := by decide +kernel
theorem dX4_inBox_332 : decode cX4_inBox 332 = .ok (.getfield 59, 3) := by decide +kernel
theorem dX4_inBox_335 : decode cX4_inBox 335 = .ok (.iload 7, 2) := by decide +kernel
theorem dX4_inBox_337 : decode cX4_inBox 337 = .ok (.baload, 1) := by decide +kernel
theorem dX4_inBox_338 : decode cX4_inBox 338 = .ok (.ifCond .ne 25, 3) := by decide +kernel
theorem dX4_inBox_341 : decode cX4_inBox 341 = .ok (.aload_n 0, 1) := by decide +kernel
theorem dX4_inBox_342 : decode cX4_inBox 342 = .ok (.getfield 17, 3) := by decide +kernel
theorem dX4_inBox_345 : decode cX4_inBox 345 = .ok (.iload 7, 2) := by decide +kernel
theorem dX4_inBox_347 : decode cX4_inBox 347 = .ok (.iaload, 1) := by decide +kernel
theorem dX4_inBox_348 : decode cX4_inBox 348 = .ok (.iconst 2, 1) := by decide +kernel
theorem dX4_inBox_349 : decode cX4_inBox 349 = .ok (.if_icmp .ne 18, 3) := by decide +kernel
theorem dX4_inBox_352 : decode cX4_inBox 352 = .ok (.aload_n 0, 1) := by decide +kernel
theorem dX4_inBox_353 : decode cX4_inBox 353 = .ok (.iload 7, 2) := by decide +kernel
theorem dX4_inBox_355 : decode cX4_inBox 355 = .ok (.iconst 0, 1) := by decide +kernel
theorem dX4_inBox_356 : decode cX4_inBox 356 = .ok (.iconst 1, 1) := by decide +kernel
theorem dX4_inBox_357 : decode cX4_inBox 357 = .ok (.invokevirtual 152, 3) := by decide +kernel
theorem dX4_inBox_360 : decode cX4_inBox 360 = .ok (.ifCond .eq 7, 3) := by decide +kernel
theorem dX4_inBox_363 : decode cX4_inBox 363 = .ok (.iconst 1, 1) := by decide +kernel
theorem dX4_inBox_364 : decode cX4_inBox 364 = .ok (.goto 4, 3) := by decide +kernel
theorem dX4_inBox_367 : decode cX4_inBox 367 = .ok (.iconst 0, 1) := by decide +kernel
theorem dX4_inBox_368 : decode cX4_inBox 368 = .ok (.bastore, 1) := by decide +kernel
theorem dX4_inBox_369 : decode cX4_inBox 369 = .ok (.iinc 7 1, 3) := by decide +kernel
theorem dX4_inBox_372 : decode cX4_inBox 372 = .ok (.goto (-56), 3) := by decide +kernel
theorem dX4_inBox_375 : decode cX4_inBox 375 = .ok (.aload_n 0, 1) := by decide +kernel
theorem dX4_inBox_376 : decode cX4_inBox 376 = .ok (.iload 5, 2) := by decide +kernel
theorem dX4_inBox_378 : decode cX4_inBox 378 = .ok (.invokevirtual 155, 3) := by decide +kernel
theorem dX4_inBox_381 : decode cX4_inBox 381 = .ok (.ireturn, 1) := by decide +kernel
set_option maxRecDepth 20000 in
theorem ggX4_pass_X4_in : GoodIn wsX4_pass wsX4_in := goodIn_r _ [5] (by decide +kernel) (by decide +kernel)
set_option maxRecDepth 20000 in
theorem gX4_pass_X4_in : GoodIn wsX4_pass (va_wsS RX4 72 yX4_in wsX4_in) := goodIn_app (goodIn_of _ (by decide +kernel)) ggX4_pass_X4_in
set_option maxRecDepth 20000 in
theorem ggX4_pass_X4_goes : GoodIn wsX4_pass wsX4_goes := goodIn_r _ [9, 10, 11, 12, 13, 14, 15, 16, 17, 18, 19, 20, 21, 22, 23, 24, 25, 26, 27, 28, 29, 30, 31, 32, 33, 34, 35, 36] (by decide +kernel) (by decide +kernel)
set_option maxRecDepth 20000 in
theorem gX4_pass_X4_goes : GoodIn wsX4_pass (wsV RX4 79 RX4 yX4_goes wsX4_goes) := goodIn_app (goodIn_of _ (by decide +kernel)) ggX4_pass_X4_goes
theorem dX4_pass_0 : decode cX4_pass 0 = .ok (.iload_n 1, 1) := by decide +kernel
theorem dX4_pass_1 : decode cX4_pass 1 = .ok (.iconst 1, 1) := by decide +kernel
theorem dX4_pass_2 : decode cX4_pass 2 = .ok (.bipush 100, 2) := by decide +kernel
theorem dX4_pass_4 : decode cX4_pass 4 = .ok (.invokestatic 72, 3) := by decide +kernel
theorem dX4_pass_7 : decode cX4_pass 7 = .ok (.istore_n 2, 1) := by decide +kernel
theorem dX4_pass_8 : decode cX4_pass 8 = .ok (.aload_n 0, 1) := by decide +kernel
theorem dX4_pass_9 : decode cX4_pass 9 = .ok (.iload_n 2, 1) := by decide +kernel
theorem dX4_pass_10 : decode cX4_pass 10 = .ok (.iload_n 2, 1) := by decide +kernel
theorem dX4_pass_11 : decode cX4_pass 11 = .ok (.ifCond .eq 19, 3) := by decide +kernel
theorem dX4_pass_14 : decode cX4_pass 14 = .ok (.aload_n 0, 1) := by decide +kernel
theorem dX4_pass_15 : decode cX4_pass 15 = .ok (.getfield 110, 3) := by decide +kernel
theorem dX4_pass_18 : decode cX4_pass 18 = .ok (.iload_n 1, 1) := by decide +kernel
theorem dX4_pass_19 : decode cX4_pass 19 = .ok (.iadd, 1) := by decide +kernel
theorem dX4_pass_20 : decode cX4_pass 20 = .ok (.sipush 5000, 3) := by decide +kernel
theorem dX4_pass_23 : decode cX4_pass 23 = .ok (.if_icmp .gt 7, 3) := by decide +kernel
theorem dX4_pass_26 : decode cX4_pass 26 = .ok (.iconst 1, 1) := by decide +kernel
theorem dX4_pass_27 : decode cX4_pass 27 = .ok (.goto 4, 3) := by decide +kernel
theorem dX4_pass_30 : decode cX4_pass 30 = .ok (.iconst 0, 1) := by decide +kernel
theorem dX4_pass_31 : decode cX4_pass 31 = .ok (.iconst 1, 1) := by decide +kernel
theorem dX4_pass_32 : decode cX4_pass 32 = .ok (.invokevirtual 79, 3) := by decide +kernel
theorem dX4_pass_35 : decode cX4_pass 35 = .ok (.ifCond .ne 5, 3) := by decide +kernel
theorem dX4_pass_38 : decode cX4_pass 38 = .ok (.iconst 0, 1) := by decide +kernel
theorem dX4_pass_39 : decode cX4_pass 39 = .ok (.ireturn, 1) := by decide +kernel
theorem dX4_pass_40 : decode cX4_pass 40 = .ok (.aload_n 0, 1) := by decide +kernel
theorem dX4_pass_41 : decode cX4_pass 41 = .ok (.dup, 1) := by decide +kernel
theorem dX4_pass_42 : decode cX4_pass 42 = .ok (.getfield 110, 3) := by decide +kernel
theorem dX4_pass_45 : decode cX4_pass 45 = .ok (.iload_n 1, 1) := by decide +kernel
theorem dX4_pass_46 : decode cX4_pass 46 = .ok (.iadd, 1) := by decide +kernel
theorem dX4_pass_47 : decode cX4_pass 47 = .ok (.putfield 110, 3) := by decide +kernel
theorem dX4_pass_50 : decode cX4_pass 50 = .ok (.aload_n 0, 1) := by decide +kernel
theorem dX4_pass_51 : decode cX4_pass 51 = .ok (.getfield 110, 3) := by decide +kernel
theorem dX4_pass_54 : decode cX4_pass 54 = .ok (.ireturn, 1) := by decide +kernel
set_option maxRecDepth 20000 in
theorem ggX4_take_X4_in : GoodIn wsX4_take wsX4_in := goodIn_r _ [8] (by decide +kernel) (by decide +kernel)
set_option maxRecDepth 20000 in
theorem gX4_take_X4_in : GoodIn wsX4_take (va_wsS RX4 72 yX4_in wsX4_in) := goodIn_app (goodIn_of _ (by decide +kernel)) ggX4_take_X4_in
set_option maxRecDepth 20000 in
theorem ggX4_take_X4_goes : GoodIn wsX4_take wsX4_goes := goodIn_r _ [12, 13, 14, 15, 16, 17, 18, 19, 20, 21, 22, 23, 24, 25, 26, 27, 28, 29, 30, 31, 32, 33, 34, 35, 36, 37, 38, 39] (by decide +kernel) (by decide +kernel)
set_option maxRecDepth 20000 in
theorem gX4_take_X4_goes : GoodIn wsX4_take (wsV RX4 79 RX4 yX4_goes wsX4_goes) := goodIn_app (goodIn_of _ (by decide +kernel)) ggX4_take_X4_goes
theorem dX4_take_0 : decode cX4_take 0 = .ok (.aload_n 0, 1) := by decide +kernel
theorem dX4_take_1 : decode cX4_take 1 = .ok (.iload_n 1, 1) := by decide +kernel
theorem dX4_take_2 : decode cX4_take 2 = .ok (.iconst 1, 1) := by decide +kernel
theorem dX4_take_3 : decode cX4_take 3 = .ok (.bipush 100, 2) := by decide +kernel
theorem dX4_take_5 : decode cX4_take 5 = .ok (.invokestatic 72, 3) := by decide +kernel
theorem dX4_take_8 : decode cX4_take 8 = .ok (.iconst 1, 1) := by decide +kernel
theorem dX4_take_9 : decode cX4_take 9 = .ok (.iconst 1, 1) := by decide +kernel
theorem dX4_take_10 : decode cX4_take 10 = .ok (.invokevirtual 79, 3) := by decide +kernel
theorem dX4_take_13 : decode cX4_take 13 = .ok (.ifCond .ne 5, 3) := by decide +kernel
theorem dX4_take_16 : decode cX4_take 16 = .ok (.iconst 0, 1) := by decide +kernel
theorem dX4_take_17 : decode cX4_take 17 = .ok (.ireturn, 1) := by decide +kernel
theorem dX4_take_18 : decode cX4_take 18 = .ok (.aload_n 0, 1) := by decide +kernel
theorem dX4_take_19 : decode cX4_take 19 = .ok (.getfield 158, 3) := by decide +kernel
theorem dX4_take_22 : decode cX4_take 22 = .ok (.istore_n 2, 1) := by decide +kernel
theorem dX4_take_23 : decode cX4_take 23 = .ok (.aload_n 0, 1) := by decide +kernel
theorem dX4_take_24 : decode cX4_take 24 = .ok (.aload_n 0, 1) := by decide +kernel
theorem dX4_take_25 : decode cX4_take 25 = .ok (.getfield 158, 3) := by decide +kernel
theorem dX4_take_28 : decode cX4_take 28 = .ok (.iload_n 1, 1) := by decide +kernel
theorem dX4_take_29 : decode cX4_take 29 = .ok (.iadd, 1) := by decide +kernel
theorem dX4_take_30 : decode cX4_take 30 = .ok (.aload_n 0, 1) := by decide +kernel
theorem dX4_take_31 : decode cX4_take 31 = .ok (.getfield 110, 3) := by decide +kernel
theorem dX4_take_34 : decode cX4_take 34 = .ok (.if_icmp .ge 12, 3) := by decide +kernel
theorem dX4_take_37 : decode cX4_take 37 = .ok (.aload_n 0, 1) := by decide +kernel
theorem dX4_take_38 : decode cX4_take 38 = .ok (.getfield 158, 3) := by decide +kernel
theorem dX4_take_41 : decode cX4_take 41 = .ok (.iload_n 1, 1) := by decide +kernel
theorem dX4_take_42 : decode cX4_take 42 = .ok (.iadd, 1) := by decide +kernel
theorem dX4_take_43 : decode cX4_take 43 = .ok (.goto 7, 3) := by decide +kernel
theorem dX4_take_46 : decode cX4_take 46 = .ok (.aload_n 0, 1) := by decide +kernel
theorem dX4_take_47 : decode cX4_take 47 = .ok (.getfield 110, 3) := by decide +kernel
theorem dX4_take_50 : decode cX4_take 50 = .ok (.putfield 158, 3) := by decide +kernel
theorem dX4_take_53 : decode cX4_take 53 = .ok (.iconst 0, 1) := by decide +kernel
theorem dX4_take_54 : decode cX4_take 54 = .ok (.istore_n 3, 1) := by decide +kernel
theorem dX4_take_55 : decode cX4_take 55 = .ok (.iconst 0, 1) := by decide +kernel
theorem dX4_take_56 : decode cX4_take 56 = .ok (.istore 4, 2) := by decide +kernel
theorem dX4_take_58 : decode cX4_take 58 = .ok (.iload 4, 2) := by decide +kernel
theorem dX4_take_60 : decode cX4_take 60 = .ok (.aload_n 0, 1) := by decide +kernel
theorem dX4_take_61 : decode cX4_take 61 = .ok (.getfield 87, 3) := by decide +kernel
theorem dX4_take_64 : decode cX4_take 64 = .ok (.if_icmp .ge 42, 3) := by decide +kernel
theorem dX4_take_67 : decode cX4_take 67 = .ok (.iload_n 3, 1) := by decide +kernel
theorem dX4_take_68 : decode cX4_take 68 = .ok (.aload_n 0, 1) := by decide +kernel
theorem dX4_take_69 : decode cX4_take 69 = .ok (.getfield 38, 3) := by decide +kernel
theorem dX4_take_72 : decode cX4_take 72 = .ok (.iload 4, 2) := by decide +kernel
theorem dX4_take_74 : decode cX4_take 74 = .ok (.iaload, 1) := by decide +kernel
theorem dX4_take_75 : decode cX4_take 75 = .ok (.iload_n 2, 1) := by decide +kernel
theorem dX4_take_76 : decode cX4_take 76 = .ok (.if_icmp .lt 21, 3) := by decide +kernel
theorem dX4_take_79 : decode cX4_take 79 = .ok (.aload_n 0, 1) := by decide +kernel
theorem dX4_take_80 : decode cX4_take 80 = .ok (.getfield 38, 3) := by decide +kernel
theorem dX4_take_83 : decode cX4_take 83 = .ok (.iload 4, 2) := by decide +kernel
theorem dX4_take_85 : decode cX4_take 85 = .ok (.iaload, 1) := by decide +kernel
theorem dX4_take_86 : decode cX4_take 86 = .ok (.aload_n 0, 1) := by decide +kernel
theorem dX4_take_87 : decode cX4_take 87 = .ok (.getfield 158, 3) := by decide +kernel
theorem dX4_take_90 : decode cX4_take 90 = .ok (.if_icmp .ge 7, 3) := by decide +kernel
theorem dX4_take_93 : decode cX4_take 93 = .ok (.iconst 1, 1) := by decide +kernel
theorem dX4_take_94 : decode cX4_take 94 = .ok (.goto 4, 3) := by decide +kernel
theorem dX4_take_97 : decode cX4_take 97 = .ok (.iconst 0, 1) := by decide +kernel
theorem dX4_take_98 : decode cX4_take 98 = .ok (.iadd, 1) := by decide +kernel
theorem dX4_take_99 : decode cX4_take 99 = .ok (.istore_n 3, 1) := by decide +kernel
theorem dX4_take_100 : decode cX4_take 100 = .ok (.iinc 4 1, 3) := by decide +kernel
theorem dX4_take_103 : decode cX4_take 103 = .ok (.goto (-45), 3) := by decide +kernel
theorem dX4_take_106 : decode cX4_take 106 = .ok (.iload_n 3, 1) := by decide +kernel
theorem dX4_take_107 : decode cX4_take 107 = .ok (.ireturn, 1) := by decide +kernel
set_option maxRecDepth 20000 in
theorem ggX4_inCopy_X4_isThing : GoodIn wsX4_inCopy wsX4_isThing := goodIn_r _ [6, 7, 8, 9, 5, 10, 24, 25, 26, 27, 28, 29, 30, 31, 32, 33, 34, 35, 36, 37, 38, 39, 40, 41, 42, 43, 44, 45, 46, 47, 48, 49] (by decide +kernel) (by decide +kernel)
set_option maxRecDepth 20000 in
theorem gX4_inCopy_X4_isThing : GoodIn wsX4_inCopy (wsV RX4 90 RX4 yX4_isThing wsX4_isThing) := goodIn_app (goodIn_of _ (by decide +kernel)) ggX4_inCopy_X4_isThing
set_option maxRecDepth 20000 in
theorem ggX4_inCopy_X4_goes : GoodIn wsX4_inCopy wsX4_goes := goodIn_r _ [14, 15, 24, 25, 26, 27, 28, 29, 30, 31, 32, 33, 34, 35, 36, 37, 38, 39, 40, 41, 42, 43, 44, 45, 46, 47, 48, 49] (by decide +kernel) (by decide +kernel)
set_option maxRecDepth 20000 in
theorem gX4_inCopy_X4_goes : GoodIn wsX4_inCopy (wsV RX4 79 RX4 yX4_goes wsX4_goes) := goodIn_app (goodIn_of _ (by decide +kernel)) ggX4_inCopy_X4_goes
set_option maxRecDepth 20000 in
theorem ggX4_inCopy_X4_before : GoodIn wsX4_inCopy wsX4_before := goodIn_r _ [19, 20, 21, 22, 23, 24, 25, 26, 27, 28, 29, 30, 31, 32, 33, 34, 35, 36, 37, 38, 39, 40, 41, 42, 43, 44, 45, 46, 47, 48, 49] (by decide +kernel) (by decide +kernel)
set_option maxRecDepth 20000 in
theorem gX4_inCopy_X4_before : GoodIn wsX4_inCopy (wsV RX4 149 RX4 yX4_before wsX4_before) := goodIn_app (goodIn_of _ (by decide +kernel)) ggX4_inCopy_X4_before
theorem dX4_inCopy_0 : decode cX4_inCopy 0 = .ok (.aload_n 0, 1) := by decide +kernel
theorem dX4_inCopy_1 : decode cX4_inCopy 1 = .ok (.aload_n 0, 1) := by decide +kernel
theorem dX4_inCopy_2 : decode cX4_inCopy 2 = .ok (.iload_n 1, 1) := by decide +kernel
theorem dX4_inCopy_3 : decode cX4_inCopy 3 = .ok (.invokevirtual 90, 3) := by decide +kernel
theorem dX4_inCopy_6 : decode cX4_inCopy 6 = .ok (.iconst 1, 1) := by decide +kernel
theorem dX4_inCopy_7 : decode cX4_inCopy 7 = .ok (.iconst 1, 1) := by decide +kernel
theorem dX4_inCopy_8 : decode cX4_inCopy 8 = .ok (.invokevirtual 79, 3) := by decide +kernel
theorem dX4_inCopy_11 : decode cX4_inCopy 11 = .ok (.ifCond .eq 15, 3) := by decide +kernel
theorem dX4_inCopy_14 : decode cX4_inCopy 14 = .ok (.aload_n 0, 1) := by decide +kernel
theorem dX4_inCopy_15 : decode cX4_inCopy 15 = .ok (.iload_n 1, 1) := by decide +kernel
theorem dX4_inCopy_16 : decode cX4_inCopy 16 = .ok (.aload_n 0, 1) := by decide +kernel
theorem dX4_inCopy_17 : decode cX4_inCopy 17 = .ok (.getfield 158, 3) := by decide +kernel
theorem dX4_inCopy_20 : decode cX4_inCopy 20 = .ok (.invokevirtual 149, 3) := by decide +kernel
theorem dX4_inCopy_23 : decode cX4_inCopy 23 = .ok (.goto 4, 3) := by decide +kernel
theorem dX4_inCopy_26 : decode cX4_inCopy 26 = .ok (.iconst 0, 1) := by decide +kernel
theorem dX4_inCopy_27 : decode cX4_inCopy 27 = .ok (.ireturn, 1) := by decide +kernel
set_option maxRecDepth 20000 in
theorem ggX4_isTrue_X4_before : GoodIn wsX4_isTrue wsX4_before := goodIn_r _ [9, 10, 11, 12, 13, 14, 15, 16, 17, 18, 19, 20, 21, 22, 23, 24, 25, 26, 27, 28, 29, 30, 31, 32, 33, 34, 35, 36, 37, 38, 39] (by decide +kernel) (by decide +kernel)
set_option maxRecDepth 20000 in
theorem gX4_isTrue_X4_before : GoodIn wsX4_isTrue (wsV RX4 149 RX4 yX4_before wsX4_before) := goodIn_app (goodIn_of _ (by decide +kernel)) ggX4_isTrue_X4_before
theorem dX4_isTrue_0 : decode cX4_isTrue 0 = .ok (.aload_n 0, 1) := by decide +kernel
theorem dX4_isTrue_1 : decode cX4_isTrue 1 = .ok (.iconst 0, 1) := by decide +kernel
theorem dX4_isTrue_2 : decode cX4_isTrue 2 = .ok (.putfield 65, 3) := by decide +kernel
theorem dX4_isTrue_5 : decode cX4_isTrue 5 = .ok (.iconst 1, 1) := by decide +kernel
theorem dX4_isTrue_6 : decode cX4_isTrue 6 = .ok (.istore_n 1, 1) := by decide +kernel
theorem dX4_isTrue_7 : decode cX4_isTrue 7 = .ok (.iconst 0, 1) := by decide +kernel
theorem dX4_isTrue_8 : decode cX4_isTrue 8 = .ok (.istore_n 2, 1) := by decide +kernel
theorem dX4_isTrue_9 : decode cX4_isTrue 9 = .ok (.iload_n 2, 1) := by decide +kernel
theorem dX4_isTrue_10 : decode cX4_isTrue 10 = .ok (.aload_n 0, 1) := by decide +kernel
theorem dX4_isTrue_11 : decode cX4_isTrue 11 = .ok (.getfield 69, 3) := by decide +kernel
theorem dX4_isTrue_14 : decode cX4_isTrue 14 = .ok (.if_icmp .ge 37, 3) := by decide +kernel
theorem dX4_isTrue_17 : decode cX4_isTrue 17 = .ok (.iload_n 1, 1) := by decide +kernel
theorem dX4_isTrue_18 : decode cX4_isTrue 18 = .ok (.ifCond .eq 25, 3) := by decide +kernel
theorem dX4_isTrue_21 : decode cX4_isTrue 21 = .ok (.aload_n 0, 1) := by decide +kernel
theorem dX4_isTrue_22 : decode cX4_isTrue 22 = .ok (.iload_n 2, 1) := by decide +kernel
theorem dX4_isTrue_23 : decode cX4_isTrue 23 = .ok (.aload_n 0, 1) := by decide +kernel
theorem dX4_isTrue_24 : decode cX4_isTrue 24 = .ok (.getfield 158, 3) := by decide +kernel
theorem dX4_isTrue_27 : decode cX4_isTrue 27 = .ok (.invokevirtual 149, 3) := by decide +kernel
theorem dX4_isTrue_30 : decode cX4_isTrue 30 = .ok (.aload_n 0, 1) := by decide +kernel
theorem dX4_isTrue_31 : decode cX4_isTrue 31 = .ok (.getfield 23, 3) := by decide +kernel
theorem dX4_isTrue_34 : decode cX4_isTrue 34 = .ok (.iload_n 2, 1) := by decide +kernel
theorem dX4_isTrue_35 : decode cX4_isTrue 35 = .ok (.iaload, 1) := by decide +kernel
theorem dX4_isTrue_36 : decode cX4_isTrue 36 = .ok (.if_icmp .ne 7, 3) := by decide +kernel
theorem dX4_isTrue_39 : decode cX4_isTrue 39 = .ok (.iconst 1, 1) := by decide +kernel
theorem dX4_isTrue_40 : decode cX4_isTrue 40 = .ok (.goto 4, 3) := by decide +kernel
theorem dX4_isTrue_43 : decode cX4_isTrue 43 = .ok (.iconst 0, 1) := by decide +kernel
theorem dX4_isTrue_44 : decode cX4_isTrue 44 = .ok (.istore_n 1, 1) := by decide +kernel
theorem dX4_isTrue_45 : decode cX4_isTrue 45 = .ok (.iinc 2 1, 3) := by decide +kernel
theorem dX4_isTrue_48 : decode cX4_isTrue 48 = .ok (.goto (-39), 3) := by decide +kernel
theorem dX4_isTrue_51 : decode cX4_isTrue 51 = .ok (.iload_n 1, 1) := by decide +kernel
theorem dX4_isTrue_52 : decode cX4_isTrue 52 = .ok (.ireturn, 1) := by decide +kernel
theorem dJ13_bitCount_95d88_0 : decode cJ13_bitCount_95d88 0 = .ok (.lload_n 0, 1) := by decide +kernel
theorem dJ13_bitCount_95d88_1 : decode cJ13_bitCount_95d88 1 = .ok (.lload_n 0, 1) := by decide +kernel
theorem dJ13_bitCount_95d88_2 : decode cJ13_bitCount_95d88 2 = .ok (.iconst 1, 1) := by decide +kernel
theorem dJ13_bitCount_95d88_3 : decode cJ13_bitCount_95d88 3 = .ok (.lushr, 1) := by decide +kernel
theorem dJ13_bitCount_95d88_4 : decode cJ13_bitCount_95d88 4 = .ok (.ldc2_w 314, 3) := by decide +kernel
theorem dJ13_bitCount_95d88_7 : decode cJ13_bitCount_95d88 7 = .ok (.land, 1) := by decide +kernel
theorem dJ13_bitCount_95d88_8 : decode cJ13_bitCount_95d88 8 = .ok (.lsub, 1) := by decide +kernel
theorem dJ13_bitCount_95d88_9 : decode cJ13_bitCount_95d88 9 = .ok (.lstore_n 0, 1) := by decide +kernel
theorem dJ13_bitCount_95d88_10 : decode cJ13_bitCount_95d88 10 = .ok (.lload_n 0, 1) := by decide +kernel
theorem dJ13_bitCount_95d88_11 : decode cJ13_bitCount_95d88 11 = .ok (.ldc2_w 316, 3) := by decide +kernel
theorem dJ13_bitCount_95d88_14 : decode cJ13_bitCount_95d88 14 = .ok (.land, 1) := by decide +kernel
theorem dJ13_bitCount_95d88_15 : decode cJ13_bitCount_95d88 15 = .ok (.lload_n 0, 1) := by decide +kernel
theorem dJ13_bitCount_95d88_16 : decode cJ13_bitCount_95d88 16 = .ok (.iconst 2, 1) := by decide +kernel
theorem dJ13_bitCount_95d88_17 : decode cJ13_bitCount_95d88 17 = .ok (.lushr, 1) := by decide +kernel
theorem dJ13_bitCount_95d88_18 : decode cJ13_bitCount_95d88 18 = .ok (.ldc2_w 316, 3) := by decide +kernel
theorem dJ13_bitCount_95d88_21 : decode cJ13_bitCount_95d88 21 = .ok (.land, 1) := by decide +kernel
theorem dJ13_bitCount_95d88_22 : decode cJ13_bitCount_95d88 22 = .ok (.ladd, 1) := by decide +kernel
theorem dJ13_bitCount_95d88_23 : decode cJ13_bitCount_95d88 23 = .ok (.lstore_n 0, 1) := by decide +kernel
theorem dJ13_bitCount_95d88_24 : decode cJ13_bitCount_95d88 24 = .ok (.lload_n 0, 1) := by decide +kernel
theorem dJ13_bitCount_95d88_25 : decode cJ13_bitCount_95d88 25 = .ok (.lload_n 0, 1) := by decide +kernel
theorem dJ13_bitCount_95d88_26 : decode cJ13_bitCount_95d88 26 = .ok (.iconst 4, 1) := by decide +kernel
theorem dJ13_bitCount_95d88_27 : decode cJ13_bitCount_95d88 27 = .ok (.lushr, 1) := by decide +kernel
theorem dJ13_bitCount_95d88_28 : decode cJ13_bitCount_95d88 28 = .ok (.ladd, 1) := by decide +kernel
theorem dJ13_bitCount_95d88_29 : decode cJ13_bitCount_95d88 29 = .ok (.ldc2_w 318, 3) := by decide +kernel
theorem dJ13_bitCount_95d88_32 : decode cJ13_bitCount_95d88 32 = .ok (.land, 1) := by decide +kernel
theorem dJ13_bitCount_95d88_33 : decode cJ13_bitCount_95d88 33 = .ok (.lstore_n 0, 1) := by decide +kernel
theorem dJ13_bitCount_95d88_34 : decode cJ13_bitCount_95d88 34 = .ok (.lload_n 0, 1) := by decide +kernel
theorem dJ13_bitCount_95d88_35 : decode cJ13_bitCount_95d88 35 = .ok (.lload_n 0, 1) := by decide +kernel
theorem dJ13_bitCount_95d88_36 : decode cJ13_bitCount_95d88 36 = .ok (.bipush 8, 2) := by decide +kernel
theorem dJ13_bitCount_95d88_38 : decode cJ13_bitCount_95d88 38 = .ok (.lushr, 1) := by decide +kernel
theorem dJ13_bitCount_95d88_39 : decode cJ13_bitCount_95d88 39 = .ok (.ladd, 1) := by decide +kernel
