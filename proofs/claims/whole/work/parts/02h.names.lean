theorem dX4_undoes_4 : decode cX4_undoes 4 = .ok (.iload_n 2, 1) := by decide +kernel
theorem dX4_undoes_5 : decode cX4_undoes 5 = .ok (.iaload, 1) := by decide +kernel
theorem dX4_undoes_6 : decode cX4_undoes 6 = .ok (.istore 4, 2) := by decide +kernel
theorem dX4_undoes_8 : decode cX4_undoes 8 = .ok (.iload 4, 2) := by decide +kernel
theorem dX4_undoes_10 : decode cX4_undoes 10 = .ok (.iconst (-1), 1) := by decide +kernel
theorem dX4_undoes_11 : decode cX4_undoes 11 = .ok (.if_icmp .eq 26, 3) := by decide +kernel
theorem dX4_undoes_14 : decode cX4_undoes 14 = .ok (.aload_n 0, 1) := by decide +kernel
theorem dX4_undoes_15 : decode cX4_undoes 15 = .ok (.getfield 35, 3) := by decide +kernel
theorem dX4_undoes_18 : decode cX4_undoes 18 = .ok (.iload 4, 2) := by decide +kernel
theorem dX4_undoes_20 : decode cX4_undoes 20 = .ok (.iaload, 1) := by decide +kernel
theorem dX4_undoes_21 : decode cX4_undoes 21 = .ok (.iload_n 3, 1) := by decide +kernel
theorem dX4_undoes_22 : decode cX4_undoes 22 = .ok (.if_icmp .ne 15, 3) := by decide +kernel
theorem dX4_undoes_25 : decode cX4_undoes 25 = .ok (.aload_n 0, 1) := by decide +kernel
theorem dX4_undoes_26 : decode cX4_undoes 26 = .ok (.getfield 32, 3) := by decide +kernel
theorem dX4_undoes_29 : decode cX4_undoes 29 = .ok (.iload 4, 2) := by decide +kernel
theorem dX4_undoes_31 : decode cX4_undoes 31 = .ok (.iaload, 1) := by decide +kernel
theorem dX4_undoes_32 : decode cX4_undoes 32 = .ok (.istore 4, 2) := by decide +kernel
theorem dX4_undoes_34 : decode cX4_undoes 34 = .ok (.goto (-26), 3) := by decide +kernel
theorem dX4_undoes_37 : decode cX4_undoes 37 = .ok (.iload 4, 2) := by decide +kernel
theorem dX4_undoes_39 : decode cX4_undoes 39 = .ok (.iconst (-1), 1) := by decide +kernel
theorem dX4_undoes_40 : decode cX4_undoes 40 = .ok (.if_icmp .eq 17, 3) := by decide +kernel
theorem dX4_undoes_43 : decode cX4_undoes 43 = .ok (.aload_n 0, 1) := by decide +kernel
theorem dX4_undoes_44 : decode cX4_undoes 44 = .ok (.getfield 41, 3) := by decide +kernel
theorem dX4_undoes_47 : decode cX4_undoes 47 = .ok (.iload 4, 2) := by decide +kernel
theorem dX4_undoes_49 : decode cX4_undoes 49 = .ok (.baload, 1) := by decide +kernel
theorem dX4_undoes_50 : decode cX4_undoes 50 = .ok (.ifCond .eq 7, 3) := by decide +kernel
theorem dX4_undoes_53 : decode cX4_undoes 53 = .ok (.iconst 1, 1) := by decide +kernel
theorem dX4_undoes_54 : decode cX4_undoes 54 = .ok (.goto 4, 3) := by decide +kernel
theorem dX4_undoes_57 : decode cX4_undoes 57 = .ok (.iconst 0, 1) := by decide +kernel
theorem dX4_undoes_58 : decode cX4_undoes 58 = .ok (.istore 5, 2) := by decide +kernel
theorem dX4_undoes_60 : decode cX4_undoes 60 = .ok (.iload 5, 2) := by decide +kernel
theorem dX4_undoes_62 : decode cX4_undoes 62 = .ok (.ifCond .ne 13, 3) := by decide +kernel
theorem dX4_undoes_65 : decode cX4_undoes 65 = .ok (.aload_n 0, 1) := by decide +kernel
theorem dX4_undoes_66 : decode cX4_undoes 66 = .ok (.iload_n 2, 1) := by decide +kernel
theorem dX4_undoes_67 : decode cX4_undoes 67 = .ok (.invokevirtual 129, 3) := by decide +kernel
theorem dX4_undoes_70 : decode cX4_undoes 70 = .ok (.ifCond .le 5, 3) := by decide +kernel
theorem dX4_undoes_73 : decode cX4_undoes 73 = .ok (.iconst 0, 1) := by decide +kernel
theorem dX4_undoes_74 : decode cX4_undoes 74 = .ok (.ireturn, 1) := by decide +kernel
theorem dX4_undoes_75 : decode cX4_undoes 75 = .ok (.aload_n 0, 1) := by decide +kernel
theorem dX4_undoes_76 : decode cX4_undoes 76 = .ok (.iconst 0, 1) := by decide +kernel
theorem dX4_undoes_77 : decode cX4_undoes 77 = .ok (.putfield 100, 3) := by decide +kernel
theorem dX4_undoes_80 : decode cX4_undoes 80 = .ok (.iload 5, 2) := by decide +kernel
theorem dX4_undoes_82 : decode cX4_undoes 82 = .ok (.ifCond .eq 9, 3) := by decide +kernel
theorem dX4_undoes_85 : decode cX4_undoes 85 = .ok (.aload_n 0, 1) := by decide +kernel
theorem dX4_undoes_86 : decode cX4_undoes 86 = .ok (.iload 4, 2) := by decide +kernel
theorem dX4_undoes_88 : decode cX4_undoes 88 = .ok (.invokevirtual 132, 3) := by decide +kernel
theorem dX4_undoes_91 : decode cX4_undoes 91 = .ok (.iload 5, 2) := by decide +kernel
theorem dX4_undoes_93 : decode cX4_undoes 93 = .ok (.ifCond .eq 35, 3) := by decide +kernel
theorem dX4_undoes_96 : decode cX4_undoes 96 = .ok (.aload_n 0, 1) := by decide +kernel
theorem dX4_undoes_97 : decode cX4_undoes 97 = .ok (.getfield 17, 3) := by decide +kernel
theorem dX4_undoes_100 : decode cX4_undoes 100 = .ok (.iload_n 2, 1) := by decide +kernel
theorem dX4_undoes_101 : decode cX4_undoes 101 = .ok (.iaload, 1) := by decide +kernel
theorem dX4_undoes_102 : decode cX4_undoes 102 = .ok (.ifCond .eq 26, 3) := by decide +kernel
theorem dX4_undoes_105 : decode cX4_undoes 105 = .ok (.aload_n 0, 1) := by decide +kernel
theorem dX4_undoes_106 : decode cX4_undoes 106 = .ok (.aload_n 0, 1) := by decide +kernel
theorem dX4_undoes_107 : decode cX4_undoes 107 = .ok (.getfield 17, 3) := by decide +kernel
theorem dX4_undoes_110 : decode cX4_undoes 110 = .ok (.iload_n 2, 1) := by decide +kernel
theorem dX4_undoes_111 : decode cX4_undoes 111 = .ok (.iaload, 1) := by decide +kernel
theorem dX4_undoes_112 : decode cX4_undoes 112 = .ok (.invokevirtual 123, 3) := by decide +kernel
theorem dX4_undoes_115 : decode cX4_undoes 115 = .ok (.ifCond .ne 11, 3) := by decide +kernel
theorem dX4_undoes_118 : decode cX4_undoes 118 = .ok (.aload_n 0, 1) := by decide +kernel
theorem dX4_undoes_119 : decode cX4_undoes 119 = .ok (.iload_n 2, 1) := by decide +kernel
theorem dX4_undoes_120 : decode cX4_undoes 120 = .ok (.invokevirtual 126, 3) := by decide +kernel
theorem dX4_undoes_123 : decode cX4_undoes 123 = .ok (.ifCond .eq 5, 3) := by decide +kernel
theorem dX4_undoes_126 : decode cX4_undoes 126 = .ok (.iconst 0, 1) := by decide +kernel
theorem dX4_undoes_127 : decode cX4_undoes 127 = .ok (.ireturn, 1) := by decide +kernel
theorem dX4_undoes_128 : decode cX4_undoes 128 = .ok (.aload_n 0, 1) := by decide +kernel
theorem dX4_undoes_129 : decode cX4_undoes 129 = .ok (.iload_n 1, 1) := by decide +kernel
theorem dX4_undoes_130 : decode cX4_undoes 130 = .ok (.iload_n 2, 1) := by decide +kernel
theorem dX4_undoes_131 : decode cX4_undoes 131 = .ok (.iload 5, 2) := by decide +kernel
theorem dX4_undoes_133 : decode cX4_undoes 133 = .ok (.iload 5, 2) := by decide +kernel
theorem dX4_undoes_135 : decode cX4_undoes 135 = .ok (.ifCond .eq 13, 3) := by decide +kernel
theorem dX4_undoes_138 : decode cX4_undoes 138 = .ok (.aload_n 0, 1) := by decide +kernel
theorem dX4_undoes_139 : decode cX4_undoes 139 = .ok (.getfield 47, 3) := by decide +kernel
theorem dX4_undoes_142 : decode cX4_undoes 142 = .ok (.iload 4, 2) := by decide +kernel
theorem dX4_undoes_144 : decode cX4_undoes 144 = .ok (.iaload, 1) := by decide +kernel
theorem dX4_undoes_145 : decode cX4_undoes 145 = .ok (.goto 4, 3) := by decide +kernel
theorem dX4_undoes_148 : decode cX4_undoes 148 = .ok (.iconst 0, 1) := by decide +kernel
theorem dX4_undoes_149 : decode cX4_undoes 149 = .ok (.invokevirtual 116, 3) := by decide +kernel
theorem dX4_undoes_152 : decode cX4_undoes 152 = .ok (.istore 6, 2) := by decide +kernel
theorem dX4_undoes_154 : decode cX4_undoes 154 = .ok (.iconst 1, 1) := by decide +kernel
theorem dX4_undoes_155 : decode cX4_undoes 155 = .ok (.ireturn, 1) := by decide +kernel
theorem dX4_hasOf_0 : decode cX4_hasOf 0 = .ok (.iconst 0, 1) := by decide +kernel
theorem dX4_hasOf_1 : decode cX4_hasOf 1 = .ok (.istore_n 3, 1) := by decide +kernel
theorem dX4_hasOf_2 : decode cX4_hasOf 2 = .ok (.iconst 0, 1) := by decide +kernel
theorem dX4_hasOf_3 : decode cX4_hasOf 3 = .ok (.istore 4, 2) := by decide +kernel
theorem dX4_hasOf_5 : decode cX4_hasOf 5 = .ok (.iload 4, 2) := by decide +kernel
theorem dX4_hasOf_7 : decode cX4_hasOf 7 = .ok (.aload_n 0, 1) := by decide +kernel
theorem dX4_hasOf_8 : decode cX4_hasOf 8 = .ok (.getfield 87, 3) := by decide +kernel
theorem dX4_hasOf_11 : decode cX4_hasOf 11 = .ok (.if_icmp .ge 41, 3) := by decide +kernel
theorem dX4_hasOf_14 : decode cX4_hasOf 14 = .ok (.iload_n 3, 1) := by decide +kernel
theorem dX4_hasOf_15 : decode cX4_hasOf 15 = .ok (.ifCond .ne 25, 3) := by decide +kernel
theorem dX4_hasOf_18 : decode cX4_hasOf 18 = .ok (.aload_n 0, 1) := by decide +kernel
theorem dX4_hasOf_19 : decode cX4_hasOf 19 = .ok (.getfield 26, 3) := by decide +kernel
theorem dX4_hasOf_22 : decode cX4_hasOf 22 = .ok (.iload 4, 2) := by decide +kernel
theorem dX4_hasOf_24 : decode cX4_hasOf 24 = .ok (.iaload, 1) := by decide +kernel
theorem dX4_hasOf_25 : decode cX4_hasOf 25 = .ok (.iload_n 1, 1) := by decide +kernel
theorem dX4_hasOf_26 : decode cX4_hasOf 26 = .ok (.if_icmp .ne 18, 3) := by decide +kernel
theorem dX4_hasOf_29 : decode cX4_hasOf 29 = .ok (.aload_n 0, 1) := by decide +kernel
theorem dX4_hasOf_30 : decode cX4_hasOf 30 = .ok (.getfield 35, 3) := by decide +kernel
theorem dX4_hasOf_33 : decode cX4_hasOf 33 = .ok (.iload 4, 2) := by decide +kernel
theorem dX4_hasOf_35 : decode cX4_hasOf 35 = .ok (.iaload, 1) := by decide +kernel
theorem dX4_hasOf_36 : decode cX4_hasOf 36 = .ok (.iload_n 2, 1) := by decide +kernel
theorem dX4_hasOf_37 : decode cX4_hasOf 37 = .ok (.if_icmp .ne 7, 3) := by decide +kernel
theorem dX4_hasOf_40 : decode cX4_hasOf 40 = .ok (.iconst 1, 1) := by decide +kernel
theorem dX4_hasOf_41 : decode cX4_hasOf 41 = .ok (.goto 4, 3) := by decide +kernel
theorem dX4_hasOf_44 : decode cX4_hasOf 44 = .ok (.iconst 0, 1) := by decide +kernel
theorem dX4_hasOf_45 : decode cX4_hasOf 45 = .ok (.istore_n 3, 1) := by decide +kernel
theorem dX4_hasOf_46 : decode cX4_hasOf 46 = .ok (.iinc 4 1, 3) := by decide +kernel
theorem dX4_hasOf_49 : decode cX4_hasOf 49 = .ok (.goto (-44), 3) := by decide +kernel
theorem dX4_hasOf_52 : decode cX4_hasOf 52 = .ok (.iload_n 3, 1) := by decide +kernel
theorem dX4_hasOf_53 : decode cX4_hasOf 53 = .ok (.ireturn, 1) := by decide +kernel
set_option maxRecDepth 20000 in
theorem ggX4_undo_X4_isSet : GoodIn wsX4_undo wsX4_isSet := goodIn_r _ [9, 10, 11, 12, 8, 13, 71, 72, 73, 74, 75, 76, 77, 78, 79, 80, 81, 82, 83, 84, 85, 86, 87, 88, 89, 90, 91, 92, 93, 94, 95, 96] (by decide +kernel) (by decide +kernel)
set_option maxRecDepth 20000 in
theorem gX4_undo_X4_isSet : GoodIn wsX4_undo (wsV RX4 83 RX4 yX4_isSet wsX4_isSet) := goodIn_app (goodIn_of _ (by decide +kernel)) ggX4_undo_X4_isSet
set_option maxRecDepth 20000 in
theorem ggX4_undo_X4_goes : GoodIn wsX4_undo wsX4_goes := goodIn_r _ [17, 18, 71, 72, 73, 74, 75, 76, 77, 78, 79, 80, 81, 82, 83, 84, 85, 86, 87, 88, 89, 90, 91, 92, 93, 94, 95, 96] (by decide +kernel) (by decide +kernel)
set_option maxRecDepth 20000 in
theorem gX4_undo_X4_goes : GoodIn wsX4_undo (wsV RX4 79 RX4 yX4_goes wsX4_goes) := goodIn_app (goodIn_of _ (by decide +kernel)) ggX4_undo_X4_goes
set_option maxRecDepth 20000 in
theorem ggX4_undo_X4_hasOf : GoodIn wsX4_undo wsX4_hasOf := goodIn_r _ [22, 23, 24, 3, 71, 72, 73, 74, 75, 76, 77, 78, 79, 80, 81, 82, 83, 84, 85, 86, 87, 88, 89, 90, 91, 92, 93, 94, 95, 96] (by decide +kernel) (by decide +kernel)
set_option maxRecDepth 20000 in
theorem gX4_undo_X4_hasOf : GoodIn wsX4_undo (wsV RX4 136 RX4 yX4_hasOf wsX4_hasOf) := goodIn_app (goodIn_of _ (by decide +kernel)) ggX4_undo_X4_hasOf
set_option maxRecDepth 20000 in
theorem ggX4_undo_X4_undoes : GoodIn wsX4_undo wsX4_undoes := goodIn_r _ [28, 4, 3, 29, 30, 31, 32, 33, 34, 35, 36, 8, 37, 2, 38, 39, 40, 41, 42, 43, 44, 45, 46, 47, 48, 49, 50, 51, 52, 53, 54, 55, 56, 57, 58, 59, 60, 61, 62, 63, 64, 65, 24, 23, 66, 67, 68, 69, 70, 71, 72, 73, 74, 75, 76, 77, 78, 79, 80, 81, 82, 83, 84, 85, 86, 87, 88, 89, 90, 91, 92, 93, 94, 95, 96] (by decide +kernel) (by decide +kernel)
set_option maxRecDepth 20000 in
theorem gX4_undo_X4_undoes : GoodIn wsX4_undo (wsV RX4 139 RX4 yX4_undoes wsX4_undoes) := goodIn_app (goodIn_of _ (by decide +kernel)) ggX4_undo_X4_undoes
theorem dX4_undo_0 : decode cX4_undo 0 = .ok (.aload_n 0, 1) := by decide +kernel
theorem dX4_undo_1 : decode cX4_undo 1 = .ok (.iload_n 1, 1) := by decide +kernel
theorem dX4_undo_2 : decode cX4_undo 2 = .ok (.invokevirtual 83, 3) := by decide +kernel
theorem dX4_undo_5 : decode cX4_undo 5 = .ok (.ifCond .eq 15, 3) := by decide +kernel
theorem dX4_undo_8 : decode cX4_undo 8 = .ok (.aload_n 0, 1) := by decide +kernel
theorem dX4_undo_9 : decode cX4_undo 9 = .ok (.iload_n 2, 1) := by decide +kernel
theorem dX4_undo_10 : decode cX4_undo 10 = .ok (.invokevirtual 83, 3) := by decide +kernel
theorem dX4_undo_13 : decode cX4_undo 13 = .ok (.ifCond .eq 7, 3) := by decide +kernel
theorem dX4_undo_16 : decode cX4_undo 16 = .ok (.iconst 1, 1) := by decide +kernel
theorem dX4_undo_17 : decode cX4_undo 17 = .ok (.goto 4, 3) := by decide +kernel
theorem dX4_undo_20 : decode cX4_undo 20 = .ok (.iconst 0, 1) := by decide +kernel
theorem dX4_undo_21 : decode cX4_undo 21 = .ok (.istore_n 3, 1) := by decide +kernel
theorem dX4_undo_22 : decode cX4_undo 22 = .ok (.aload_n 0, 1) := by decide +kernel
theorem dX4_undo_23 : decode cX4_undo 23 = .ok (.iload_n 3, 1) := by decide +kernel
theorem dX4_undo_24 : decode cX4_undo 24 = .ok (.iload_n 3, 1) := by decide +kernel
theorem dX4_undo_25 : decode cX4_undo 25 = .ok (.ifCond .eq 25, 3) := by decide +kernel
theorem dX4_undo_28 : decode cX4_undo 28 = .ok (.aload_n 0, 1) := by decide +kernel
theorem dX4_undo_29 : decode cX4_undo 29 = .ok (.getfield 7, 3) := by decide +kernel
theorem dX4_undo_32 : decode cX4_undo 32 = .ok (.iload_n 1, 1) := by decide +kernel
theorem dX4_undo_33 : decode cX4_undo 33 = .ok (.baload, 1) := by decide +kernel
theorem dX4_undo_34 : decode cX4_undo 34 = .ok (.ifCond .ne 16, 3) := by decide +kernel
theorem dX4_undo_37 : decode cX4_undo 37 = .ok (.aload_n 0, 1) := by decide +kernel
theorem dX4_undo_38 : decode cX4_undo 38 = .ok (.getfield 7, 3) := by decide +kernel
theorem dX4_undo_41 : decode cX4_undo 41 = .ok (.iload_n 2, 1) := by decide +kernel
theorem dX4_undo_42 : decode cX4_undo 42 = .ok (.baload, 1) := by decide +kernel
theorem dX4_undo_43 : decode cX4_undo 43 = .ok (.ifCond .eq 7, 3) := by decide +kernel
theorem dX4_undo_46 : decode cX4_undo 46 = .ok (.iconst 1, 1) := by decide +kernel
theorem dX4_undo_47 : decode cX4_undo 47 = .ok (.goto 4, 3) := by decide +kernel
theorem dX4_undo_50 : decode cX4_undo 50 = .ok (.iconst 0, 1) := by decide +kernel
theorem dX4_undo_51 : decode cX4_undo 51 = .ok (.iconst 1, 1) := by decide +kernel
theorem dX4_undo_52 : decode cX4_undo 52 = .ok (.invokevirtual 79, 3) := by decide +kernel
theorem dX4_undo_55 : decode cX4_undo 55 = .ok (.ifCond .ne 5, 3) := by decide +kernel
theorem dX4_undo_58 : decode cX4_undo 58 = .ok (.iconst 0, 1) := by decide +kernel
theorem dX4_undo_59 : decode cX4_undo 59 = .ok (.ireturn, 1) := by decide +kernel
theorem dX4_undo_60 : decode cX4_undo 60 = .ok (.iconst 0, 1) := by decide +kernel
theorem dX4_undo_61 : decode cX4_undo 61 = .ok (.istore 4, 2) := by decide +kernel
theorem dX4_undo_63 : decode cX4_undo 63 = .ok (.aload_n 0, 1) := by decide +kernel
theorem dX4_undo_64 : decode cX4_undo 64 = .ok (.getfield 69, 3) := by decide +kernel
theorem dX4_undo_67 : decode cX4_undo 67 = .ok (.iconst 1, 1) := by decide +kernel
theorem dX4_undo_68 : decode cX4_undo 68 = .ok (.isub, 1) := by decide +kernel
theorem dX4_undo_69 : decode cX4_undo 69 = .ok (.istore 5, 2) := by decide +kernel
theorem dX4_undo_71 : decode cX4_undo 71 = .ok (.iload 5, 2) := by decide +kernel
theorem dX4_undo_73 : decode cX4_undo 73 = .ok (.ifCond .lt 68, 3) := by decide +kernel
theorem dX4_undo_76 : decode cX4_undo 76 = .ok (.aload_n 0, 1) := by decide +kernel
theorem dX4_undo_77 : decode cX4_undo 77 = .ok (.iload 5, 2) := by decide +kernel
theorem dX4_undo_79 : decode cX4_undo 79 = .ok (.iload_n 2, 1) := by decide +kernel
theorem dX4_undo_80 : decode cX4_undo 80 = .ok (.invokevirtual 136, 3) := by decide +kernel
theorem dX4_undo_83 : decode cX4_undo 83 = .ok (.ifCond .eq 52, 3) := by decide +kernel
theorem dX4_undo_86 : decode cX4_undo 86 = .ok (.aload_n 0, 1) := by decide +kernel
theorem dX4_undo_87 : decode cX4_undo 87 = .ok (.getfield 35, 3) := by decide +kernel
theorem dX4_undo_90 : decode cX4_undo 90 = .ok (.aload_n 0, 1) := by decide +kernel
theorem dX4_undo_91 : decode cX4_undo 91 = .ok (.getfield 20, 3) := by decide +kernel
theorem dX4_undo_94 : decode cX4_undo 94 = .ok (.iload 5, 2) := by decide +kernel
theorem dX4_undo_96 : decode cX4_undo 96 = .ok (.iaload, 1) := by decide +kernel
theorem dX4_undo_97 : decode cX4_undo 97 = .ok (.iaload, 1) := by decide +kernel
theorem dX4_undo_98 : decode cX4_undo 98 = .ok (.iload_n 2, 1) := by decide +kernel
theorem dX4_undo_99 : decode cX4_undo 99 = .ok (.if_icmp .ne 18, 3) := by decide +kernel
theorem dX4_undo_102 : decode cX4_undo 102 = .ok (.aload_n 0, 1) := by decide +kernel
theorem dX4_undo_103 : decode cX4_undo 103 = .ok (.iload_n 1, 1) := by decide +kernel
theorem dX4_undo_104 : decode cX4_undo 104 = .ok (.iload 5, 2) := by decide +kernel
theorem dX4_undo_106 : decode cX4_undo 106 = .ok (.iload_n 2, 1) := by decide +kernel
theorem dX4_undo_107 : decode cX4_undo 107 = .ok (.invokevirtual 139, 3) := by decide +kernel
theorem dX4_undo_110 : decode cX4_undo 110 = .ok (.ifCond .eq 7, 3) := by decide +kernel
theorem dX4_undo_113 : decode cX4_undo 113 = .ok (.iconst 1, 1) := by decide +kernel
theorem dX4_undo_114 : decode cX4_undo 114 = .ok (.goto 4, 3) := by decide +kernel
theorem dX4_undo_117 : decode cX4_undo 117 = .ok (.iconst 0, 1) := by decide +kernel
theorem dX4_undo_118 : decode cX4_undo 118 = .ok (.istore 6, 2) := by decide +kernel
theorem dX4_undo_120 : decode cX4_undo 120 = .ok (.iload 4, 2) := by decide +kernel
theorem dX4_undo_122 : decode cX4_undo 122 = .ok (.iload 6, 2) := by decide +kernel
theorem dX4_undo_124 : decode cX4_undo 124 = .ok (.ifCond .eq 7, 3) := by decide +kernel
theorem dX4_undo_127 : decode cX4_undo 127 = .ok (.iconst 0, 1) := by decide +kernel
theorem dX4_undo_128 : decode cX4_undo 128 = .ok (.goto 4, 3) := by decide +kernel
theorem dX4_undo_131 : decode cX4_undo 131 = .ok (.iconst 1, 1) := by decide +kernel
theorem dX4_undo_132 : decode cX4_undo 132 = .ok (.iadd, 1) := by decide +kernel
theorem dX4_undo_133 : decode cX4_undo 133 = .ok (.istore 4, 2) := by decide +kernel
theorem dX4_undo_135 : decode cX4_undo 135 = .ok (.iinc 5 (-1), 3) := by decide +kernel
theorem dX4_undo_138 : decode cX4_undo 138 = .ok (.goto (-67), 3) := by decide +kernel
theorem dX4_undo_141 : decode cX4_undo 141 = .ok (.iload 4, 2) := by decide +kernel
theorem dX4_undo_143 : decode cX4_undo 143 = .ok (.ireturn, 1) := by decide +kernel
set_option maxRecDepth 20000 in
theorem ggX4_things_X4_told : GoodIn wsX4_things wsX4_told := goodIn_r _ [6, 7, 8, 9, 10, 11, 12, 13, 14, 15, 16, 17, 18, 19, 20, 21, 22, 23, 24, 25, 26, 27, 28, 29, 30, 31, 32, 33] (by decide +kernel) (by decide +kernel)
set_option maxRecDepth 20000 in
theorem gX4_things_X4_told : GoodIn wsX4_things (wsV RX4 96 RX4 yX4_told wsX4_told) := goodIn_app (goodIn_of _ (by decide +kernel)) ggX4_things_X4_told
theorem dX4_things_0 : decode cX4_things 0 = .ok (.aload_n 0, 1) := by decide +kernel
theorem dX4_things_1 : decode cX4_things 1 = .ok (.aload_n 0, 1) := by decide +kernel
theorem dX4_things_2 : decode cX4_things 2 = .ok (.getfield 69, 3) := by decide +kernel
theorem dX4_things_5 : decode cX4_things 5 = .ok (.invokevirtual 96, 3) := by decide +kernel
theorem dX4_things_8 : decode cX4_things 8 = .ok (.ireturn, 1) := by decide +kernel
set_option maxRecDepth 20000 in
theorem ggX4_latest_X4_isThing : GoodIn wsX4_latest wsX4_isThing := goodIn_r _ [6, 7, 8, 9, 5, 10, 16, 17, 18, 19, 20, 21, 22, 23, 24, 25, 26, 27, 28, 29, 30, 31, 32, 33, 34, 35, 36, 37, 38, 39, 40, 41] (by decide +kernel) (by decide +kernel)
set_option maxRecDepth 20000 in
theorem gX4_latest_X4_isThing : GoodIn wsX4_latest (wsV RX4 90 RX4 yX4_isThing wsX4_isThing) := goodIn_app (goodIn_of _ (by decide +kernel)) ggX4_latest_X4_isThing
set_option maxRecDepth 20000 in
theorem ggX4_latest_X4_goes : GoodIn wsX4_latest wsX4_goes := goodIn_r _ [14, 15, 16, 17, 18, 19, 20, 21, 22, 23, 24, 25, 26, 27, 28, 29, 30, 31, 32, 33, 34, 35, 36, 37, 38, 39, 40, 41] (by decide +kernel) (by decide +kernel)
set_option maxRecDepth 20000 in
theorem gX4_latest_X4_goes : GoodIn wsX4_latest (wsV RX4 79 RX4 yX4_goes wsX4_goes) := goodIn_app (goodIn_of _ (by decide +kernel)) ggX4_latest_X4_goes
theorem dX4_latest_0 : decode cX4_latest 0 = .ok (.aload_n 0, 1) := by decide +kernel
theorem dX4_latest_1 : decode cX4_latest 1 = .ok (.aload_n 0, 1) := by decide +kernel
theorem dX4_latest_2 : decode cX4_latest 2 = .ok (.iload_n 1, 1) := by decide +kernel
theorem dX4_latest_3 : decode cX4_latest 3 = .ok (.invokevirtual 90, 3) := by decide +kernel
theorem dX4_latest_6 : decode cX4_latest 6 = .ok (.iconst 1, 1) := by decide +kernel
theorem dX4_latest_7 : decode cX4_latest 7 = .ok (.iconst 1, 1) := by decide +kernel
theorem dX4_latest_8 : decode cX4_latest 8 = .ok (.invokevirtual 79, 3) := by decide +kernel
theorem dX4_latest_11 : decode cX4_latest 11 = .ok (.ifCond .eq 12, 3) := by decide +kernel
theorem dX4_latest_14 : decode cX4_latest 14 = .ok (.aload_n 0, 1) := by decide +kernel
theorem dX4_latest_15 : decode cX4_latest 15 = .ok (.getfield 23, 3) := by decide +kernel
theorem dX4_latest_18 : decode cX4_latest 18 = .ok (.iload_n 1, 1) := by decide +kernel
theorem dX4_latest_19 : decode cX4_latest 19 = .ok (.iaload, 1) := by decide +kernel
theorem dX4_latest_20 : decode cX4_latest 20 = .ok (.goto 4, 3) := by decide +kernel
theorem dX4_latest_23 : decode cX4_latest 23 = .ok (.iconst 0, 1) := by decide +kernel
theorem dX4_latest_24 : decode cX4_latest 24 = .ok (.ireturn, 1) := by decide +kernel
set_option maxRecDepth 20000 in
theorem ggX4_isThere_X4_isThing : GoodIn wsX4_isThere wsX4_isThing := goodIn_r _ [5, 6, 7, 8, 4, 9, 21, 22, 23, 24, 25, 26, 27, 28, 29, 30, 31, 32, 33, 34, 35, 36, 37, 38, 39, 40, 41, 42, 43, 44, 45, 46] (by decide +kernel) (by decide +kernel)
set_option maxRecDepth 20000 in
theorem gX4_isThere_X4_isThing : GoodIn wsX4_isThere (wsV RX4 90 RX4 yX4_isThing wsX4_isThing) := goodIn_app (goodIn_of _ (by decide +kernel)) ggX4_isThere_X4_isThing
set_option maxRecDepth 20000 in
theorem ggX4_isThere_X4_goes : GoodIn wsX4_isThere wsX4_goes := goodIn_r _ [13, 14, 21, 22, 23, 24, 25, 26, 27, 28, 29, 30, 31, 32, 33, 34, 35, 36, 37, 38, 39, 40, 41, 42, 43, 44, 45, 46] (by decide +kernel) (by decide +kernel)
set_option maxRecDepth 20000 in
theorem gX4_isThere_X4_goes : GoodIn wsX4_isThere (wsV RX4 79 RX4 yX4_goes wsX4_goes) := goodIn_app (goodIn_of _ (by decide +kernel)) ggX4_isThere_X4_goes
set_option maxRecDepth 20000 in
theorem ggX4_isThere_X4_is : GoodIn wsX4_isThere wsX4_is := goodIn_r _ [18, 19, 20, 21, 22, 23, 24, 25, 26, 27, 28, 29, 30, 31, 32, 33, 34, 35, 36, 37, 38, 39, 40, 41, 42, 43, 44, 45, 46] (by decide +kernel) (by decide +kernel)
set_option maxRecDepth 20000 in
theorem gX4_isThere_X4_is : GoodIn wsX4_isThere (wsV RX4 103 RX4 yX4_is wsX4_is) := goodIn_app (goodIn_of _ (by decide +kernel)) ggX4_isThere_X4_is
theorem dX4_isThere_0 : decode cX4_isThere 0 = .ok (.aload_n 0, 1) := by decide +kernel
theorem dX4_isThere_1 : decode cX4_isThere 1 = .ok (.aload_n 0, 1) := by decide +kernel
theorem dX4_isThere_2 : decode cX4_isThere 2 = .ok (.iload_n 1, 1) := by decide +kernel
theorem dX4_isThere_3 : decode cX4_isThere 3 = .ok (.invokevirtual 90, 3) := by decide +kernel
theorem dX4_isThere_6 : decode cX4_isThere 6 = .ok (.iconst 1, 1) := by decide +kernel
theorem dX4_isThere_7 : decode cX4_isThere 7 = .ok (.iconst 1, 1) := by decide +kernel
theorem dX4_isThere_8 : decode cX4_isThere 8 = .ok (.invokevirtual 79, 3) := by decide +kernel
theorem dX4_isThere_11 : decode cX4_isThere 11 = .ok (.ifCond .eq 15, 3) := by decide +kernel
theorem dX4_isThere_14 : decode cX4_isThere 14 = .ok (.aload_n 0, 1) := by decide +kernel
theorem dX4_isThere_15 : decode cX4_isThere 15 = .ok (.iload_n 1, 1) := by decide +kernel
theorem dX4_isThere_16 : decode cX4_isThere 16 = .ok (.invokevirtual 103, 3) := by decide +kernel
theorem dX4_isThere_19 : decode cX4_isThere 19 = .ok (.ifCond .eq 7, 3) := by decide +kernel
theorem dX4_isThere_22 : decode cX4_isThere 22 = .ok (.iconst 1, 1) := by decide +kernel
theorem dX4_isThere_23 : decode cX4_isThere 23 = .ok (.goto 4, 3) := by decide +kernel
theorem dX4_isThere_26 : decode cX4_isThere 26 = .ok (.iconst 0, 1) := by decide +kernel
theorem dX4_isThere_27 : decode cX4_isThere 27 = .ok (.ireturn, 1) := by decide +kernel
set_option maxRecDepth 20000 in
theorem ggX4_whereIs_X4_isThing : GoodIn wsX4_whereIs wsX4_isThing := goodIn_r _ [8, 9, 10, 11, 7, 12, 23, 24, 25, 26, 27, 28, 29, 30, 31, 32, 33, 34, 35, 36, 37, 38, 39, 40, 41, 42, 43, 44, 45, 46, 47, 48] (by decide +kernel) (by decide +kernel)
set_option maxRecDepth 20000 in
theorem gX4_whereIs_X4_isThing : GoodIn wsX4_whereIs (wsV RX4 90 RX4 yX4_isThing wsX4_isThing) := goodIn_app (goodIn_of _ (by decide +kernel)) ggX4_whereIs_X4_isThing
set_option maxRecDepth 20000 in
theorem ggX4_whereIs_X4_is : GoodIn wsX4_whereIs wsX4_is := goodIn_r _ [16, 17, 3, 23, 24, 25, 26, 27, 28, 29, 30, 31, 32, 33, 34, 35, 36, 37, 38, 39, 40, 41, 42, 43, 44, 45, 46, 47, 48] (by decide +kernel) (by decide +kernel)
set_option maxRecDepth 20000 in
theorem gX4_whereIs_X4_is : GoodIn wsX4_whereIs (wsV RX4 103 RX4 yX4_is wsX4_is) := goodIn_app (goodIn_of _ (by decide +kernel)) ggX4_whereIs_X4_is
set_option maxRecDepth 20000 in
theorem ggX4_whereIs_X4_goes : GoodIn wsX4_whereIs wsX4_goes := goodIn_r _ [21, 22, 23, 24, 25, 26, 27, 28, 29, 30, 31, 32, 33, 34, 35, 36, 37, 38, 39, 40, 41, 42, 43, 44, 45, 46, 47, 48] (by decide +kernel) (by decide +kernel)
set_option maxRecDepth 20000 in
theorem gX4_whereIs_X4_goes : GoodIn wsX4_whereIs (wsV RX4 79 RX4 yX4_goes wsX4_goes) := goodIn_app (goodIn_of _ (by decide +kernel)) ggX4_whereIs_X4_goes
theorem dX4_whereIs_0 : decode cX4_whereIs 0 = .ok (.aload_n 0, 1) := by decide +kernel
theorem dX4_whereIs_1 : decode cX4_whereIs 1 = .ok (.iload_n 1, 1) := by decide +kernel
theorem dX4_whereIs_2 : decode cX4_whereIs 2 = .ok (.invokevirtual 90, 3) := by decide +kernel
theorem dX4_whereIs_5 : decode cX4_whereIs 5 = .ok (.istore_n 2, 1) := by decide +kernel
theorem dX4_whereIs_6 : decode cX4_whereIs 6 = .ok (.aload_n 0, 1) := by decide +kernel
theorem dX4_whereIs_7 : decode cX4_whereIs 7 = .ok (.iload_n 2, 1) := by decide +kernel
theorem dX4_whereIs_8 : decode cX4_whereIs 8 = .ok (.iload_n 2, 1) := by decide +kernel
theorem dX4_whereIs_9 : decode cX4_whereIs 9 = .ok (.ifCond .eq 24, 3) := by decide +kernel
theorem dX4_whereIs_12 : decode cX4_whereIs 12 = .ok (.aload_n 0, 1) := by decide +kernel
theorem dX4_whereIs_13 : decode cX4_whereIs 13 = .ok (.getfield 17, 3) := by decide +kernel
theorem dX4_whereIs_16 : decode cX4_whereIs 16 = .ok (.iload_n 1, 1) := by decide +kernel
theorem dX4_whereIs_17 : decode cX4_whereIs 17 = .ok (.iaload, 1) := by decide +kernel
theorem dX4_whereIs_18 : decode cX4_whereIs 18 = .ok (.ifCond .ne 15, 3) := by decide +kernel
theorem dX4_whereIs_21 : decode cX4_whereIs 21 = .ok (.aload_n 0, 1) := by decide +kernel
theorem dX4_whereIs_22 : decode cX4_whereIs 22 = .ok (.iload_n 1, 1) := by decide +kernel
theorem dX4_whereIs_23 : decode cX4_whereIs 23 = .ok (.invokevirtual 103, 3) := by decide +kernel
theorem dX4_whereIs_26 : decode cX4_whereIs 26 = .ok (.ifCond .eq 7, 3) := by decide +kernel
theorem dX4_whereIs_29 : decode cX4_whereIs 29 = .ok (.iconst 1, 1) := by decide +kernel
theorem dX4_whereIs_30 : decode cX4_whereIs 30 = .ok (.goto 4, 3) := by decide +kernel
theorem dX4_whereIs_33 : decode cX4_whereIs 33 = .ok (.iconst 0, 1) := by decide +kernel
theorem dX4_whereIs_34 : decode cX4_whereIs 34 = .ok (.iconst 1, 1) := by decide +kernel
theorem dX4_whereIs_35 : decode cX4_whereIs 35 = .ok (.invokevirtual 79, 3) := by decide +kernel
theorem dX4_whereIs_38 : decode cX4_whereIs 38 = .ok (.ifCond .eq 17, 3) := by decide +kernel
theorem dX4_whereIs_41 : decode cX4_whereIs 41 = .ok (.aload_n 0, 1) := by decide +kernel
theorem dX4_whereIs_42 : decode cX4_whereIs 42 = .ok (.getfield 47, 3) := by decide +kernel
theorem dX4_whereIs_45 : decode cX4_whereIs 45 = .ok (.aload_n 0, 1) := by decide +kernel
theorem dX4_whereIs_46 : decode cX4_whereIs 46 = .ok (.getfield 20, 3) := by decide +kernel
theorem dX4_whereIs_49 : decode cX4_whereIs 49 = .ok (.iload_n 1, 1) := by decide +kernel
theorem dX4_whereIs_50 : decode cX4_whereIs 50 = .ok (.iaload, 1) := by decide +kernel
theorem dX4_whereIs_51 : decode cX4_whereIs 51 = .ok (.iaload, 1) := by decide +kernel
theorem dX4_whereIs_52 : decode cX4_whereIs 52 = .ok (.goto 4, 3) := by decide +kernel
theorem dX4_whereIs_55 : decode cX4_whereIs 55 = .ok (.iconst 0, 1) := by decide +kernel
theorem dX4_whereIs_56 : decode cX4_whereIs 56 = .ok (.ireturn, 1) := by decide +kernel
set_option maxRecDepth 20000 in
theorem ggX4_members_X4_isThing : GoodIn wsX4_members wsX4_isThing := goodIn_r _ [7, 8, 9, 10, 6, 11, 17, 18, 19, 20, 21, 22, 23, 24, 25, 26, 27, 28, 29, 30, 31, 32, 33, 34, 35, 36, 37, 38, 39, 40, 41, 42] (by decide +kernel) (by decide +kernel)
set_option maxRecDepth 20000 in
theorem gX4_members_X4_isThing : GoodIn wsX4_members (wsV RX4 90 RX4 yX4_isThing wsX4_isThing) := goodIn_app (goodIn_of _ (by decide +kernel)) ggX4_members_X4_isThing
set_option maxRecDepth 20000 in
theorem ggX4_members_X4_goes : GoodIn wsX4_members wsX4_goes := goodIn_r _ [15, 16, 17, 18, 19, 20, 21, 22, 23, 24, 25, 26, 27, 28, 29, 30, 31, 32, 33, 34, 35, 36, 37, 38, 39, 40, 41, 42] (by decide +kernel) (by decide +kernel)
set_option maxRecDepth 20000 in
theorem gX4_members_X4_goes : GoodIn wsX4_members (wsV RX4 79 RX4 yX4_goes wsX4_goes) := goodIn_app (goodIn_of _ (by decide +kernel)) ggX4_members_X4_goes
theorem dX4_members_0 : decode cX4_members 0 = .ok (.aload_n 0, 1) := by decide +kernel
theorem dX4_members_1 : decode cX4_members 1 = .ok (.aload_n 0, 1) := by decide +kernel
theorem dX4_members_2 : decode cX4_members 2 = .ok (.iload_n 1, 1) := by decide +kernel
theorem dX4_members_3 : decode cX4_members 3 = .ok (.invokevirtual 90, 3) := by decide +kernel
theorem dX4_members_6 : decode cX4_members 6 = .ok (.iconst 1, 1) := by decide +kernel
theorem dX4_members_7 : decode cX4_members 7 = .ok (.iconst 1, 1) := by decide +kernel
theorem dX4_members_8 : decode cX4_members 8 = .ok (.invokevirtual 79, 3) := by decide +kernel
theorem dX4_members_11 : decode cX4_members 11 = .ok (.ifCond .eq 17, 3) := by decide +kernel
theorem dX4_members_14 : decode cX4_members 14 = .ok (.aload_n 0, 1) := by decide +kernel
theorem dX4_members_15 : decode cX4_members 15 = .ok (.getfield 50, 3) := by decide +kernel
theorem dX4_members_18 : decode cX4_members 18 = .ok (.aload_n 0, 1) := by decide +kernel
theorem dX4_members_19 : decode cX4_members 19 = .ok (.getfield 20, 3) := by decide +kernel
theorem dX4_members_22 : decode cX4_members 22 = .ok (.iload_n 1, 1) := by decide +kernel
theorem dX4_members_23 : decode cX4_members 23 = .ok (.iaload, 1) := by decide +kernel
theorem dX4_members_24 : decode cX4_members 24 = .ok (.iaload, 1) := by decide +kernel
theorem dX4_members_25 : decode cX4_members 25 = .ok (.goto 4, 3) := by decide +kernel
theorem dX4_members_28 : decode cX4_members 28 = .ok (.iconst 0, 1) := by decide +kernel
theorem dX4_members_29 : decode cX4_members 29 = .ok (.ireturn, 1) := by decide +kernel
set_option maxRecDepth 20000 in
theorem ggX4_usedBy_X4_isThing : GoodIn wsX4_usedBy wsX4_isThing := goodIn_r _ [5, 6, 7, 8, 4, 9, 31, 32, 33, 34, 35, 36, 37, 38, 39, 40, 41, 42, 43, 44, 45, 46, 47, 48, 49, 50, 51, 52, 53, 54, 55, 56] (by decide +kernel) (by decide +kernel)
set_option maxRecDepth 20000 in
theorem gX4_usedBy_X4_isThing : GoodIn wsX4_usedBy (wsV RX4 90 RX4 yX4_isThing wsX4_isThing) := goodIn_app (goodIn_of _ (by decide +kernel)) ggX4_usedBy_X4_isThing
set_option maxRecDepth 20000 in
theorem ggX4_usedBy_X4_goes : GoodIn wsX4_usedBy wsX4_goes := goodIn_r _ [13, 14, 31, 32, 33, 34, 35, 36, 37, 38, 39, 40, 41, 42, 43, 44, 45, 46, 47, 48, 49, 50, 51, 52, 53, 54, 55, 56] (by decide +kernel) (by decide +kernel)
set_option maxRecDepth 20000 in
theorem gX4_usedBy_X4_goes : GoodIn wsX4_usedBy (wsV RX4 79 RX4 yX4_goes wsX4_goes) := goodIn_app (goodIn_of _ (by decide +kernel)) ggX4_usedBy_X4_goes
set_option maxRecDepth 20000 in
theorem ggX4_usedBy_X4_users : GoodIn wsX4_usedBy wsX4_users := goodIn_r _ [18, 6, 19, 20, 21, 4, 22, 23, 24, 25, 26, 27, 28, 29, 30, 31, 32, 33, 34, 35, 36, 37, 38, 39, 40, 41, 42, 43, 44, 45, 46, 47, 48, 49, 50, 51, 52, 53, 54, 55, 56] (by decide +kernel) (by decide +kernel)
set_option maxRecDepth 20000 in
theorem gX4_usedBy_X4_users : GoodIn wsX4_usedBy (wsV RX4 129 RX4 yX4_users wsX4_users) := goodIn_app (goodIn_of _ (by decide +kernel)) ggX4_usedBy_X4_users
theorem dX4_usedBy_0 : decode cX4_usedBy 0 = .ok (.aload_n 0, 1) := by decide +kernel
theorem dX4_usedBy_1 : decode cX4_usedBy 1 = .ok (.aload_n 0, 1) := by decide +kernel
theorem dX4_usedBy_2 : decode cX4_usedBy 2 = .ok (.iload_n 1, 1) := by decide +kernel
theorem dX4_usedBy_3 : decode cX4_usedBy 3 = .ok (.invokevirtual 90, 3) := by decide +kernel
theorem dX4_usedBy_6 : decode cX4_usedBy 6 = .ok (.iconst 1, 1) := by decide +kernel
theorem dX4_usedBy_7 : decode cX4_usedBy 7 = .ok (.iconst 1, 1) := by decide +kernel
theorem dX4_usedBy_8 : decode cX4_usedBy 8 = .ok (.invokevirtual 79, 3) := by decide +kernel
theorem dX4_usedBy_11 : decode cX4_usedBy 11 = .ok (.ifCond .eq 11, 3) := by decide +kernel
theorem dX4_usedBy_14 : decode cX4_usedBy 14 = .ok (.aload_n 0, 1) := by decide +kernel
theorem dX4_usedBy_15 : decode cX4_usedBy 15 = .ok (.iload_n 1, 1) := by decide +kernel
theorem dX4_usedBy_16 : decode cX4_usedBy 16 = .ok (.invokevirtual 129, 3) := by decide +kernel
theorem dX4_usedBy_19 : decode cX4_usedBy 19 = .ok (.goto 4, 3) := by decide +kernel
theorem dX4_usedBy_22 : decode cX4_usedBy 22 = .ok (.iconst 0, 1) := by decide +kernel
theorem dX4_usedBy_23 : decode cX4_usedBy 23 = .ok (.ireturn, 1) := by decide +kernel
set_option maxRecDepth 20000 in
theorem ggX4_isVersion_X4_isThing : GoodIn wsX4_isVersion wsX4_isThing := goodIn_r _ [6, 7, 8, 9, 5, 10, 11, 12, 13, 14, 15, 16, 17, 18, 19, 20, 21, 22, 23, 24, 25, 26, 27, 28, 29, 30, 31, 32, 33, 34, 35, 36] (by decide +kernel) (by decide +kernel)
set_option maxRecDepth 20000 in
theorem gX4_isVersion_X4_isThing : GoodIn wsX4_isVersion (wsV RX4 90 RX4 yX4_isThing wsX4_isThing) := goodIn_app (goodIn_of _ (by decide +kernel)) ggX4_isVersion_X4_isThing
set_option maxRecDepth 20000 in
theorem ggX4_isVersion_X4_in : GoodIn wsX4_isVersion wsX4_in := goodIn_r _ [10] (by decide +kernel) (by decide +kernel)
set_option maxRecDepth 20000 in
theorem gX4_isVersion_X4_in : GoodIn wsX4_isVersion (va_wsS RX4 72 yX4_in wsX4_in) := goodIn_app (goodIn_of _ (by decide +kernel)) ggX4_isVersion_X4_in
theorem dX4_isVersion_0 : decode cX4_isVersion 0 = .ok (.aload_n 0, 1) := by decide +kernel
theorem dX4_isVersion_1 : decode cX4_isVersion 1 = .ok (.iload_n 1, 1) := by decide +kernel
theorem dX4_isVersion_2 : decode cX4_isVersion 2 = .ok (.invokevirtual 90, 3) := by decide +kernel
theorem dX4_isVersion_5 : decode cX4_isVersion 5 = .ok (.ifCond .eq 21, 3) := by decide +kernel
theorem dX4_isVersion_8 : decode cX4_isVersion 8 = .ok (.iload_n 2, 1) := by decide +kernel
theorem dX4_isVersion_9 : decode cX4_isVersion 9 = .ok (.iconst 1, 1) := by decide +kernel
theorem dX4_isVersion_10 : decode cX4_isVersion 10 = .ok (.aload_n 0, 1) := by decide +kernel
theorem dX4_isVersion_11 : decode cX4_isVersion 11 = .ok (.getfield 23, 3) := by decide +kernel
theorem dX4_isVersion_14 : decode cX4_isVersion 14 = .ok (.iload_n 1, 1) := by decide +kernel
theorem dX4_isVersion_15 : decode cX4_isVersion 15 = .ok (.iaload, 1) := by decide +kernel
theorem dX4_isVersion_16 : decode cX4_isVersion 16 = .ok (.invokestatic 72, 3) := by decide +kernel
theorem dX4_isVersion_19 : decode cX4_isVersion 19 = .ok (.ifCond .eq 7, 3) := by decide +kernel
theorem dX4_isVersion_22 : decode cX4_isVersion 22 = .ok (.iconst 1, 1) := by decide +kernel
theorem dX4_isVersion_23 : decode cX4_isVersion 23 = .ok (.goto 4, 3) := by decide +kernel
theorem dX4_isVersion_26 : decode cX4_isVersion 26 = .ok (.iconst 0, 1) := by decide +kernel
theorem dX4_isVersion_27 : decode cX4_isVersion 27 = .ok (.ireturn, 1) := by decide +kernel
theorem dX4_placeOf_0 : decode cX4_placeOf 0 = .ok (.aload_n 0, 1) := by decide +kernel
theorem dX4_placeOf_1 : decode cX4_placeOf 1 = .ok (.getfield 20, 3) := by decide +kernel
theorem dX4_placeOf_4 : decode cX4_placeOf 4 = .ok (.iload_n 1, 1) := by decide +kernel
theorem dX4_placeOf_5 : decode cX4_placeOf 5 = .ok (.iaload, 1) := by decide +kernel
theorem dX4_placeOf_6 : decode cX4_placeOf 6 = .ok (.istore_n 3, 1) := by decide +kernel
theorem dX4_placeOf_7 : decode cX4_placeOf 7 = .ok (.aload_n 0, 1) := by decide +kernel
theorem dX4_placeOf_8 : decode cX4_placeOf 8 = .ok (.getfield 29, 3) := by decide +kernel
theorem dX4_placeOf_11 : decode cX4_placeOf 11 = .ok (.iload_n 3, 1) := by decide +kernel
theorem dX4_placeOf_12 : decode cX4_placeOf 12 = .ok (.iaload, 1) := by decide +kernel
theorem dX4_placeOf_13 : decode cX4_placeOf 13 = .ok (.iload_n 2, 1) := by decide +kernel
theorem dX4_placeOf_14 : decode cX4_placeOf 14 = .ok (.if_icmp .le 13, 3) := by decide +kernel
theorem dX4_placeOf_17 : decode cX4_placeOf 17 = .ok (.aload_n 0, 1) := by decide +kernel
theorem dX4_placeOf_18 : decode cX4_placeOf 18 = .ok (.getfield 32, 3) := by decide +kernel
theorem dX4_placeOf_21 : decode cX4_placeOf 21 = .ok (.iload_n 3, 1) := by decide +kernel
theorem dX4_placeOf_22 : decode cX4_placeOf 22 = .ok (.iaload, 1) := by decide +kernel
theorem dX4_placeOf_23 : decode cX4_placeOf 23 = .ok (.istore_n 3, 1) := by decide +kernel
theorem dX4_placeOf_24 : decode cX4_placeOf 24 = .ok (.goto (-17), 3) := by decide +kernel
theorem dX4_placeOf_27 : decode cX4_placeOf 27 = .ok (.iload_n 3, 1) := by decide +kernel
theorem dX4_placeOf_28 : decode cX4_placeOf 28 = .ok (.ireturn, 1) := by decide +kernel
set_option maxRecDepth 20000 in
theorem ggX4_hide_X4_isVersion : GoodIn wsX4_hide wsX4_isVersion := goodIn_r _ [9, 1, 10, 11, 12, 8, 13, 14, 15, 16, 17, 28, 29, 30, 31, 32, 33, 34, 35, 36, 37, 38, 39, 40, 41, 42, 43, 44, 45, 46, 47, 48, 49, 50, 51, 52, 53] (by decide +kernel) (by decide +kernel)
set_option maxRecDepth 20000 in
theorem gX4_hide_X4_isVersion : GoodIn wsX4_hide (wsV RX4 142 RX4 yX4_isVersion wsX4_isVersion) := goodIn_app (goodIn_of _ (by decide +kernel)) ggX4_hide_X4_isVersion
set_option maxRecDepth 20000 in
theorem ggX4_hide_X4_placeOf : GoodIn wsX4_hide wsX4_placeOf := goodIn_r _ [21, 3, 22, 4, 28, 29, 30, 31, 32, 33, 34, 35, 36, 37, 38, 39, 40, 41, 42, 43, 44, 45, 46, 47, 48, 49, 50, 51, 52, 53] (by decide +kernel) (by decide +kernel)
set_option maxRecDepth 20000 in
theorem gX4_hide_X4_placeOf : GoodIn wsX4_hide (wsV RX4 145 RX4 yX4_placeOf wsX4_placeOf) := goodIn_app (goodIn_of _ (by decide +kernel)) ggX4_hide_X4_placeOf
set_option maxRecDepth 20000 in
theorem ggX4_hide_X4_goes : GoodIn wsX4_hide wsX4_goes := goodIn_r _ [26, 27, 28, 29, 30, 31, 32, 33, 34, 35, 36, 37, 38, 39, 40, 41, 42, 43, 44, 45, 46, 47, 48, 49, 50, 51, 52, 53] (by decide +kernel) (by decide +kernel)
set_option maxRecDepth 20000 in
theorem gX4_hide_X4_goes : GoodIn wsX4_hide (wsV RX4 79 RX4 yX4_goes wsX4_goes) := goodIn_app (goodIn_of _ (by decide +kernel)) ggX4_hide_X4_goes
theorem dX4_hide_0 : decode cX4_hide 0 = .ok (.aload_n 0, 1) := by decide +kernel
theorem dX4_hide_1 : decode cX4_hide 1 = .ok (.iload_n 1, 1) := by decide +kernel
theorem dX4_hide_2 : decode cX4_hide 2 = .ok (.iload_n 2, 1) := by decide +kernel
theorem dX4_hide_3 : decode cX4_hide 3 = .ok (.invokevirtual 142, 3) := by decide +kernel
theorem dX4_hide_6 : decode cX4_hide 6 = .ok (.istore_n 3, 1) := by decide +kernel
theorem dX4_hide_7 : decode cX4_hide 7 = .ok (.iload_n 3, 1) := by decide +kernel
theorem dX4_hide_8 : decode cX4_hide 8 = .ok (.ifCond .eq 12, 3) := by decide +kernel
theorem dX4_hide_11 : decode cX4_hide 11 = .ok (.aload_n 0, 1) := by decide +kernel
theorem dX4_hide_12 : decode cX4_hide 12 = .ok (.iload_n 1, 1) := by decide +kernel
theorem dX4_hide_13 : decode cX4_hide 13 = .ok (.iload_n 2, 1) := by decide +kernel
theorem dX4_hide_14 : decode cX4_hide 14 = .ok (.invokevirtual 145, 3) := by decide +kernel
theorem dX4_hide_17 : decode cX4_hide 17 = .ok (.goto 4, 3) := by decide +kernel
theorem dX4_hide_20 : decode cX4_hide 20 = .ok (.iconst 0, 1) := by decide +kernel
theorem dX4_hide_21 : decode cX4_hide 21 = .ok (.istore 4, 2) := by decide +kernel
theorem dX4_hide_23 : decode cX4_hide 23 = .ok (.aload_n 0, 1) := by decide +kernel
theorem dX4_hide_24 : decode cX4_hide 24 = .ok (.iload_n 3, 1) := by decide +kernel
theorem dX4_hide_25 : decode cX4_hide 25 = .ok (.iload_n 3, 1) := by decide +kernel
theorem dX4_hide_26 : decode cX4_hide 26 = .ok (.ifCond .eq 27, 3) := by decide +kernel
theorem dX4_hide_29 : decode cX4_hide 29 = .ok (.iload_n 2, 1) := by decide +kernel
theorem dX4_hide_30 : decode cX4_hide 30 = .ok (.aload_n 0, 1) := by decide +kernel
theorem dX4_hide_31 : decode cX4_hide 31 = .ok (.getfield 23, 3) := by decide +kernel
theorem dX4_hide_34 : decode cX4_hide 34 = .ok (.iload_n 1, 1) := by decide +kernel
theorem dX4_hide_35 : decode cX4_hide 35 = .ok (.iaload, 1) := by decide +kernel
theorem dX4_hide_36 : decode cX4_hide 36 = .ok (.if_icmp .eq 17, 3) := by decide +kernel
theorem dX4_hide_39 : decode cX4_hide 39 = .ok (.aload_n 0, 1) := by decide +kernel
theorem dX4_hide_40 : decode cX4_hide 40 = .ok (.getfield 44, 3) := by decide +kernel
theorem dX4_hide_43 : decode cX4_hide 43 = .ok (.iload 4, 2) := by decide +kernel
theorem dX4_hide_45 : decode cX4_hide 45 = .ok (.baload, 1) := by decide +kernel
theorem dX4_hide_46 : decode cX4_hide 46 = .ok (.ifCond .ne 7, 3) := by decide +kernel
theorem dX4_hide_49 : decode cX4_hide 49 = .ok (.iconst 1, 1) := by decide +kernel
theorem dX4_hide_50 : decode cX4_hide 50 = .ok (.goto 4, 3) := by decide +kernel
theorem dX4_hide_53 : decode cX4_hide 53 = .ok (.iconst 0, 1) := by decide +kernel
theorem dX4_hide_54 : decode cX4_hide 54 = .ok (.iconst 1, 1) := by decide +kernel
theorem dX4_hide_55 : decode cX4_hide 55 = .ok (.invokevirtual 79, 3) := by decide +kernel
theorem dX4_hide_58 : decode cX4_hide 58 = .ok (.ifCond .ne 5, 3) := by decide +kernel
theorem dX4_hide_61 : decode cX4_hide 61 = .ok (.iconst 0, 1) := by decide +kernel
theorem dX4_hide_62 : decode cX4_hide 62 = .ok (.ireturn, 1) := by decide +kernel
theorem dX4_hide_63 : decode cX4_hide 63 = .ok (.aload_n 0, 1) := by decide +kernel
theorem dX4_hide_64 : decode cX4_hide 64 = .ok (.getfield 44, 3) := by decide +kernel
theorem dX4_hide_67 : decode cX4_hide 67 = .ok (.iload 4, 2) := by decide +kernel
theorem dX4_hide_69 : decode cX4_hide 69 = .ok (.iconst 1, 1) := by decide +kernel
theorem dX4_hide_70 : decode cX4_hide 70 = .ok (.bastore, 1) := by decide +kernel
theorem dX4_hide_71 : decode cX4_hide 71 = .ok (.iconst 0, 1) := by decide +kernel
theorem dX4_hide_72 : decode cX4_hide 72 = .ok (.istore 5, 2) := by decide +kernel
theorem dX4_hide_74 : decode cX4_hide 74 = .ok (.aload_n 0, 1) := by decide +kernel
theorem dX4_hide_75 : decode cX4_hide 75 = .ok (.getfield 20, 3) := by decide +kernel
theorem dX4_hide_78 : decode cX4_hide 78 = .ok (.iload_n 1, 1) := by decide +kernel
theorem dX4_hide_79 : decode cX4_hide 79 = .ok (.iaload, 1) := by decide +kernel
theorem dX4_hide_80 : decode cX4_hide 80 = .ok (.istore 6, 2) := by decide +kernel
theorem dX4_hide_82 : decode cX4_hide 82 = .ok (.iload 6, 2) := by decide +kernel
theorem dX4_hide_84 : decode cX4_hide 84 = .ok (.iconst (-1), 1) := by decide +kernel
theorem dX4_hide_85 : decode cX4_hide 85 = .ok (.if_icmp .eq 35, 3) := by decide +kernel
theorem dX4_hide_88 : decode cX4_hide 88 = .ok (.iload 5, 2) := by decide +kernel
theorem dX4_hide_90 : decode cX4_hide 90 = .ok (.aload_n 0, 1) := by decide +kernel
theorem dX4_hide_91 : decode cX4_hide 91 = .ok (.getfield 44, 3) := by decide +kernel
theorem dX4_hide_94 : decode cX4_hide 94 = .ok (.iload 6, 2) := by decide +kernel
theorem dX4_hide_96 : decode cX4_hide 96 = .ok (.baload, 1) := by decide +kernel
theorem dX4_hide_97 : decode cX4_hide 97 = .ok (.ifCond .eq 7, 3) := by decide +kernel
theorem dX4_hide_100 : decode cX4_hide 100 = .ok (.iconst 0, 1) := by decide +kernel
theorem dX4_hide_101 : decode cX4_hide 101 = .ok (.goto 4, 3) := by decide +kernel
theorem dX4_hide_104 : decode cX4_hide 104 = .ok (.iconst 1, 1) := by decide +kernel
theorem dX4_hide_105 : decode cX4_hide 105 = .ok (.iadd, 1) := by decide +kernel
theorem dX4_hide_106 : decode cX4_hide 106 = .ok (.istore 5, 2) := by decide +kernel
theorem dX4_hide_108 : decode cX4_hide 108 = .ok (.aload_n 0, 1) := by decide +kernel
theorem dX4_hide_109 : decode cX4_hide 109 = .ok (.getfield 32, 3) := by decide +kernel
theorem dX4_hide_112 : decode cX4_hide 112 = .ok (.iload 6, 2) := by decide +kernel
theorem dX4_hide_114 : decode cX4_hide 114 = .ok (.iaload, 1) := by decide +kernel
theorem dX4_hide_115 : decode cX4_hide 115 = .ok (.istore 6, 2) := by decide +kernel
theorem dX4_hide_117 : decode cX4_hide 117 = .ok (.goto (-35), 3) := by decide +kernel
theorem dX4_hide_120 : decode cX4_hide 120 = .ok (.iload 5, 2) := by decide +kernel
theorem dX4_hide_122 : decode cX4_hide 122 = .ok (.ireturn, 1) := by decide +kernel
set_option maxRecDepth 20000 in
theorem ggX4_setOf_X4_isVersion : GoodIn wsX4_setOf wsX4_isVersion := goodIn_r _ [7, 8, 9, 10, 11, 6, 12, 13, 14, 15, 16, 29, 30, 31, 32, 33, 34, 35, 36, 37, 38, 39, 40, 41, 42, 43, 44, 45, 46, 47, 48, 49, 50, 51, 52, 53, 54] (by decide +kernel) (by decide +kernel)
set_option maxRecDepth 20000 in
theorem gX4_setOf_X4_isVersion : GoodIn wsX4_setOf (wsV RX4 142 RX4 yX4_isVersion wsX4_isVersion) := goodIn_app (goodIn_of _ (by decide +kernel)) ggX4_setOf_X4_isVersion
set_option maxRecDepth 20000 in
theorem ggX4_setOf_X4_placeOf : GoodIn wsX4_setOf wsX4_placeOf := goodIn_r _ [20, 21, 22, 23, 29, 30, 31, 32, 33, 34, 35, 36, 37, 38, 39, 40, 41, 42, 43, 44, 45, 46, 47, 48, 49, 50, 51, 52, 53, 54] (by decide +kernel) (by decide +kernel)
set_option maxRecDepth 20000 in
theorem gX4_setOf_X4_placeOf : GoodIn wsX4_setOf (wsV RX4 145 RX4 yX4_placeOf wsX4_placeOf) := goodIn_app (goodIn_of _ (by decide +kernel)) ggX4_setOf_X4_placeOf
set_option maxRecDepth 20000 in
theorem ggX4_setOf_X4_goes : GoodIn wsX4_setOf wsX4_goes := goodIn_r _ [27, 28, 29, 30, 31, 32, 33, 34, 35, 36, 37, 38, 39, 40, 41, 42, 43, 44, 45, 46, 47, 48, 49, 50, 51, 52, 53, 54] (by decide +kernel) (by decide +kernel)
set_option maxRecDepth 20000 in
theorem gX4_setOf_X4_goes : GoodIn wsX4_setOf (wsV RX4 79 RX4 yX4_goes wsX4_goes) := goodIn_app (goodIn_of _ (by decide +kernel)) ggX4_setOf_X4_goes
theorem dX4_setOf_0 : decode cX4_setOf 0 = .ok (.aload_n 0, 1) := by decide +kernel
theorem dX4_setOf_1 : decode cX4_setOf 1 = .ok (.iload_n 1, 1) := by decide +kernel
theorem dX4_setOf_2 : decode cX4_setOf 2 = .ok (.iload_n 2, 1) := by decide +kernel
theorem dX4_setOf_3 : decode cX4_setOf 3 = .ok (.invokevirtual 142, 3) := by decide +kernel
theorem dX4_setOf_6 : decode cX4_setOf 6 = .ok (.istore_n 3, 1) := by decide +kernel
theorem dX4_setOf_7 : decode cX4_setOf 7 = .ok (.iload_n 3, 1) := by decide +kernel
theorem dX4_setOf_8 : decode cX4_setOf 8 = .ok (.ifCond .eq 12, 3) := by decide +kernel
theorem dX4_setOf_11 : decode cX4_setOf 11 = .ok (.aload_n 0, 1) := by decide +kernel
theorem dX4_setOf_12 : decode cX4_setOf 12 = .ok (.iload_n 1, 1) := by decide +kernel
theorem dX4_setOf_13 : decode cX4_setOf 13 = .ok (.iload_n 2, 1) := by decide +kernel
theorem dX4_setOf_14 : decode cX4_setOf 14 = .ok (.invokevirtual 145, 3) := by decide +kernel
theorem dX4_setOf_17 : decode cX4_setOf 17 = .ok (.goto 4, 3) := by decide +kernel
theorem dX4_setOf_20 : decode cX4_setOf 20 = .ok (.iconst 0, 1) := by decide +kernel
theorem dX4_setOf_21 : decode cX4_setOf 21 = .ok (.istore 4, 2) := by decide +kernel
theorem dX4_setOf_23 : decode cX4_setOf 23 = .ok (.aload_n 0, 1) := by decide +kernel
theorem dX4_setOf_24 : decode cX4_setOf 24 = .ok (.iload_n 3, 1) := by decide +kernel
theorem dX4_setOf_25 : decode cX4_setOf 25 = .ok (.iload_n 3, 1) := by decide +kernel
theorem dX4_setOf_26 : decode cX4_setOf 26 = .ok (.ifCond .eq 17, 3) := by decide +kernel
theorem dX4_setOf_29 : decode cX4_setOf 29 = .ok (.aload_n 0, 1) := by decide +kernel
theorem dX4_setOf_30 : decode cX4_setOf 30 = .ok (.getfield 44, 3) := by decide +kernel
theorem dX4_setOf_33 : decode cX4_setOf 33 = .ok (.iload 4, 2) := by decide +kernel
theorem dX4_setOf_35 : decode cX4_setOf 35 = .ok (.baload, 1) := by decide +kernel
theorem dX4_setOf_36 : decode cX4_setOf 36 = .ok (.ifCond .ne 7, 3) := by decide +kernel
theorem dX4_setOf_39 : decode cX4_setOf 39 = .ok (.iconst 1, 1) := by decide +kernel
theorem dX4_setOf_40 : decode cX4_setOf 40 = .ok (.goto 4, 3) := by decide +kernel
theorem dX4_setOf_43 : decode cX4_setOf 43 = .ok (.iconst 0, 1) := by decide +kernel
theorem dX4_setOf_44 : decode cX4_setOf 44 = .ok (.iconst 1, 1) := by decide +kernel
theorem dX4_setOf_45 : decode cX4_setOf 45 = .ok (.invokevirtual 79, 3) := by decide +kernel
theorem dX4_setOf_48 : decode cX4_setOf 48 = .ok (.ifCond .eq 13, 3) := by decide +kernel
theorem dX4_setOf_51 : decode cX4_setOf 51 = .ok (.aload_n 0, 1) := by decide +kernel
theorem dX4_setOf_52 : decode cX4_setOf 52 = .ok (.getfield 35, 3) := by decide +kernel
theorem dX4_setOf_55 : decode cX4_setOf 55 = .ok (.iload 4, 2) := by decide +kernel
theorem dX4_setOf_57 : decode cX4_setOf 57 = .ok (.iaload, 1) := by decide +kernel
theorem dX4_setOf_58 : decode cX4_setOf 58 = .ok (.goto 4, 3) := by decide +kernel
theorem dX4_setOf_61 : decode cX4_setOf 61 = .ok (.iconst 0, 1) := by decide +kernel
theorem dX4_setOf_62 : decode cX4_setOf 62 = .ok (.ireturn, 1) := by decide +kernel
theorem dX4_before_0 : decode cX4_before 0 = .ok (.aload_n 0, 1) := by decide +kernel
theorem dX4_before_1 : decode cX4_before 1 = .ok (.getfield 20, 3) := by decide +kernel
theorem dX4_before_4 : decode cX4_before 4 = .ok (.iload_n 1, 1) := by decide +kernel
theorem dX4_before_5 : decode cX4_before 5 = .ok (.iaload, 1) := by decide +kernel
theorem dX4_before_6 : decode cX4_before 6 = .ok (.istore_n 3, 1) := by decide +kernel
theorem dX4_before_7 : decode cX4_before 7 = .ok (.iload_n 3, 1) := by decide +kernel
theorem dX4_before_8 : decode cX4_before 8 = .ok (.iconst (-1), 1) := by decide +kernel
theorem dX4_before_9 : decode cX4_before 9 = .ok (.if_icmp .eq 23, 3) := by decide +kernel
theorem dX4_before_12 : decode cX4_before 12 = .ok (.aload_n 0, 1) := by decide +kernel
theorem dX4_before_13 : decode cX4_before 13 = .ok (.getfield 38, 3) := by decide +kernel
theorem dX4_before_16 : decode cX4_before 16 = .ok (.iload_n 3, 1) := by decide +kernel
theorem dX4_before_17 : decode cX4_before 17 = .ok (.iaload, 1) := by decide +kernel
theorem dX4_before_18 : decode cX4_before 18 = .ok (.iload_n 2, 1) := by decide +kernel
theorem dX4_before_19 : decode cX4_before 19 = .ok (.if_icmp .lt 13, 3) := by decide +kernel
theorem dX4_before_22 : decode cX4_before 22 = .ok (.aload_n 0, 1) := by decide +kernel
theorem dX4_before_23 : decode cX4_before 23 = .ok (.getfield 32, 3) := by decide +kernel
theorem dX4_before_26 : decode cX4_before 26 = .ok (.iload_n 3, 1) := by decide +kernel
theorem dX4_before_27 : decode cX4_before 27 = .ok (.iaload, 1) := by decide +kernel
theorem dX4_before_28 : decode cX4_before 28 = .ok (.istore_n 3, 1) := by decide +kernel
theorem dX4_before_29 : decode cX4_before 29 = .ok (.goto (-22), 3) := by decide +kernel
theorem dX4_before_32 : decode cX4_before 32 = .ok (.iload_n 3, 1) := by decide +kernel
theorem dX4_before_33 : decode cX4_before 33 = .ok (.iconst (-1), 1) := by decide +kernel
theorem dX4_before_34 : decode cX4_before 34 = .ok (.if_icmp .ne 7, 3) := by decide +kernel
theorem dX4_before_37 : decode cX4_before 37 = .ok (.iconst 0, 1) := by decide +kernel
theorem dX4_before_38 : decode cX4_before 38 = .ok (.goto 9, 3) := by decide +kernel
theorem dX4_before_41 : decode cX4_before 41 = .ok (.aload_n 0, 1) := by decide +kernel
theorem dX4_before_42 : decode cX4_before 42 = .ok (.getfield 29, 3) := by decide +kernel
theorem dX4_before_45 : decode cX4_before 45 = .ok (.iload_n 3, 1) := by decide +kernel
theorem dX4_before_46 : decode cX4_before 46 = .ok (.iaload, 1) := by decide +kernel
theorem dX4_before_47 : decode cX4_before 47 = .ok (.ireturn, 1) := by decide +kernel
set_option maxRecDepth 20000 in
theorem ggX4_versionAt_X4_isThing : GoodIn wsX4_versionAt wsX4_isThing := goodIn_r _ [6, 7, 8, 9, 5, 10, 24, 25, 26, 27, 28, 29, 30, 31, 32, 33, 34, 35, 36, 37, 38, 39, 40, 41, 42, 43, 44, 45, 46, 47, 48, 49] (by decide +kernel) (by decide +kernel)
set_option maxRecDepth 20000 in
theorem gX4_versionAt_X4_isThing : GoodIn wsX4_versionAt (wsV RX4 90 RX4 yX4_isThing wsX4_isThing) := goodIn_app (goodIn_of _ (by decide +kernel)) ggX4_versionAt_X4_isThing
set_option maxRecDepth 20000 in
theorem ggX4_versionAt_X4_in : GoodIn wsX4_versionAt wsX4_in := goodIn_r _ [10] (by decide +kernel) (by decide +kernel)
set_option maxRecDepth 20000 in
theorem gX4_versionAt_X4_in : GoodIn wsX4_versionAt (va_wsS RX4 72 yX4_in wsX4_in) := goodIn_app (goodIn_of _ (by decide +kernel)) ggX4_versionAt_X4_in
set_option maxRecDepth 20000 in
theorem ggX4_versionAt_X4_goes : GoodIn wsX4_versionAt wsX4_goes := goodIn_r _ [14, 15, 24, 25, 26, 27, 28, 29, 30, 31, 32, 33, 34, 35, 36, 37, 38, 39, 40, 41, 42, 43, 44, 45, 46, 47, 48, 49] (by decide +kernel) (by decide +kernel)
set_option maxRecDepth 20000 in
theorem gX4_versionAt_X4_goes : GoodIn wsX4_versionAt (wsV RX4 79 RX4 yX4_goes wsX4_goes) := goodIn_app (goodIn_of _ (by decide +kernel)) ggX4_versionAt_X4_goes
set_option maxRecDepth 20000 in
theorem ggX4_versionAt_X4_before : GoodIn wsX4_versionAt wsX4_before := goodIn_r _ [19, 20, 21, 22, 23, 24, 25, 26, 27, 28, 29, 30, 31, 32, 33, 34, 35, 36, 37, 38, 39, 40, 41, 42, 43, 44, 45, 46, 47, 48, 49] (by decide +kernel) (by decide +kernel)
set_option maxRecDepth 20000 in
theorem gX4_versionAt_X4_before : GoodIn wsX4_versionAt (wsV RX4 149 RX4 yX4_before wsX4_before) := goodIn_app (goodIn_of _ (by decide +kernel)) ggX4_versionAt_X4_before
theorem dX4_versionAt_0 : decode cX4_versionAt 0 = .ok (.aload_n 0, 1) := by decide +kernel
theorem dX4_versionAt_1 : decode cX4_versionAt 1 = .ok (.aload_n 0, 1) := by decide +kernel
theorem dX4_versionAt_2 : decode cX4_versionAt 2 = .ok (.iload_n 1, 1) := by decide +kernel
theorem dX4_versionAt_3 : decode cX4_versionAt 3 = .ok (.invokevirtual 90, 3) := by decide +kernel
theorem dX4_versionAt_6 : decode cX4_versionAt 6 = .ok (.iload_n 2, 1) := by decide +kernel
theorem dX4_versionAt_7 : decode cX4_versionAt 7 = .ok (.iconst 0, 1) := by decide +kernel
theorem dX4_versionAt_8 : decode cX4_versionAt 8 = .ok (.aload_n 0, 1) := by decide +kernel
theorem dX4_versionAt_9 : decode cX4_versionAt 9 = .ok (.getfield 110, 3) := by decide +kernel
theorem dX4_versionAt_12 : decode cX4_versionAt 12 = .ok (.invokestatic 72, 3) := by decide +kernel
theorem dX4_versionAt_15 : decode cX4_versionAt 15 = .ok (.iconst 1, 1) := by decide +kernel
theorem dX4_versionAt_16 : decode cX4_versionAt 16 = .ok (.invokevirtual 79, 3) := by decide +kernel
theorem dX4_versionAt_19 : decode cX4_versionAt 19 = .ok (.ifCond .eq 14, 3) := by decide +kernel
theorem dX4_versionAt_22 : decode cX4_versionAt 22 = .ok (.aload_n 0, 1) := by decide +kernel
theorem dX4_versionAt_23 : decode cX4_versionAt 23 = .ok (.iload_n 1, 1) := by decide +kernel
theorem dX4_versionAt_24 : decode cX4_versionAt 24 = .ok (.iload_n 2, 1) := by decide +kernel
theorem dX4_versionAt_25 : decode cX4_versionAt 25 = .ok (.iconst 1, 1) := by decide +kernel
