theorem dX4_makes_11 : decode cX4_makes 11 = .ok (.getfield 32, 3) := by decide +kernel
theorem dX4_makes_14 : decode cX4_makes 14 = .ok (.aload_n 0, 1) := by decide +kernel
theorem dX4_makes_15 : decode cX4_makes 15 = .ok (.getfield 87, 3) := by decide +kernel
theorem dX4_makes_18 : decode cX4_makes 18 = .ok (.aload_n 0, 1) := by decide +kernel
theorem dX4_makes_19 : decode cX4_makes 19 = .ok (.getfield 23, 3) := by decide +kernel
theorem dX4_makes_22 : decode cX4_makes 22 = .ok (.iload_n 2, 1) := by decide +kernel
theorem dX4_makes_23 : decode cX4_makes 23 = .ok (.iaload, 1) := by decide +kernel
theorem dX4_makes_24 : decode cX4_makes 24 = .ok (.ifCond .ne 7, 3) := by decide +kernel
theorem dX4_makes_27 : decode cX4_makes 27 = .ok (.iconst (-1), 1) := by decide +kernel
theorem dX4_makes_28 : decode cX4_makes 28 = .ok (.goto 9, 3) := by decide +kernel
theorem dX4_makes_31 : decode cX4_makes 31 = .ok (.aload_n 0, 1) := by decide +kernel
theorem dX4_makes_32 : decode cX4_makes 32 = .ok (.getfield 20, 3) := by decide +kernel
theorem dX4_makes_35 : decode cX4_makes 35 = .ok (.iload_n 2, 1) := by decide +kernel
theorem dX4_makes_36 : decode cX4_makes 36 = .ok (.iaload, 1) := by decide +kernel
theorem dX4_makes_37 : decode cX4_makes 37 = .ok (.iastore, 1) := by decide +kernel
theorem dX4_makes_38 : decode cX4_makes 38 = .ok (.aload_n 0, 1) := by decide +kernel
theorem dX4_makes_39 : decode cX4_makes 39 = .ok (.getfield 23, 3) := by decide +kernel
theorem dX4_makes_42 : decode cX4_makes 42 = .ok (.iload_n 2, 1) := by decide +kernel
theorem dX4_makes_43 : decode cX4_makes 43 = .ok (.dup2, 1) := by decide +kernel
theorem dX4_makes_44 : decode cX4_makes 44 = .ok (.iaload, 1) := by decide +kernel
theorem dX4_makes_45 : decode cX4_makes 45 = .ok (.iconst 1, 1) := by decide +kernel
theorem dX4_makes_46 : decode cX4_makes 46 = .ok (.iadd, 1) := by decide +kernel
theorem dX4_makes_47 : decode cX4_makes 47 = .ok (.iastore, 1) := by decide +kernel
theorem dX4_makes_48 : decode cX4_makes 48 = .ok (.aload_n 0, 1) := by decide +kernel
theorem dX4_makes_49 : decode cX4_makes 49 = .ok (.getfield 29, 3) := by decide +kernel
theorem dX4_makes_52 : decode cX4_makes 52 = .ok (.aload_n 0, 1) := by decide +kernel
theorem dX4_makes_53 : decode cX4_makes 53 = .ok (.getfield 87, 3) := by decide +kernel
theorem dX4_makes_56 : decode cX4_makes 56 = .ok (.aload_n 0, 1) := by decide +kernel
theorem dX4_makes_57 : decode cX4_makes 57 = .ok (.getfield 23, 3) := by decide +kernel
theorem dX4_makes_60 : decode cX4_makes 60 = .ok (.iload_n 2, 1) := by decide +kernel
theorem dX4_makes_61 : decode cX4_makes 61 = .ok (.iaload, 1) := by decide +kernel
theorem dX4_makes_62 : decode cX4_makes 62 = .ok (.iastore, 1) := by decide +kernel
theorem dX4_makes_63 : decode cX4_makes 63 = .ok (.aload_n 0, 1) := by decide +kernel
theorem dX4_makes_64 : decode cX4_makes 64 = .ok (.getfield 35, 3) := by decide +kernel
theorem dX4_makes_67 : decode cX4_makes 67 = .ok (.aload_n 0, 1) := by decide +kernel
theorem dX4_makes_68 : decode cX4_makes 68 = .ok (.getfield 87, 3) := by decide +kernel
theorem dX4_makes_71 : decode cX4_makes 71 = .ok (.iload_n 1, 1) := by decide +kernel
theorem dX4_makes_72 : decode cX4_makes 72 = .ok (.iastore, 1) := by decide +kernel
theorem dX4_makes_73 : decode cX4_makes 73 = .ok (.aload_n 0, 1) := by decide +kernel
theorem dX4_makes_74 : decode cX4_makes 74 = .ok (.getfield 38, 3) := by decide +kernel
theorem dX4_makes_77 : decode cX4_makes 77 = .ok (.aload_n 0, 1) := by decide +kernel
theorem dX4_makes_78 : decode cX4_makes 78 = .ok (.getfield 87, 3) := by decide +kernel
theorem dX4_makes_81 : decode cX4_makes 81 = .ok (.aload_n 0, 1) := by decide +kernel
theorem dX4_makes_82 : decode cX4_makes 82 = .ok (.getfield 110, 3) := by decide +kernel
theorem dX4_makes_85 : decode cX4_makes 85 = .ok (.iastore, 1) := by decide +kernel
theorem dX4_makes_86 : decode cX4_makes 86 = .ok (.aload_n 0, 1) := by decide +kernel
theorem dX4_makes_87 : decode cX4_makes 87 = .ok (.getfield 41, 3) := by decide +kernel
theorem dX4_makes_90 : decode cX4_makes 90 = .ok (.aload_n 0, 1) := by decide +kernel
theorem dX4_makes_91 : decode cX4_makes 91 = .ok (.getfield 87, 3) := by decide +kernel
theorem dX4_makes_94 : decode cX4_makes 94 = .ok (.iload_n 3, 1) := by decide +kernel
theorem dX4_makes_95 : decode cX4_makes 95 = .ok (.bastore, 1) := by decide +kernel
theorem dX4_makes_96 : decode cX4_makes 96 = .ok (.aload_n 0, 1) := by decide +kernel
theorem dX4_makes_97 : decode cX4_makes 97 = .ok (.getfield 44, 3) := by decide +kernel
theorem dX4_makes_100 : decode cX4_makes 100 = .ok (.aload_n 0, 1) := by decide +kernel
theorem dX4_makes_101 : decode cX4_makes 101 = .ok (.getfield 87, 3) := by decide +kernel
theorem dX4_makes_104 : decode cX4_makes 104 = .ok (.iconst 0, 1) := by decide +kernel
theorem dX4_makes_105 : decode cX4_makes 105 = .ok (.bastore, 1) := by decide +kernel
theorem dX4_makes_106 : decode cX4_makes 106 = .ok (.aload_n 0, 1) := by decide +kernel
theorem dX4_makes_107 : decode cX4_makes 107 = .ok (.getfield 47, 3) := by decide +kernel
theorem dX4_makes_110 : decode cX4_makes 110 = .ok (.aload_n 0, 1) := by decide +kernel
theorem dX4_makes_111 : decode cX4_makes 111 = .ok (.getfield 87, 3) := by decide +kernel
theorem dX4_makes_114 : decode cX4_makes 114 = .ok (.iload 4, 2) := by decide +kernel
theorem dX4_makes_116 : decode cX4_makes 116 = .ok (.iastore, 1) := by decide +kernel
theorem dX4_makes_117 : decode cX4_makes 117 = .ok (.aload_n 0, 1) := by decide +kernel
theorem dX4_makes_118 : decode cX4_makes 118 = .ok (.getfield 50, 3) := by decide +kernel
theorem dX4_makes_121 : decode cX4_makes 121 = .ok (.aload_n 0, 1) := by decide +kernel
theorem dX4_makes_122 : decode cX4_makes 122 = .ok (.getfield 87, 3) := by decide +kernel
theorem dX4_makes_125 : decode cX4_makes 125 = .ok (.iload_n 3, 1) := by decide +kernel
theorem dX4_makes_126 : decode cX4_makes 126 = .ok (.ifCond .eq 10, 3) := by decide +kernel
theorem dX4_makes_129 : decode cX4_makes 129 = .ok (.aload_n 0, 1) := by decide +kernel
theorem dX4_makes_130 : decode cX4_makes 130 = .ok (.getfield 100, 3) := by decide +kernel
theorem dX4_makes_133 : decode cX4_makes 133 = .ok (.goto 4, 3) := by decide +kernel
theorem dX4_makes_136 : decode cX4_makes 136 = .ok (.iconst 0, 1) := by decide +kernel
theorem dX4_makes_137 : decode cX4_makes 137 = .ok (.iastore, 1) := by decide +kernel
theorem dX4_makes_138 : decode cX4_makes 138 = .ok (.iconst 0, 1) := by decide +kernel
theorem dX4_makes_139 : decode cX4_makes 139 = .ok (.istore 5, 2) := by decide +kernel
theorem dX4_makes_141 : decode cX4_makes 141 = .ok (.iload 5, 2) := by decide +kernel
theorem dX4_makes_143 : decode cX4_makes 143 = .ok (.aload_n 0, 1) := by decide +kernel
theorem dX4_makes_144 : decode cX4_makes 144 = .ok (.getfield 100, 3) := by decide +kernel
theorem dX4_makes_147 : decode cX4_makes 147 = .ok (.if_icmp .ge 35, 3) := by decide +kernel
theorem dX4_makes_150 : decode cX4_makes 150 = .ok (.iload_n 3, 1) := by decide +kernel
theorem dX4_makes_151 : decode cX4_makes 151 = .ok (.ifCond .eq 31, 3) := by decide +kernel
theorem dX4_makes_154 : decode cX4_makes 154 = .ok (.aload_n 0, 1) := by decide +kernel
theorem dX4_makes_155 : decode cX4_makes 155 = .ok (.getfield 53, 3) := by decide +kernel
theorem dX4_makes_158 : decode cX4_makes 158 = .ok (.bipush 6, 2) := by decide +kernel
theorem dX4_makes_160 : decode cX4_makes 160 = .ok (.aload_n 0, 1) := by decide +kernel
theorem dX4_makes_161 : decode cX4_makes 161 = .ok (.getfield 87, 3) := by decide +kernel
theorem dX4_makes_164 : decode cX4_makes 164 = .ok (.imul, 1) := by decide +kernel
theorem dX4_makes_165 : decode cX4_makes 165 = .ok (.iload 5, 2) := by decide +kernel
theorem dX4_makes_167 : decode cX4_makes 167 = .ok (.iadd, 1) := by decide +kernel
theorem dX4_makes_168 : decode cX4_makes 168 = .ok (.aload_n 0, 1) := by decide +kernel
theorem dX4_makes_169 : decode cX4_makes 169 = .ok (.getfield 62, 3) := by decide +kernel
theorem dX4_makes_172 : decode cX4_makes 172 = .ok (.iload 5, 2) := by decide +kernel
theorem dX4_makes_174 : decode cX4_makes 174 = .ok (.iaload, 1) := by decide +kernel
theorem dX4_makes_175 : decode cX4_makes 175 = .ok (.iastore, 1) := by decide +kernel
theorem dX4_makes_176 : decode cX4_makes 176 = .ok (.iinc 5 1, 3) := by decide +kernel
theorem dX4_makes_179 : decode cX4_makes 179 = .ok (.goto (-38), 3) := by decide +kernel
theorem dX4_makes_182 : decode cX4_makes 182 = .ok (.aload_n 0, 1) := by decide +kernel
theorem dX4_makes_183 : decode cX4_makes 183 = .ok (.getfield 20, 3) := by decide +kernel
theorem dX4_makes_186 : decode cX4_makes 186 = .ok (.iload_n 2, 1) := by decide +kernel
theorem dX4_makes_187 : decode cX4_makes 187 = .ok (.aload_n 0, 1) := by decide +kernel
theorem dX4_makes_188 : decode cX4_makes 188 = .ok (.getfield 87, 3) := by decide +kernel
theorem dX4_makes_191 : decode cX4_makes 191 = .ok (.iastore, 1) := by decide +kernel
theorem dX4_makes_192 : decode cX4_makes 192 = .ok (.aload_n 0, 1) := by decide +kernel
theorem dX4_makes_193 : decode cX4_makes 193 = .ok (.dup, 1) := by decide +kernel
theorem dX4_makes_194 : decode cX4_makes 194 = .ok (.getfield 87, 3) := by decide +kernel
theorem dX4_makes_197 : decode cX4_makes 197 = .ok (.iconst 1, 1) := by decide +kernel
theorem dX4_makes_198 : decode cX4_makes 198 = .ok (.iadd, 1) := by decide +kernel
theorem dX4_makes_199 : decode cX4_makes 199 = .ok (.putfield 87, 3) := by decide +kernel
theorem dX4_makes_202 : decode cX4_makes 202 = .ok (.aload_n 0, 1) := by decide +kernel
theorem dX4_makes_203 : decode cX4_makes 203 = .ok (.getfield 23, 3) := by decide +kernel
theorem dX4_makes_206 : decode cX4_makes 206 = .ok (.iload_n 2, 1) := by decide +kernel
theorem dX4_makes_207 : decode cX4_makes 207 = .ok (.iaload, 1) := by decide +kernel
theorem dX4_makes_208 : decode cX4_makes 208 = .ok (.ireturn, 1) := by decide +kernel
set_option maxRecDepth 20000 in
theorem ggX4_isOpen_X4_isSet : GoodIn wsX4_isOpen wsX4_isSet := goodIn_r _ [6, 7, 8, 9, 5, 10, 11, 12, 13, 14, 15, 16, 17, 18, 19, 20, 21, 22, 23, 24, 25, 26, 27, 28, 29, 30, 31, 32, 33, 34, 35, 36] (by decide +kernel) (by decide +kernel)
set_option maxRecDepth 20000 in
theorem gX4_isOpen_X4_isSet : GoodIn wsX4_isOpen (wsV RX4 83 RX4 yX4_isSet wsX4_isSet) := goodIn_app (goodIn_of _ (by decide +kernel)) ggX4_isOpen_X4_isSet
theorem dX4_isOpen_0 : decode cX4_isOpen 0 = .ok (.aload_n 0, 1) := by decide +kernel
theorem dX4_isOpen_1 : decode cX4_isOpen 1 = .ok (.iload_n 1, 1) := by decide +kernel
theorem dX4_isOpen_2 : decode cX4_isOpen 2 = .ok (.invokevirtual 83, 3) := by decide +kernel
theorem dX4_isOpen_5 : decode cX4_isOpen 5 = .ok (.ifCond .eq 16, 3) := by decide +kernel
theorem dX4_isOpen_8 : decode cX4_isOpen 8 = .ok (.aload_n 0, 1) := by decide +kernel
theorem dX4_isOpen_9 : decode cX4_isOpen 9 = .ok (.getfield 7, 3) := by decide +kernel
theorem dX4_isOpen_12 : decode cX4_isOpen 12 = .ok (.iload_n 1, 1) := by decide +kernel
theorem dX4_isOpen_13 : decode cX4_isOpen 13 = .ok (.baload, 1) := by decide +kernel
theorem dX4_isOpen_14 : decode cX4_isOpen 14 = .ok (.ifCond .ne 7, 3) := by decide +kernel
theorem dX4_isOpen_17 : decode cX4_isOpen 17 = .ok (.iconst 1, 1) := by decide +kernel
theorem dX4_isOpen_18 : decode cX4_isOpen 18 = .ok (.goto 4, 3) := by decide +kernel
theorem dX4_isOpen_21 : decode cX4_isOpen 21 = .ok (.iconst 0, 1) := by decide +kernel
theorem dX4_isOpen_22 : decode cX4_isOpen 22 = .ok (.ireturn, 1) := by decide +kernel
set_option maxRecDepth 20000 in
theorem ggX4_point_X4_isSet : GoodIn wsX4_point wsX4_isSet := goodIn_r _ [8, 9, 10, 11, 7, 12, 42, 43, 44, 45, 46, 47, 48, 49, 50, 51, 52, 53, 54, 55, 56, 57, 58, 59, 60, 61, 62, 63, 64, 65, 66, 67] (by decide +kernel) (by decide +kernel)
set_option maxRecDepth 20000 in
theorem gX4_point_X4_isSet : GoodIn wsX4_point (wsV RX4 83 RX4 yX4_isSet wsX4_isSet) := goodIn_app (goodIn_of _ (by decide +kernel)) ggX4_point_X4_isSet
set_option maxRecDepth 20000 in
theorem ggX4_point_X4_in : GoodIn wsX4_point wsX4_in := goodIn_r _ [12] (by decide +kernel) (by decide +kernel)
set_option maxRecDepth 20000 in
theorem gX4_point_X4_in : GoodIn wsX4_point (va_wsS RX4 72 yX4_in wsX4_in) := goodIn_app (goodIn_of _ (by decide +kernel)) ggX4_point_X4_in
set_option maxRecDepth 20000 in
theorem ggX4_point_X4_isOpen : GoodIn wsX4_point wsX4_isOpen := goodIn_r _ [16, 17, 4, 5, 6, 7, 8, 9, 10, 11, 12, 42, 43, 44, 45, 46, 47, 48, 49, 50, 51, 52, 53, 54, 55, 56, 57, 58, 59, 60, 61, 62, 63, 64, 65, 66, 67] (by decide +kernel) (by decide +kernel)
set_option maxRecDepth 20000 in
theorem gX4_point_X4_isOpen : GoodIn wsX4_point (wsV RX4 113 RX4 yX4_isOpen wsX4_isOpen) := goodIn_app (goodIn_of _ (by decide +kernel)) ggX4_point_X4_isOpen
set_option maxRecDepth 20000 in
theorem ggX4_point_X4_goes : GoodIn wsX4_point wsX4_goes := goodIn_r _ [21, 22, 42, 43, 44, 45, 46, 47, 48, 49, 50, 51, 52, 53, 54, 55, 56, 57, 58, 59, 60, 61, 62, 63, 64, 65, 66, 67] (by decide +kernel) (by decide +kernel)
set_option maxRecDepth 20000 in
theorem gX4_point_X4_goes : GoodIn wsX4_point (wsV RX4 79 RX4 yX4_goes wsX4_goes) := goodIn_app (goodIn_of _ (by decide +kernel)) ggX4_point_X4_goes
set_option maxRecDepth 20000 in
theorem ggX4_point_X4_makes : GoodIn wsX4_point wsX4_makes := goodIn_r _ [26, 27, 28, 29, 30, 31, 32, 33, 34, 35, 36, 37, 38, 39, 3, 40, 41, 42, 43, 44, 45, 46, 47, 48, 49, 50, 51, 52, 53, 54, 55, 56, 57, 58, 59, 60, 61, 62, 63, 64, 65, 66, 67] (by decide +kernel) (by decide +kernel)
set_option maxRecDepth 20000 in
theorem gX4_point_X4_makes : GoodIn wsX4_point (wsV RX4 116 RX4 yX4_makes wsX4_makes) := goodIn_app (goodIn_of _ (by decide +kernel)) ggX4_point_X4_makes
theorem dX4_point_0 : decode cX4_point 0 = .ok (.aload_n 0, 1) := by decide +kernel
theorem dX4_point_1 : decode cX4_point 1 = .ok (.aload_n 0, 1) := by decide +kernel
theorem dX4_point_2 : decode cX4_point 2 = .ok (.iload_n 1, 1) := by decide +kernel
theorem dX4_point_3 : decode cX4_point 3 = .ok (.invokevirtual 83, 3) := by decide +kernel
theorem dX4_point_6 : decode cX4_point 6 = .ok (.iload_n 2, 1) := by decide +kernel
theorem dX4_point_7 : decode cX4_point 7 = .ok (.iconst 0, 1) := by decide +kernel
theorem dX4_point_8 : decode cX4_point 8 = .ok (.bipush 99, 2) := by decide +kernel
theorem dX4_point_10 : decode cX4_point 10 = .ok (.invokestatic 72, 3) := by decide +kernel
theorem dX4_point_13 : decode cX4_point 13 = .ok (.ifCond .eq 17, 3) := by decide +kernel
theorem dX4_point_16 : decode cX4_point 16 = .ok (.iload_n 3, 1) := by decide +kernel
theorem dX4_point_17 : decode cX4_point 17 = .ok (.iconst 0, 1) := by decide +kernel
theorem dX4_point_18 : decode cX4_point 18 = .ok (.bipush 99, 2) := by decide +kernel
theorem dX4_point_20 : decode cX4_point 20 = .ok (.invokestatic 72, 3) := by decide +kernel
theorem dX4_point_23 : decode cX4_point 23 = .ok (.ifCond .eq 7, 3) := by decide +kernel
theorem dX4_point_26 : decode cX4_point 26 = .ok (.iconst 1, 1) := by decide +kernel
theorem dX4_point_27 : decode cX4_point 27 = .ok (.goto 4, 3) := by decide +kernel
theorem dX4_point_30 : decode cX4_point 30 = .ok (.iconst 0, 1) := by decide +kernel
theorem dX4_point_31 : decode cX4_point 31 = .ok (.aload_n 0, 1) := by decide +kernel
theorem dX4_point_32 : decode cX4_point 32 = .ok (.iload_n 1, 1) := by decide +kernel
theorem dX4_point_33 : decode cX4_point 33 = .ok (.invokevirtual 113, 3) := by decide +kernel
theorem dX4_point_36 : decode cX4_point 36 = .ok (.ifCond .eq 16, 3) := by decide +kernel
theorem dX4_point_39 : decode cX4_point 39 = .ok (.aload_n 0, 1) := by decide +kernel
theorem dX4_point_40 : decode cX4_point 40 = .ok (.getfield 69, 3) := by decide +kernel
theorem dX4_point_43 : decode cX4_point 43 = .ok (.bipush 40, 2) := by decide +kernel
theorem dX4_point_45 : decode cX4_point 45 = .ok (.if_icmp .ge 7, 3) := by decide +kernel
theorem dX4_point_48 : decode cX4_point 48 = .ok (.iconst 1, 1) := by decide +kernel
theorem dX4_point_49 : decode cX4_point 49 = .ok (.goto 4, 3) := by decide +kernel
theorem dX4_point_52 : decode cX4_point 52 = .ok (.iconst 0, 1) := by decide +kernel
theorem dX4_point_53 : decode cX4_point 53 = .ok (.invokevirtual 79, 3) := by decide +kernel
theorem dX4_point_56 : decode cX4_point 56 = .ok (.ifCond .ne 5, 3) := by decide +kernel
theorem dX4_point_59 : decode cX4_point 59 = .ok (.iconst 0, 1) := by decide +kernel
theorem dX4_point_60 : decode cX4_point 60 = .ok (.ireturn, 1) := by decide +kernel
theorem dX4_point_61 : decode cX4_point 61 = .ok (.aload_n 0, 1) := by decide +kernel
theorem dX4_point_62 : decode cX4_point 62 = .ok (.getfield 17, 3) := by decide +kernel
theorem dX4_point_65 : decode cX4_point 65 = .ok (.aload_n 0, 1) := by decide +kernel
theorem dX4_point_66 : decode cX4_point 66 = .ok (.getfield 69, 3) := by decide +kernel
theorem dX4_point_69 : decode cX4_point 69 = .ok (.iconst 0, 1) := by decide +kernel
theorem dX4_point_70 : decode cX4_point 70 = .ok (.iastore, 1) := by decide +kernel
theorem dX4_point_71 : decode cX4_point 71 = .ok (.aload_n 0, 1) := by decide +kernel
theorem dX4_point_72 : decode cX4_point 72 = .ok (.iconst 0, 1) := by decide +kernel
theorem dX4_point_73 : decode cX4_point 73 = .ok (.putfield 100, 3) := by decide +kernel
theorem dX4_point_76 : decode cX4_point 76 = .ok (.aload_n 0, 1) := by decide +kernel
theorem dX4_point_77 : decode cX4_point 77 = .ok (.iload_n 1, 1) := by decide +kernel
theorem dX4_point_78 : decode cX4_point 78 = .ok (.aload_n 0, 1) := by decide +kernel
theorem dX4_point_79 : decode cX4_point 79 = .ok (.getfield 69, 3) := by decide +kernel
theorem dX4_point_82 : decode cX4_point 82 = .ok (.iconst 1, 1) := by decide +kernel
theorem dX4_point_83 : decode cX4_point 83 = .ok (.bipush 100, 2) := by decide +kernel
theorem dX4_point_85 : decode cX4_point 85 = .ok (.iload_n 2, 1) := by decide +kernel
theorem dX4_point_86 : decode cX4_point 86 = .ok (.imul, 1) := by decide +kernel
theorem dX4_point_87 : decode cX4_point 87 = .ok (.iload_n 3, 1) := by decide +kernel
theorem dX4_point_88 : decode cX4_point 88 = .ok (.iadd, 1) := by decide +kernel
theorem dX4_point_89 : decode cX4_point 89 = .ok (.invokevirtual 116, 3) := by decide +kernel
theorem dX4_point_92 : decode cX4_point 92 = .ok (.istore 4, 2) := by decide +kernel
theorem dX4_point_94 : decode cX4_point 94 = .ok (.aload_n 0, 1) := by decide +kernel
theorem dX4_point_95 : decode cX4_point 95 = .ok (.dup, 1) := by decide +kernel
theorem dX4_point_96 : decode cX4_point 96 = .ok (.getfield 69, 3) := by decide +kernel
theorem dX4_point_99 : decode cX4_point 99 = .ok (.iconst 1, 1) := by decide +kernel
theorem dX4_point_100 : decode cX4_point 100 = .ok (.iadd, 1) := by decide +kernel
theorem dX4_point_101 : decode cX4_point 101 = .ok (.putfield 69, 3) := by decide +kernel
theorem dX4_point_104 : decode cX4_point 104 = .ok (.aload_n 0, 1) := by decide +kernel
theorem dX4_point_105 : decode cX4_point 105 = .ok (.getfield 69, 3) := by decide +kernel
theorem dX4_point_108 : decode cX4_point 108 = .ok (.iconst 1, 1) := by decide +kernel
theorem dX4_point_109 : decode cX4_point 109 = .ok (.isub, 1) := by decide +kernel
theorem dX4_point_110 : decode cX4_point 110 = .ok (.ireturn, 1) := by decide +kernel
set_option maxRecDepth 20000 in
theorem ggX4_make_X4_isSet : GoodIn wsX4_make wsX4_isSet := goodIn_r _ [7, 8, 9, 10, 6, 11, 56, 57, 58, 59, 60, 61, 62, 63, 64, 65, 66, 67, 68, 69, 70, 71, 72, 73, 74, 75, 76, 77, 78, 79, 80, 81] (by decide +kernel) (by decide +kernel)
set_option maxRecDepth 20000 in
theorem gX4_make_X4_isSet : GoodIn wsX4_make (wsV RX4 83 RX4 yX4_isSet wsX4_isSet) := goodIn_app (goodIn_of _ (by decide +kernel)) ggX4_make_X4_isSet
set_option maxRecDepth 20000 in
theorem ggX4_make_X4_in : GoodIn wsX4_make wsX4_in := goodIn_r _ [11] (by decide +kernel) (by decide +kernel)
set_option maxRecDepth 20000 in
theorem gX4_make_X4_in : GoodIn wsX4_make (va_wsS RX4 72 yX4_in wsX4_in) := goodIn_app (goodIn_of _ (by decide +kernel)) ggX4_make_X4_in
set_option maxRecDepth 20000 in
theorem ggX4_make_X4_isOpen : GoodIn wsX4_make wsX4_isOpen := goodIn_r _ [15, 16, 3, 4, 5, 6, 7, 8, 9, 10, 11, 56, 57, 58, 59, 60, 61, 62, 63, 64, 65, 66, 67, 68, 69, 70, 71, 72, 73, 74, 75, 76, 77, 78, 79, 80, 81] (by decide +kernel) (by decide +kernel)
set_option maxRecDepth 20000 in
theorem gX4_make_X4_isOpen : GoodIn wsX4_make (wsV RX4 113 RX4 yX4_isOpen wsX4_isOpen) := goodIn_app (goodIn_of _ (by decide +kernel)) ggX4_make_X4_isOpen
set_option maxRecDepth 20000 in
theorem ggX4_make_X4_goes : GoodIn wsX4_make wsX4_goes := goodIn_r _ [20, 21, 56, 57, 58, 59, 60, 61, 62, 63, 64, 65, 66, 67, 68, 69, 70, 71, 72, 73, 74, 75, 76, 77, 78, 79, 80, 81] (by decide +kernel) (by decide +kernel)
set_option maxRecDepth 20000 in
theorem gX4_make_X4_goes : GoodIn wsX4_make (wsV RX4 79 RX4 yX4_goes wsX4_goes) := goodIn_app (goodIn_of _ (by decide +kernel)) ggX4_make_X4_goes
set_option maxRecDepth 20000 in
theorem ggX4_make_X4_asksDraft : GoodIn wsX4_make wsX4_asksDraft := goodIn_r _ [25, 26, 27, 28, 29, 56, 57, 58, 59, 60, 61, 62, 63, 64, 65, 66, 67, 68, 69, 70, 71, 72, 73, 74, 75, 76, 77, 78, 79, 80, 81] (by decide +kernel) (by decide +kernel)
set_option maxRecDepth 20000 in
theorem gX4_make_X4_asksDraft : GoodIn wsX4_make (wsV RX4 120 RX4 yX4_asksDraft wsX4_asksDraft) := goodIn_app (goodIn_of _ (by decide +kernel)) ggX4_make_X4_asksDraft
set_option maxRecDepth 20000 in
theorem ggX4_make_X4_isUnlike : GoodIn wsX4_make wsX4_isUnlike := goodIn_r _ [33, 27, 28, 2, 34, 35, 36, 6, 37, 38, 39, 56, 57, 58, 59, 60, 61, 62, 63, 64, 65, 66, 67, 68, 69, 70, 71, 72, 73, 74, 75, 76, 77, 78, 79, 80, 81] (by decide +kernel) (by decide +kernel)
set_option maxRecDepth 20000 in
theorem gX4_make_X4_isUnlike : GoodIn wsX4_make (wsV RX4 123 RX4 yX4_isUnlike wsX4_isUnlike) := goodIn_app (goodIn_of _ (by decide +kernel)) ggX4_make_X4_isUnlike
set_option maxRecDepth 20000 in
theorem ggX4_make_X4_makes : GoodIn wsX4_make wsX4_makes := goodIn_r _ [43, 44, 45, 46, 47, 39, 48, 49, 50, 51, 38, 52, 53, 54, 27, 55, 28, 56, 57, 58, 59, 60, 61, 62, 63, 64, 65, 66, 67, 68, 69, 70, 71, 72, 73, 74, 75, 76, 77, 78, 79, 80, 81] (by decide +kernel) (by decide +kernel)
set_option maxRecDepth 20000 in
theorem gX4_make_X4_makes : GoodIn wsX4_make (wsV RX4 116 RX4 yX4_makes wsX4_makes) := goodIn_app (goodIn_of _ (by decide +kernel)) ggX4_make_X4_makes
theorem dX4_make_0 : decode cX4_make 0 = .ok (.aload_n 0, 1) := by decide +kernel
theorem dX4_make_1 : decode cX4_make 1 = .ok (.aload_n 0, 1) := by decide +kernel
theorem dX4_make_2 : decode cX4_make 2 = .ok (.iload_n 1, 1) := by decide +kernel
theorem dX4_make_3 : decode cX4_make 3 = .ok (.invokevirtual 83, 3) := by decide +kernel
theorem dX4_make_6 : decode cX4_make 6 = .ok (.iload_n 2, 1) := by decide +kernel
theorem dX4_make_7 : decode cX4_make 7 = .ok (.iconst 1, 1) := by decide +kernel
theorem dX4_make_8 : decode cX4_make 8 = .ok (.iconst 2, 1) := by decide +kernel
theorem dX4_make_9 : decode cX4_make 9 = .ok (.invokestatic 72, 3) := by decide +kernel
theorem dX4_make_12 : decode cX4_make 12 = .ok (.aload_n 0, 1) := by decide +kernel
theorem dX4_make_13 : decode cX4_make 13 = .ok (.iload_n 1, 1) := by decide +kernel
theorem dX4_make_14 : decode cX4_make 14 = .ok (.invokevirtual 113, 3) := by decide +kernel
theorem dX4_make_17 : decode cX4_make 17 = .ok (.ifCond .eq 16, 3) := by decide +kernel
theorem dX4_make_20 : decode cX4_make 20 = .ok (.aload_n 0, 1) := by decide +kernel
theorem dX4_make_21 : decode cX4_make 21 = .ok (.getfield 69, 3) := by decide +kernel
theorem dX4_make_24 : decode cX4_make 24 = .ok (.bipush 40, 2) := by decide +kernel
theorem dX4_make_26 : decode cX4_make 26 = .ok (.if_icmp .ge 7, 3) := by decide +kernel
theorem dX4_make_29 : decode cX4_make 29 = .ok (.iconst 1, 1) := by decide +kernel
theorem dX4_make_30 : decode cX4_make 30 = .ok (.goto 4, 3) := by decide +kernel
theorem dX4_make_33 : decode cX4_make 33 = .ok (.iconst 0, 1) := by decide +kernel
theorem dX4_make_34 : decode cX4_make 34 = .ok (.invokevirtual 79, 3) := by decide +kernel
theorem dX4_make_37 : decode cX4_make 37 = .ok (.ifCond .ne 5, 3) := by decide +kernel
theorem dX4_make_40 : decode cX4_make 40 = .ok (.iconst 0, 1) := by decide +kernel
theorem dX4_make_41 : decode cX4_make 41 = .ok (.ireturn, 1) := by decide +kernel
theorem dX4_make_42 : decode cX4_make 42 = .ok (.aload_n 0, 1) := by decide +kernel
theorem dX4_make_43 : decode cX4_make 43 = .ok (.invokevirtual 120, 3) := by decide +kernel
theorem dX4_make_46 : decode cX4_make 46 = .ok (.aload_n 0, 1) := by decide +kernel
theorem dX4_make_47 : decode cX4_make 47 = .ok (.iload_n 2, 1) := by decide +kernel
theorem dX4_make_48 : decode cX4_make 48 = .ok (.invokevirtual 123, 3) := by decide +kernel
theorem dX4_make_51 : decode cX4_make 51 = .ok (.ifCond .eq 6, 3) := by decide +kernel
theorem dX4_make_54 : decode cX4_make 54 = .ok (.bipush (-3), 2) := by decide +kernel
theorem dX4_make_56 : decode cX4_make 56 = .ok (.ireturn, 1) := by decide +kernel
theorem dX4_make_57 : decode cX4_make 57 = .ok (.aload_n 0, 1) := by decide +kernel
theorem dX4_make_58 : decode cX4_make 58 = .ok (.getfield 17, 3) := by decide +kernel
theorem dX4_make_61 : decode cX4_make 61 = .ok (.aload_n 0, 1) := by decide +kernel
theorem dX4_make_62 : decode cX4_make 62 = .ok (.getfield 69, 3) := by decide +kernel
theorem dX4_make_65 : decode cX4_make 65 = .ok (.iload_n 2, 1) := by decide +kernel
theorem dX4_make_66 : decode cX4_make 66 = .ok (.iastore, 1) := by decide +kernel
theorem dX4_make_67 : decode cX4_make 67 = .ok (.aload_n 0, 1) := by decide +kernel
theorem dX4_make_68 : decode cX4_make 68 = .ok (.iload_n 1, 1) := by decide +kernel
theorem dX4_make_69 : decode cX4_make 69 = .ok (.aload_n 0, 1) := by decide +kernel
theorem dX4_make_70 : decode cX4_make 70 = .ok (.getfield 69, 3) := by decide +kernel
theorem dX4_make_73 : decode cX4_make 73 = .ok (.iconst 1, 1) := by decide +kernel
theorem dX4_make_74 : decode cX4_make 74 = .ok (.iconst 0, 1) := by decide +kernel
theorem dX4_make_75 : decode cX4_make 75 = .ok (.invokevirtual 116, 3) := by decide +kernel
theorem dX4_make_78 : decode cX4_make 78 = .ok (.istore_n 3, 1) := by decide +kernel
theorem dX4_make_79 : decode cX4_make 79 = .ok (.aload_n 0, 1) := by decide +kernel
theorem dX4_make_80 : decode cX4_make 80 = .ok (.dup, 1) := by decide +kernel
theorem dX4_make_81 : decode cX4_make 81 = .ok (.getfield 69, 3) := by decide +kernel
theorem dX4_make_84 : decode cX4_make 84 = .ok (.iconst 1, 1) := by decide +kernel
theorem dX4_make_85 : decode cX4_make 85 = .ok (.iadd, 1) := by decide +kernel
theorem dX4_make_86 : decode cX4_make 86 = .ok (.putfield 69, 3) := by decide +kernel
theorem dX4_make_89 : decode cX4_make 89 = .ok (.aload_n 0, 1) := by decide +kernel
theorem dX4_make_90 : decode cX4_make 90 = .ok (.getfield 69, 3) := by decide +kernel
theorem dX4_make_93 : decode cX4_make 93 = .ok (.iconst 1, 1) := by decide +kernel
theorem dX4_make_94 : decode cX4_make 94 = .ok (.isub, 1) := by decide +kernel
theorem dX4_make_95 : decode cX4_make 95 = .ok (.ireturn, 1) := by decide +kernel
set_option maxRecDepth 20000 in
theorem ggX4_move_X4_isSet : GoodIn wsX4_move wsX4_isSet := goodIn_r _ [8, 9, 10, 11, 7, 12, 50, 51, 52, 53, 54, 55, 56, 57, 58, 59, 60, 61, 62, 63, 64, 65, 66, 67, 68, 69, 70, 71, 72, 73, 74, 75] (by decide +kernel) (by decide +kernel)
set_option maxRecDepth 20000 in
theorem gX4_move_X4_isSet : GoodIn wsX4_move (wsV RX4 83 RX4 yX4_isSet wsX4_isSet) := goodIn_app (goodIn_of _ (by decide +kernel)) ggX4_move_X4_isSet
set_option maxRecDepth 20000 in
theorem ggX4_move_X4_isThing : GoodIn wsX4_move wsX4_isThing := goodIn_r _ [16, 17, 10, 11, 7, 12, 50, 51, 52, 53, 54, 55, 56, 57, 58, 59, 60, 61, 62, 63, 64, 65, 66, 67, 68, 69, 70, 71, 72, 73, 74, 75] (by decide +kernel) (by decide +kernel)
set_option maxRecDepth 20000 in
theorem gX4_move_X4_isThing : GoodIn wsX4_move (wsV RX4 90 RX4 yX4_isThing wsX4_isThing) := goodIn_app (goodIn_of _ (by decide +kernel)) ggX4_move_X4_isThing
set_option maxRecDepth 20000 in
theorem ggX4_move_X4_in : GoodIn wsX4_move wsX4_in := goodIn_r _ [12] (by decide +kernel) (by decide +kernel)
set_option maxRecDepth 20000 in
theorem gX4_move_X4_in : GoodIn wsX4_move (va_wsS RX4 72 yX4_in wsX4_in) := goodIn_app (goodIn_of _ (by decide +kernel)) ggX4_move_X4_in
set_option maxRecDepth 20000 in
theorem ggX4_move_X4_isOpen : GoodIn wsX4_move wsX4_isOpen := goodIn_r _ [21, 22, 4, 5, 6, 7, 8, 9, 10, 11, 12, 50, 51, 52, 53, 54, 55, 56, 57, 58, 59, 60, 61, 62, 63, 64, 65, 66, 67, 68, 69, 70, 71, 72, 73, 74, 75] (by decide +kernel) (by decide +kernel)
set_option maxRecDepth 20000 in
theorem gX4_move_X4_isOpen : GoodIn wsX4_move (wsV RX4 113 RX4 yX4_isOpen wsX4_isOpen) := goodIn_app (goodIn_of _ (by decide +kernel)) ggX4_move_X4_isOpen
set_option maxRecDepth 20000 in
theorem ggX4_move_X4_goes : GoodIn wsX4_move wsX4_goes := goodIn_r _ [26, 27, 50, 51, 52, 53, 54, 55, 56, 57, 58, 59, 60, 61, 62, 63, 64, 65, 66, 67, 68, 69, 70, 71, 72, 73, 74, 75] (by decide +kernel) (by decide +kernel)
set_option maxRecDepth 20000 in
theorem gX4_move_X4_goes : GoodIn wsX4_move (wsV RX4 79 RX4 yX4_goes wsX4_goes) := goodIn_app (goodIn_of _ (by decide +kernel)) ggX4_move_X4_goes
set_option maxRecDepth 20000 in
theorem ggX4_move_X4_is : GoodIn wsX4_move wsX4_is := goodIn_r _ [31, 32, 33, 50, 51, 52, 53, 54, 55, 56, 57, 58, 59, 60, 61, 62, 63, 64, 65, 66, 67, 68, 69, 70, 71, 72, 73, 74, 75] (by decide +kernel) (by decide +kernel)
set_option maxRecDepth 20000 in
theorem gX4_move_X4_is : GoodIn wsX4_move (wsV RX4 103 RX4 yX4_is wsX4_is) := goodIn_app (goodIn_of _ (by decide +kernel)) ggX4_move_X4_is
set_option maxRecDepth 20000 in
theorem ggX4_move_X4_makes : GoodIn wsX4_move wsX4_makes := goodIn_r _ [37, 38, 39, 40, 3, 33, 41, 42, 43, 44, 32, 45, 46, 47, 2, 48, 49, 50, 51, 52, 53, 54, 55, 56, 57, 58, 59, 60, 61, 62, 63, 64, 65, 66, 67, 68, 69, 70, 71, 72, 73, 74, 75] (by decide +kernel) (by decide +kernel)
set_option maxRecDepth 20000 in
theorem gX4_move_X4_makes : GoodIn wsX4_move (wsV RX4 116 RX4 yX4_makes wsX4_makes) := goodIn_app (goodIn_of _ (by decide +kernel)) ggX4_move_X4_makes
theorem dX4_move_0 : decode cX4_move 0 = .ok (.aload_n 0, 1) := by decide +kernel
theorem dX4_move_1 : decode cX4_move 1 = .ok (.iload_n 1, 1) := by decide +kernel
theorem dX4_move_2 : decode cX4_move 2 = .ok (.invokevirtual 83, 3) := by decide +kernel
theorem dX4_move_5 : decode cX4_move 5 = .ok (.ifCond .eq 15, 3) := by decide +kernel
theorem dX4_move_8 : decode cX4_move 8 = .ok (.aload_n 0, 1) := by decide +kernel
theorem dX4_move_9 : decode cX4_move 9 = .ok (.iload_n 2, 1) := by decide +kernel
theorem dX4_move_10 : decode cX4_move 10 = .ok (.invokevirtual 90, 3) := by decide +kernel
theorem dX4_move_13 : decode cX4_move 13 = .ok (.ifCond .eq 7, 3) := by decide +kernel
theorem dX4_move_16 : decode cX4_move 16 = .ok (.iconst 1, 1) := by decide +kernel
theorem dX4_move_17 : decode cX4_move 17 = .ok (.goto 4, 3) := by decide +kernel
theorem dX4_move_20 : decode cX4_move 20 = .ok (.iconst 0, 1) := by decide +kernel
theorem dX4_move_21 : decode cX4_move 21 = .ok (.istore 6, 2) := by decide +kernel
theorem dX4_move_23 : decode cX4_move 23 = .ok (.aload_n 0, 1) := by decide +kernel
theorem dX4_move_24 : decode cX4_move 24 = .ok (.iload 6, 2) := by decide +kernel
theorem dX4_move_26 : decode cX4_move 26 = .ok (.iload 6, 2) := by decide +kernel
theorem dX4_move_28 : decode cX4_move 28 = .ok (.ifCond .eq 38, 3) := by decide +kernel
theorem dX4_move_31 : decode cX4_move 31 = .ok (.aload_n 0, 1) := by decide +kernel
theorem dX4_move_32 : decode cX4_move 32 = .ok (.getfield 17, 3) := by decide +kernel
theorem dX4_move_35 : decode cX4_move 35 = .ok (.iload_n 2, 1) := by decide +kernel
theorem dX4_move_36 : decode cX4_move 36 = .ok (.iaload, 1) := by decide +kernel
theorem dX4_move_37 : decode cX4_move 37 = .ok (.ifCond .ne 29, 3) := by decide +kernel
theorem dX4_move_40 : decode cX4_move 40 = .ok (.iload 4, 2) := by decide +kernel
theorem dX4_move_42 : decode cX4_move 42 = .ok (.iconst 0, 1) := by decide +kernel
theorem dX4_move_43 : decode cX4_move 43 = .ok (.bipush 99, 2) := by decide +kernel
theorem dX4_move_45 : decode cX4_move 45 = .ok (.invokestatic 72, 3) := by decide +kernel
theorem dX4_move_48 : decode cX4_move 48 = .ok (.ifCond .eq 18, 3) := by decide +kernel
theorem dX4_move_51 : decode cX4_move 51 = .ok (.iload 5, 2) := by decide +kernel
theorem dX4_move_53 : decode cX4_move 53 = .ok (.iconst 0, 1) := by decide +kernel
theorem dX4_move_54 : decode cX4_move 54 = .ok (.bipush 99, 2) := by decide +kernel
theorem dX4_move_56 : decode cX4_move 56 = .ok (.invokestatic 72, 3) := by decide +kernel
theorem dX4_move_59 : decode cX4_move 59 = .ok (.ifCond .eq 7, 3) := by decide +kernel
theorem dX4_move_62 : decode cX4_move 62 = .ok (.iconst 1, 1) := by decide +kernel
theorem dX4_move_63 : decode cX4_move 63 = .ok (.goto 4, 3) := by decide +kernel
theorem dX4_move_66 : decode cX4_move 66 = .ok (.iconst 0, 1) := by decide +kernel
theorem dX4_move_67 : decode cX4_move 67 = .ok (.aload_n 0, 1) := by decide +kernel
theorem dX4_move_68 : decode cX4_move 68 = .ok (.iload_n 1, 1) := by decide +kernel
theorem dX4_move_69 : decode cX4_move 69 = .ok (.invokevirtual 113, 3) := by decide +kernel
theorem dX4_move_72 : decode cX4_move 72 = .ok (.invokevirtual 79, 3) := by decide +kernel
theorem dX4_move_75 : decode cX4_move 75 = .ok (.ifCond .ne 5, 3) := by decide +kernel
theorem dX4_move_78 : decode cX4_move 78 = .ok (.iconst 0, 1) := by decide +kernel
theorem dX4_move_79 : decode cX4_move 79 = .ok (.ireturn, 1) := by decide +kernel
theorem dX4_move_80 : decode cX4_move 80 = .ok (.aload_n 0, 1) := by decide +kernel
theorem dX4_move_81 : decode cX4_move 81 = .ok (.iconst 0, 1) := by decide +kernel
theorem dX4_move_82 : decode cX4_move 82 = .ok (.putfield 100, 3) := by decide +kernel
theorem dX4_move_85 : decode cX4_move 85 = .ok (.aload_n 0, 1) := by decide +kernel
theorem dX4_move_86 : decode cX4_move 86 = .ok (.iload_n 2, 1) := by decide +kernel
theorem dX4_move_87 : decode cX4_move 87 = .ok (.invokevirtual 103, 3) := by decide +kernel
theorem dX4_move_90 : decode cX4_move 90 = .ok (.ifCond .ne 7, 3) := by decide +kernel
theorem dX4_move_93 : decode cX4_move 93 = .ok (.iconst (-1), 1) := by decide +kernel
theorem dX4_move_94 : decode cX4_move 94 = .ok (.goto 33, 3) := by decide +kernel
theorem dX4_move_97 : decode cX4_move 97 = .ok (.iload_n 3, 1) := by decide +kernel
theorem dX4_move_98 : decode cX4_move 98 = .ok (.aload_n 0, 1) := by decide +kernel
theorem dX4_move_99 : decode cX4_move 99 = .ok (.getfield 23, 3) := by decide +kernel
theorem dX4_move_102 : decode cX4_move 102 = .ok (.iload_n 2, 1) := by decide +kernel
theorem dX4_move_103 : decode cX4_move 103 = .ok (.iaload, 1) := by decide +kernel
theorem dX4_move_104 : decode cX4_move 104 = .ok (.if_icmp .eq 8, 3) := by decide +kernel
theorem dX4_move_107 : decode cX4_move 107 = .ok (.bipush (-2), 2) := by decide +kernel
theorem dX4_move_109 : decode cX4_move 109 = .ok (.goto 18, 3) := by decide +kernel
theorem dX4_move_112 : decode cX4_move 112 = .ok (.aload_n 0, 1) := by decide +kernel
theorem dX4_move_113 : decode cX4_move 113 = .ok (.iload_n 1, 1) := by decide +kernel
theorem dX4_move_114 : decode cX4_move 114 = .ok (.iload_n 2, 1) := by decide +kernel
theorem dX4_move_115 : decode cX4_move 115 = .ok (.iconst 1, 1) := by decide +kernel
theorem dX4_move_116 : decode cX4_move 116 = .ok (.bipush 100, 2) := by decide +kernel
theorem dX4_move_118 : decode cX4_move 118 = .ok (.iload 4, 2) := by decide +kernel
theorem dX4_move_120 : decode cX4_move 120 = .ok (.imul, 1) := by decide +kernel
theorem dX4_move_121 : decode cX4_move 121 = .ok (.iload 5, 2) := by decide +kernel
theorem dX4_move_123 : decode cX4_move 123 = .ok (.iadd, 1) := by decide +kernel
theorem dX4_move_124 : decode cX4_move 124 = .ok (.invokevirtual 116, 3) := by decide +kernel
theorem dX4_move_127 : decode cX4_move 127 = .ok (.ireturn, 1) := by decide +kernel
set_option maxRecDepth 20000 in
theorem ggX4_change_X4_isSet : GoodIn wsX4_change wsX4_isSet := goodIn_r _ [7, 8, 9, 10, 6, 11, 69, 70, 71, 72, 73, 74, 75, 76, 77, 78, 79, 80, 81, 82, 83, 84, 85, 86, 87, 88, 89, 90, 91, 92, 93, 94] (by decide +kernel) (by decide +kernel)
set_option maxRecDepth 20000 in
theorem gX4_change_X4_isSet : GoodIn wsX4_change (wsV RX4 83 RX4 yX4_isSet wsX4_isSet) := goodIn_app (goodIn_of _ (by decide +kernel)) ggX4_change_X4_isSet
set_option maxRecDepth 20000 in
theorem ggX4_change_X4_isThing : GoodIn wsX4_change wsX4_isThing := goodIn_r _ [15, 16, 9, 10, 6, 11, 69, 70, 71, 72, 73, 74, 75, 76, 77, 78, 79, 80, 81, 82, 83, 84, 85, 86, 87, 88, 89, 90, 91, 92, 93, 94] (by decide +kernel) (by decide +kernel)
set_option maxRecDepth 20000 in
theorem gX4_change_X4_isThing : GoodIn wsX4_change (wsV RX4 90 RX4 yX4_isThing wsX4_isThing) := goodIn_app (goodIn_of _ (by decide +kernel)) ggX4_change_X4_isThing
set_option maxRecDepth 20000 in
theorem ggX4_change_X4_isOpen : GoodIn wsX4_change wsX4_isOpen := goodIn_r _ [20, 21, 3, 4, 5, 6, 7, 8, 9, 10, 11, 69, 70, 71, 72, 73, 74, 75, 76, 77, 78, 79, 80, 81, 82, 83, 84, 85, 86, 87, 88, 89, 90, 91, 92, 93, 94] (by decide +kernel) (by decide +kernel)
set_option maxRecDepth 20000 in
theorem gX4_change_X4_isOpen : GoodIn wsX4_change (wsV RX4 113 RX4 yX4_isOpen wsX4_isOpen) := goodIn_app (goodIn_of _ (by decide +kernel)) ggX4_change_X4_isOpen
set_option maxRecDepth 20000 in
theorem ggX4_change_X4_goes : GoodIn wsX4_change wsX4_goes := goodIn_r _ [25, 26, 69, 70, 71, 72, 73, 74, 75, 76, 77, 78, 79, 80, 81, 82, 83, 84, 85, 86, 87, 88, 89, 90, 91, 92, 93, 94] (by decide +kernel) (by decide +kernel)
set_option maxRecDepth 20000 in
theorem gX4_change_X4_goes : GoodIn wsX4_change (wsV RX4 79 RX4 yX4_goes wsX4_goes) := goodIn_app (goodIn_of _ (by decide +kernel)) ggX4_change_X4_goes
set_option maxRecDepth 20000 in
theorem ggX4_change_X4_asksDraft : GoodIn wsX4_change wsX4_asksDraft := goodIn_r _ [30, 31, 32, 33, 34, 69, 70, 71, 72, 73, 74, 75, 76, 77, 78, 79, 80, 81, 82, 83, 84, 85, 86, 87, 88, 89, 90, 91, 92, 93, 94] (by decide +kernel) (by decide +kernel)
set_option maxRecDepth 20000 in
theorem gX4_change_X4_asksDraft : GoodIn wsX4_change (wsV RX4 120 RX4 yX4_asksDraft wsX4_asksDraft) := goodIn_app (goodIn_of _ (by decide +kernel)) ggX4_change_X4_asksDraft
set_option maxRecDepth 20000 in
theorem ggX4_change_X4_is : GoodIn wsX4_change wsX4_is := goodIn_r _ [38, 39, 40, 69, 70, 71, 72, 73, 74, 75, 76, 77, 78, 79, 80, 81, 82, 83, 84, 85, 86, 87, 88, 89, 90, 91, 92, 93, 94] (by decide +kernel) (by decide +kernel)
set_option maxRecDepth 20000 in
theorem gX4_change_X4_is : GoodIn wsX4_change (wsV RX4 103 RX4 yX4_is wsX4_is) := goodIn_app (goodIn_of _ (by decide +kernel)) ggX4_change_X4_is
set_option maxRecDepth 20000 in
theorem ggX4_change_X4_isUnlike : GoodIn wsX4_change wsX4_isUnlike := goodIn_r _ [44, 32, 33, 1, 35, 36, 37, 6, 38, 39, 40, 69, 70, 71, 72, 73, 74, 75, 76, 77, 78, 79, 80, 81, 82, 83, 84, 85, 86, 87, 88, 89, 90, 91, 92, 93, 94] (by decide +kernel) (by decide +kernel)
set_option maxRecDepth 20000 in
theorem gX4_change_X4_isUnlike : GoodIn wsX4_change (wsV RX4 123 RX4 yX4_isUnlike wsX4_isUnlike) := goodIn_app (goodIn_of _ (by decide +kernel)) ggX4_change_X4_isUnlike
set_option maxRecDepth 20000 in
theorem ggX4_change_X4_isRing : GoodIn wsX4_change wsX4_isRing := goodIn_r _ [48, 1, 16, 49, 32, 33, 50, 51, 52, 6, 53, 54, 40, 55, 35, 36, 37, 38, 39, 69, 70, 71, 72, 73, 74, 75, 76, 77, 78, 79, 80, 81, 82, 83, 84, 85, 86, 87, 88, 89, 90, 91, 92, 93, 94] (by decide +kernel) (by decide +kernel)
set_option maxRecDepth 20000 in
theorem gX4_change_X4_isRing : GoodIn wsX4_change (wsV RX4 126 RX4 yX4_isRing wsX4_isRing) := goodIn_app (goodIn_of _ (by decide +kernel)) ggX4_change_X4_isRing
set_option maxRecDepth 20000 in
theorem ggX4_change_X4_makes : GoodIn wsX4_change wsX4_makes := goodIn_r _ [59, 60, 61, 62, 2, 40, 63, 64, 65, 66, 39, 67, 68, 54, 32, 55, 33, 69, 70, 71, 72, 73, 74, 75, 76, 77, 78, 79, 80, 81, 82, 83, 84, 85, 86, 87, 88, 89, 90, 91, 92, 93, 94] (by decide +kernel) (by decide +kernel)
set_option maxRecDepth 20000 in
theorem gX4_change_X4_makes : GoodIn wsX4_change (wsV RX4 116 RX4 yX4_makes wsX4_makes) := goodIn_app (goodIn_of _ (by decide +kernel)) ggX4_change_X4_makes
theorem dX4_change_0 : decode cX4_change 0 = .ok (.aload_n 0, 1) := by decide +kernel
theorem dX4_change_1 : decode cX4_change 1 = .ok (.iload_n 1, 1) := by decide +kernel
theorem dX4_change_2 : decode cX4_change 2 = .ok (.invokevirtual 83, 3) := by decide +kernel
theorem dX4_change_5 : decode cX4_change 5 = .ok (.ifCond .eq 15, 3) := by decide +kernel
theorem dX4_change_8 : decode cX4_change 8 = .ok (.aload_n 0, 1) := by decide +kernel
theorem dX4_change_9 : decode cX4_change 9 = .ok (.iload_n 2, 1) := by decide +kernel
theorem dX4_change_10 : decode cX4_change 10 = .ok (.invokevirtual 90, 3) := by decide +kernel
theorem dX4_change_13 : decode cX4_change 13 = .ok (.ifCond .eq 7, 3) := by decide +kernel
theorem dX4_change_16 : decode cX4_change 16 = .ok (.iconst 1, 1) := by decide +kernel
theorem dX4_change_17 : decode cX4_change 17 = .ok (.goto 4, 3) := by decide +kernel
theorem dX4_change_20 : decode cX4_change 20 = .ok (.iconst 0, 1) := by decide +kernel
theorem dX4_change_21 : decode cX4_change 21 = .ok (.istore 4, 2) := by decide +kernel
theorem dX4_change_23 : decode cX4_change 23 = .ok (.aload_n 0, 1) := by decide +kernel
theorem dX4_change_24 : decode cX4_change 24 = .ok (.iload 4, 2) := by decide +kernel
theorem dX4_change_26 : decode cX4_change 26 = .ok (.iload 4, 2) := by decide +kernel
theorem dX4_change_28 : decode cX4_change 28 = .ok (.ifCond .eq 16, 3) := by decide +kernel
theorem dX4_change_31 : decode cX4_change 31 = .ok (.aload_n 0, 1) := by decide +kernel
theorem dX4_change_32 : decode cX4_change 32 = .ok (.getfield 17, 3) := by decide +kernel
theorem dX4_change_35 : decode cX4_change 35 = .ok (.iload_n 2, 1) := by decide +kernel
theorem dX4_change_36 : decode cX4_change 36 = .ok (.iaload, 1) := by decide +kernel
theorem dX4_change_37 : decode cX4_change 37 = .ok (.ifCond .eq 7, 3) := by decide +kernel
theorem dX4_change_40 : decode cX4_change 40 = .ok (.iconst 1, 1) := by decide +kernel
theorem dX4_change_41 : decode cX4_change 41 = .ok (.goto 4, 3) := by decide +kernel
theorem dX4_change_44 : decode cX4_change 44 = .ok (.iconst 0, 1) := by decide +kernel
theorem dX4_change_45 : decode cX4_change 45 = .ok (.aload_n 0, 1) := by decide +kernel
theorem dX4_change_46 : decode cX4_change 46 = .ok (.iload_n 1, 1) := by decide +kernel
theorem dX4_change_47 : decode cX4_change 47 = .ok (.invokevirtual 113, 3) := by decide +kernel
theorem dX4_change_50 : decode cX4_change 50 = .ok (.invokevirtual 79, 3) := by decide +kernel
theorem dX4_change_53 : decode cX4_change 53 = .ok (.ifCond .ne 5, 3) := by decide +kernel
theorem dX4_change_56 : decode cX4_change 56 = .ok (.iconst 0, 1) := by decide +kernel
theorem dX4_change_57 : decode cX4_change 57 = .ok (.ireturn, 1) := by decide +kernel
theorem dX4_change_58 : decode cX4_change 58 = .ok (.aload_n 0, 1) := by decide +kernel
theorem dX4_change_59 : decode cX4_change 59 = .ok (.invokevirtual 120, 3) := by decide +kernel
theorem dX4_change_62 : decode cX4_change 62 = .ok (.aload_n 0, 1) := by decide +kernel
theorem dX4_change_63 : decode cX4_change 63 = .ok (.iload_n 2, 1) := by decide +kernel
theorem dX4_change_64 : decode cX4_change 64 = .ok (.invokevirtual 103, 3) := by decide +kernel
theorem dX4_change_67 : decode cX4_change 67 = .ok (.ifCond .ne 7, 3) := by decide +kernel
theorem dX4_change_70 : decode cX4_change 70 = .ok (.iconst (-1), 1) := by decide +kernel
theorem dX4_change_71 : decode cX4_change 71 = .ok (.goto 57, 3) := by decide +kernel
theorem dX4_change_74 : decode cX4_change 74 = .ok (.iload_n 3, 1) := by decide +kernel
theorem dX4_change_75 : decode cX4_change 75 = .ok (.aload_n 0, 1) := by decide +kernel
theorem dX4_change_76 : decode cX4_change 76 = .ok (.getfield 23, 3) := by decide +kernel
theorem dX4_change_79 : decode cX4_change 79 = .ok (.iload_n 2, 1) := by decide +kernel
theorem dX4_change_80 : decode cX4_change 80 = .ok (.iaload, 1) := by decide +kernel
theorem dX4_change_81 : decode cX4_change 81 = .ok (.if_icmp .eq 8, 3) := by decide +kernel
theorem dX4_change_84 : decode cX4_change 84 = .ok (.bipush (-2), 2) := by decide +kernel
theorem dX4_change_86 : decode cX4_change 86 = .ok (.goto 42, 3) := by decide +kernel
theorem dX4_change_89 : decode cX4_change 89 = .ok (.aload_n 0, 1) := by decide +kernel
theorem dX4_change_90 : decode cX4_change 90 = .ok (.aload_n 0, 1) := by decide +kernel
theorem dX4_change_91 : decode cX4_change 91 = .ok (.getfield 17, 3) := by decide +kernel
theorem dX4_change_94 : decode cX4_change 94 = .ok (.iload_n 2, 1) := by decide +kernel
theorem dX4_change_95 : decode cX4_change 95 = .ok (.iaload, 1) := by decide +kernel
theorem dX4_change_96 : decode cX4_change 96 = .ok (.invokevirtual 123, 3) := by decide +kernel
theorem dX4_change_99 : decode cX4_change 99 = .ok (.ifCond .eq 8, 3) := by decide +kernel
theorem dX4_change_102 : decode cX4_change 102 = .ok (.bipush (-3), 2) := by decide +kernel
theorem dX4_change_104 : decode cX4_change 104 = .ok (.goto 24, 3) := by decide +kernel
theorem dX4_change_107 : decode cX4_change 107 = .ok (.aload_n 0, 1) := by decide +kernel
theorem dX4_change_108 : decode cX4_change 108 = .ok (.iload_n 2, 1) := by decide +kernel
theorem dX4_change_109 : decode cX4_change 109 = .ok (.invokevirtual 126, 3) := by decide +kernel
theorem dX4_change_112 : decode cX4_change 112 = .ok (.ifCond .eq 8, 3) := by decide +kernel
theorem dX4_change_115 : decode cX4_change 115 = .ok (.bipush (-4), 2) := by decide +kernel
theorem dX4_change_117 : decode cX4_change 117 = .ok (.goto 11, 3) := by decide +kernel
theorem dX4_change_120 : decode cX4_change 120 = .ok (.aload_n 0, 1) := by decide +kernel
theorem dX4_change_121 : decode cX4_change 121 = .ok (.iload_n 1, 1) := by decide +kernel
theorem dX4_change_122 : decode cX4_change 122 = .ok (.iload_n 2, 1) := by decide +kernel
theorem dX4_change_123 : decode cX4_change 123 = .ok (.iconst 1, 1) := by decide +kernel
theorem dX4_change_124 : decode cX4_change 124 = .ok (.iconst 0, 1) := by decide +kernel
theorem dX4_change_125 : decode cX4_change 125 = .ok (.invokevirtual 116, 3) := by decide +kernel
theorem dX4_change_128 : decode cX4_change 128 = .ok (.ireturn, 1) := by decide +kernel
set_option maxRecDepth 20000 in
theorem ggX4_delete_X4_isSet : GoodIn wsX4_delete wsX4_isSet := goodIn_r _ [6, 7, 8, 9, 5, 10, 57, 58, 59, 60, 61, 62, 63, 64, 65, 66, 67, 68, 69, 70, 71, 72, 73, 74, 75, 76, 77, 78, 79, 80, 81, 82] (by decide +kernel) (by decide +kernel)
set_option maxRecDepth 20000 in
theorem gX4_delete_X4_isSet : GoodIn wsX4_delete (wsV RX4 83 RX4 yX4_isSet wsX4_isSet) := goodIn_app (goodIn_of _ (by decide +kernel)) ggX4_delete_X4_isSet
set_option maxRecDepth 20000 in
theorem ggX4_delete_X4_isThing : GoodIn wsX4_delete wsX4_isThing := goodIn_r _ [14, 15, 8, 9, 5, 10, 57, 58, 59, 60, 61, 62, 63, 64, 65, 66, 67, 68, 69, 70, 71, 72, 73, 74, 75, 76, 77, 78, 79, 80, 81, 82] (by decide +kernel) (by decide +kernel)
set_option maxRecDepth 20000 in
theorem gX4_delete_X4_isThing : GoodIn wsX4_delete (wsV RX4 90 RX4 yX4_isThing wsX4_isThing) := goodIn_app (goodIn_of _ (by decide +kernel)) ggX4_delete_X4_isThing
set_option maxRecDepth 20000 in
theorem ggX4_delete_X4_isOpen : GoodIn wsX4_delete wsX4_isOpen := goodIn_r _ [19, 20, 2, 3, 4, 5, 6, 7, 8, 9, 10, 57, 58, 59, 60, 61, 62, 63, 64, 65, 66, 67, 68, 69, 70, 71, 72, 73, 74, 75, 76, 77, 78, 79, 80, 81, 82] (by decide +kernel) (by decide +kernel)
set_option maxRecDepth 20000 in
theorem gX4_delete_X4_isOpen : GoodIn wsX4_delete (wsV RX4 113 RX4 yX4_isOpen wsX4_isOpen) := goodIn_app (goodIn_of _ (by decide +kernel)) ggX4_delete_X4_isOpen
set_option maxRecDepth 20000 in
theorem ggX4_delete_X4_goes : GoodIn wsX4_delete wsX4_goes := goodIn_r _ [24, 25, 57, 58, 59, 60, 61, 62, 63, 64, 65, 66, 67, 68, 69, 70, 71, 72, 73, 74, 75, 76, 77, 78, 79, 80, 81, 82] (by decide +kernel) (by decide +kernel)
set_option maxRecDepth 20000 in
theorem gX4_delete_X4_goes : GoodIn wsX4_delete (wsV RX4 79 RX4 yX4_goes wsX4_goes) := goodIn_app (goodIn_of _ (by decide +kernel)) ggX4_delete_X4_goes
set_option maxRecDepth 20000 in
theorem ggX4_delete_X4_is : GoodIn wsX4_delete wsX4_is := goodIn_r _ [29, 30, 31, 57, 58, 59, 60, 61, 62, 63, 64, 65, 66, 67, 68, 69, 70, 71, 72, 73, 74, 75, 76, 77, 78, 79, 80, 81, 82] (by decide +kernel) (by decide +kernel)
set_option maxRecDepth 20000 in
theorem gX4_delete_X4_is : GoodIn wsX4_delete (wsV RX4 103 RX4 yX4_is wsX4_is) := goodIn_app (goodIn_of _ (by decide +kernel)) ggX4_delete_X4_is
set_option maxRecDepth 20000 in
theorem ggX4_delete_X4_users : GoodIn wsX4_delete wsX4_users := goodIn_r _ [35, 15, 36, 37, 38, 5, 39, 40, 31, 41, 26, 27, 28, 29, 30, 57, 58, 59, 60, 61, 62, 63, 64, 65, 66, 67, 68, 69, 70, 71, 72, 73, 74, 75, 76, 77, 78, 79, 80, 81, 82] (by decide +kernel) (by decide +kernel)
set_option maxRecDepth 20000 in
theorem gX4_delete_X4_users : GoodIn wsX4_delete (wsV RX4 129 RX4 yX4_users wsX4_users) := goodIn_app (goodIn_of _ (by decide +kernel)) ggX4_delete_X4_users
set_option maxRecDepth 20000 in
theorem ggX4_delete_X4_makes : GoodIn wsX4_delete wsX4_makes := goodIn_r _ [45, 46, 47, 48, 1, 31, 49, 50, 51, 52, 30, 53, 54, 40, 55, 41, 56, 57, 58, 59, 60, 61, 62, 63, 64, 65, 66, 67, 68, 69, 70, 71, 72, 73, 74, 75, 76, 77, 78, 79, 80, 81, 82] (by decide +kernel) (by decide +kernel)
set_option maxRecDepth 20000 in
theorem gX4_delete_X4_makes : GoodIn wsX4_delete (wsV RX4 116 RX4 yX4_makes wsX4_makes) := goodIn_app (goodIn_of _ (by decide +kernel)) ggX4_delete_X4_makes
theorem dX4_delete_0 : decode cX4_delete 0 = .ok (.aload_n 0, 1) := by decide +kernel
theorem dX4_delete_1 : decode cX4_delete 1 = .ok (.iload_n 1, 1) := by decide +kernel
theorem dX4_delete_2 : decode cX4_delete 2 = .ok (.invokevirtual 83, 3) := by decide +kernel
theorem dX4_delete_5 : decode cX4_delete 5 = .ok (.ifCond .eq 15, 3) := by decide +kernel
theorem dX4_delete_8 : decode cX4_delete 8 = .ok (.aload_n 0, 1) := by decide +kernel
theorem dX4_delete_9 : decode cX4_delete 9 = .ok (.iload_n 2, 1) := by decide +kernel
theorem dX4_delete_10 : decode cX4_delete 10 = .ok (.invokevirtual 90, 3) := by decide +kernel
theorem dX4_delete_13 : decode cX4_delete 13 = .ok (.ifCond .eq 7, 3) := by decide +kernel
theorem dX4_delete_16 : decode cX4_delete 16 = .ok (.iconst 1, 1) := by decide +kernel
theorem dX4_delete_17 : decode cX4_delete 17 = .ok (.goto 4, 3) := by decide +kernel
theorem dX4_delete_20 : decode cX4_delete 20 = .ok (.iconst 0, 1) := by decide +kernel
theorem dX4_delete_21 : decode cX4_delete 21 = .ok (.istore 4, 2) := by decide +kernel
theorem dX4_delete_23 : decode cX4_delete 23 = .ok (.aload_n 0, 1) := by decide +kernel
theorem dX4_delete_24 : decode cX4_delete 24 = .ok (.iload 4, 2) := by decide +kernel
theorem dX4_delete_26 : decode cX4_delete 26 = .ok (.aload_n 0, 1) := by decide +kernel
theorem dX4_delete_27 : decode cX4_delete 27 = .ok (.iload_n 1, 1) := by decide +kernel
theorem dX4_delete_28 : decode cX4_delete 28 = .ok (.invokevirtual 113, 3) := by decide +kernel
theorem dX4_delete_31 : decode cX4_delete 31 = .ok (.iconst 1, 1) := by decide +kernel
theorem dX4_delete_32 : decode cX4_delete 32 = .ok (.invokevirtual 79, 3) := by decide +kernel
theorem dX4_delete_35 : decode cX4_delete 35 = .ok (.ifCond .ne 5, 3) := by decide +kernel
theorem dX4_delete_38 : decode cX4_delete 38 = .ok (.iconst 0, 1) := by decide +kernel
theorem dX4_delete_39 : decode cX4_delete 39 = .ok (.ireturn, 1) := by decide +kernel
theorem dX4_delete_40 : decode cX4_delete 40 = .ok (.aload_n 0, 1) := by decide +kernel
theorem dX4_delete_41 : decode cX4_delete 41 = .ok (.iload_n 2, 1) := by decide +kernel
theorem dX4_delete_42 : decode cX4_delete 42 = .ok (.invokevirtual 103, 3) := by decide +kernel
theorem dX4_delete_45 : decode cX4_delete 45 = .ok (.ifCond .ne 7, 3) := by decide +kernel
theorem dX4_delete_48 : decode cX4_delete 48 = .ok (.iconst (-1), 1) := by decide +kernel
theorem dX4_delete_49 : decode cX4_delete 49 = .ok (.goto 39, 3) := by decide +kernel
theorem dX4_delete_52 : decode cX4_delete 52 = .ok (.iload_n 3, 1) := by decide +kernel
theorem dX4_delete_53 : decode cX4_delete 53 = .ok (.aload_n 0, 1) := by decide +kernel
theorem dX4_delete_54 : decode cX4_delete 54 = .ok (.getfield 23, 3) := by decide +kernel
theorem dX4_delete_57 : decode cX4_delete 57 = .ok (.iload_n 2, 1) := by decide +kernel
theorem dX4_delete_58 : decode cX4_delete 58 = .ok (.iaload, 1) := by decide +kernel
theorem dX4_delete_59 : decode cX4_delete 59 = .ok (.if_icmp .eq 8, 3) := by decide +kernel
theorem dX4_delete_62 : decode cX4_delete 62 = .ok (.bipush (-2), 2) := by decide +kernel
theorem dX4_delete_64 : decode cX4_delete 64 = .ok (.goto 24, 3) := by decide +kernel
theorem dX4_delete_67 : decode cX4_delete 67 = .ok (.aload_n 0, 1) := by decide +kernel
theorem dX4_delete_68 : decode cX4_delete 68 = .ok (.iload_n 2, 1) := by decide +kernel
theorem dX4_delete_69 : decode cX4_delete 69 = .ok (.invokevirtual 129, 3) := by decide +kernel
theorem dX4_delete_72 : decode cX4_delete 72 = .ok (.ifCond .le 8, 3) := by decide +kernel
theorem dX4_delete_75 : decode cX4_delete 75 = .ok (.bipush (-5), 2) := by decide +kernel
theorem dX4_delete_77 : decode cX4_delete 77 = .ok (.goto 11, 3) := by decide +kernel
theorem dX4_delete_80 : decode cX4_delete 80 = .ok (.aload_n 0, 1) := by decide +kernel
theorem dX4_delete_81 : decode cX4_delete 81 = .ok (.iload_n 1, 1) := by decide +kernel
theorem dX4_delete_82 : decode cX4_delete 82 = .ok (.iload_n 2, 1) := by decide +kernel
theorem dX4_delete_83 : decode cX4_delete 83 = .ok (.iconst 0, 1) := by decide +kernel
theorem dX4_delete_84 : decode cX4_delete 84 = .ok (.iconst 0, 1) := by decide +kernel
theorem dX4_delete_85 : decode cX4_delete 85 = .ok (.invokevirtual 116, 3) := by decide +kernel
theorem dX4_delete_88 : decode cX4_delete 88 = .ok (.ireturn, 1) := by decide +kernel
set_option maxRecDepth 20000 in
theorem ggX4_undoes_X4_users : GoodIn wsX4_undoes wsX4_users := goodIn_r _ [12, 13, 14, 15, 16, 11, 17, 18, 1, 19, 20, 21, 22, 23, 4, 49, 50, 51, 52, 53, 54, 55, 56, 57, 58, 59, 60, 61, 62, 63, 64, 65, 66, 67, 68, 69, 70, 71, 72, 73, 74] (by decide +kernel) (by decide +kernel)
set_option maxRecDepth 20000 in
theorem gX4_undoes_X4_users : GoodIn wsX4_undoes (wsV RX4 129 RX4 yX4_users wsX4_users) := goodIn_app (goodIn_of _ (by decide +kernel)) ggX4_undoes_X4_users
set_option maxRecDepth 20000 in
theorem ggX4_undoes_X4_asksVersion : GoodIn wsX4_undoes wsX4_asksVersion := goodIn_r _ [27, 18, 5, 28, 19, 49, 50, 51, 52, 53, 54, 55, 56, 57, 58, 59, 60, 61, 62, 63, 64, 65, 66, 67, 68, 69, 70, 71, 72, 73, 74] (by decide +kernel) (by decide +kernel)
set_option maxRecDepth 20000 in
theorem gX4_undoes_X4_asksVersion : GoodIn wsX4_undoes (wsV RX4 132 RX4 yX4_asksVersion wsX4_asksVersion) := goodIn_app (goodIn_of _ (by decide +kernel)) ggX4_undoes_X4_asksVersion
set_option maxRecDepth 20000 in
theorem ggX4_undoes_X4_isUnlike : GoodIn wsX4_undoes wsX4_isUnlike := goodIn_r _ [32, 5, 28, 6, 20, 21, 22, 11, 23, 4, 1, 49, 50, 51, 52, 53, 54, 55, 56, 57, 58, 59, 60, 61, 62, 63, 64, 65, 66, 67, 68, 69, 70, 71, 72, 73, 74] (by decide +kernel) (by decide +kernel)
set_option maxRecDepth 20000 in
theorem gX4_undoes_X4_isUnlike : GoodIn wsX4_undoes (wsV RX4 123 RX4 yX4_isUnlike wsX4_isUnlike) := goodIn_app (goodIn_of _ (by decide +kernel)) ggX4_undoes_X4_isUnlike
set_option maxRecDepth 20000 in
theorem ggX4_undoes_X4_isRing : GoodIn wsX4_undoes wsX4_isRing := goodIn_r _ [36, 6, 13, 37, 5, 28, 14, 15, 16, 11, 17, 18, 1, 19, 20, 21, 22, 23, 4, 49, 50, 51, 52, 53, 54, 55, 56, 57, 58, 59, 60, 61, 62, 63, 64, 65, 66, 67, 68, 69, 70, 71, 72, 73, 74] (by decide +kernel) (by decide +kernel)
set_option maxRecDepth 20000 in
theorem gX4_undoes_X4_isRing : GoodIn wsX4_undoes (wsV RX4 126 RX4 yX4_isRing wsX4_isRing) := goodIn_app (goodIn_of _ (by decide +kernel)) ggX4_undoes_X4_isRing
set_option maxRecDepth 20000 in
theorem ggX4_undoes_X4_makes : GoodIn wsX4_undoes wsX4_makes := goodIn_r _ [41, 42, 43, 3, 44, 1, 45, 2, 46, 47, 4, 48, 7, 18, 5, 19, 28, 49, 50, 51, 52, 53, 54, 55, 56, 57, 58, 59, 60, 61, 62, 63, 64, 65, 66, 67, 68, 69, 70, 71, 72, 73, 74] (by decide +kernel) (by decide +kernel)
set_option maxRecDepth 20000 in
theorem gX4_undoes_X4_makes : GoodIn wsX4_undoes (wsV RX4 116 RX4 yX4_makes wsX4_makes) := goodIn_app (goodIn_of _ (by decide +kernel)) ggX4_undoes_X4_makes
theorem dX4_undoes_0 : decode cX4_undoes 0 = .ok (.aload_n 0, 1) := by decide +kernel
theorem dX4_undoes_1 : decode cX4_undoes 1 = .ok (.getfield 20, 3) := by decide +kernel
