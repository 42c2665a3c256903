theorem dX3_edit_24 : decode cX3_edit 24 = .ok (.ifCond .ne 5, 3) := by decide +kernel
theorem dX3_edit_27 : decode cX3_edit 27 = .ok (.iconst (-1), 1) := by decide +kernel
theorem dX3_edit_28 : decode cX3_edit 28 = .ok (.ireturn, 1) := by decide +kernel
theorem dX3_edit_29 : decode cX3_edit 29 = .ok (.aload 5, 2) := by decide +kernel
theorem dX3_edit_31 : decode cX3_edit 31 = .ok (.getfield 138, 3) := by decide +kernel
theorem dX3_edit_34 : decode cX3_edit 34 = .ok (.getfield 142, 3) := by decide +kernel
theorem dX3_edit_37 : decode cX3_edit 37 = .ok (.iload_n 3, 1) := by decide +kernel
theorem dX3_edit_38 : decode cX3_edit 38 = .ok (.if_icmp .eq 6, 3) := by decide +kernel
theorem dX3_edit_41 : decode cX3_edit 41 = .ok (.bipush (-2), 2) := by decide +kernel
theorem dX3_edit_43 : decode cX3_edit 43 = .ok (.ireturn, 1) := by decide +kernel
theorem dX3_edit_44 : decode cX3_edit 44 = .ok (.aload_n 0, 1) := by decide +kernel
theorem dX3_edit_45 : decode cX3_edit 45 = .ok (.iload_n 2, 1) := by decide +kernel
theorem dX3_edit_46 : decode cX3_edit 46 = .ok (.aload 4, 2) := by decide +kernel
theorem dX3_edit_48 : decode cX3_edit 48 = .ok (.invokevirtual 275, 3) := by decide +kernel
theorem dX3_edit_51 : decode cX3_edit 51 = .ok (.istore 6, 2) := by decide +kernel
theorem dX3_edit_53 : decode cX3_edit 53 = .ok (.iload 6, 2) := by decide +kernel
theorem dX3_edit_55 : decode cX3_edit 55 = .ok (.ifCond .eq 8, 3) := by decide +kernel
theorem dX3_edit_58 : decode cX3_edit 58 = .ok (.iload 6, 2) := by decide +kernel
theorem dX3_edit_60 : decode cX3_edit 60 = .ok (.goto 12, 3) := by decide +kernel
theorem dX3_edit_63 : decode cX3_edit 63 = .ok (.aload_n 0, 1) := by decide +kernel
theorem dX3_edit_64 : decode cX3_edit 64 = .ok (.iload_n 1, 1) := by decide +kernel
theorem dX3_edit_65 : decode cX3_edit 65 = .ok (.aload 5, 2) := by decide +kernel
theorem dX3_edit_67 : decode cX3_edit 67 = .ok (.aload 4, 2) := by decide +kernel
theorem dX3_edit_69 : decode cX3_edit 69 = .ok (.invokevirtual 279, 3) := by decide +kernel
theorem dX3_edit_72 : decode cX3_edit 72 = .ok (.ireturn, 1) := by decide +kernel
set_option maxRecDepth 20000 in
theorem ggX3_refusalOf_X3_bit : GoodIn wsX3_refusalOf wsX3_bit := goodIn_r _ [9] (by decide +kernel) (by decide +kernel)
set_option maxRecDepth 20000 in
theorem gX3_refusalOf_X3_bit : GoodIn wsX3_refusalOf (va_wsS RX3 169 yX3_bit wsX3_bit) := goodIn_app (goodIn_of _ (by decide +kernel)) ggX3_refusalOf_X3_bit
set_option maxRecDepth 20000 in
theorem ggX3_refusalOf_X3_usersOf : GoodIn wsX3_refusalOf wsX3_usersOf := goodIn_r _ [13, 2, 3, 14, 15, 5, 16, 17, 18, 19, 20, 21, 22, 23, 24, 25, 26, 27, 28, 29, 30, 31, 32, 33, 34, 35, 36, 37, 38, 39, 40, 8, 41, 6, 7, 9, 69, 70, 71, 72, 73, 74, 75, 76, 77, 78, 79, 80, 81, 82, 83, 84, 85, 86, 87, 65, 66, 67, 68, 88, 89, 90] (by decide +kernel) (by decide +kernel)
set_option maxRecDepth 20000 in
theorem gX3_refusalOf_X3_usersOf : GoodIn wsX3_refusalOf (wsV RX3 173 RX3 yX3_usersOf wsX3_usersOf) := goodIn_app (goodIn_of _ (by decide +kernel)) ggX3_refusalOf_X3_usersOf
set_option maxRecDepth 20000 in
theorem ggX3_refusalOf_Jx4a65c_get_915e3 : GoodIn wsX3_refusalOf wsJx4a65c_get_915e3 := goodIn_r _ [25, 21, 26, 27, 28, 29, 30, 31, 32, 33, 34, 35, 36, 19, 37, 38, 88, 89, 90] (by decide +kernel) (by decide +kernel)
set_option maxRecDepth 20000 in
theorem gX3_refusalOf_Jx4a65c_get_915e3 : GoodIn wsX3_refusalOf (wsV RX3 107 RJx4a65c yJx4a65c_get_915e3 wsJx4a65c_get_915e3) := goodIn_app (goodIn_of _ (by decide +kernel)) ggX3_refusalOf_Jx4a65c_get_915e3
set_option maxRecDepth 20000 in
theorem ggX3_refusalOf_X3_isRowFor : GoodIn wsX3_refusalOf wsX3_isRowFor := goodIn_r _ [45, 2, 3, 4, 46, 47, 48, 8, 49, 14, 15, 1, 50, 51, 52, 53, 16, 17, 18, 19, 20, 21, 22, 23, 24, 25, 26, 27, 28, 29, 30, 31, 32, 33, 34, 35, 36, 37, 38, 69, 70, 71, 72, 73, 74, 75, 76, 77, 78, 79, 80, 81, 82, 83, 84, 85, 86, 87, 65, 66, 67, 68, 88, 89, 90] (by decide +kernel) (by decide +kernel)
set_option maxRecDepth 20000 in
theorem gX3_refusalOf_X3_isRowFor : GoodIn wsX3_refusalOf (wsV RX3 103 RX3 yX3_isRowFor wsX3_isRowFor) := goodIn_app (goodIn_of _ (by decide +kernel)) ggX3_refusalOf_X3_isRowFor
set_option maxRecDepth 20000 in
theorem ggX3_refusalOf_X3_leadsTo : GoodIn wsX3_refusalOf wsX3_leadsTo := goodIn_r _ [57, 2, 39, 40, 8, 41, 6, 7, 9, 16, 17, 18, 19, 20, 21, 58, 59, 60, 61, 3, 14, 15, 5, 62, 63, 64, 22, 23, 24, 25, 26, 27, 28, 29, 30, 31, 32, 33, 34, 35, 36, 37, 38, 69, 70, 71, 72, 73, 74, 75, 76, 77, 78, 79, 88, 89, 90, 80, 81, 82, 83, 84, 85, 86, 87, 65, 66, 67, 68] (by decide +kernel) (by decide +kernel)
set_option maxRecDepth 20000 in
theorem gX3_refusalOf_X3_leadsTo : GoodIn wsX3_refusalOf (wsV RX3 283 RX3 yX3_leadsTo wsX3_leadsTo) := goodIn_app (goodIn_of _ (by decide +kernel)) ggX3_refusalOf_X3_leadsTo
theorem dX3_refusalOf_0 : decode cX3_refusalOf 0 = .ok (.aload_n 2, 1) := by decide +kernel
theorem dX3_refusalOf_1 : decode cX3_refusalOf 1 = .ok (.getfield 154, 3) := by decide +kernel
theorem dX3_refusalOf_4 : decode cX3_refusalOf 4 = .ok (.ifCond .ne 23, 3) := by decide +kernel
theorem dX3_refusalOf_7 : decode cX3_refusalOf 7 = .ok (.aload_n 0, 1) := by decide +kernel
theorem dX3_refusalOf_8 : decode cX3_refusalOf 8 = .ok (.iload_n 1, 1) := by decide +kernel
theorem dX3_refusalOf_9 : decode cX3_refusalOf 9 = .ok (.invokestatic 169, 3) := by decide +kernel
theorem dX3_refusalOf_12 : decode cX3_refusalOf 12 = .ok (.invokevirtual 173, 3) := by decide +kernel
theorem dX3_refusalOf_15 : decode cX3_refusalOf 15 = .ok (.lconst 0, 1) := by decide +kernel
theorem dX3_refusalOf_16 : decode cX3_refusalOf 16 = .ok (.lcmp, 1) := by decide +kernel
theorem dX3_refusalOf_17 : decode cX3_refusalOf 17 = .ok (.ifCond .eq 8, 3) := by decide +kernel
theorem dX3_refusalOf_20 : decode cX3_refusalOf 20 = .ok (.bipush (-5), 2) := by decide +kernel
theorem dX3_refusalOf_22 : decode cX3_refusalOf 22 = .ok (.goto 4, 3) := by decide +kernel
theorem dX3_refusalOf_25 : decode cX3_refusalOf 25 = .ok (.iconst 0, 1) := by decide +kernel
theorem dX3_refusalOf_26 : decode cX3_refusalOf 26 = .ok (.ireturn, 1) := by decide +kernel
theorem dX3_refusalOf_27 : decode cX3_refusalOf 27 = .ok (.aload_n 0, 1) := by decide +kernel
theorem dX3_refusalOf_28 : decode cX3_refusalOf 28 = .ok (.getfield 25, 3) := by decide +kernel
theorem dX3_refusalOf_31 : decode cX3_refusalOf 31 = .ok (.iload_n 1, 1) := by decide +kernel
theorem dX3_refusalOf_32 : decode cX3_refusalOf 32 = .ok (.invokevirtual 107, 3) := by decide +kernel
theorem dX3_refusalOf_35 : decode cX3_refusalOf 35 = .ok (.checkcast 111, 3) := by decide +kernel
theorem dX3_refusalOf_38 : decode cX3_refusalOf 38 = .ok (.getfield 113, 3) := by decide +kernel
theorem dX3_refusalOf_41 : decode cX3_refusalOf 41 = .ok (.istore_n 3, 1) := by decide +kernel
theorem dX3_refusalOf_42 : decode cX3_refusalOf 42 = .ok (.iload_n 3, 1) := by decide +kernel
theorem dX3_refusalOf_43 : decode cX3_refusalOf 43 = .ok (.ifCond .ne 5, 3) := by decide +kernel
theorem dX3_refusalOf_46 : decode cX3_refusalOf 46 = .ok (.iconst 0, 1) := by decide +kernel
theorem dX3_refusalOf_47 : decode cX3_refusalOf 47 = .ok (.ireturn, 1) := by decide +kernel
theorem dX3_refusalOf_48 : decode cX3_refusalOf 48 = .ok (.aload_n 0, 1) := by decide +kernel
theorem dX3_refusalOf_49 : decode cX3_refusalOf 49 = .ok (.iload_n 3, 1) := by decide +kernel
theorem dX3_refusalOf_50 : decode cX3_refusalOf 50 = .ok (.aload_n 2, 1) := by decide +kernel
theorem dX3_refusalOf_51 : decode cX3_refusalOf 51 = .ok (.getfield 100, 3) := by decide +kernel
theorem dX3_refusalOf_54 : decode cX3_refusalOf 54 = .ok (.invokevirtual 103, 3) := by decide +kernel
theorem dX3_refusalOf_57 : decode cX3_refusalOf 57 = .ok (.ifCond .ne 6, 3) := by decide +kernel
theorem dX3_refusalOf_60 : decode cX3_refusalOf 60 = .ok (.bipush (-3), 2) := by decide +kernel
theorem dX3_refusalOf_62 : decode cX3_refusalOf 62 = .ok (.ireturn, 1) := by decide +kernel
theorem dX3_refusalOf_63 : decode cX3_refusalOf 63 = .ok (.aload_n 0, 1) := by decide +kernel
theorem dX3_refusalOf_64 : decode cX3_refusalOf 64 = .ok (.aload_n 2, 1) := by decide +kernel
theorem dX3_refusalOf_65 : decode cX3_refusalOf 65 = .ok (.getfield 100, 3) := by decide +kernel
theorem dX3_refusalOf_68 : decode cX3_refusalOf 68 = .ok (.iload_n 1, 1) := by decide +kernel
theorem dX3_refusalOf_69 : decode cX3_refusalOf 69 = .ok (.invokevirtual 283, 3) := by decide +kernel
theorem dX3_refusalOf_72 : decode cX3_refusalOf 72 = .ok (.ifCond .eq 8, 3) := by decide +kernel
theorem dX3_refusalOf_75 : decode cX3_refusalOf 75 = .ok (.bipush (-4), 2) := by decide +kernel
theorem dX3_refusalOf_77 : decode cX3_refusalOf 77 = .ok (.goto 4, 3) := by decide +kernel
theorem dX3_refusalOf_80 : decode cX3_refusalOf 80 = .ok (.iconst 0, 1) := by decide +kernel
theorem dX3_refusalOf_81 : decode cX3_refusalOf 81 = .ok (.ireturn, 1) := by decide +kernel
set_option maxRecDepth 20000 in
theorem ggX3_isRowFor_X3_isNow : GoodIn wsX3_isRowFor wsX3_isNow := goodIn_r _ [8, 1, 2, 9, 10, 11, 12, 13, 14, 7, 15, 16, 17, 18, 19, 20, 21, 22, 23, 24, 25, 26, 27, 28, 29, 30, 31, 32, 33, 34, 35, 36, 37, 38, 39, 40, 41, 42, 43, 44, 45, 46, 47, 48, 49, 50, 51, 52, 53, 54, 55, 56, 57, 58, 59, 60, 61, 62, 63, 64] (by decide +kernel) (by decide +kernel)
set_option maxRecDepth 20000 in
theorem gX3_isRowFor_X3_isNow : GoodIn wsX3_isRowFor (wsV RX3 147 RX3 yX3_isNow wsX3_isNow) := goodIn_app (goodIn_of _ (by decide +kernel)) ggX3_isRowFor_X3_isNow
set_option maxRecDepth 20000 in
theorem ggX3_isRowFor_Jx4a65c_get_915e3 : GoodIn wsX3_isRowFor wsJx4a65c_get_915e3 := goodIn_r _ [25, 21, 26, 27, 28, 29, 30, 31, 32, 33, 34, 35, 36, 19, 37, 38, 62, 63, 64] (by decide +kernel) (by decide +kernel)
set_option maxRecDepth 20000 in
theorem gX3_isRowFor_Jx4a65c_get_915e3 : GoodIn wsX3_isRowFor (wsV RX3 107 RJx4a65c yJx4a65c_get_915e3 wsJx4a65c_get_915e3) := goodIn_app (goodIn_of _ (by decide +kernel)) ggX3_isRowFor_Jx4a65c_get_915e3
theorem dX3_isRowFor_0 : decode cX3_isRowFor 0 = .ok (.aload_n 2, 1) := by decide +kernel
theorem dX3_isRowFor_1 : decode cX3_isRowFor 1 = .ok (.arraylength, 1) := by decide +kernel
theorem dX3_isRowFor_2 : decode cX3_isRowFor 2 = .ok (.iload_n 1, 1) := by decide +kernel
theorem dX3_isRowFor_3 : decode cX3_isRowFor 3 = .ok (.iconst 1, 1) := by decide +kernel
theorem dX3_isRowFor_4 : decode cX3_isRowFor 4 = .ok (.if_icmp .ne 7, 3) := by decide +kernel
theorem dX3_isRowFor_7 : decode cX3_isRowFor 7 = .ok (.iconst 2, 1) := by decide +kernel
theorem dX3_isRowFor_8 : decode cX3_isRowFor 8 = .ok (.goto 4, 3) := by decide +kernel
theorem dX3_isRowFor_11 : decode cX3_isRowFor 11 = .ok (.iconst 1, 1) := by decide +kernel
theorem dX3_isRowFor_12 : decode cX3_isRowFor 12 = .ok (.if_icmp .ge 5, 3) := by decide +kernel
theorem dX3_isRowFor_15 : decode cX3_isRowFor 15 = .ok (.iconst 0, 1) := by decide +kernel
theorem dX3_isRowFor_16 : decode cX3_isRowFor 16 = .ok (.ireturn, 1) := by decide +kernel
theorem dX3_isRowFor_17 : decode cX3_isRowFor 17 = .ok (.aload_n 2, 1) := by decide +kernel
theorem dX3_isRowFor_18 : decode cX3_isRowFor 18 = .ok (.astore_n 3, 1) := by decide +kernel
theorem dX3_isRowFor_19 : decode cX3_isRowFor 19 = .ok (.aload_n 3, 1) := by decide +kernel
theorem dX3_isRowFor_20 : decode cX3_isRowFor 20 = .ok (.arraylength, 1) := by decide +kernel
theorem dX3_isRowFor_21 : decode cX3_isRowFor 21 = .ok (.istore 4, 2) := by decide +kernel
theorem dX3_isRowFor_23 : decode cX3_isRowFor 23 = .ok (.iconst 0, 1) := by decide +kernel
theorem dX3_isRowFor_24 : decode cX3_isRowFor 24 = .ok (.istore 5, 2) := by decide +kernel
theorem dX3_isRowFor_26 : decode cX3_isRowFor 26 = .ok (.iload 5, 2) := by decide +kernel
theorem dX3_isRowFor_28 : decode cX3_isRowFor 28 = .ok (.iload 4, 2) := by decide +kernel
theorem dX3_isRowFor_30 : decode cX3_isRowFor 30 = .ok (.if_icmp .ge 49, 3) := by decide +kernel
theorem dX3_isRowFor_33 : decode cX3_isRowFor 33 = .ok (.aload_n 3, 1) := by decide +kernel
theorem dX3_isRowFor_34 : decode cX3_isRowFor 34 = .ok (.iload 5, 2) := by decide +kernel
theorem dX3_isRowFor_36 : decode cX3_isRowFor 36 = .ok (.iaload, 1) := by decide +kernel
theorem dX3_isRowFor_37 : decode cX3_isRowFor 37 = .ok (.istore 6, 2) := by decide +kernel
theorem dX3_isRowFor_39 : decode cX3_isRowFor 39 = .ok (.aload_n 0, 1) := by decide +kernel
theorem dX3_isRowFor_40 : decode cX3_isRowFor 40 = .ok (.iload 6, 2) := by decide +kernel
theorem dX3_isRowFor_42 : decode cX3_isRowFor 42 = .ok (.invokevirtual 147, 3) := by decide +kernel
theorem dX3_isRowFor_45 : decode cX3_isRowFor 45 = .ok (.ifCond .eq 26, 3) := by decide +kernel
theorem dX3_isRowFor_48 : decode cX3_isRowFor 48 = .ok (.iload_n 1, 1) := by decide +kernel
theorem dX3_isRowFor_49 : decode cX3_isRowFor 49 = .ok (.iconst 1, 1) := by decide +kernel
theorem dX3_isRowFor_50 : decode cX3_isRowFor 50 = .ok (.if_icmp .ne 23, 3) := by decide +kernel
theorem dX3_isRowFor_53 : decode cX3_isRowFor 53 = .ok (.aload_n 0, 1) := by decide +kernel
theorem dX3_isRowFor_54 : decode cX3_isRowFor 54 = .ok (.getfield 25, 3) := by decide +kernel
theorem dX3_isRowFor_57 : decode cX3_isRowFor 57 = .ok (.iload 6, 2) := by decide +kernel
theorem dX3_isRowFor_59 : decode cX3_isRowFor 59 = .ok (.invokevirtual 107, 3) := by decide +kernel
theorem dX3_isRowFor_62 : decode cX3_isRowFor 62 = .ok (.checkcast 111, 3) := by decide +kernel
theorem dX3_isRowFor_65 : decode cX3_isRowFor 65 = .ok (.getfield 113, 3) := by decide +kernel
theorem dX3_isRowFor_68 : decode cX3_isRowFor 68 = .ok (.ifCond .eq 5, 3) := by decide +kernel
theorem dX3_isRowFor_71 : decode cX3_isRowFor 71 = .ok (.iconst 0, 1) := by decide +kernel
theorem dX3_isRowFor_72 : decode cX3_isRowFor 72 = .ok (.ireturn, 1) := by decide +kernel
theorem dX3_isRowFor_73 : decode cX3_isRowFor 73 = .ok (.iinc 5 1, 3) := by decide +kernel
theorem dX3_isRowFor_76 : decode cX3_isRowFor 76 = .ok (.goto (-50), 3) := by decide +kernel
theorem dX3_isRowFor_79 : decode cX3_isRowFor 79 = .ok (.iconst 1, 1) := by decide +kernel
theorem dX3_isRowFor_80 : decode cX3_isRowFor 80 = .ok (.ireturn, 1) := by decide +kernel
set_option maxRecDepth 20000 in
theorem ggX3_leadsTo_X3_bitsOf : GoodIn wsX3_leadsTo wsX3_bitsOf := goodIn_r _ [5, 6, 7, 4, 8] (by decide +kernel) (by decide +kernel)
set_option maxRecDepth 20000 in
theorem gX3_leadsTo_X3_bitsOf : GoodIn wsX3_leadsTo (va_wsS RX3 287 yX3_bitsOf wsX3_bitsOf) := goodIn_app (goodIn_of _ (by decide +kernel)) ggX3_leadsTo_X3_bitsOf
set_option maxRecDepth 20000 in
theorem ggX3_leadsTo_Jx4a65c_size_8abf5 : GoodIn wsX3_leadsTo wsJx4a65c_size_8abf5 := goodIn_r _ [13, 14, 54, 55, 56] (by decide +kernel) (by decide +kernel)
set_option maxRecDepth 20000 in
theorem gX3_leadsTo_Jx4a65c_size_8abf5 : GoodIn wsX3_leadsTo (wsV RX3 126 RJx4a65c yJx4a65c_size_8abf5 wsJx4a65c_size_8abf5) := goodIn_app (goodIn_of _ (by decide +kernel)) ggX3_leadsTo_Jx4a65c_size_8abf5
set_option maxRecDepth 20000 in
theorem ggX3_leadsTo_X3_membersOf : GoodIn wsX3_leadsTo wsX3_membersOf := goodIn_r _ [18, 1, 19, 20, 21, 22, 9, 10, 11, 12, 13, 14, 23, 24, 4, 25, 6, 7, 8, 26, 27, 28, 29, 30, 31, 32, 33, 34, 35, 36, 37, 38, 39, 40, 41, 42, 2, 3, 5, 43, 44, 45, 46, 47, 48, 49, 50, 51, 52, 53, 57, 58, 59, 60, 61, 62, 63, 64, 65, 66, 67, 68, 54, 55, 56] (by decide +kernel) (by decide +kernel)
set_option maxRecDepth 20000 in
theorem gX3_leadsTo_X3_membersOf : GoodIn wsX3_leadsTo (wsV RX3 216 RX3 yX3_membersOf wsX3_membersOf) := goodIn_app (goodIn_of _ (by decide +kernel)) ggX3_leadsTo_X3_membersOf
set_option maxRecDepth 20000 in
theorem ggX3_leadsTo_X3_has : GoodIn wsX3_leadsTo wsX3_has := goodIn_r _ [25, 6, 7, 4, 8] (by decide +kernel) (by decide +kernel)
set_option maxRecDepth 20000 in
theorem gX3_leadsTo_X3_has : GoodIn wsX3_leadsTo (va_wsS RX3 291 yX3_has wsX3_has) := goodIn_app (goodIn_of _ (by decide +kernel)) ggX3_leadsTo_X3_has
theorem dX3_leadsTo_0 : decode cX3_leadsTo 0 = .ok (.aload_n 1, 1) := by decide +kernel
theorem dX3_leadsTo_1 : decode cX3_leadsTo 1 = .ok (.invokestatic 287, 3) := by decide +kernel
theorem dX3_leadsTo_4 : decode cX3_leadsTo 4 = .ok (.lstore_n 3, 1) := by decide +kernel
theorem dX3_leadsTo_5 : decode cX3_leadsTo 5 = .ok (.iconst 0, 1) := by decide +kernel
theorem dX3_leadsTo_6 : decode cX3_leadsTo 6 = .ok (.istore 5, 2) := by decide +kernel
theorem dX3_leadsTo_8 : decode cX3_leadsTo 8 = .ok (.iload 5, 2) := by decide +kernel
theorem dX3_leadsTo_10 : decode cX3_leadsTo 10 = .ok (.aload_n 0, 1) := by decide +kernel
theorem dX3_leadsTo_11 : decode cX3_leadsTo 11 = .ok (.getfield 25, 3) := by decide +kernel
theorem dX3_leadsTo_14 : decode cX3_leadsTo 14 = .ok (.invokevirtual 126, 3) := by decide +kernel
theorem dX3_leadsTo_17 : decode cX3_leadsTo 17 = .ok (.if_icmp .ge 31, 3) := by decide +kernel
theorem dX3_leadsTo_20 : decode cX3_leadsTo 20 = .ok (.lload_n 3, 1) := by decide +kernel
theorem dX3_leadsTo_21 : decode cX3_leadsTo 21 = .ok (.aload_n 0, 1) := by decide +kernel
theorem dX3_leadsTo_22 : decode cX3_leadsTo 22 = .ok (.lload_n 3, 1) := by decide +kernel
theorem dX3_leadsTo_23 : decode cX3_leadsTo 23 = .ok (.invokevirtual 216, 3) := by decide +kernel
theorem dX3_leadsTo_26 : decode cX3_leadsTo 26 = .ok (.lor, 1) := by decide +kernel
theorem dX3_leadsTo_27 : decode cX3_leadsTo 27 = .ok (.lstore 6, 2) := by decide +kernel
theorem dX3_leadsTo_29 : decode cX3_leadsTo 29 = .ok (.lload 6, 2) := by decide +kernel
theorem dX3_leadsTo_31 : decode cX3_leadsTo 31 = .ok (.lload_n 3, 1) := by decide +kernel
theorem dX3_leadsTo_32 : decode cX3_leadsTo 32 = .ok (.lcmp, 1) := by decide +kernel
theorem dX3_leadsTo_33 : decode cX3_leadsTo 33 = .ok (.ifCond .ne 6, 3) := by decide +kernel
theorem dX3_leadsTo_36 : decode cX3_leadsTo 36 = .ok (.goto 12, 3) := by decide +kernel
theorem dX3_leadsTo_39 : decode cX3_leadsTo 39 = .ok (.lload 6, 2) := by decide +kernel
theorem dX3_leadsTo_41 : decode cX3_leadsTo 41 = .ok (.lstore_n 3, 1) := by decide +kernel
theorem dX3_leadsTo_42 : decode cX3_leadsTo 42 = .ok (.iinc 5 1, 3) := by decide +kernel
theorem dX3_leadsTo_45 : decode cX3_leadsTo 45 = .ok (.goto (-37), 3) := by decide +kernel
theorem dX3_leadsTo_48 : decode cX3_leadsTo 48 = .ok (.lload_n 3, 1) := by decide +kernel
theorem dX3_leadsTo_49 : decode cX3_leadsTo 49 = .ok (.iload_n 2, 1) := by decide +kernel
theorem dX3_leadsTo_50 : decode cX3_leadsTo 50 = .ok (.invokestatic 291, 3) := by decide +kernel
theorem dX3_leadsTo_53 : decode cX3_leadsTo 53 = .ok (.ireturn, 1) := by decide +kernel
set_option maxRecDepth 20000 in
theorem ggX3_hasVersionOf_Jx4a65c_get_915e3 : GoodIn wsX3_hasVersionOf wsJx4a65c_get_915e3 := goodIn_r _ [10, 11, 12, 13, 14, 15, 16, 17, 18, 19, 20, 21, 22, 9, 23, 24, 44, 45, 46] (by decide +kernel) (by decide +kernel)
set_option maxRecDepth 20000 in
theorem gX3_hasVersionOf_Jx4a65c_get_915e3 : GoodIn wsX3_hasVersionOf (wsV RX3 107 RJx4a65c yJx4a65c_get_915e3 wsJx4a65c_get_915e3) := goodIn_app (goodIn_of _ (by decide +kernel)) ggX3_hasVersionOf_Jx4a65c_get_915e3
theorem dX3_hasVersionOf_0 : decode cX3_hasVersionOf 0 = .ok (.aload_n 0, 1) := by decide +kernel
theorem dX3_hasVersionOf_1 : decode cX3_hasVersionOf 1 = .ok (.getfield 25, 3) := by decide +kernel
theorem dX3_hasVersionOf_4 : decode cX3_hasVersionOf 4 = .ok (.iload_n 1, 1) := by decide +kernel
theorem dX3_hasVersionOf_5 : decode cX3_hasVersionOf 5 = .ok (.invokevirtual 107, 3) := by decide +kernel
theorem dX3_hasVersionOf_8 : decode cX3_hasVersionOf 8 = .ok (.checkcast 111, 3) := by decide +kernel
theorem dX3_hasVersionOf_11 : decode cX3_hasVersionOf 11 = .ok (.getfield 138, 3) := by decide +kernel
theorem dX3_hasVersionOf_14 : decode cX3_hasVersionOf 14 = .ok (.astore_n 3, 1) := by decide +kernel
theorem dX3_hasVersionOf_15 : decode cX3_hasVersionOf 15 = .ok (.aload_n 3, 1) := by decide +kernel
theorem dX3_hasVersionOf_16 : decode cX3_hasVersionOf 16 = .ok (.ifnull 19, 3) := by decide +kernel
theorem dX3_hasVersionOf_19 : decode cX3_hasVersionOf 19 = .ok (.aload_n 3, 1) := by decide +kernel
theorem dX3_hasVersionOf_20 : decode cX3_hasVersionOf 20 = .ok (.getfield 198, 3) := by decide +kernel
theorem dX3_hasVersionOf_23 : decode cX3_hasVersionOf 23 = .ok (.iload_n 2, 1) := by decide +kernel
theorem dX3_hasVersionOf_24 : decode cX3_hasVersionOf 24 = .ok (.if_icmp .eq 11, 3) := by decide +kernel
theorem dX3_hasVersionOf_27 : decode cX3_hasVersionOf 27 = .ok (.aload_n 3, 1) := by decide +kernel
theorem dX3_hasVersionOf_28 : decode cX3_hasVersionOf 28 = .ok (.getfield 242, 3) := by decide +kernel
theorem dX3_hasVersionOf_31 : decode cX3_hasVersionOf 31 = .ok (.astore_n 3, 1) := by decide +kernel
theorem dX3_hasVersionOf_32 : decode cX3_hasVersionOf 32 = .ok (.goto (-17), 3) := by decide +kernel
theorem dX3_hasVersionOf_35 : decode cX3_hasVersionOf 35 = .ok (.aload_n 3, 1) := by decide +kernel
theorem dX3_hasVersionOf_36 : decode cX3_hasVersionOf 36 = .ok (.ifnull 7, 3) := by decide +kernel
theorem dX3_hasVersionOf_39 : decode cX3_hasVersionOf 39 = .ok (.iconst 1, 1) := by decide +kernel
theorem dX3_hasVersionOf_40 : decode cX3_hasVersionOf 40 = .ok (.goto 4, 3) := by decide +kernel
theorem dX3_hasVersionOf_43 : decode cX3_hasVersionOf 43 = .ok (.iconst 0, 1) := by decide +kernel
theorem dX3_hasVersionOf_44 : decode cX3_hasVersionOf 44 = .ok (.ireturn, 1) := by decide +kernel
set_option maxRecDepth 20000 in
theorem ggX3_undoThing_Jx4a65c_get_915e3 : GoodIn wsX3_undoThing wsJx4a65c_get_915e3 := goodIn_r _ [9, 10, 11, 12, 13, 14, 15, 16, 17, 18, 19, 20, 21, 8, 22, 23, 122, 123, 124] (by decide +kernel) (by decide +kernel)
set_option maxRecDepth 20000 in
theorem gX3_undoThing_Jx4a65c_get_915e3 : GoodIn wsX3_undoThing (wsV RX3 107 RJx4a65c yJx4a65c_get_915e3 wsJx4a65c_get_915e3) := goodIn_app (goodIn_of _ (by decide +kernel)) ggX3_undoThing_Jx4a65c_get_915e3
set_option maxRecDepth 20000 in
theorem ggX3_undoThing_X3_contentAheadOf : GoodIn wsX3_undoThing wsX3_contentAheadOf := goodIn_r _ [28, 29, 4, 30, 31, 116, 117, 118, 119, 120, 121, 103, 104, 105, 106, 107, 108, 109, 110, 111, 112, 113] (by decide +kernel) (by decide +kernel)
set_option maxRecDepth 20000 in
theorem gX3_undoThing_X3_contentAheadOf : GoodIn wsX3_undoThing (wsV RX3 295 RX3 yX3_contentAheadOf wsX3_contentAheadOf) := goodIn_app (goodIn_of _ (by decide +kernel)) ggX3_undoThing_X3_contentAheadOf
set_option maxRecDepth 20000 in
theorem ggX3_undoThing_X3_refusalOf : GoodIn wsX3_undoThing wsX3_refusalOf := goodIn_r _ [35, 36, 1, 2, 37, 38, 39, 40, 27, 41, 42, 43, 44, 45, 3, 31, 46, 47, 48, 8, 49, 10, 5, 6, 7, 9, 11, 12, 13, 14, 15, 16, 17, 18, 19, 20, 21, 22, 23, 50, 51, 52, 53, 54, 55, 56, 57, 58, 59, 60, 61, 62, 63, 64, 65, 66, 67, 68, 69, 70, 71, 72, 73, 74, 75, 125, 126, 127, 128, 103, 104, 105, 106, 107, 108, 109, 110, 111, 112, 113, 114, 115, 116, 117, 118, 119, 120, 121, 122, 123, 124] (by decide +kernel) (by decide +kernel)
set_option maxRecDepth 20000 in
theorem gX3_undoThing_X3_refusalOf : GoodIn wsX3_undoThing (wsV RX3 275 RX3 yX3_refusalOf wsX3_refusalOf) := goodIn_app (goodIn_of _ (by decide +kernel)) ggX3_undoThing_X3_refusalOf
set_option maxRecDepth 20000 in
theorem ggX3_undoThing_X3_addVersion : GoodIn wsX3_undoThing wsX3_addVersion := goodIn_r _ [79, 3, 80, 81, 82, 83, 27, 84, 85, 86, 87, 88, 89, 90, 91, 92, 93, 94, 95, 96, 97, 98, 99, 100, 101, 102, 114, 115, 116, 117, 118, 119, 120, 121, 103, 104, 105, 106, 107, 108, 109, 110, 111, 112, 113] (by decide +kernel) (by decide +kernel)
set_option maxRecDepth 20000 in
theorem gX3_undoThing_X3_addVersion : GoodIn wsX3_undoThing (wsV RX3 279 RX3 yX3_addVersion wsX3_addVersion) := goodIn_app (goodIn_of _ (by decide +kernel)) ggX3_undoThing_X3_addVersion
theorem dX3_undoThing_0 : decode cX3_undoThing 0 = .ok (.aload_n 0, 1) := by decide +kernel
theorem dX3_undoThing_1 : decode cX3_undoThing 1 = .ok (.getfield 25, 3) := by decide +kernel
theorem dX3_undoThing_4 : decode cX3_undoThing 4 = .ok (.iload_n 2, 1) := by decide +kernel
theorem dX3_undoThing_5 : decode cX3_undoThing 5 = .ok (.invokevirtual 107, 3) := by decide +kernel
theorem dX3_undoThing_8 : decode cX3_undoThing 8 = .ok (.checkcast 111, 3) := by decide +kernel
theorem dX3_undoThing_11 : decode cX3_undoThing 11 = .ok (.astore 4, 2) := by decide +kernel
theorem dX3_undoThing_13 : decode cX3_undoThing 13 = .ok (.aload 4, 2) := by decide +kernel
theorem dX3_undoThing_15 : decode cX3_undoThing 15 = .ok (.getfield 138, 3) := by decide +kernel
theorem dX3_undoThing_18 : decode cX3_undoThing 18 = .ok (.getfield 198, 3) := by decide +kernel
theorem dX3_undoThing_21 : decode cX3_undoThing 21 = .ok (.iload_n 3, 1) := by decide +kernel
theorem dX3_undoThing_22 : decode cX3_undoThing 22 = .ok (.if_icmp .eq 5, 3) := by decide +kernel
theorem dX3_undoThing_25 : decode cX3_undoThing 25 = .ok (.iconst 0, 1) := by decide +kernel
theorem dX3_undoThing_26 : decode cX3_undoThing 26 = .ok (.ireturn, 1) := by decide +kernel
theorem dX3_undoThing_27 : decode cX3_undoThing 27 = .ok (.aload_n 0, 1) := by decide +kernel
theorem dX3_undoThing_28 : decode cX3_undoThing 28 = .ok (.aload 4, 2) := by decide +kernel
theorem dX3_undoThing_30 : decode cX3_undoThing 30 = .ok (.getfield 138, 3) := by decide +kernel
theorem dX3_undoThing_33 : decode cX3_undoThing 33 = .ok (.iload_n 3, 1) := by decide +kernel
theorem dX3_undoThing_34 : decode cX3_undoThing 34 = .ok (.invokevirtual 295, 3) := by decide +kernel
theorem dX3_undoThing_37 : decode cX3_undoThing 37 = .ok (.astore 5, 2) := by decide +kernel
theorem dX3_undoThing_39 : decode cX3_undoThing 39 = .ok (.aload_n 0, 1) := by decide +kernel
theorem dX3_undoThing_40 : decode cX3_undoThing 40 = .ok (.iload_n 2, 1) := by decide +kernel
theorem dX3_undoThing_41 : decode cX3_undoThing 41 = .ok (.aload 5, 2) := by decide +kernel
theorem dX3_undoThing_43 : decode cX3_undoThing 43 = .ok (.invokevirtual 275, 3) := by decide +kernel
theorem dX3_undoThing_46 : decode cX3_undoThing 46 = .ok (.ifCond .eq 5, 3) := by decide +kernel
theorem dX3_undoThing_49 : decode cX3_undoThing 49 = .ok (.iconst 0, 1) := by decide +kernel
theorem dX3_undoThing_50 : decode cX3_undoThing 50 = .ok (.ireturn, 1) := by decide +kernel
theorem dX3_undoThing_51 : decode cX3_undoThing 51 = .ok (.aload_n 0, 1) := by decide +kernel
theorem dX3_undoThing_52 : decode cX3_undoThing 52 = .ok (.iload_n 1, 1) := by decide +kernel
theorem dX3_undoThing_53 : decode cX3_undoThing 53 = .ok (.aload 4, 2) := by decide +kernel
theorem dX3_undoThing_55 : decode cX3_undoThing 55 = .ok (.aload 5, 2) := by decide +kernel
theorem dX3_undoThing_57 : decode cX3_undoThing 57 = .ok (.invokevirtual 279, 3) := by decide +kernel
theorem dX3_undoThing_60 : decode cX3_undoThing 60 = .ok (.pop, 1) := by decide +kernel
theorem dX3_undoThing_61 : decode cX3_undoThing 61 = .ok (.iconst 1, 1) := by decide +kernel
theorem dX3_undoThing_62 : decode cX3_undoThing 62 = .ok (.ireturn, 1) := by decide +kernel
theorem dX3_contentAheadOf_0 : decode cX3_contentAheadOf 0 = .ok (.aload_n 1, 1) := by decide +kernel
theorem dX3_contentAheadOf_1 : decode cX3_contentAheadOf 1 = .ok (.getfield 242, 3) := by decide +kernel
theorem dX3_contentAheadOf_4 : decode cX3_contentAheadOf 4 = .ok (.astore_n 3, 1) := by decide +kernel
theorem dX3_contentAheadOf_5 : decode cX3_contentAheadOf 5 = .ok (.aload_n 3, 1) := by decide +kernel
theorem dX3_contentAheadOf_6 : decode cX3_contentAheadOf 6 = .ok (.ifnull 19, 3) := by decide +kernel
theorem dX3_contentAheadOf_9 : decode cX3_contentAheadOf 9 = .ok (.aload_n 3, 1) := by decide +kernel
theorem dX3_contentAheadOf_10 : decode cX3_contentAheadOf 10 = .ok (.getfield 198, 3) := by decide +kernel
theorem dX3_contentAheadOf_13 : decode cX3_contentAheadOf 13 = .ok (.iload_n 2, 1) := by decide +kernel
theorem dX3_contentAheadOf_14 : decode cX3_contentAheadOf 14 = .ok (.if_icmp .ne 11, 3) := by decide +kernel
theorem dX3_contentAheadOf_17 : decode cX3_contentAheadOf 17 = .ok (.aload_n 3, 1) := by decide +kernel
theorem dX3_contentAheadOf_18 : decode cX3_contentAheadOf 18 = .ok (.getfield 242, 3) := by decide +kernel
theorem dX3_contentAheadOf_21 : decode cX3_contentAheadOf 21 = .ok (.astore_n 3, 1) := by decide +kernel
theorem dX3_contentAheadOf_22 : decode cX3_contentAheadOf 22 = .ok (.goto (-17), 3) := by decide +kernel
theorem dX3_contentAheadOf_25 : decode cX3_contentAheadOf 25 = .ok (.aload_n 3, 1) := by decide +kernel
theorem dX3_contentAheadOf_26 : decode cX3_contentAheadOf 26 = .ok (.ifnonnull 10, 3) := by decide +kernel
theorem dX3_contentAheadOf_29 : decode cX3_contentAheadOf 29 = .ok (.aload_n 0, 1) := by decide +kernel
theorem dX3_contentAheadOf_30 : decode cX3_contentAheadOf 30 = .ok (.getfield 18, 3) := by decide +kernel
theorem dX3_contentAheadOf_33 : decode cX3_contentAheadOf 33 = .ok (.goto 7, 3) := by decide +kernel
theorem dX3_contentAheadOf_36 : decode cX3_contentAheadOf 36 = .ok (.aload_n 3, 1) := by decide +kernel
theorem dX3_contentAheadOf_37 : decode cX3_contentAheadOf 37 = .ok (.getfield 151, 3) := by decide +kernel
theorem dX3_contentAheadOf_40 : decode cX3_contentAheadOf 40 = .ok (.areturn, 1) := by decide +kernel
set_option maxRecDepth 20000 in
theorem ggX3_isKnown_Jx4a65c_size_8abf5 : GoodIn wsX3_isKnown wsJx4a65c_size_8abf5 := goodIn_r _ [6, 7, 19, 20, 21] (by decide +kernel) (by decide +kernel)
set_option maxRecDepth 20000 in
theorem gX3_isKnown_Jx4a65c_size_8abf5 : GoodIn wsX3_isKnown (wsV RX3 126 RJx4a65c yJx4a65c_size_8abf5 wsJx4a65c_size_8abf5) := goodIn_app (goodIn_of _ (by decide +kernel)) ggX3_isKnown_Jx4a65c_size_8abf5
theorem dX3_isKnown_0 : decode cX3_isKnown 0 = .ok (.iload_n 1, 1) := by decide +kernel
theorem dX3_isKnown_1 : decode cX3_isKnown 1 = .ok (.ifCond .lt 18, 3) := by decide +kernel
theorem dX3_isKnown_4 : decode cX3_isKnown 4 = .ok (.iload_n 1, 1) := by decide +kernel
theorem dX3_isKnown_5 : decode cX3_isKnown 5 = .ok (.aload_n 0, 1) := by decide +kernel
theorem dX3_isKnown_6 : decode cX3_isKnown 6 = .ok (.getfield 25, 3) := by decide +kernel
theorem dX3_isKnown_9 : decode cX3_isKnown 9 = .ok (.invokevirtual 126, 3) := by decide +kernel
theorem dX3_isKnown_12 : decode cX3_isKnown 12 = .ok (.if_icmp .ge 7, 3) := by decide +kernel
theorem dX3_isKnown_15 : decode cX3_isKnown 15 = .ok (.iconst 1, 1) := by decide +kernel
theorem dX3_isKnown_16 : decode cX3_isKnown 16 = .ok (.goto 4, 3) := by decide +kernel
theorem dX3_isKnown_19 : decode cX3_isKnown 19 = .ok (.iconst 0, 1) := by decide +kernel
theorem dX3_isKnown_20 : decode cX3_isKnown 20 = .ok (.ireturn, 1) := by decide +kernel
set_option maxRecDepth 20000 in
theorem ggX3_isNow_X3_isKnown : GoodIn wsX3_isNow wsX3_isKnown := goodIn_r _ [10, 1, 11, 12, 13, 14, 15, 16, 34, 35, 36, 37, 38, 39, 40, 41, 42, 43, 44, 57, 58, 59] (by decide +kernel) (by decide +kernel)
set_option maxRecDepth 20000 in
theorem gX3_isNow_X3_isKnown : GoodIn wsX3_isNow (wsV RX3 237 RX3 yX3_isKnown wsX3_isKnown) := goodIn_app (goodIn_of _ (by decide +kernel)) ggX3_isNow_X3_isKnown
set_option maxRecDepth 20000 in
theorem ggX3_isNow_Jx4a65c_get_915e3 : GoodIn wsX3_isNow wsJx4a65c_get_915e3 := goodIn_r _ [20, 16, 21, 22, 23, 24, 25, 26, 27, 28, 29, 30, 31, 14, 32, 33, 57, 58, 59] (by decide +kernel) (by decide +kernel)
set_option maxRecDepth 20000 in
theorem gX3_isNow_Jx4a65c_get_915e3 : GoodIn wsX3_isNow (wsV RX3 107 RJx4a65c yJx4a65c_get_915e3 wsJx4a65c_get_915e3) := goodIn_app (goodIn_of _ (by decide +kernel)) ggX3_isNow_Jx4a65c_get_915e3
theorem dX3_isNow_0 : decode cX3_isNow 0 = .ok (.aload_n 0, 1) := by decide +kernel
theorem dX3_isNow_1 : decode cX3_isNow 1 = .ok (.iload_n 1, 1) := by decide +kernel
theorem dX3_isNow_2 : decode cX3_isNow 2 = .ok (.invokevirtual 237, 3) := by decide +kernel
theorem dX3_isNow_5 : decode cX3_isNow 5 = .ok (.ifCond .eq 30, 3) := by decide +kernel
theorem dX3_isNow_8 : decode cX3_isNow 8 = .ok (.aload_n 0, 1) := by decide +kernel
theorem dX3_isNow_9 : decode cX3_isNow 9 = .ok (.getfield 25, 3) := by decide +kernel
theorem dX3_isNow_12 : decode cX3_isNow 12 = .ok (.iload_n 1, 1) := by decide +kernel
theorem dX3_isNow_13 : decode cX3_isNow 13 = .ok (.invokevirtual 107, 3) := by decide +kernel
theorem dX3_isNow_16 : decode cX3_isNow 16 = .ok (.checkcast 111, 3) := by decide +kernel
theorem dX3_isNow_19 : decode cX3_isNow 19 = .ok (.getfield 138, 3) := by decide +kernel
theorem dX3_isNow_22 : decode cX3_isNow 22 = .ok (.getfield 151, 3) := by decide +kernel
theorem dX3_isNow_25 : decode cX3_isNow 25 = .ok (.getfield 154, 3) := by decide +kernel
theorem dX3_isNow_28 : decode cX3_isNow 28 = .ok (.ifCond .eq 7, 3) := by decide +kernel
theorem dX3_isNow_31 : decode cX3_isNow 31 = .ok (.iconst 1, 1) := by decide +kernel
theorem dX3_isNow_32 : decode cX3_isNow 32 = .ok (.goto 4, 3) := by decide +kernel
theorem dX3_isNow_35 : decode cX3_isNow 35 = .ok (.iconst 0, 1) := by decide +kernel
theorem dX3_isNow_36 : decode cX3_isNow 36 = .ok (.ireturn, 1) := by decide +kernel
set_option maxRecDepth 20000 in
theorem ggX3_lastMadeBefore_Jx4a65c_get_915e3 : GoodIn wsX3_lastMadeBefore wsJx4a65c_get_915e3 := goodIn_r _ [11, 12, 13, 14, 15, 16, 17, 18, 19, 20, 21, 22, 23, 10, 24, 25, 45, 46, 47] (by decide +kernel) (by decide +kernel)
set_option maxRecDepth 20000 in
theorem gX3_lastMadeBefore_Jx4a65c_get_915e3 : GoodIn wsX3_lastMadeBefore (wsV RX3 107 RJx4a65c yJx4a65c_get_915e3 wsJx4a65c_get_915e3) := goodIn_app (goodIn_of _ (by decide +kernel)) ggX3_lastMadeBefore_Jx4a65c_get_915e3
theorem dX3_lastMadeBefore_0 : decode cX3_lastMadeBefore 0 = .ok (.aload_n 0, 1) := by decide +kernel
theorem dX3_lastMadeBefore_1 : decode cX3_lastMadeBefore 1 = .ok (.getfield 25, 3) := by decide +kernel
theorem dX3_lastMadeBefore_4 : decode cX3_lastMadeBefore 4 = .ok (.iload_n 1, 1) := by decide +kernel
theorem dX3_lastMadeBefore_5 : decode cX3_lastMadeBefore 5 = .ok (.invokevirtual 107, 3) := by decide +kernel
theorem dX3_lastMadeBefore_8 : decode cX3_lastMadeBefore 8 = .ok (.checkcast 111, 3) := by decide +kernel
theorem dX3_lastMadeBefore_11 : decode cX3_lastMadeBefore 11 = .ok (.getfield 138, 3) := by decide +kernel
theorem dX3_lastMadeBefore_14 : decode cX3_lastMadeBefore 14 = .ok (.astore_n 3, 1) := by decide +kernel
theorem dX3_lastMadeBefore_15 : decode cX3_lastMadeBefore 15 = .ok (.aload_n 3, 1) := by decide +kernel
theorem dX3_lastMadeBefore_16 : decode cX3_lastMadeBefore 16 = .ok (.ifnull 19, 3) := by decide +kernel
theorem dX3_lastMadeBefore_19 : decode cX3_lastMadeBefore 19 = .ok (.aload_n 3, 1) := by decide +kernel
theorem dX3_lastMadeBefore_20 : decode cX3_lastMadeBefore 20 = .ok (.getfield 229, 3) := by decide +kernel
theorem dX3_lastMadeBefore_23 : decode cX3_lastMadeBefore 23 = .ok (.iload_n 2, 1) := by decide +kernel
theorem dX3_lastMadeBefore_24 : decode cX3_lastMadeBefore 24 = .ok (.if_icmp .lt 11, 3) := by decide +kernel
theorem dX3_lastMadeBefore_27 : decode cX3_lastMadeBefore 27 = .ok (.aload_n 3, 1) := by decide +kernel
theorem dX3_lastMadeBefore_28 : decode cX3_lastMadeBefore 28 = .ok (.getfield 242, 3) := by decide +kernel
theorem dX3_lastMadeBefore_31 : decode cX3_lastMadeBefore 31 = .ok (.astore_n 3, 1) := by decide +kernel
theorem dX3_lastMadeBefore_32 : decode cX3_lastMadeBefore 32 = .ok (.goto (-17), 3) := by decide +kernel
theorem dX3_lastMadeBefore_35 : decode cX3_lastMadeBefore 35 = .ok (.aload_n 3, 1) := by decide +kernel
theorem dX3_lastMadeBefore_36 : decode cX3_lastMadeBefore 36 = .ok (.ifnonnull 7, 3) := by decide +kernel
theorem dX3_lastMadeBefore_39 : decode cX3_lastMadeBefore 39 = .ok (.iconst 0, 1) := by decide +kernel
theorem dX3_lastMadeBefore_40 : decode cX3_lastMadeBefore 40 = .ok (.goto 7, 3) := by decide +kernel
theorem dX3_lastMadeBefore_43 : decode cX3_lastMadeBefore 43 = .ok (.aload_n 3, 1) := by decide +kernel
theorem dX3_lastMadeBefore_44 : decode cX3_lastMadeBefore 44 = .ok (.getfield 142, 3) := by decide +kernel
theorem dX3_lastMadeBefore_47 : decode cX3_lastMadeBefore 47 = .ok (.ireturn, 1) := by decide +kernel
set_option maxRecDepth 20000 in
theorem ggX3_countShown_Jx4a65c_get_915e3 : GoodIn wsX3_countShown wsJx4a65c_get_915e3 := goodIn_r _ [10, 11, 12, 13, 14, 15, 16, 17, 18, 19, 20, 21, 22, 9, 23, 24, 44, 45, 46] (by decide +kernel) (by decide +kernel)
set_option maxRecDepth 20000 in
theorem gX3_countShown_Jx4a65c_get_915e3 : GoodIn wsX3_countShown (wsV RX3 107 RJx4a65c yJx4a65c_get_915e3 wsJx4a65c_get_915e3) := goodIn_app (goodIn_of _ (by decide +kernel)) ggX3_countShown_Jx4a65c_get_915e3
theorem dX3_countShown_0 : decode cX3_countShown 0 = .ok (.iconst 0, 1) := by decide +kernel
theorem dX3_countShown_1 : decode cX3_countShown 1 = .ok (.istore_n 2, 1) := by decide +kernel
theorem dX3_countShown_2 : decode cX3_countShown 2 = .ok (.aload_n 0, 1) := by decide +kernel
theorem dX3_countShown_3 : decode cX3_countShown 3 = .ok (.getfield 25, 3) := by decide +kernel
theorem dX3_countShown_6 : decode cX3_countShown 6 = .ok (.iload_n 1, 1) := by decide +kernel
theorem dX3_countShown_7 : decode cX3_countShown 7 = .ok (.invokevirtual 107, 3) := by decide +kernel
theorem dX3_countShown_10 : decode cX3_countShown 10 = .ok (.checkcast 111, 3) := by decide +kernel
theorem dX3_countShown_13 : decode cX3_countShown 13 = .ok (.getfield 138, 3) := by decide +kernel
theorem dX3_countShown_16 : decode cX3_countShown 16 = .ok (.astore_n 3, 1) := by decide +kernel
theorem dX3_countShown_17 : decode cX3_countShown 17 = .ok (.aload_n 3, 1) := by decide +kernel
theorem dX3_countShown_18 : decode cX3_countShown 18 = .ok (.ifnull 21, 3) := by decide +kernel
theorem dX3_countShown_21 : decode cX3_countShown 21 = .ok (.aload_n 3, 1) := by decide +kernel
theorem dX3_countShown_22 : decode cX3_countShown 22 = .ok (.getfield 187, 3) := by decide +kernel
theorem dX3_countShown_25 : decode cX3_countShown 25 = .ok (.ifCond .ne 6, 3) := by decide +kernel
theorem dX3_countShown_28 : decode cX3_countShown 28 = .ok (.iinc 2 1, 3) := by decide +kernel
theorem dX3_countShown_31 : decode cX3_countShown 31 = .ok (.aload_n 3, 1) := by decide +kernel
theorem dX3_countShown_32 : decode cX3_countShown 32 = .ok (.getfield 242, 3) := by decide +kernel
theorem dX3_countShown_35 : decode cX3_countShown 35 = .ok (.astore_n 3, 1) := by decide +kernel
theorem dX3_countShown_36 : decode cX3_countShown 36 = .ok (.goto (-19), 3) := by decide +kernel
theorem dX3_countShown_39 : decode cX3_countShown 39 = .ok (.iload_n 2, 1) := by decide +kernel
theorem dX3_countShown_40 : decode cX3_countShown 40 = .ok (.ireturn, 1) := by decide +kernel
theorem dX3_bit_0 : decode cX3_bit 0 = .ok (.lconst 1, 1) := by decide +kernel
theorem dX3_bit_1 : decode cX3_bit 1 = .ok (.iload_n 0, 1) := by decide +kernel
theorem dX3_bit_2 : decode cX3_bit 2 = .ok (.lshl, 1) := by decide +kernel
theorem dX3_bit_3 : decode cX3_bit 3 = .ok (.lreturn, 1) := by decide +kernel
set_option maxRecDepth 20000 in
theorem ggX3_has_X3_bit : GoodIn wsX3_has wsX3_bit := goodIn_r _ [4] (by decide +kernel) (by decide +kernel)
set_option maxRecDepth 20000 in
theorem gX3_has_X3_bit : GoodIn wsX3_has (va_wsS RX3 169 yX3_bit wsX3_bit) := goodIn_app (goodIn_of _ (by decide +kernel)) ggX3_has_X3_bit
theorem dX3_has_0 : decode cX3_has 0 = .ok (.lload_n 0, 1) := by decide +kernel
theorem dX3_has_1 : decode cX3_has 1 = .ok (.iload_n 2, 1) := by decide +kernel
theorem dX3_has_2 : decode cX3_has 2 = .ok (.invokestatic 169, 3) := by decide +kernel
theorem dX3_has_5 : decode cX3_has 5 = .ok (.land, 1) := by decide +kernel
theorem dX3_has_6 : decode cX3_has 6 = .ok (.lconst 0, 1) := by decide +kernel
theorem dX3_has_7 : decode cX3_has 7 = .ok (.lcmp, 1) := by decide +kernel
theorem dX3_has_8 : decode cX3_has 8 = .ok (.ifCond .eq 7, 3) := by decide +kernel
theorem dX3_has_11 : decode cX3_has 11 = .ok (.iconst 1, 1) := by decide +kernel
theorem dX3_has_12 : decode cX3_has 12 = .ok (.goto 4, 3) := by decide +kernel
theorem dX3_has_15 : decode cX3_has 15 = .ok (.iconst 0, 1) := by decide +kernel
theorem dX3_has_16 : decode cX3_has 16 = .ok (.ireturn, 1) := by decide +kernel
set_option maxRecDepth 20000 in
theorem ggX3_bitsOf_X3_bit : GoodIn wsX3_bitsOf wsX3_bit := goodIn_r _ [4] (by decide +kernel) (by decide +kernel)
set_option maxRecDepth 20000 in
theorem gX3_bitsOf_X3_bit : GoodIn wsX3_bitsOf (va_wsS RX3 169 yX3_bit wsX3_bit) := goodIn_app (goodIn_of _ (by decide +kernel)) ggX3_bitsOf_X3_bit
theorem dX3_bitsOf_0 : decode cX3_bitsOf 0 = .ok (.lconst 0, 1) := by decide +kernel
theorem dX3_bitsOf_1 : decode cX3_bitsOf 1 = .ok (.lstore_n 1, 1) := by decide +kernel
theorem dX3_bitsOf_2 : decode cX3_bitsOf 2 = .ok (.aload_n 0, 1) := by decide +kernel
theorem dX3_bitsOf_3 : decode cX3_bitsOf 3 = .ok (.astore_n 3, 1) := by decide +kernel
theorem dX3_bitsOf_4 : decode cX3_bitsOf 4 = .ok (.aload_n 3, 1) := by decide +kernel
theorem dX3_bitsOf_5 : decode cX3_bitsOf 5 = .ok (.arraylength, 1) := by decide +kernel
theorem dX3_bitsOf_6 : decode cX3_bitsOf 6 = .ok (.istore 4, 2) := by decide +kernel
theorem dX3_bitsOf_8 : decode cX3_bitsOf 8 = .ok (.iconst 0, 1) := by decide +kernel
theorem dX3_bitsOf_9 : decode cX3_bitsOf 9 = .ok (.istore 5, 2) := by decide +kernel
theorem dX3_bitsOf_11 : decode cX3_bitsOf 11 = .ok (.iload 5, 2) := by decide +kernel
theorem dX3_bitsOf_13 : decode cX3_bitsOf 13 = .ok (.iload 4, 2) := by decide +kernel
theorem dX3_bitsOf_15 : decode cX3_bitsOf 15 = .ok (.if_icmp .ge 23, 3) := by decide +kernel
theorem dX3_bitsOf_18 : decode cX3_bitsOf 18 = .ok (.aload_n 3, 1) := by decide +kernel
theorem dX3_bitsOf_19 : decode cX3_bitsOf 19 = .ok (.iload 5, 2) := by decide +kernel
theorem dX3_bitsOf_21 : decode cX3_bitsOf 21 = .ok (.iaload, 1) := by decide +kernel
theorem dX3_bitsOf_22 : decode cX3_bitsOf 22 = .ok (.istore 6, 2) := by decide +kernel
theorem dX3_bitsOf_24 : decode cX3_bitsOf 24 = .ok (.lload_n 1, 1) := by decide +kernel
theorem dX3_bitsOf_25 : decode cX3_bitsOf 25 = .ok (.iload 6, 2) := by decide +kernel
theorem dX3_bitsOf_27 : decode cX3_bitsOf 27 = .ok (.invokestatic 169, 3) := by decide +kernel
theorem dX3_bitsOf_30 : decode cX3_bitsOf 30 = .ok (.lor, 1) := by decide +kernel
theorem dX3_bitsOf_31 : decode cX3_bitsOf 31 = .ok (.lstore_n 1, 1) := by decide +kernel
theorem dX3_bitsOf_32 : decode cX3_bitsOf 32 = .ok (.iinc 5 1, 3) := by decide +kernel
theorem dX3_bitsOf_35 : decode cX3_bitsOf 35 = .ok (.goto (-24), 3) := by decide +kernel
theorem dX3_bitsOf_38 : decode cX3_bitsOf 38 = .ok (.lload_n 1, 1) := by decide +kernel
theorem dX3_bitsOf_39 : decode cX3_bitsOf 39 = .ok (.lreturn, 1) := by decide +kernel
set_option maxRecDepth 20000 in
theorem ggX3_thingsOf_Jx4a65c_size_8abf5 : GoodIn wsX3_thingsOf wsJx4a65c_size_8abf5 := goodIn_r _ [8, 9, 44, 45, 46] (by decide +kernel) (by decide +kernel)
set_option maxRecDepth 20000 in
theorem gX3_thingsOf_Jx4a65c_size_8abf5 : GoodIn wsX3_thingsOf (wsV RX3 126 RJx4a65c yJx4a65c_size_8abf5 wsJx4a65c_size_8abf5) := goodIn_app (goodIn_of _ (by decide +kernel)) ggX3_thingsOf_Jx4a65c_size_8abf5
set_option maxRecDepth 20000 in
theorem ggX3_thingsOf_Jx4a65c_get_915e3 : GoodIn wsX3_thingsOf wsJx4a65c_get_915e3 := goodIn_r _ [13, 9, 14, 15, 16, 17, 18, 19, 20, 21, 22, 23, 24, 7, 25, 26, 44, 45, 46] (by decide +kernel) (by decide +kernel)
set_option maxRecDepth 20000 in
theorem gX3_thingsOf_Jx4a65c_get_915e3 : GoodIn wsX3_thingsOf (wsV RX3 107 RJx4a65c yJx4a65c_get_915e3 wsJx4a65c_get_915e3) := goodIn_app (goodIn_of _ (by decide +kernel)) ggX3_thingsOf_Jx4a65c_get_915e3
set_option maxRecDepth 20000 in
theorem ggX3_thingsOf_X3_bit : GoodIn wsX3_thingsOf wsX3_bit := goodIn_r _ [30] (by decide +kernel) (by decide +kernel)
set_option maxRecDepth 20000 in
theorem gX3_thingsOf_X3_bit : GoodIn wsX3_thingsOf (va_wsS RX3 169 yX3_bit wsX3_bit) := goodIn_app (goodIn_of _ (by decide +kernel)) ggX3_thingsOf_X3_bit
theorem dX3_thingsOf_0 : decode cX3_thingsOf 0 = .ok (.lconst 0, 1) := by decide +kernel
theorem dX3_thingsOf_1 : decode cX3_thingsOf 1 = .ok (.lstore_n 2, 1) := by decide +kernel
theorem dX3_thingsOf_2 : decode cX3_thingsOf 2 = .ok (.iconst 0, 1) := by decide +kernel
theorem dX3_thingsOf_3 : decode cX3_thingsOf 3 = .ok (.istore 4, 2) := by decide +kernel
theorem dX3_thingsOf_5 : decode cX3_thingsOf 5 = .ok (.iload 4, 2) := by decide +kernel
theorem dX3_thingsOf_7 : decode cX3_thingsOf 7 = .ok (.aload_n 0, 1) := by decide +kernel
theorem dX3_thingsOf_8 : decode cX3_thingsOf 8 = .ok (.getfield 25, 3) := by decide +kernel
theorem dX3_thingsOf_11 : decode cX3_thingsOf 11 = .ok (.invokevirtual 126, 3) := by decide +kernel
theorem dX3_thingsOf_14 : decode cX3_thingsOf 14 = .ok (.if_icmp .ge 36, 3) := by decide +kernel
theorem dX3_thingsOf_17 : decode cX3_thingsOf 17 = .ok (.aload_n 0, 1) := by decide +kernel
theorem dX3_thingsOf_18 : decode cX3_thingsOf 18 = .ok (.getfield 25, 3) := by decide +kernel
theorem dX3_thingsOf_21 : decode cX3_thingsOf 21 = .ok (.iload 4, 2) := by decide +kernel
theorem dX3_thingsOf_23 : decode cX3_thingsOf 23 = .ok (.invokevirtual 107, 3) := by decide +kernel
theorem dX3_thingsOf_26 : decode cX3_thingsOf 26 = .ok (.checkcast 111, 3) := by decide +kernel
theorem dX3_thingsOf_29 : decode cX3_thingsOf 29 = .ok (.getfield 113, 3) := by decide +kernel
theorem dX3_thingsOf_32 : decode cX3_thingsOf 32 = .ok (.iload_n 1, 1) := by decide +kernel
theorem dX3_thingsOf_33 : decode cX3_thingsOf 33 = .ok (.if_icmp .ne 11, 3) := by decide +kernel
theorem dX3_thingsOf_36 : decode cX3_thingsOf 36 = .ok (.lload_n 2, 1) := by decide +kernel
theorem dX3_thingsOf_37 : decode cX3_thingsOf 37 = .ok (.iload 4, 2) := by decide +kernel
theorem dX3_thingsOf_39 : decode cX3_thingsOf 39 = .ok (.invokestatic 169, 3) := by decide +kernel
theorem dX3_thingsOf_42 : decode cX3_thingsOf 42 = .ok (.lor, 1) := by decide +kernel
theorem dX3_thingsOf_43 : decode cX3_thingsOf 43 = .ok (.lstore_n 2, 1) := by decide +kernel
theorem dX3_thingsOf_44 : decode cX3_thingsOf 44 = .ok (.iinc 4 1, 3) := by decide +kernel
theorem dX3_thingsOf_47 : decode cX3_thingsOf 47 = .ok (.goto (-42), 3) := by decide +kernel
theorem dX3_thingsOf_50 : decode cX3_thingsOf 50 = .ok (.lload_n 2, 1) := by decide +kernel
theorem dX3_thingsOf_51 : decode cX3_thingsOf 51 = .ok (.lreturn, 1) := by decide +kernel
set_option maxRecDepth 20000 in
theorem ggX3_usersOf_Jx4a65c_size_8abf5 : GoodIn wsX3_usersOf wsJx4a65c_size_8abf5 := goodIn_r _ [10, 11, 59, 60, 61] (by decide +kernel) (by decide +kernel)
set_option maxRecDepth 20000 in
theorem gX3_usersOf_Jx4a65c_size_8abf5 : GoodIn wsX3_usersOf (wsV RX3 126 RJx4a65c yJx4a65c_size_8abf5 wsJx4a65c_size_8abf5) := goodIn_app (goodIn_of _ (by decide +kernel)) ggX3_usersOf_Jx4a65c_size_8abf5
set_option maxRecDepth 20000 in
theorem ggX3_usersOf_Jx4a65c_get_915e3 : GoodIn wsX3_usersOf wsJx4a65c_get_915e3 := goodIn_r _ [15, 11, 16, 17, 18, 19, 20, 21, 22, 23, 24, 25, 26, 9, 27, 28, 59, 60, 61] (by decide +kernel) (by decide +kernel)
set_option maxRecDepth 20000 in
theorem gX3_usersOf_Jx4a65c_get_915e3 : GoodIn wsX3_usersOf (wsV RX3 107 RJx4a65c yJx4a65c_get_915e3 wsJx4a65c_get_915e3) := goodIn_app (goodIn_of _ (by decide +kernel)) ggX3_usersOf_Jx4a65c_get_915e3
set_option maxRecDepth 20000 in
theorem ggX3_usersOf_X3_bitsOf : GoodIn wsX3_usersOf wsX3_bitsOf := goodIn_r _ [32, 33, 34, 31, 35] (by decide +kernel) (by decide +kernel)
set_option maxRecDepth 20000 in
theorem gX3_usersOf_X3_bitsOf : GoodIn wsX3_usersOf (va_wsS RX3 287 yX3_bitsOf wsX3_bitsOf) := goodIn_app (goodIn_of _ (by decide +kernel)) ggX3_usersOf_X3_bitsOf
set_option maxRecDepth 20000 in
theorem ggX3_usersOf_X3_bit : GoodIn wsX3_usersOf wsX3_bit := goodIn_r _ [35] (by decide +kernel) (by decide +kernel)
set_option maxRecDepth 20000 in
theorem gX3_usersOf_X3_bit : GoodIn wsX3_usersOf (va_wsS RX3 169 yX3_bit wsX3_bit) := goodIn_app (goodIn_of _ (by decide +kernel)) ggX3_usersOf_X3_bit
theorem dX3_usersOf_0 : decode cX3_usersOf 0 = .ok (.lconst 0, 1) := by decide +kernel
theorem dX3_usersOf_1 : decode cX3_usersOf 1 = .ok (.lstore_n 3, 1) := by decide +kernel
theorem dX3_usersOf_2 : decode cX3_usersOf 2 = .ok (.iconst 0, 1) := by decide +kernel
theorem dX3_usersOf_3 : decode cX3_usersOf 3 = .ok (.istore 5, 2) := by decide +kernel
theorem dX3_usersOf_5 : decode cX3_usersOf 5 = .ok (.iload 5, 2) := by decide +kernel
theorem dX3_usersOf_7 : decode cX3_usersOf 7 = .ok (.aload_n 0, 1) := by decide +kernel
theorem dX3_usersOf_8 : decode cX3_usersOf 8 = .ok (.getfield 25, 3) := by decide +kernel
theorem dX3_usersOf_11 : decode cX3_usersOf 11 = .ok (.invokevirtual 126, 3) := by decide +kernel
theorem dX3_usersOf_14 : decode cX3_usersOf 14 = .ok (.if_icmp .ge 48, 3) := by decide +kernel
theorem dX3_usersOf_17 : decode cX3_usersOf 17 = .ok (.aload_n 0, 1) := by decide +kernel
theorem dX3_usersOf_18 : decode cX3_usersOf 18 = .ok (.getfield 25, 3) := by decide +kernel
theorem dX3_usersOf_21 : decode cX3_usersOf 21 = .ok (.iload 5, 2) := by decide +kernel
theorem dX3_usersOf_23 : decode cX3_usersOf 23 = .ok (.invokevirtual 107, 3) := by decide +kernel
theorem dX3_usersOf_26 : decode cX3_usersOf 26 = .ok (.checkcast 111, 3) := by decide +kernel
theorem dX3_usersOf_29 : decode cX3_usersOf 29 = .ok (.getfield 138, 3) := by decide +kernel
theorem dX3_usersOf_32 : decode cX3_usersOf 32 = .ok (.getfield 151, 3) := by decide +kernel
theorem dX3_usersOf_35 : decode cX3_usersOf 35 = .ok (.getfield 100, 3) := by decide +kernel
theorem dX3_usersOf_38 : decode cX3_usersOf 38 = .ok (.invokestatic 287, 3) := by decide +kernel
theorem dX3_usersOf_41 : decode cX3_usersOf 41 = .ok (.lload_n 1, 1) := by decide +kernel
theorem dX3_usersOf_42 : decode cX3_usersOf 42 = .ok (.land, 1) := by decide +kernel
theorem dX3_usersOf_43 : decode cX3_usersOf 43 = .ok (.lconst 0, 1) := by decide +kernel
theorem dX3_usersOf_44 : decode cX3_usersOf 44 = .ok (.lcmp, 1) := by decide +kernel
theorem dX3_usersOf_45 : decode cX3_usersOf 45 = .ok (.ifCond .eq 11, 3) := by decide +kernel
theorem dX3_usersOf_48 : decode cX3_usersOf 48 = .ok (.lload_n 3, 1) := by decide +kernel
theorem dX3_usersOf_49 : decode cX3_usersOf 49 = .ok (.iload 5, 2) := by decide +kernel
theorem dX3_usersOf_51 : decode cX3_usersOf 51 = .ok (.invokestatic 169, 3) := by decide +kernel
theorem dX3_usersOf_54 : decode cX3_usersOf 54 = .ok (.lor, 1) := by decide +kernel
theorem dX3_usersOf_55 : decode cX3_usersOf 55 = .ok (.lstore_n 3, 1) := by decide +kernel
theorem dX3_usersOf_56 : decode cX3_usersOf 56 = .ok (.iinc 5 1, 3) := by decide +kernel
theorem dX3_usersOf_59 : decode cX3_usersOf 59 = .ok (.goto (-54), 3) := by decide +kernel
theorem dX3_usersOf_62 : decode cX3_usersOf 62 = .ok (.lload_n 3, 1) := by decide +kernel
theorem dX3_usersOf_63 : decode cX3_usersOf 63 = .ok (.lreturn, 1) := by decide +kernel
set_option maxRecDepth 20000 in
theorem ggX3_membersOf_Jx4a65c_size_8abf5 : GoodIn wsX3_membersOf wsJx4a65c_size_8abf5 := goodIn_r _ [10, 11, 62, 63, 64] (by decide +kernel) (by decide +kernel)
set_option maxRecDepth 20000 in
theorem gX3_membersOf_Jx4a65c_size_8abf5 : GoodIn wsX3_membersOf (wsV RX3 126 RJx4a65c yJx4a65c_size_8abf5 wsJx4a65c_size_8abf5) := goodIn_app (goodIn_of _ (by decide +kernel)) ggX3_membersOf_Jx4a65c_size_8abf5
set_option maxRecDepth 20000 in
theorem ggX3_membersOf_X3_has : GoodIn wsX3_membersOf wsX3_has := goodIn_r _ [15, 16, 17, 14, 18] (by decide +kernel) (by decide +kernel)
set_option maxRecDepth 20000 in
theorem gX3_membersOf_X3_has : GoodIn wsX3_membersOf (va_wsS RX3 291 yX3_has wsX3_has) := goodIn_app (goodIn_of _ (by decide +kernel)) ggX3_membersOf_X3_has
set_option maxRecDepth 20000 in
theorem ggX3_membersOf_Jx4a65c_get_915e3 : GoodIn wsX3_membersOf wsJx4a65c_get_915e3 := goodIn_r _ [22, 11, 23, 24, 25, 26, 27, 28, 29, 30, 31, 32, 33, 9, 34, 35, 62, 63, 64] (by decide +kernel) (by decide +kernel)
set_option maxRecDepth 20000 in
theorem gX3_membersOf_Jx4a65c_get_915e3 : GoodIn wsX3_membersOf (wsV RX3 107 RJx4a65c yJx4a65c_get_915e3 wsJx4a65c_get_915e3) := goodIn_app (goodIn_of _ (by decide +kernel)) ggX3_membersOf_Jx4a65c_get_915e3
set_option maxRecDepth 20000 in
theorem ggX3_membersOf_X3_bitsOf : GoodIn wsX3_membersOf wsX3_bitsOf := goodIn_r _ [38, 16, 17, 14, 18] (by decide +kernel) (by decide +kernel)
set_option maxRecDepth 20000 in
theorem gX3_membersOf_X3_bitsOf : GoodIn wsX3_membersOf (va_wsS RX3 287 yX3_bitsOf wsX3_bitsOf) := goodIn_app (goodIn_of _ (by decide +kernel)) ggX3_membersOf_X3_bitsOf
theorem dX3_membersOf_0 : decode cX3_membersOf 0 = .ok (.lconst 0, 1) := by decide +kernel
theorem dX3_membersOf_1 : decode cX3_membersOf 1 = .ok (.lstore_n 3, 1) := by decide +kernel
theorem dX3_membersOf_2 : decode cX3_membersOf 2 = .ok (.iconst 0, 1) := by decide +kernel
theorem dX3_membersOf_3 : decode cX3_membersOf 3 = .ok (.istore 5, 2) := by decide +kernel
theorem dX3_membersOf_5 : decode cX3_membersOf 5 = .ok (.iload 5, 2) := by decide +kernel
theorem dX3_membersOf_7 : decode cX3_membersOf 7 = .ok (.aload_n 0, 1) := by decide +kernel
theorem dX3_membersOf_8 : decode cX3_membersOf 8 = .ok (.getfield 25, 3) := by decide +kernel
theorem dX3_membersOf_11 : decode cX3_membersOf 11 = .ok (.invokevirtual 126, 3) := by decide +kernel
theorem dX3_membersOf_14 : decode cX3_membersOf 14 = .ok (.if_icmp .ge 45, 3) := by decide +kernel
theorem dX3_membersOf_17 : decode cX3_membersOf 17 = .ok (.lload_n 1, 1) := by decide +kernel
theorem dX3_membersOf_18 : decode cX3_membersOf 18 = .ok (.iload 5, 2) := by decide +kernel
theorem dX3_membersOf_20 : decode cX3_membersOf 20 = .ok (.invokestatic 291, 3) := by decide +kernel
theorem dX3_membersOf_23 : decode cX3_membersOf 23 = .ok (.ifCond .eq 30, 3) := by decide +kernel
theorem dX3_membersOf_26 : decode cX3_membersOf 26 = .ok (.lload_n 3, 1) := by decide +kernel
theorem dX3_membersOf_27 : decode cX3_membersOf 27 = .ok (.aload_n 0, 1) := by decide +kernel
theorem dX3_membersOf_28 : decode cX3_membersOf 28 = .ok (.getfield 25, 3) := by decide +kernel
theorem dX3_membersOf_31 : decode cX3_membersOf 31 = .ok (.iload 5, 2) := by decide +kernel
theorem dX3_membersOf_33 : decode cX3_membersOf 33 = .ok (.invokevirtual 107, 3) := by decide +kernel
theorem dX3_membersOf_36 : decode cX3_membersOf 36 = .ok (.checkcast 111, 3) := by decide +kernel
theorem dX3_membersOf_39 : decode cX3_membersOf 39 = .ok (.getfield 138, 3) := by decide +kernel
theorem dX3_membersOf_42 : decode cX3_membersOf 42 = .ok (.getfield 151, 3) := by decide +kernel
theorem dX3_membersOf_45 : decode cX3_membersOf 45 = .ok (.getfield 100, 3) := by decide +kernel
theorem dX3_membersOf_48 : decode cX3_membersOf 48 = .ok (.invokestatic 287, 3) := by decide +kernel
theorem dX3_membersOf_51 : decode cX3_membersOf 51 = .ok (.lor, 1) := by decide +kernel
theorem dX3_membersOf_52 : decode cX3_membersOf 52 = .ok (.lstore_n 3, 1) := by decide +kernel
theorem dX3_membersOf_53 : decode cX3_membersOf 53 = .ok (.iinc 5 1, 3) := by decide +kernel
theorem dX3_membersOf_56 : decode cX3_membersOf 56 = .ok (.goto (-51), 3) := by decide +kernel
theorem dX3_membersOf_59 : decode cX3_membersOf 59 = .ok (.lload_n 3, 1) := by decide +kernel
theorem dX3_membersOf_60 : decode cX3_membersOf 60 = .ok (.lreturn, 1) := by decide +kernel
set_option maxRecDepth 20000 in
theorem ggX3_pointsWithin_Jx4a65c_size_8abf5 : GoodIn wsX3_pointsWithin wsJx4a65c_size_8abf5 := goodIn_r _ [13, 14, 59, 60, 61] (by decide +kernel) (by decide +kernel)
set_option maxRecDepth 20000 in
theorem gX3_pointsWithin_Jx4a65c_size_8abf5 : GoodIn wsX3_pointsWithin (wsV RX3 126 RJx4a65c yJx4a65c_size_8abf5 wsJx4a65c_size_8abf5) := goodIn_app (goodIn_of _ (by decide +kernel)) ggX3_pointsWithin_Jx4a65c_size_8abf5
set_option maxRecDepth 20000 in
theorem ggX3_pointsWithin_Jx4a65c_get_915e3 : GoodIn wsX3_pointsWithin wsJx4a65c_get_915e3 := goodIn_r _ [18, 14, 19, 20, 21, 22, 23, 24, 25, 26, 27, 28, 29, 12, 30, 31, 59, 60, 61] (by decide +kernel) (by decide +kernel)
set_option maxRecDepth 20000 in
theorem gX3_pointsWithin_Jx4a65c_get_915e3 : GoodIn wsX3_pointsWithin (wsV RX3 107 RJx4a65c yJx4a65c_get_915e3 wsJx4a65c_get_915e3) := goodIn_app (goodIn_of _ (by decide +kernel)) ggX3_pointsWithin_Jx4a65c_get_915e3
set_option maxRecDepth 20000 in
theorem ggX3_pointsWithin_X3_bit : GoodIn wsX3_pointsWithin wsX3_bit := goodIn_r _ [35] (by decide +kernel) (by decide +kernel)
set_option maxRecDepth 20000 in
theorem gX3_pointsWithin_X3_bit : GoodIn wsX3_pointsWithin (va_wsS RX3 169 yX3_bit wsX3_bit) := goodIn_app (goodIn_of _ (by decide +kernel)) ggX3_pointsWithin_X3_bit
theorem dX3_pointsWithin_0 : decode cX3_pointsWithin 0 = .ok (.lconst 0, 1) := by decide +kernel
theorem dX3_pointsWithin_1 : decode cX3_pointsWithin 1 = .ok (.lstore 5, 2) := by decide +kernel
theorem dX3_pointsWithin_3 : decode cX3_pointsWithin 3 = .ok (.iconst 0, 1) := by decide +kernel
theorem dX3_pointsWithin_4 : decode cX3_pointsWithin 4 = .ok (.istore 7, 2) := by decide +kernel
theorem dX3_pointsWithin_6 : decode cX3_pointsWithin 6 = .ok (.iload 7, 2) := by decide +kernel
theorem dX3_pointsWithin_8 : decode cX3_pointsWithin 8 = .ok (.aload_n 0, 1) := by decide +kernel
theorem dX3_pointsWithin_9 : decode cX3_pointsWithin 9 = .ok (.getfield 25, 3) := by decide +kernel
theorem dX3_pointsWithin_12 : decode cX3_pointsWithin 12 = .ok (.invokevirtual 126, 3) := by decide +kernel
theorem dX3_pointsWithin_15 : decode cX3_pointsWithin 15 = .ok (.if_icmp .ge 102, 3) := by decide +kernel
theorem dX3_pointsWithin_18 : decode cX3_pointsWithin 18 = .ok (.aload_n 0, 1) := by decide +kernel
theorem dX3_pointsWithin_19 : decode cX3_pointsWithin 19 = .ok (.getfield 25, 3) := by decide +kernel
theorem dX3_pointsWithin_22 : decode cX3_pointsWithin 22 = .ok (.iload 7, 2) := by decide +kernel
theorem dX3_pointsWithin_24 : decode cX3_pointsWithin 24 = .ok (.invokevirtual 107, 3) := by decide +kernel
theorem dX3_pointsWithin_27 : decode cX3_pointsWithin 27 = .ok (.checkcast 111, 3) := by decide +kernel
theorem dX3_pointsWithin_30 : decode cX3_pointsWithin 30 = .ok (.getfield 138, 3) := by decide +kernel
theorem dX3_pointsWithin_33 : decode cX3_pointsWithin 33 = .ok (.getfield 151, 3) := by decide +kernel
theorem dX3_pointsWithin_36 : decode cX3_pointsWithin 36 = .ok (.astore 8, 2) := by decide +kernel
theorem dX3_pointsWithin_38 : decode cX3_pointsWithin 38 = .ok (.aload_n 0, 1) := by decide +kernel
theorem dX3_pointsWithin_39 : decode cX3_pointsWithin 39 = .ok (.getfield 25, 3) := by decide +kernel
theorem dX3_pointsWithin_42 : decode cX3_pointsWithin 42 = .ok (.iload 7, 2) := by decide +kernel
theorem dX3_pointsWithin_44 : decode cX3_pointsWithin 44 = .ok (.invokevirtual 107, 3) := by decide +kernel
theorem dX3_pointsWithin_47 : decode cX3_pointsWithin 47 = .ok (.checkcast 111, 3) := by decide +kernel
theorem dX3_pointsWithin_50 : decode cX3_pointsWithin 50 = .ok (.getfield 113, 3) := by decide +kernel
theorem dX3_pointsWithin_53 : decode cX3_pointsWithin 53 = .ok (.ifCond .ne 58, 3) := by decide +kernel
theorem dX3_pointsWithin_56 : decode cX3_pointsWithin 56 = .ok (.aload 8, 2) := by decide +kernel
theorem dX3_pointsWithin_58 : decode cX3_pointsWithin 58 = .ok (.getfield 154, 3) := by decide +kernel
theorem dX3_pointsWithin_61 : decode cX3_pointsWithin 61 = .ok (.ifCond .eq 50, 3) := by decide +kernel
theorem dX3_pointsWithin_64 : decode cX3_pointsWithin 64 = .ok (.aload 8, 2) := by decide +kernel
theorem dX3_pointsWithin_66 : decode cX3_pointsWithin 66 = .ok (.getfield 163, 3) := by decide +kernel
theorem dX3_pointsWithin_69 : decode cX3_pointsWithin 69 = .ok (.iload_n 1, 1) := by decide +kernel
theorem dX3_pointsWithin_70 : decode cX3_pointsWithin 70 = .ok (.if_icmp .lt 41, 3) := by decide +kernel
theorem dX3_pointsWithin_73 : decode cX3_pointsWithin 73 = .ok (.aload 8, 2) := by decide +kernel
