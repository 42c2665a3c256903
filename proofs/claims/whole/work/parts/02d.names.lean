theorem dX3_usedBy_1 : decode cX3_usedBy 1 = .ok (.iload_n 1, 1) := by decide +kernel
theorem dX3_usedBy_2 : decode cX3_usedBy 2 = .ok (.invokevirtual 68, 3) := by decide +kernel
theorem dX3_usedBy_5 : decode cX3_usedBy 5 = .ok (.aload_n 0, 1) := by decide +kernel
theorem dX3_usedBy_6 : decode cX3_usedBy 6 = .ok (.iload_n 1, 1) := by decide +kernel
theorem dX3_usedBy_7 : decode cX3_usedBy 7 = .ok (.invokestatic 169, 3) := by decide +kernel
theorem dX3_usedBy_10 : decode cX3_usedBy 10 = .ok (.invokevirtual 173, 3) := by decide +kernel
theorem dX3_usedBy_13 : decode cX3_usedBy 13 = .ok (.invokestatic 177, 3) := by decide +kernel
theorem dX3_usedBy_16 : decode cX3_usedBy 16 = .ok (.ireturn, 1) := by decide +kernel
set_option maxRecDepth 20000 in
theorem ggX3_hide_X3_needThing : GoodIn wsX3_hide wsX3_needThing := goodIn_ca (goodIn_r _ [12, 13, 14, 15, 16, 17, 11, 18, 3, 19, 20, 21, 22, 23, 24, 51, 52, 53, 54, 55, 56, 57, 58, 59, 60, 61, 70, 71, 72] (by decide +kernel) (by decide +kernel)) (goodIn_sub (fun _ h => List.mem_cons_of_mem _ (List.mem_append_right _ h)) (by decide +kernel))
set_option maxRecDepth 20000 in
theorem gX3_hide_X3_needThing : GoodIn wsX3_hide (wsV RX3 68 RX3 yX3_needThing wsX3_needThing) := goodIn_app (goodIn_of _ (by decide +kernel)) ggX3_hide_X3_needThing
set_option maxRecDepth 20000 in
theorem ggX3_hide_X3_needVersion : GoodIn wsX3_hide wsX3_needVersion := goodIn_ca (goodIn_r _ [28, 13, 14, 3, 4, 5, 6, 29, 30, 31, 32, 22, 33, 24, 34, 35, 36, 37, 38, 39, 40, 41, 42, 43, 44, 45, 46, 51, 52, 53, 54, 55, 56, 57, 58, 59, 60, 61, 62, 63, 64, 65, 66, 67, 68, 69, 70, 71, 72] (by decide +kernel) (by decide +kernel)) (goodIn_sub (fun _ h => List.mem_cons_of_mem _ (List.mem_append_right _ h)) (by decide +kernel))
set_option maxRecDepth 20000 in
theorem gX3_hide_X3_needVersion : GoodIn wsX3_hide (wsV RX3 183 RX3 yX3_needVersion wsX3_needVersion) := goodIn_app (goodIn_of _ (by decide +kernel)) ggX3_hide_X3_needVersion
set_option maxRecDepth 20000 in
theorem ggX3_hide_Jx4a65c_get_915e3 : GoodIn wsX3_hide wsJx4a65c_get_915e3 := goodIn_r _ [33, 24, 34, 35, 36, 37, 38, 39, 40, 41, 42, 43, 44, 22, 45, 46, 70, 71, 72] (by decide +kernel) (by decide +kernel)
set_option maxRecDepth 20000 in
theorem gX3_hide_Jx4a65c_get_915e3 : GoodIn wsX3_hide (wsV RX3 107 RJx4a65c yJx4a65c_get_915e3 wsJx4a65c_get_915e3) := goodIn_app (goodIn_of _ (by decide +kernel)) ggX3_hide_Jx4a65c_get_915e3
set_option maxRecDepth 20000 in
theorem ggX3_hide_X3_countShown : GoodIn wsX3_hide wsX3_countShown := goodIn_r _ [50, 3, 4, 5, 7, 29, 30, 31, 32, 22, 33, 24, 34, 35, 36, 37, 38, 39, 40, 41, 42, 43, 44, 45, 46, 51, 52, 53, 54, 55, 56, 57, 58, 59, 60, 61, 62, 63, 64, 65, 66, 67, 68, 69, 70, 71, 72] (by decide +kernel) (by decide +kernel)
set_option maxRecDepth 20000 in
theorem gX3_hide_X3_countShown : GoodIn wsX3_hide (wsV RX3 192 RX3 yX3_countShown wsX3_countShown) := goodIn_app (goodIn_of _ (by decide +kernel)) ggX3_hide_X3_countShown
theorem dX3_hide_0 : decode cX3_hide 0 = .ok (.aload_n 0, 1) := by decide +kernel
theorem dX3_hide_1 : decode cX3_hide 1 = .ok (.iload_n 1, 1) := by decide +kernel
theorem dX3_hide_2 : decode cX3_hide 2 = .ok (.invokevirtual 68, 3) := by decide +kernel
theorem dX3_hide_5 : decode cX3_hide 5 = .ok (.aload_n 0, 1) := by decide +kernel
theorem dX3_hide_6 : decode cX3_hide 6 = .ok (.iload_n 1, 1) := by decide +kernel
theorem dX3_hide_7 : decode cX3_hide 7 = .ok (.iload_n 2, 1) := by decide +kernel
theorem dX3_hide_8 : decode cX3_hide 8 = .ok (.invokevirtual 183, 3) := by decide +kernel
theorem dX3_hide_11 : decode cX3_hide 11 = .ok (.astore_n 3, 1) := by decide +kernel
theorem dX3_hide_12 : decode cX3_hide 12 = .ok (.iload_n 2, 1) := by decide +kernel
theorem dX3_hide_13 : decode cX3_hide 13 = .ok (.aload_n 0, 1) := by decide +kernel
theorem dX3_hide_14 : decode cX3_hide 14 = .ok (.getfield 25, 3) := by decide +kernel
theorem dX3_hide_17 : decode cX3_hide 17 = .ok (.iload_n 1, 1) := by decide +kernel
theorem dX3_hide_18 : decode cX3_hide 18 = .ok (.invokevirtual 107, 3) := by decide +kernel
theorem dX3_hide_21 : decode cX3_hide 21 = .ok (.checkcast 111, 3) := by decide +kernel
theorem dX3_hide_24 : decode cX3_hide 24 = .ok (.getfield 138, 3) := by decide +kernel
theorem dX3_hide_27 : decode cX3_hide 27 = .ok (.getfield 142, 3) := by decide +kernel
theorem dX3_hide_30 : decode cX3_hide 30 = .ok (.if_icmp .eq 10, 3) := by decide +kernel
theorem dX3_hide_33 : decode cX3_hide 33 = .ok (.aload_n 3, 1) := by decide +kernel
theorem dX3_hide_34 : decode cX3_hide 34 = .ok (.getfield 187, 3) := by decide +kernel
theorem dX3_hide_37 : decode cX3_hide 37 = .ok (.ifCond .eq 13, 3) := by decide +kernel
theorem dX3_hide_40 : decode cX3_hide 40 = .ok (.new 55, 3) := by decide +kernel
theorem dX3_hide_43 : decode cX3_hide 43 = .ok (.dup, 1) := by decide +kernel
theorem dX3_hide_44 : decode cX3_hide 44 = .ok (.ldc 190, 2) := by decide +kernel
theorem dX3_hide_46 : decode cX3_hide 46 = .ok (.invokespecial 59, 3) := by decide +kernel
theorem dX3_hide_49 : decode cX3_hide 49 = .ok (.athrow, 1) := by decide +kernel
theorem dX3_hide_50 : decode cX3_hide 50 = .ok (.aload_n 3, 1) := by decide +kernel
theorem dX3_hide_51 : decode cX3_hide 51 = .ok (.iconst 1, 1) := by decide +kernel
theorem dX3_hide_52 : decode cX3_hide 52 = .ok (.putfield 187, 3) := by decide +kernel
theorem dX3_hide_55 : decode cX3_hide 55 = .ok (.aload_n 0, 1) := by decide +kernel
theorem dX3_hide_56 : decode cX3_hide 56 = .ok (.iload_n 1, 1) := by decide +kernel
theorem dX3_hide_57 : decode cX3_hide 57 = .ok (.invokevirtual 192, 3) := by decide +kernel
theorem dX3_hide_60 : decode cX3_hide 60 = .ok (.ireturn, 1) := by decide +kernel
set_option maxRecDepth 20000 in
theorem ggX3_setOf_X3_needThing : GoodIn wsX3_setOf wsX3_needThing := goodIn_ca (goodIn_r _ [9, 10, 11, 12, 13, 14, 8, 15, 16, 17, 18, 19, 20, 21, 22, 54, 55, 56, 57, 58, 59, 60, 61, 62, 63, 64, 65, 66, 67] (by decide +kernel) (by decide +kernel)) (goodIn_sub (fun _ h => List.mem_cons_of_mem _ (List.mem_append_right _ h)) (by decide +kernel))
set_option maxRecDepth 20000 in
theorem gX3_setOf_X3_needThing : GoodIn wsX3_setOf (wsV RX3 68 RX3 yX3_needThing wsX3_needThing) := goodIn_app (goodIn_of _ (by decide +kernel)) ggX3_setOf_X3_needThing
set_option maxRecDepth 20000 in
theorem ggX3_setOf_X3_needVersion : GoodIn wsX3_setOf wsX3_needVersion := goodIn_ca (goodIn_r _ [26, 10, 11, 16, 27, 28, 29, 30, 31, 32, 33, 20, 34, 22, 35, 36, 37, 38, 39, 40, 41, 42, 43, 44, 45, 46, 47, 54, 55, 56, 57, 58, 59, 60, 61, 62, 63, 64, 68, 69, 48, 49, 50, 51, 52, 53, 65, 66, 67] (by decide +kernel) (by decide +kernel)) (goodIn_sub (fun _ h => List.mem_cons_of_mem _ (List.mem_append_right _ h)) (by decide +kernel))
set_option maxRecDepth 20000 in
theorem gX3_setOf_X3_needVersion : GoodIn wsX3_setOf (wsV RX3 183 RX3 yX3_needVersion wsX3_needVersion) := goodIn_app (goodIn_of _ (by decide +kernel)) ggX3_setOf_X3_needVersion
theorem dX3_setOf_0 : decode cX3_setOf 0 = .ok (.aload_n 0, 1) := by decide +kernel
theorem dX3_setOf_1 : decode cX3_setOf 1 = .ok (.iload_n 1, 1) := by decide +kernel
theorem dX3_setOf_2 : decode cX3_setOf 2 = .ok (.invokevirtual 68, 3) := by decide +kernel
theorem dX3_setOf_5 : decode cX3_setOf 5 = .ok (.aload_n 0, 1) := by decide +kernel
theorem dX3_setOf_6 : decode cX3_setOf 6 = .ok (.iload_n 1, 1) := by decide +kernel
theorem dX3_setOf_7 : decode cX3_setOf 7 = .ok (.iload_n 2, 1) := by decide +kernel
theorem dX3_setOf_8 : decode cX3_setOf 8 = .ok (.invokevirtual 183, 3) := by decide +kernel
theorem dX3_setOf_11 : decode cX3_setOf 11 = .ok (.astore_n 3, 1) := by decide +kernel
theorem dX3_setOf_12 : decode cX3_setOf 12 = .ok (.aload_n 3, 1) := by decide +kernel
theorem dX3_setOf_13 : decode cX3_setOf 13 = .ok (.getfield 187, 3) := by decide +kernel
theorem dX3_setOf_16 : decode cX3_setOf 16 = .ok (.ifCond .eq 13, 3) := by decide +kernel
theorem dX3_setOf_19 : decode cX3_setOf 19 = .ok (.new 158, 3) := by decide +kernel
theorem dX3_setOf_22 : decode cX3_setOf 22 = .ok (.dup, 1) := by decide +kernel
theorem dX3_setOf_23 : decode cX3_setOf 23 = .ok (.ldc 196, 2) := by decide +kernel
theorem dX3_setOf_25 : decode cX3_setOf 25 = .ok (.invokespecial 162, 3) := by decide +kernel
theorem dX3_setOf_28 : decode cX3_setOf 28 = .ok (.athrow, 1) := by decide +kernel
theorem dX3_setOf_29 : decode cX3_setOf 29 = .ok (.aload_n 3, 1) := by decide +kernel
theorem dX3_setOf_30 : decode cX3_setOf 30 = .ok (.getfield 198, 3) := by decide +kernel
theorem dX3_setOf_33 : decode cX3_setOf 33 = .ok (.ireturn, 1) := by decide +kernel
set_option maxRecDepth 20000 in
theorem ggX3_versionAt_X3_needThing : GoodIn wsX3_versionAt wsX3_needThing := goodIn_ca (goodIn_r _ [8, 9, 10, 11, 12, 13, 7, 14, 15, 16, 17, 18, 19, 20, 21, 48, 49, 50, 51, 52, 53, 54, 55, 56, 57, 58, 59, 60, 61] (by decide +kernel) (by decide +kernel)) (goodIn_sub (fun _ h => List.mem_cons_of_mem _ (List.mem_append_right _ h)) (by decide +kernel))
set_option maxRecDepth 20000 in
theorem gX3_versionAt_X3_needThing : GoodIn wsX3_versionAt (wsV RX3 68 RX3 yX3_needThing wsX3_needThing) := goodIn_app (goodIn_of _ (by decide +kernel)) ggX3_versionAt_X3_needThing
set_option maxRecDepth 20000 in
theorem ggX3_versionAt_X3_lastMadeBefore : GoodIn wsX3_versionAt wsX3_lastMadeBefore := goodIn_r _ [25, 15, 26, 27, 28, 29, 30, 31, 32, 33, 19, 34, 21, 35, 36, 37, 38, 39, 40, 41, 42, 43, 44, 45, 46, 47, 48, 49, 50, 51, 52, 53, 54, 55, 56, 57, 58, 62, 63, 64, 65, 66, 67, 68, 69, 59, 60, 61] (by decide +kernel) (by decide +kernel)
set_option maxRecDepth 20000 in
theorem gX3_versionAt_X3_lastMadeBefore : GoodIn wsX3_versionAt (wsV RX3 203 RX3 yX3_lastMadeBefore wsX3_lastMadeBefore) := goodIn_app (goodIn_of _ (by decide +kernel)) ggX3_versionAt_X3_lastMadeBefore
theorem dX3_versionAt_0 : decode cX3_versionAt 0 = .ok (.aload_n 0, 1) := by decide +kernel
theorem dX3_versionAt_1 : decode cX3_versionAt 1 = .ok (.iload_n 1, 1) := by decide +kernel
theorem dX3_versionAt_2 : decode cX3_versionAt 2 = .ok (.invokevirtual 68, 3) := by decide +kernel
theorem dX3_versionAt_5 : decode cX3_versionAt 5 = .ok (.iload_n 2, 1) := by decide +kernel
theorem dX3_versionAt_6 : decode cX3_versionAt 6 = .ok (.ifCond .lt 11, 3) := by decide +kernel
theorem dX3_versionAt_9 : decode cX3_versionAt 9 = .ok (.iload_n 2, 1) := by decide +kernel
theorem dX3_versionAt_10 : decode cX3_versionAt 10 = .ok (.aload_n 0, 1) := by decide +kernel
theorem dX3_versionAt_11 : decode cX3_versionAt 11 = .ok (.getfield 49, 3) := by decide +kernel
theorem dX3_versionAt_14 : decode cX3_versionAt 14 = .ok (.if_icmp .le 13, 3) := by decide +kernel
theorem dX3_versionAt_17 : decode cX3_versionAt 17 = .ok (.new 91, 3) := by decide +kernel
theorem dX3_versionAt_20 : decode cX3_versionAt 20 = .ok (.dup, 1) := by decide +kernel
theorem dX3_versionAt_21 : decode cX3_versionAt 21 = .ok (.ldc 201, 2) := by decide +kernel
theorem dX3_versionAt_23 : decode cX3_versionAt 23 = .ok (.invokespecial 95, 3) := by decide +kernel
theorem dX3_versionAt_26 : decode cX3_versionAt 26 = .ok (.athrow, 1) := by decide +kernel
theorem dX3_versionAt_27 : decode cX3_versionAt 27 = .ok (.aload_n 0, 1) := by decide +kernel
theorem dX3_versionAt_28 : decode cX3_versionAt 28 = .ok (.iload_n 1, 1) := by decide +kernel
theorem dX3_versionAt_29 : decode cX3_versionAt 29 = .ok (.iload_n 2, 1) := by decide +kernel
theorem dX3_versionAt_30 : decode cX3_versionAt 30 = .ok (.iconst 1, 1) := by decide +kernel
theorem dX3_versionAt_31 : decode cX3_versionAt 31 = .ok (.iadd, 1) := by decide +kernel
theorem dX3_versionAt_32 : decode cX3_versionAt 32 = .ok (.invokevirtual 203, 3) := by decide +kernel
theorem dX3_versionAt_35 : decode cX3_versionAt 35 = .ok (.ireturn, 1) := by decide +kernel
set_option maxRecDepth 20000 in
theorem ggX3_inBox_X3_needPlace : GoodIn wsX3_inBox wsX3_needPlace := goodIn_ca (goodIn_r _ [7, 1, 2] (by decide +kernel) (by decide +kernel)) (goodIn_sub (fun _ h => List.mem_cons_of_mem _ (List.mem_append_right _ h)) (by decide +kernel))
set_option maxRecDepth 20000 in
theorem gX3_inBox_X3_needPlace : GoodIn wsX3_inBox (wsV RX3 73 RX3 yX3_needPlace wsX3_needPlace) := goodIn_app (goodIn_of _ (by decide +kernel)) ggX3_inBox_X3_needPlace
set_option maxRecDepth 20000 in
theorem ggX3_inBox_X3_pointsWithin : GoodIn wsX3_inBox wsX3_pointsWithin := goodIn_r _ [11, 12, 13, 14, 15, 16, 17, 18, 19, 20, 21, 22, 23, 24, 25, 26, 27, 28, 29, 30, 31, 32, 33, 34, 35, 36, 37, 38, 39, 40, 41, 42, 43, 44, 6, 45, 72, 73, 74, 75, 76, 77, 78, 79, 80, 81, 82, 83, 84, 85, 86, 87, 88, 89, 90, 91, 92, 93, 94, 95, 96, 97] (by decide +kernel) (by decide +kernel)
set_option maxRecDepth 20000 in
theorem gX3_inBox_X3_pointsWithin : GoodIn wsX3_inBox (wsV RX3 209 RX3 yX3_pointsWithin wsX3_pointsWithin) := goodIn_app (goodIn_of _ (by decide +kernel)) ggX3_inBox_X3_pointsWithin
set_option maxRecDepth 20000 in
theorem ggX3_inBox_X3_usersOf : GoodIn wsX3_inBox wsX3_usersOf := goodIn_r _ [49, 12, 13, 14, 15, 50, 20, 21, 22, 23, 24, 25, 26, 27, 28, 29, 30, 31, 32, 33, 34, 35, 36, 37, 38, 39, 40, 41, 42, 51, 52, 6, 53, 43, 44, 45, 72, 73, 74, 75, 76, 77, 78, 79, 80, 81, 82, 83, 84, 85, 86, 87, 88, 89, 90, 91, 92, 93, 94, 95, 96, 97] (by decide +kernel) (by decide +kernel)
set_option maxRecDepth 20000 in
theorem gX3_inBox_X3_usersOf : GoodIn wsX3_inBox (wsV RX3 173 RX3 yX3_usersOf wsX3_usersOf) := goodIn_app (goodIn_of _ (by decide +kernel)) ggX3_inBox_X3_usersOf
set_option maxRecDepth 20000 in
theorem ggX3_inBox_X3_thingsOf : GoodIn wsX3_inBox wsX3_thingsOf := goodIn_r _ [57, 12, 13, 16, 20, 21, 22, 23, 24, 25, 26, 27, 28, 29, 30, 31, 32, 33, 34, 35, 36, 37, 38, 39, 40, 41, 42, 43, 44, 6, 45, 72, 73, 74, 75, 76, 77, 78, 79, 80, 81, 82, 83, 84, 95, 96, 97] (by decide +kernel) (by decide +kernel)
set_option maxRecDepth 20000 in
theorem gX3_inBox_X3_thingsOf : GoodIn wsX3_inBox (wsV RX3 213 RX3 yX3_thingsOf wsX3_thingsOf) := goodIn_app (goodIn_of _ (by decide +kernel)) ggX3_inBox_X3_thingsOf
set_option maxRecDepth 20000 in
theorem ggX3_inBox_X3_membersOf : GoodIn wsX3_inBox wsX3_membersOf := goodIn_r _ [61, 12, 13, 14, 15, 50, 20, 21, 22, 23, 24, 25, 62, 63, 6, 64, 43, 44, 45, 26, 27, 28, 29, 30, 31, 32, 33, 34, 35, 36, 37, 38, 39, 40, 41, 42, 51, 52, 53, 72, 73, 74, 75, 76, 77, 78, 79, 80, 81, 82, 83, 84, 85, 86, 87, 88, 89, 90, 91, 92, 93, 94, 95, 96, 97] (by decide +kernel) (by decide +kernel)
set_option maxRecDepth 20000 in
theorem gX3_inBox_X3_membersOf : GoodIn wsX3_inBox (wsV RX3 216 RX3 yX3_membersOf wsX3_membersOf) := goodIn_app (goodIn_of _ (by decide +kernel)) ggX3_inBox_X3_membersOf
set_option maxRecDepth 20000 in
theorem ggX3_inBox_J13_bitCount_95d88 : GoodIn wsX3_inBox wsJ13_bitCount_95d88 := goodIn_r _ [68, 69, 70, 71] (by decide +kernel) (by decide +kernel)
set_option maxRecDepth 20000 in
theorem gX3_inBox_J13_bitCount_95d88 : GoodIn wsX3_inBox (va_wsS RX3 177 yJ13_bitCount_95d88 wsJ13_bitCount_95d88) := goodIn_app (goodIn_of _ (by decide +kernel)) ggX3_inBox_J13_bitCount_95d88
theorem dX3_inBox_0 : decode cX3_inBox 0 = .ok (.aload_n 0, 1) := by decide +kernel
theorem dX3_inBox_1 : decode cX3_inBox 1 = .ok (.iload_n 1, 1) := by decide +kernel
theorem dX3_inBox_2 : decode cX3_inBox 2 = .ok (.iload_n 2, 1) := by decide +kernel
theorem dX3_inBox_3 : decode cX3_inBox 3 = .ok (.invokevirtual 73, 3) := by decide +kernel
theorem dX3_inBox_6 : decode cX3_inBox 6 = .ok (.aload_n 0, 1) := by decide +kernel
theorem dX3_inBox_7 : decode cX3_inBox 7 = .ok (.iload_n 3, 1) := by decide +kernel
theorem dX3_inBox_8 : decode cX3_inBox 8 = .ok (.iload 4, 2) := by decide +kernel
theorem dX3_inBox_10 : decode cX3_inBox 10 = .ok (.invokevirtual 73, 3) := by decide +kernel
theorem dX3_inBox_13 : decode cX3_inBox 13 = .ok (.iload_n 3, 1) := by decide +kernel
theorem dX3_inBox_14 : decode cX3_inBox 14 = .ok (.iload_n 1, 1) := by decide +kernel
theorem dX3_inBox_15 : decode cX3_inBox 15 = .ok (.if_icmp .lt 20, 3) := by decide +kernel
theorem dX3_inBox_18 : decode cX3_inBox 18 = .ok (.iload 4, 2) := by decide +kernel
theorem dX3_inBox_20 : decode cX3_inBox 20 = .ok (.iload_n 2, 1) := by decide +kernel
theorem dX3_inBox_21 : decode cX3_inBox 21 = .ok (.if_icmp .lt 14, 3) := by decide +kernel
theorem dX3_inBox_24 : decode cX3_inBox 24 = .ok (.iload 5, 2) := by decide +kernel
theorem dX3_inBox_26 : decode cX3_inBox 26 = .ok (.ifCond .lt 9, 3) := by decide +kernel
theorem dX3_inBox_29 : decode cX3_inBox 29 = .ok (.iload 5, 2) := by decide +kernel
theorem dX3_inBox_31 : decode cX3_inBox 31 = .ok (.iconst 2, 1) := by decide +kernel
theorem dX3_inBox_32 : decode cX3_inBox 32 = .ok (.if_icmp .le 13, 3) := by decide +kernel
theorem dX3_inBox_35 : decode cX3_inBox 35 = .ok (.new 91, 3) := by decide +kernel
theorem dX3_inBox_38 : decode cX3_inBox 38 = .ok (.dup, 1) := by decide +kernel
theorem dX3_inBox_39 : decode cX3_inBox 39 = .ok (.ldc 207, 2) := by decide +kernel
theorem dX3_inBox_41 : decode cX3_inBox 41 = .ok (.invokespecial 95, 3) := by decide +kernel
theorem dX3_inBox_44 : decode cX3_inBox 44 = .ok (.athrow, 1) := by decide +kernel
theorem dX3_inBox_45 : decode cX3_inBox 45 = .ok (.aload_n 0, 1) := by decide +kernel
theorem dX3_inBox_46 : decode cX3_inBox 46 = .ok (.iload_n 1, 1) := by decide +kernel
theorem dX3_inBox_47 : decode cX3_inBox 47 = .ok (.iload_n 2, 1) := by decide +kernel
theorem dX3_inBox_48 : decode cX3_inBox 48 = .ok (.iload_n 3, 1) := by decide +kernel
theorem dX3_inBox_49 : decode cX3_inBox 49 = .ok (.iload 4, 2) := by decide +kernel
theorem dX3_inBox_51 : decode cX3_inBox 51 = .ok (.invokevirtual 209, 3) := by decide +kernel
theorem dX3_inBox_54 : decode cX3_inBox 54 = .ok (.lstore 6, 2) := by decide +kernel
theorem dX3_inBox_56 : decode cX3_inBox 56 = .ok (.aload_n 0, 1) := by decide +kernel
theorem dX3_inBox_57 : decode cX3_inBox 57 = .ok (.lload 6, 2) := by decide +kernel
theorem dX3_inBox_59 : decode cX3_inBox 59 = .ok (.invokevirtual 173, 3) := by decide +kernel
theorem dX3_inBox_62 : decode cX3_inBox 62 = .ok (.aload_n 0, 1) := by decide +kernel
theorem dX3_inBox_63 : decode cX3_inBox 63 = .ok (.iconst 1, 1) := by decide +kernel
theorem dX3_inBox_64 : decode cX3_inBox 64 = .ok (.invokevirtual 213, 3) := by decide +kernel
theorem dX3_inBox_67 : decode cX3_inBox 67 = .ok (.land, 1) := by decide +kernel
theorem dX3_inBox_68 : decode cX3_inBox 68 = .ok (.lstore 8, 2) := by decide +kernel
theorem dX3_inBox_70 : decode cX3_inBox 70 = .ok (.lload 6, 2) := by decide +kernel
theorem dX3_inBox_72 : decode cX3_inBox 72 = .ok (.aload_n 0, 1) := by decide +kernel
theorem dX3_inBox_73 : decode cX3_inBox 73 = .ok (.lload 8, 2) := by decide +kernel
theorem dX3_inBox_75 : decode cX3_inBox 75 = .ok (.invokevirtual 216, 3) := by decide +kernel
theorem dX3_inBox_78 : decode cX3_inBox 78 = .ok (.lor, 1) := by decide +kernel
theorem dX3_inBox_79 : decode cX3_inBox 79 = .ok (.lstore 10, 2) := by decide +kernel
theorem dX3_inBox_81 : decode cX3_inBox 81 = .ok (.aload_n 0, 1) := by decide +kernel
theorem dX3_inBox_82 : decode cX3_inBox 82 = .ok (.lload 10, 2) := by decide +kernel
theorem dX3_inBox_84 : decode cX3_inBox 84 = .ok (.lload 8, 2) := by decide +kernel
theorem dX3_inBox_86 : decode cX3_inBox 86 = .ok (.lor, 1) := by decide +kernel
theorem dX3_inBox_87 : decode cX3_inBox 87 = .ok (.invokevirtual 173, 3) := by decide +kernel
theorem dX3_inBox_90 : decode cX3_inBox 90 = .ok (.aload_n 0, 1) := by decide +kernel
theorem dX3_inBox_91 : decode cX3_inBox 91 = .ok (.iconst 2, 1) := by decide +kernel
theorem dX3_inBox_92 : decode cX3_inBox 92 = .ok (.invokevirtual 213, 3) := by decide +kernel
theorem dX3_inBox_95 : decode cX3_inBox 95 = .ok (.land, 1) := by decide +kernel
theorem dX3_inBox_96 : decode cX3_inBox 96 = .ok (.lstore 12, 2) := by decide +kernel
theorem dX3_inBox_98 : decode cX3_inBox 98 = .ok (.iload 5, 2) := by decide +kernel
theorem dX3_inBox_100 : decode cX3_inBox 100 = .ok (.ifCond .ne 9, 3) := by decide +kernel
theorem dX3_inBox_103 : decode cX3_inBox 103 = .ok (.lload 10, 2) := by decide +kernel
theorem dX3_inBox_105 : decode cX3_inBox 105 = .ok (.invokestatic 177, 3) := by decide +kernel
theorem dX3_inBox_108 : decode cX3_inBox 108 = .ok (.ireturn, 1) := by decide +kernel
theorem dX3_inBox_109 : decode cX3_inBox 109 = .ok (.iload 5, 2) := by decide +kernel
theorem dX3_inBox_111 : decode cX3_inBox 111 = .ok (.iconst 1, 1) := by decide +kernel
theorem dX3_inBox_112 : decode cX3_inBox 112 = .ok (.if_icmp .ne 8, 3) := by decide +kernel
theorem dX3_inBox_115 : decode cX3_inBox 115 = .ok (.lload 8, 2) := by decide +kernel
theorem dX3_inBox_117 : decode cX3_inBox 117 = .ok (.goto 5, 3) := by decide +kernel
theorem dX3_inBox_120 : decode cX3_inBox 120 = .ok (.lload 12, 2) := by decide +kernel
theorem dX3_inBox_122 : decode cX3_inBox 122 = .ok (.invokestatic 177, 3) := by decide +kernel
theorem dX3_inBox_125 : decode cX3_inBox 125 = .ok (.ireturn, 1) := by decide +kernel
set_option maxRecDepth 20000 in
theorem ggX3_pass_X3_needMinutes : GoodIn wsX3_pass wsX3_needMinutes := goodIn_ca (goodIn_r _ [8, 9, 10] (by decide +kernel) (by decide +kernel)) (goodIn_sub (fun _ h => List.mem_cons_of_mem _ (List.mem_append_right _ h)) (by decide +kernel))
set_option maxRecDepth 20000 in
theorem gX3_pass_X3_needMinutes : GoodIn wsX3_pass (wsV RX3 219 RX3 yX3_needMinutes wsX3_needMinutes) := goodIn_app (goodIn_of _ (by decide +kernel)) ggX3_pass_X3_needMinutes
theorem dX3_pass_0 : decode cX3_pass 0 = .ok (.aload_n 0, 1) := by decide +kernel
theorem dX3_pass_1 : decode cX3_pass 1 = .ok (.iload_n 1, 1) := by decide +kernel
theorem dX3_pass_2 : decode cX3_pass 2 = .ok (.invokevirtual 219, 3) := by decide +kernel
theorem dX3_pass_5 : decode cX3_pass 5 = .ok (.aload_n 0, 1) := by decide +kernel
theorem dX3_pass_6 : decode cX3_pass 6 = .ok (.getfield 49, 3) := by decide +kernel
theorem dX3_pass_9 : decode cX3_pass 9 = .ok (.iload_n 1, 1) := by decide +kernel
theorem dX3_pass_10 : decode cX3_pass 10 = .ok (.iadd, 1) := by decide +kernel
theorem dX3_pass_11 : decode cX3_pass 11 = .ok (.sipush 5000, 3) := by decide +kernel
theorem dX3_pass_14 : decode cX3_pass 14 = .ok (.if_icmp .le 13, 3) := by decide +kernel
theorem dX3_pass_17 : decode cX3_pass 17 = .ok (.new 55, 3) := by decide +kernel
theorem dX3_pass_20 : decode cX3_pass 20 = .ok (.dup, 1) := by decide +kernel
theorem dX3_pass_21 : decode cX3_pass 21 = .ok (.ldc 222, 2) := by decide +kernel
theorem dX3_pass_23 : decode cX3_pass 23 = .ok (.invokespecial 59, 3) := by decide +kernel
theorem dX3_pass_26 : decode cX3_pass 26 = .ok (.athrow, 1) := by decide +kernel
theorem dX3_pass_27 : decode cX3_pass 27 = .ok (.aload_n 0, 1) := by decide +kernel
theorem dX3_pass_28 : decode cX3_pass 28 = .ok (.dup, 1) := by decide +kernel
theorem dX3_pass_29 : decode cX3_pass 29 = .ok (.getfield 49, 3) := by decide +kernel
theorem dX3_pass_32 : decode cX3_pass 32 = .ok (.iload_n 1, 1) := by decide +kernel
theorem dX3_pass_33 : decode cX3_pass 33 = .ok (.iadd, 1) := by decide +kernel
theorem dX3_pass_34 : decode cX3_pass 34 = .ok (.putfield 49, 3) := by decide +kernel
theorem dX3_pass_37 : decode cX3_pass 37 = .ok (.aload_n 0, 1) := by decide +kernel
theorem dX3_pass_38 : decode cX3_pass 38 = .ok (.getfield 49, 3) := by decide +kernel
theorem dX3_pass_41 : decode cX3_pass 41 = .ok (.ireturn, 1) := by decide +kernel
set_option maxRecDepth 20000 in
theorem ggX3_take_X3_needMinutes : GoodIn wsX3_take wsX3_needMinutes := goodIn_ca (goodIn_r _ [12, 13, 14] (by decide +kernel) (by decide +kernel)) (goodIn_sub (fun _ h => List.mem_cons_of_mem _ (List.mem_append_right _ h)) (by decide +kernel))
set_option maxRecDepth 20000 in
theorem gX3_take_X3_needMinutes : GoodIn wsX3_take (wsV RX3 219 RX3 yX3_needMinutes wsX3_needMinutes) := goodIn_app (goodIn_of _ (by decide +kernel)) ggX3_take_X3_needMinutes
set_option maxRecDepth 20000 in
theorem ggX3_take_Jx4a65c_size_8abf5 : GoodIn wsX3_take wsJx4a65c_size_8abf5 := goodIn_r _ [19, 20, 58, 59, 60] (by decide +kernel) (by decide +kernel)
set_option maxRecDepth 20000 in
theorem gX3_take_Jx4a65c_size_8abf5 : GoodIn wsX3_take (wsV RX3 126 RJx4a65c yJx4a65c_size_8abf5 wsJx4a65c_size_8abf5) := goodIn_app (goodIn_of _ (by decide +kernel)) ggX3_take_Jx4a65c_size_8abf5
set_option maxRecDepth 20000 in
theorem ggX3_take_X3_lastMadeBefore : GoodIn wsX3_take wsX3_lastMadeBefore := goodIn_r _ [24, 7, 25, 26, 27, 28, 29, 30, 31, 32, 18, 33, 20, 34, 35, 36, 37, 38, 39, 40, 41, 42, 43, 44, 45, 46, 47, 48, 49, 50, 51, 52, 53, 54, 55, 56, 57, 61, 62, 63, 64, 65, 66, 67, 68, 58, 59, 60] (by decide +kernel) (by decide +kernel)
set_option maxRecDepth 20000 in
theorem gX3_take_X3_lastMadeBefore : GoodIn wsX3_take (wsV RX3 203 RX3 yX3_lastMadeBefore wsX3_lastMadeBefore) := goodIn_app (goodIn_of _ (by decide +kernel)) ggX3_take_X3_lastMadeBefore
theorem dX3_take_0 : decode cX3_take 0 = .ok (.aload_n 0, 1) := by decide +kernel
theorem dX3_take_1 : decode cX3_take 1 = .ok (.iload_n 1, 1) := by decide +kernel
theorem dX3_take_2 : decode cX3_take 2 = .ok (.invokevirtual 219, 3) := by decide +kernel
theorem dX3_take_5 : decode cX3_take 5 = .ok (.aload_n 0, 1) := by decide +kernel
theorem dX3_take_6 : decode cX3_take 6 = .ok (.getfield 52, 3) := by decide +kernel
theorem dX3_take_9 : decode cX3_take 9 = .ok (.iload_n 1, 1) := by decide +kernel
theorem dX3_take_10 : decode cX3_take 10 = .ok (.iadd, 1) := by decide +kernel
theorem dX3_take_11 : decode cX3_take 11 = .ok (.aload_n 0, 1) := by decide +kernel
theorem dX3_take_12 : decode cX3_take 12 = .ok (.getfield 49, 3) := by decide +kernel
theorem dX3_take_15 : decode cX3_take 15 = .ok (.invokestatic 224, 3) := by decide +kernel
theorem dX3_take_18 : decode cX3_take 18 = .ok (.istore_n 2, 1) := by decide +kernel
theorem dX3_take_19 : decode cX3_take 19 = .ok (.iconst 0, 1) := by decide +kernel
theorem dX3_take_20 : decode cX3_take 20 = .ok (.istore_n 3, 1) := by decide +kernel
theorem dX3_take_21 : decode cX3_take 21 = .ok (.iconst 0, 1) := by decide +kernel
theorem dX3_take_22 : decode cX3_take 22 = .ok (.istore 4, 2) := by decide +kernel
theorem dX3_take_24 : decode cX3_take 24 = .ok (.iload 4, 2) := by decide +kernel
theorem dX3_take_26 : decode cX3_take 26 = .ok (.aload_n 0, 1) := by decide +kernel
theorem dX3_take_27 : decode cX3_take 27 = .ok (.getfield 25, 3) := by decide +kernel
theorem dX3_take_30 : decode cX3_take 30 = .ok (.invokevirtual 126, 3) := by decide +kernel
theorem dX3_take_33 : decode cX3_take 33 = .ok (.if_icmp .ge 30, 3) := by decide +kernel
theorem dX3_take_36 : decode cX3_take 36 = .ok (.iload_n 3, 1) := by decide +kernel
theorem dX3_take_37 : decode cX3_take 37 = .ok (.aload_n 0, 1) := by decide +kernel
theorem dX3_take_38 : decode cX3_take 38 = .ok (.iload 4, 2) := by decide +kernel
theorem dX3_take_40 : decode cX3_take 40 = .ok (.iload_n 2, 1) := by decide +kernel
theorem dX3_take_41 : decode cX3_take 41 = .ok (.invokevirtual 203, 3) := by decide +kernel
theorem dX3_take_44 : decode cX3_take 44 = .ok (.aload_n 0, 1) := by decide +kernel
theorem dX3_take_45 : decode cX3_take 45 = .ok (.iload 4, 2) := by decide +kernel
theorem dX3_take_47 : decode cX3_take 47 = .ok (.aload_n 0, 1) := by decide +kernel
theorem dX3_take_48 : decode cX3_take 48 = .ok (.getfield 52, 3) := by decide +kernel
theorem dX3_take_51 : decode cX3_take 51 = .ok (.invokevirtual 203, 3) := by decide +kernel
theorem dX3_take_54 : decode cX3_take 54 = .ok (.isub, 1) := by decide +kernel
theorem dX3_take_55 : decode cX3_take 55 = .ok (.iadd, 1) := by decide +kernel
theorem dX3_take_56 : decode cX3_take 56 = .ok (.istore_n 3, 1) := by decide +kernel
theorem dX3_take_57 : decode cX3_take 57 = .ok (.iinc 4 1, 3) := by decide +kernel
theorem dX3_take_60 : decode cX3_take 60 = .ok (.goto (-36), 3) := by decide +kernel
theorem dX3_take_63 : decode cX3_take 63 = .ok (.aload_n 0, 1) := by decide +kernel
theorem dX3_take_64 : decode cX3_take 64 = .ok (.iload_n 2, 1) := by decide +kernel
theorem dX3_take_65 : decode cX3_take 65 = .ok (.putfield 52, 3) := by decide +kernel
theorem dX3_take_68 : decode cX3_take 68 = .ok (.iload_n 3, 1) := by decide +kernel
theorem dX3_take_69 : decode cX3_take 69 = .ok (.ireturn, 1) := by decide +kernel
set_option maxRecDepth 20000 in
theorem ggX3_inCopy_X3_needThing : GoodIn wsX3_inCopy wsX3_needThing := goodIn_ca (goodIn_r _ [6, 7, 8, 9, 10, 11, 5, 12, 13, 14, 15, 16, 17, 18, 19, 46, 47, 48, 49, 50, 51, 52, 53, 54, 55, 56, 57, 58, 59] (by decide +kernel) (by decide +kernel)) (goodIn_sub (fun _ h => List.mem_cons_of_mem _ (List.mem_append_right _ h)) (by decide +kernel))
set_option maxRecDepth 20000 in
theorem gX3_inCopy_X3_needThing : GoodIn wsX3_inCopy (wsV RX3 68 RX3 yX3_needThing wsX3_needThing) := goodIn_app (goodIn_of _ (by decide +kernel)) ggX3_inCopy_X3_needThing
set_option maxRecDepth 20000 in
theorem ggX3_inCopy_X3_lastMadeBefore : GoodIn wsX3_inCopy wsX3_lastMadeBefore := goodIn_r _ [23, 13, 24, 25, 26, 27, 28, 29, 30, 31, 17, 32, 19, 33, 34, 35, 36, 37, 38, 39, 40, 41, 42, 43, 44, 45, 46, 47, 48, 49, 50, 51, 52, 53, 54, 55, 56, 60, 61, 62, 63, 64, 65, 66, 67, 57, 58, 59] (by decide +kernel) (by decide +kernel)
set_option maxRecDepth 20000 in
theorem gX3_inCopy_X3_lastMadeBefore : GoodIn wsX3_inCopy (wsV RX3 203 RX3 yX3_lastMadeBefore wsX3_lastMadeBefore) := goodIn_app (goodIn_of _ (by decide +kernel)) ggX3_inCopy_X3_lastMadeBefore
theorem dX3_inCopy_0 : decode cX3_inCopy 0 = .ok (.aload_n 0, 1) := by decide +kernel
theorem dX3_inCopy_1 : decode cX3_inCopy 1 = .ok (.iload_n 1, 1) := by decide +kernel
theorem dX3_inCopy_2 : decode cX3_inCopy 2 = .ok (.invokevirtual 68, 3) := by decide +kernel
theorem dX3_inCopy_5 : decode cX3_inCopy 5 = .ok (.aload_n 0, 1) := by decide +kernel
theorem dX3_inCopy_6 : decode cX3_inCopy 6 = .ok (.iload_n 1, 1) := by decide +kernel
theorem dX3_inCopy_7 : decode cX3_inCopy 7 = .ok (.aload_n 0, 1) := by decide +kernel
theorem dX3_inCopy_8 : decode cX3_inCopy 8 = .ok (.getfield 52, 3) := by decide +kernel
theorem dX3_inCopy_11 : decode cX3_inCopy 11 = .ok (.invokevirtual 203, 3) := by decide +kernel
theorem dX3_inCopy_14 : decode cX3_inCopy 14 = .ok (.ireturn, 1) := by decide +kernel
set_option maxRecDepth 20000 in
theorem ggX3_isTrue_Jx4a65c_size_8abf5 : GoodIn wsX3_isTrue wsJx4a65c_size_8abf5 := goodIn_r _ [10, 11, 48, 49, 50] (by decide +kernel) (by decide +kernel)
set_option maxRecDepth 20000 in
theorem gX3_isTrue_Jx4a65c_size_8abf5 : GoodIn wsX3_isTrue (wsV RX3 126 RJx4a65c yJx4a65c_size_8abf5 wsJx4a65c_size_8abf5) := goodIn_app (goodIn_of _ (by decide +kernel)) ggX3_isTrue_Jx4a65c_size_8abf5
set_option maxRecDepth 20000 in
theorem ggX3_isTrue_Jx4a65c_get_915e3 : GoodIn wsX3_isTrue wsJx4a65c_get_915e3 := goodIn_r _ [15, 11, 16, 17, 18, 19, 20, 21, 22, 23, 24, 25, 26, 9, 27, 28, 48, 49, 50] (by decide +kernel) (by decide +kernel)
set_option maxRecDepth 20000 in
theorem gX3_isTrue_Jx4a65c_get_915e3 : GoodIn wsX3_isTrue (wsV RX3 107 RJx4a65c yJx4a65c_get_915e3 wsJx4a65c_get_915e3) := goodIn_app (goodIn_of _ (by decide +kernel)) ggX3_isTrue_Jx4a65c_get_915e3
theorem dX3_isTrue_0 : decode cX3_isTrue 0 = .ok (.iconst 0, 1) := by decide +kernel
theorem dX3_isTrue_1 : decode cX3_isTrue 1 = .ok (.istore_n 1, 1) := by decide +kernel
theorem dX3_isTrue_2 : decode cX3_isTrue 2 = .ok (.iload_n 1, 1) := by decide +kernel
theorem dX3_isTrue_3 : decode cX3_isTrue 3 = .ok (.aload_n 0, 1) := by decide +kernel
theorem dX3_isTrue_4 : decode cX3_isTrue 4 = .ok (.getfield 25, 3) := by decide +kernel
theorem dX3_isTrue_7 : decode cX3_isTrue 7 = .ok (.invokevirtual 126, 3) := by decide +kernel
theorem dX3_isTrue_10 : decode cX3_isTrue 10 = .ok (.if_icmp .ge 35, 3) := by decide +kernel
theorem dX3_isTrue_13 : decode cX3_isTrue 13 = .ok (.aload_n 0, 1) := by decide +kernel
theorem dX3_isTrue_14 : decode cX3_isTrue 14 = .ok (.getfield 25, 3) := by decide +kernel
theorem dX3_isTrue_17 : decode cX3_isTrue 17 = .ok (.iload_n 1, 1) := by decide +kernel
theorem dX3_isTrue_18 : decode cX3_isTrue 18 = .ok (.invokevirtual 107, 3) := by decide +kernel
theorem dX3_isTrue_21 : decode cX3_isTrue 21 = .ok (.checkcast 111, 3) := by decide +kernel
theorem dX3_isTrue_24 : decode cX3_isTrue 24 = .ok (.getfield 138, 3) := by decide +kernel
theorem dX3_isTrue_27 : decode cX3_isTrue 27 = .ok (.getfield 229, 3) := by decide +kernel
theorem dX3_isTrue_30 : decode cX3_isTrue 30 = .ok (.aload_n 0, 1) := by decide +kernel
theorem dX3_isTrue_31 : decode cX3_isTrue 31 = .ok (.getfield 52, 3) := by decide +kernel
theorem dX3_isTrue_34 : decode cX3_isTrue 34 = .ok (.if_icmp .lt 5, 3) := by decide +kernel
theorem dX3_isTrue_37 : decode cX3_isTrue 37 = .ok (.iconst 0, 1) := by decide +kernel
theorem dX3_isTrue_38 : decode cX3_isTrue 38 = .ok (.ireturn, 1) := by decide +kernel
theorem dX3_isTrue_39 : decode cX3_isTrue 39 = .ok (.iinc 1 1, 3) := by decide +kernel
theorem dX3_isTrue_42 : decode cX3_isTrue 42 = .ok (.goto (-40), 3) := by decide +kernel
theorem dX3_isTrue_45 : decode cX3_isTrue 45 = .ok (.iconst 1, 1) := by decide +kernel
theorem dX3_isTrue_46 : decode cX3_isTrue 46 = .ok (.ireturn, 1) := by decide +kernel
theorem dX3_needSet_0 : decode cX3_needSet 0 = .ok (.iload_n 1, 1) := by decide +kernel
theorem dX3_needSet_1 : decode cX3_needSet 1 = .ok (.ifCond .lt 11, 3) := by decide +kernel
theorem dX3_needSet_4 : decode cX3_needSet 4 = .ok (.iload_n 1, 1) := by decide +kernel
theorem dX3_needSet_5 : decode cX3_needSet 5 = .ok (.aload_n 0, 1) := by decide +kernel
theorem dX3_needSet_6 : decode cX3_needSet 6 = .ok (.getfield 39, 3) := by decide +kernel
theorem dX3_needSet_9 : decode cX3_needSet 9 = .ok (.if_icmp .lt 13, 3) := by decide +kernel
theorem dX3_needSet_12 : decode cX3_needSet 12 = .ok (.new 232, 3) := by decide +kernel
theorem dX3_needSet_15 : decode cX3_needSet 15 = .ok (.dup, 1) := by decide +kernel
theorem dX3_needSet_16 : decode cX3_needSet 16 = .ok (.ldc 234, 2) := by decide +kernel
theorem dX3_needSet_18 : decode cX3_needSet 18 = .ok (.invokespecial 236, 3) := by decide +kernel
theorem dX3_needSet_21 : decode cX3_needSet 21 = .ok (.athrow, 1) := by decide +kernel
theorem dX3_needSet_22 : decode cX3_needSet 22 = .ok (.return_, 1) := by decide +kernel
set_option maxRecDepth 20000 in
theorem ggX3_needThing_X3_isKnown : GoodIn wsX3_needThing wsX3_isKnown := goodIn_r _ [7, 8, 9, 10, 11, 12, 13, 14, 15, 16, 17, 18, 19, 20, 21, 22, 23, 24, 25, 26, 27, 28] (by decide +kernel) (by decide +kernel)
set_option maxRecDepth 20000 in
theorem gX3_needThing_X3_isKnown : GoodIn wsX3_needThing (wsV RX3 237 RX3 yX3_isKnown wsX3_isKnown) := goodIn_app (goodIn_of _ (by decide +kernel)) ggX3_needThing_X3_isKnown
theorem dX3_needThing_0 : decode cX3_needThing 0 = .ok (.aload_n 0, 1) := by decide +kernel
theorem dX3_needThing_1 : decode cX3_needThing 1 = .ok (.iload_n 1, 1) := by decide +kernel
theorem dX3_needThing_2 : decode cX3_needThing 2 = .ok (.invokevirtual 237, 3) := by decide +kernel
theorem dX3_needThing_5 : decode cX3_needThing 5 = .ok (.ifCond .ne 13, 3) := by decide +kernel
theorem dX3_needThing_8 : decode cX3_needThing 8 = .ok (.new 232, 3) := by decide +kernel
theorem dX3_needThing_11 : decode cX3_needThing 11 = .ok (.dup, 1) := by decide +kernel
theorem dX3_needThing_12 : decode cX3_needThing 12 = .ok (.ldc 240, 2) := by decide +kernel
theorem dX3_needThing_14 : decode cX3_needThing 14 = .ok (.invokespecial 236, 3) := by decide +kernel
theorem dX3_needThing_17 : decode cX3_needThing 17 = .ok (.athrow, 1) := by decide +kernel
theorem dX3_needThing_18 : decode cX3_needThing 18 = .ok (.return_, 1) := by decide +kernel
set_option maxRecDepth 20000 in
theorem ggX3_needVersion_Jx4a65c_get_915e3 : GoodIn wsX3_needVersion wsJx4a65c_get_915e3 := goodIn_r _ [12, 13, 14, 15, 16, 17, 18, 19, 20, 21, 22, 23, 24, 11, 25, 26, 46, 47, 48] (by decide +kernel) (by decide +kernel)
set_option maxRecDepth 20000 in
theorem gX3_needVersion_Jx4a65c_get_915e3 : GoodIn wsX3_needVersion (wsV RX3 107 RJx4a65c yJx4a65c_get_915e3 wsJx4a65c_get_915e3) := goodIn_app (goodIn_of _ (by decide +kernel)) ggX3_needVersion_Jx4a65c_get_915e3
theorem dX3_needVersion_0 : decode cX3_needVersion 0 = .ok (.aload_n 0, 1) := by decide +kernel
theorem dX3_needVersion_1 : decode cX3_needVersion 1 = .ok (.getfield 25, 3) := by decide +kernel
theorem dX3_needVersion_4 : decode cX3_needVersion 4 = .ok (.iload_n 1, 1) := by decide +kernel
theorem dX3_needVersion_5 : decode cX3_needVersion 5 = .ok (.invokevirtual 107, 3) := by decide +kernel
theorem dX3_needVersion_8 : decode cX3_needVersion 8 = .ok (.checkcast 111, 3) := by decide +kernel
theorem dX3_needVersion_11 : decode cX3_needVersion 11 = .ok (.getfield 138, 3) := by decide +kernel
theorem dX3_needVersion_14 : decode cX3_needVersion 14 = .ok (.astore_n 3, 1) := by decide +kernel
theorem dX3_needVersion_15 : decode cX3_needVersion 15 = .ok (.aload_n 3, 1) := by decide +kernel
theorem dX3_needVersion_16 : decode cX3_needVersion 16 = .ok (.ifnull 19, 3) := by decide +kernel
theorem dX3_needVersion_19 : decode cX3_needVersion 19 = .ok (.aload_n 3, 1) := by decide +kernel
theorem dX3_needVersion_20 : decode cX3_needVersion 20 = .ok (.getfield 142, 3) := by decide +kernel
theorem dX3_needVersion_23 : decode cX3_needVersion 23 = .ok (.iload_n 2, 1) := by decide +kernel
theorem dX3_needVersion_24 : decode cX3_needVersion 24 = .ok (.if_icmp .eq 11, 3) := by decide +kernel
theorem dX3_needVersion_27 : decode cX3_needVersion 27 = .ok (.aload_n 3, 1) := by decide +kernel
theorem dX3_needVersion_28 : decode cX3_needVersion 28 = .ok (.getfield 242, 3) := by decide +kernel
theorem dX3_needVersion_31 : decode cX3_needVersion 31 = .ok (.astore_n 3, 1) := by decide +kernel
theorem dX3_needVersion_32 : decode cX3_needVersion 32 = .ok (.goto (-17), 3) := by decide +kernel
theorem dX3_needVersion_35 : decode cX3_needVersion 35 = .ok (.aload_n 3, 1) := by decide +kernel
theorem dX3_needVersion_36 : decode cX3_needVersion 36 = .ok (.ifnonnull 13, 3) := by decide +kernel
theorem dX3_needVersion_39 : decode cX3_needVersion 39 = .ok (.new 232, 3) := by decide +kernel
theorem dX3_needVersion_42 : decode cX3_needVersion 42 = .ok (.dup, 1) := by decide +kernel
theorem dX3_needVersion_43 : decode cX3_needVersion 43 = .ok (.ldc 245, 2) := by decide +kernel
theorem dX3_needVersion_45 : decode cX3_needVersion 45 = .ok (.invokespecial 236, 3) := by decide +kernel
theorem dX3_needVersion_48 : decode cX3_needVersion 48 = .ok (.athrow, 1) := by decide +kernel
theorem dX3_needVersion_49 : decode cX3_needVersion 49 = .ok (.aload_n 3, 1) := by decide +kernel
theorem dX3_needVersion_50 : decode cX3_needVersion 50 = .ok (.areturn, 1) := by decide +kernel
theorem dX3_needPlace_0 : decode cX3_needPlace 0 = .ok (.iload_n 1, 1) := by decide +kernel
theorem dX3_needPlace_1 : decode cX3_needPlace 1 = .ok (.ifCond .lt 19, 3) := by decide +kernel
theorem dX3_needPlace_4 : decode cX3_needPlace 4 = .ok (.iload_n 1, 1) := by decide +kernel
theorem dX3_needPlace_5 : decode cX3_needPlace 5 = .ok (.bipush 99, 2) := by decide +kernel
theorem dX3_needPlace_7 : decode cX3_needPlace 7 = .ok (.if_icmp .gt 13, 3) := by decide +kernel
theorem dX3_needPlace_10 : decode cX3_needPlace 10 = .ok (.iload_n 2, 1) := by decide +kernel
theorem dX3_needPlace_11 : decode cX3_needPlace 11 = .ok (.ifCond .lt 9, 3) := by decide +kernel
theorem dX3_needPlace_14 : decode cX3_needPlace 14 = .ok (.iload_n 2, 1) := by decide +kernel
theorem dX3_needPlace_15 : decode cX3_needPlace 15 = .ok (.bipush 99, 2) := by decide +kernel
theorem dX3_needPlace_17 : decode cX3_needPlace 17 = .ok (.if_icmp .le 13, 3) := by decide +kernel
theorem dX3_needPlace_20 : decode cX3_needPlace 20 = .ok (.new 91, 3) := by decide +kernel
theorem dX3_needPlace_23 : decode cX3_needPlace 23 = .ok (.dup, 1) := by decide +kernel
theorem dX3_needPlace_24 : decode cX3_needPlace 24 = .ok (.ldc 247, 2) := by decide +kernel
theorem dX3_needPlace_26 : decode cX3_needPlace 26 = .ok (.invokespecial 95, 3) := by decide +kernel
theorem dX3_needPlace_29 : decode cX3_needPlace 29 = .ok (.athrow, 1) := by decide +kernel
theorem dX3_needPlace_30 : decode cX3_needPlace 30 = .ok (.return_, 1) := by decide +kernel
theorem dX3_needMinutes_0 : decode cX3_needMinutes 0 = .ok (.iload_n 1, 1) := by decide +kernel
theorem dX3_needMinutes_1 : decode cX3_needMinutes 1 = .ok (.iconst 1, 1) := by decide +kernel
theorem dX3_needMinutes_2 : decode cX3_needMinutes 2 = .ok (.if_icmp .lt 9, 3) := by decide +kernel
theorem dX3_needMinutes_5 : decode cX3_needMinutes 5 = .ok (.iload_n 1, 1) := by decide +kernel
theorem dX3_needMinutes_6 : decode cX3_needMinutes 6 = .ok (.bipush 100, 2) := by decide +kernel
theorem dX3_needMinutes_8 : decode cX3_needMinutes 8 = .ok (.if_icmp .le 13, 3) := by decide +kernel
theorem dX3_needMinutes_11 : decode cX3_needMinutes 11 = .ok (.new 91, 3) := by decide +kernel
theorem dX3_needMinutes_14 : decode cX3_needMinutes 14 = .ok (.dup, 1) := by decide +kernel
theorem dX3_needMinutes_15 : decode cX3_needMinutes 15 = .ok (.ldc 249, 2) := by decide +kernel
theorem dX3_needMinutes_17 : decode cX3_needMinutes 17 = .ok (.invokespecial 95, 3) := by decide +kernel
theorem dX3_needMinutes_20 : decode cX3_needMinutes 20 = .ok (.athrow, 1) := by decide +kernel
theorem dX3_needMinutes_21 : decode cX3_needMinutes 21 = .ok (.return_, 1) := by decide +kernel
theorem dX3_needOpen_0 : decode cX3_needOpen 0 = .ok (.aload_n 0, 1) := by decide +kernel
theorem dX3_needOpen_1 : decode cX3_needOpen 1 = .ok (.getfield 29, 3) := by decide +kernel
theorem dX3_needOpen_4 : decode cX3_needOpen 4 = .ok (.iload_n 1, 1) := by decide +kernel
theorem dX3_needOpen_5 : decode cX3_needOpen 5 = .ok (.baload, 1) := by decide +kernel
theorem dX3_needOpen_6 : decode cX3_needOpen 6 = .ok (.ifCond .eq 13, 3) := by decide +kernel
theorem dX3_needOpen_9 : decode cX3_needOpen 9 = .ok (.new 55, 3) := by decide +kernel
theorem dX3_needOpen_12 : decode cX3_needOpen 12 = .ok (.dup, 1) := by decide +kernel
theorem dX3_needOpen_13 : decode cX3_needOpen 13 = .ok (.ldc 66, 2) := by decide +kernel
theorem dX3_needOpen_15 : decode cX3_needOpen 15 = .ok (.invokespecial 59, 3) := by decide +kernel
theorem dX3_needOpen_18 : decode cX3_needOpen 18 = .ok (.athrow, 1) := by decide +kernel
theorem dX3_needOpen_19 : decode cX3_needOpen 19 = .ok (.aload_n 0, 1) := by decide +kernel
theorem dX3_needOpen_20 : decode cX3_needOpen 20 = .ok (.getfield 46, 3) := by decide +kernel
theorem dX3_needOpen_23 : decode cX3_needOpen 23 = .ok (.sipush 2008, 3) := by decide +kernel
theorem dX3_needOpen_26 : decode cX3_needOpen 26 = .ok (.if_icmp .le 13, 3) := by decide +kernel
theorem dX3_needOpen_29 : decode cX3_needOpen 29 = .ok (.new 55, 3) := by decide +kernel
theorem dX3_needOpen_32 : decode cX3_needOpen 32 = .ok (.dup, 1) := by decide +kernel
theorem dX3_needOpen_33 : decode cX3_needOpen 33 = .ok (.ldc 251, 2) := by decide +kernel
theorem dX3_needOpen_35 : decode cX3_needOpen 35 = .ok (.invokespecial 59, 3) := by decide +kernel
theorem dX3_needOpen_38 : decode cX3_needOpen 38 = .ok (.athrow, 1) := by decide +kernel
theorem dX3_needOpen_39 : decode cX3_needOpen 39 = .ok (.return_, 1) := by decide +kernel
set_option maxRecDepth 20000 in
theorem ggX3_needRoomForThing_Jx4a65c_size_8abf5 : GoodIn wsX3_needRoomForThing wsJx4a65c_size_8abf5 := goodIn_r _ [8, 9, 21, 22, 23] (by decide +kernel) (by decide +kernel)
set_option maxRecDepth 20000 in
theorem gX3_needRoomForThing_Jx4a65c_size_8abf5 : GoodIn wsX3_needRoomForThing (wsV RX3 126 RJx4a65c yJx4a65c_size_8abf5 wsJx4a65c_size_8abf5) := goodIn_app (goodIn_of _ (by decide +kernel)) ggX3_needRoomForThing_Jx4a65c_size_8abf5
theorem dX3_needRoomForThing_0 : decode cX3_needRoomForThing 0 = .ok (.aload_n 0, 1) := by decide +kernel
theorem dX3_needRoomForThing_1 : decode cX3_needRoomForThing 1 = .ok (.getfield 25, 3) := by decide +kernel
theorem dX3_needRoomForThing_4 : decode cX3_needRoomForThing 4 = .ok (.invokevirtual 126, 3) := by decide +kernel
theorem dX3_needRoomForThing_7 : decode cX3_needRoomForThing 7 = .ok (.bipush 40, 2) := by decide +kernel
theorem dX3_needRoomForThing_9 : decode cX3_needRoomForThing 9 = .ok (.if_icmp .lt 13, 3) := by decide +kernel
theorem dX3_needRoomForThing_12 : decode cX3_needRoomForThing 12 = .ok (.new 55, 3) := by decide +kernel
theorem dX3_needRoomForThing_15 : decode cX3_needRoomForThing 15 = .ok (.dup, 1) := by decide +kernel
theorem dX3_needRoomForThing_16 : decode cX3_needRoomForThing 16 = .ok (.ldc 253, 2) := by decide +kernel
theorem dX3_needRoomForThing_18 : decode cX3_needRoomForThing 18 = .ok (.invokespecial 59, 3) := by decide +kernel
theorem dX3_needRoomForThing_21 : decode cX3_needRoomForThing 21 = .ok (.athrow, 1) := by decide +kernel
theorem dX3_needRoomForThing_22 : decode cX3_needRoomForThing 22 = .ok (.return_, 1) := by decide +kernel
set_option maxRecDepth 20000 in
theorem ggX3_contentOfPoint_X0_init : GoodIn wsX3_contentOfPoint wsX0_init := goodIn_r _ [7, 8, 9, 10, 11, 12, 13, 14, 15, 16, 17, 18] (by decide +kernel) (by decide +kernel)
set_option maxRecDepth 20000 in
theorem gX3_contentOfPoint_X0_init : GoodIn wsX3_contentOfPoint (wsX0_init) := ggX3_contentOfPoint_X0_init
theorem dX3_contentOfPoint_0 : decode cX3_contentOfPoint 0 = .ok (.new 13, 3) := by decide +kernel
theorem dX3_contentOfPoint_3 : decode cX3_contentOfPoint 3 = .ok (.dup, 1) := by decide +kernel
theorem dX3_contentOfPoint_4 : decode cX3_contentOfPoint 4 = .ok (.iconst 1, 1) := by decide +kernel
theorem dX3_contentOfPoint_5 : decode cX3_contentOfPoint 5 = .ok (.iload_n 1, 1) := by decide +kernel
theorem dX3_contentOfPoint_6 : decode cX3_contentOfPoint 6 = .ok (.iload_n 2, 1) := by decide +kernel
theorem dX3_contentOfPoint_7 : decode cX3_contentOfPoint 7 = .ok (.aload_n 0, 1) := by decide +kernel
theorem dX3_contentOfPoint_8 : decode cX3_contentOfPoint 8 = .ok (.getfield 7, 3) := by decide +kernel
theorem dX3_contentOfPoint_11 : decode cX3_contentOfPoint 11 = .ok (.invokespecial 15, 3) := by decide +kernel
theorem dX3_contentOfPoint_14 : decode cX3_contentOfPoint 14 = .ok (.areturn, 1) := by decide +kernel
set_option maxRecDepth 20000 in
theorem ggX3_contentOfDraft_J7_copyOf_59c91 : GoodIn wsX3_contentOfDraft wsJ7_copyOf_59c91 := goodIn_r _ [9, 10, 11, 12, 13, 14, 15, 16, 17, 18, 19, 20, 21, 22, 23, 24] (by decide +kernel) (by decide +kernel)
set_option maxRecDepth 20000 in
theorem gX3_contentOfDraft_J7_copyOf_59c91 : GoodIn wsX3_contentOfDraft (va_wsS RX3 255 yJ7_copyOf_59c91 wsJ7_copyOf_59c91) := goodIn_app (goodIn_of _ (by decide +kernel)) ggX3_contentOfDraft_J7_copyOf_59c91
set_option maxRecDepth 20000 in
theorem ggX3_contentOfDraft_X0_init : GoodIn wsX3_contentOfDraft wsX0_init := goodIn_r _ [27, 28, 29, 30, 31, 32, 33, 34, 35, 36, 37, 38] (by decide +kernel) (by decide +kernel)
set_option maxRecDepth 20000 in
theorem gX3_contentOfDraft_X0_init : GoodIn wsX3_contentOfDraft (wsX0_init) := ggX3_contentOfDraft_X0_init
theorem dX3_contentOfDraft_0 : decode cX3_contentOfDraft 0 = .ok (.new 13, 3) := by decide +kernel
theorem dX3_contentOfDraft_3 : decode cX3_contentOfDraft 3 = .ok (.dup, 1) := by decide +kernel
theorem dX3_contentOfDraft_4 : decode cX3_contentOfDraft 4 = .ok (.iconst 1, 1) := by decide +kernel
theorem dX3_contentOfDraft_5 : decode cX3_contentOfDraft 5 = .ok (.iconst 0, 1) := by decide +kernel
theorem dX3_contentOfDraft_6 : decode cX3_contentOfDraft 6 = .ok (.iconst 0, 1) := by decide +kernel
theorem dX3_contentOfDraft_7 : decode cX3_contentOfDraft 7 = .ok (.aload_n 0, 1) := by decide +kernel
theorem dX3_contentOfDraft_8 : decode cX3_contentOfDraft 8 = .ok (.getfield 36, 3) := by decide +kernel
theorem dX3_contentOfDraft_11 : decode cX3_contentOfDraft 11 = .ok (.aload_n 0, 1) := by decide +kernel
theorem dX3_contentOfDraft_12 : decode cX3_contentOfDraft 12 = .ok (.getfield 43, 3) := by decide +kernel
theorem dX3_contentOfDraft_15 : decode cX3_contentOfDraft 15 = .ok (.invokestatic 255, 3) := by decide +kernel
theorem dX3_contentOfDraft_18 : decode cX3_contentOfDraft 18 = .ok (.invokespecial 15, 3) := by decide +kernel
theorem dX3_contentOfDraft_21 : decode cX3_contentOfDraft 21 = .ok (.areturn, 1) := by decide +kernel
set_option maxRecDepth 20000 in
theorem ggX3_addThing_X3_newVersion : GoodIn wsX3_addThing wsX3_newVersion := goodIn_r _ [9, 10, 11, 12, 13, 14, 15, 16, 17, 18, 19, 20, 21, 22, 23, 24, 25, 26, 27, 94, 95, 96, 97, 98, 99, 100, 101, 102, 103, 104, 107, 108, 109, 110, 111, 112] (by decide +kernel) (by decide +kernel)
set_option maxRecDepth 20000 in
theorem gX3_addThing_X3_newVersion : GoodIn wsX3_addThing (wsV RX3 261 RX3 yX3_newVersion wsX3_newVersion) := goodIn_app (goodIn_of _ (by decide +kernel)) ggX3_addThing_X3_newVersion
set_option maxRecDepth 20000 in
theorem ggX3_addThing_X1_init : GoodIn wsX3_addThing wsX1_init := goodIn_r _ [30, 31, 20, 21, 32, 33, 105, 106] (by decide +kernel) (by decide +kernel)
set_option maxRecDepth 20000 in
theorem gX3_addThing_X1_init : GoodIn wsX3_addThing (wsX1_init) := ggX3_addThing_X1_init
set_option maxRecDepth 20000 in
theorem ggX3_addThing_Jx4a65c_add_9ea2d : GoodIn wsX3_addThing wsJx4a65c_add_9ea2d := goodIn_r _ [38, 39, 40, 41, 42, 43, 44, 45, 37, 46, 47, 48, 49, 50, 51, 52, 53, 54, 55, 56, 57, 58, 59, 60, 61, 62, 63, 64, 65, 66, 67, 68, 69, 70, 71, 72, 73, 74, 75, 76, 77, 78, 79, 80, 81, 82, 83, 84, 85, 86, 87, 88, 89, 113, 114, 115] (by decide +kernel) (by decide +kernel)
set_option maxRecDepth 20000 in
theorem gX3_addThing_Jx4a65c_add_9ea2d : GoodIn wsX3_addThing (wsV RX3 268 RJx4a65c yJx4a65c_add_9ea2d wsJx4a65c_add_9ea2d) := goodIn_app (goodIn_of _ (by decide +kernel)) ggX3_addThing_Jx4a65c_add_9ea2d
set_option maxRecDepth 20000 in
theorem ggX3_addThing_Jx4a65c_size_8abf5 : GoodIn wsX3_addThing wsJx4a65c_size_8abf5 := goodIn_r _ [93, 42, 113, 114, 115] (by decide +kernel) (by decide +kernel)
set_option maxRecDepth 20000 in
theorem gX3_addThing_Jx4a65c_size_8abf5 : GoodIn wsX3_addThing (wsV RX3 126 RJx4a65c yJx4a65c_size_8abf5 wsJx4a65c_size_8abf5) := goodIn_app (goodIn_of _ (by decide +kernel)) ggX3_addThing_Jx4a65c_size_8abf5
theorem dX3_addThing_0 : decode cX3_addThing 0 = .ok (.aload_n 0, 1) := by decide +kernel
theorem dX3_addThing_1 : decode cX3_addThing 1 = .ok (.getfield 25, 3) := by decide +kernel
theorem dX3_addThing_4 : decode cX3_addThing 4 = .ok (.new 111, 3) := by decide +kernel
theorem dX3_addThing_7 : decode cX3_addThing 7 = .ok (.dup, 1) := by decide +kernel
theorem dX3_addThing_8 : decode cX3_addThing 8 = .ok (.iload_n 2, 1) := by decide +kernel
theorem dX3_addThing_9 : decode cX3_addThing 9 = .ok (.aload_n 0, 1) := by decide +kernel
theorem dX3_addThing_10 : decode cX3_addThing 10 = .ok (.aconst_null, 1) := by decide +kernel
theorem dX3_addThing_11 : decode cX3_addThing 11 = .ok (.iload_n 1, 1) := by decide +kernel
theorem dX3_addThing_12 : decode cX3_addThing 12 = .ok (.aload_n 3, 1) := by decide +kernel
theorem dX3_addThing_13 : decode cX3_addThing 13 = .ok (.invokevirtual 261, 3) := by decide +kernel
theorem dX3_addThing_16 : decode cX3_addThing 16 = .ok (.invokespecial 265, 3) := by decide +kernel
theorem dX3_addThing_19 : decode cX3_addThing 19 = .ok (.invokevirtual 268, 3) := by decide +kernel
theorem dX3_addThing_22 : decode cX3_addThing 22 = .ok (.pop, 1) := by decide +kernel
theorem dX3_addThing_23 : decode cX3_addThing 23 = .ok (.aload_n 0, 1) := by decide +kernel
theorem dX3_addThing_24 : decode cX3_addThing 24 = .ok (.getfield 25, 3) := by decide +kernel
theorem dX3_addThing_27 : decode cX3_addThing 27 = .ok (.invokevirtual 126, 3) := by decide +kernel
theorem dX3_addThing_30 : decode cX3_addThing 30 = .ok (.iconst 1, 1) := by decide +kernel
theorem dX3_addThing_31 : decode cX3_addThing 31 = .ok (.isub, 1) := by decide +kernel
theorem dX3_addThing_32 : decode cX3_addThing 32 = .ok (.ireturn, 1) := by decide +kernel
set_option maxRecDepth 20000 in
theorem ggX3_addVersion_X3_newVersion : GoodIn wsX3_addVersion wsX3_newVersion := goodIn_r _ [7, 8, 9, 10, 11, 12, 13, 14, 15, 16, 17, 18, 19, 20, 21, 22, 23, 24, 25, 34, 35, 36, 37, 38, 39, 40, 41, 42, 43, 44, 28, 29, 30, 31, 32, 33] (by decide +kernel) (by decide +kernel)
set_option maxRecDepth 20000 in
theorem gX3_addVersion_X3_newVersion : GoodIn wsX3_addVersion (wsV RX3 261 RX3 yX3_newVersion wsX3_newVersion) := goodIn_app (goodIn_of _ (by decide +kernel)) ggX3_addVersion_X3_newVersion
theorem dX3_addVersion_0 : decode cX3_addVersion 0 = .ok (.aload_n 2, 1) := by decide +kernel
theorem dX3_addVersion_1 : decode cX3_addVersion 1 = .ok (.aload_n 0, 1) := by decide +kernel
theorem dX3_addVersion_2 : decode cX3_addVersion 2 = .ok (.aload_n 2, 1) := by decide +kernel
theorem dX3_addVersion_3 : decode cX3_addVersion 3 = .ok (.getfield 138, 3) := by decide +kernel
theorem dX3_addVersion_6 : decode cX3_addVersion 6 = .ok (.iload_n 1, 1) := by decide +kernel
theorem dX3_addVersion_7 : decode cX3_addVersion 7 = .ok (.aload_n 3, 1) := by decide +kernel
theorem dX3_addVersion_8 : decode cX3_addVersion 8 = .ok (.invokevirtual 261, 3) := by decide +kernel
theorem dX3_addVersion_11 : decode cX3_addVersion 11 = .ok (.putfield 138, 3) := by decide +kernel
theorem dX3_addVersion_14 : decode cX3_addVersion 14 = .ok (.aload_n 2, 1) := by decide +kernel
theorem dX3_addVersion_15 : decode cX3_addVersion 15 = .ok (.getfield 138, 3) := by decide +kernel
theorem dX3_addVersion_18 : decode cX3_addVersion 18 = .ok (.getfield 142, 3) := by decide +kernel
theorem dX3_addVersion_21 : decode cX3_addVersion 21 = .ok (.ireturn, 1) := by decide +kernel
set_option maxRecDepth 20000 in
theorem ggX3_newVersion_X2_init : GoodIn wsX3_newVersion wsX2_init := goodIn_r _ [9, 10, 11, 12, 13, 14, 15, 16, 17, 18, 30, 31, 32, 33, 34, 35] (by decide +kernel) (by decide +kernel)
set_option maxRecDepth 20000 in
theorem gX3_newVersion_X2_init : GoodIn wsX3_newVersion (wsX2_init) := ggX3_newVersion_X2_init
theorem dX3_newVersion_0 : decode cX3_newVersion 0 = .ok (.aload_n 0, 1) := by decide +kernel
theorem dX3_newVersion_1 : decode cX3_newVersion 1 = .ok (.dup, 1) := by decide +kernel
theorem dX3_newVersion_2 : decode cX3_newVersion 2 = .ok (.getfield 46, 3) := by decide +kernel
theorem dX3_newVersion_5 : decode cX3_newVersion 5 = .ok (.iconst 1, 1) := by decide +kernel
theorem dX3_newVersion_6 : decode cX3_newVersion 6 = .ok (.iadd, 1) := by decide +kernel
theorem dX3_newVersion_7 : decode cX3_newVersion 7 = .ok (.putfield 46, 3) := by decide +kernel
theorem dX3_newVersion_10 : decode cX3_newVersion 10 = .ok (.aload_n 0, 1) := by decide +kernel
theorem dX3_newVersion_11 : decode cX3_newVersion 11 = .ok (.getfield 33, 3) := by decide +kernel
theorem dX3_newVersion_14 : decode cX3_newVersion 14 = .ok (.iload_n 2, 1) := by decide +kernel
theorem dX3_newVersion_15 : decode cX3_newVersion 15 = .ok (.dup2, 1) := by decide +kernel
theorem dX3_newVersion_16 : decode cX3_newVersion 16 = .ok (.iaload, 1) := by decide +kernel
theorem dX3_newVersion_17 : decode cX3_newVersion 17 = .ok (.iconst 1, 1) := by decide +kernel
theorem dX3_newVersion_18 : decode cX3_newVersion 18 = .ok (.iadd, 1) := by decide +kernel
theorem dX3_newVersion_19 : decode cX3_newVersion 19 = .ok (.iastore, 1) := by decide +kernel
theorem dX3_newVersion_20 : decode cX3_newVersion 20 = .ok (.new 143, 3) := by decide +kernel
theorem dX3_newVersion_23 : decode cX3_newVersion 23 = .ok (.dup, 1) := by decide +kernel
theorem dX3_newVersion_24 : decode cX3_newVersion 24 = .ok (.aload_n 1, 1) := by decide +kernel
theorem dX3_newVersion_25 : decode cX3_newVersion 25 = .ok (.iload_n 2, 1) := by decide +kernel
theorem dX3_newVersion_26 : decode cX3_newVersion 26 = .ok (.aload_n 0, 1) := by decide +kernel
theorem dX3_newVersion_27 : decode cX3_newVersion 27 = .ok (.getfield 49, 3) := by decide +kernel
theorem dX3_newVersion_30 : decode cX3_newVersion 30 = .ok (.aload_n 3, 1) := by decide +kernel
theorem dX3_newVersion_31 : decode cX3_newVersion 31 = .ok (.invokespecial 272, 3) := by decide +kernel
theorem dX3_newVersion_34 : decode cX3_newVersion 34 = .ok (.areturn, 1) := by decide +kernel
set_option maxRecDepth 20000 in
theorem ggX3_edit_Jx4a65c_get_915e3 : GoodIn wsX3_edit wsJx4a65c_get_915e3 := goodIn_r _ [11, 12, 13, 14, 15, 16, 17, 18, 19, 20, 21, 22, 23, 10, 24, 25, 119, 120, 121] (by decide +kernel) (by decide +kernel)
set_option maxRecDepth 20000 in
theorem gX3_edit_Jx4a65c_get_915e3 : GoodIn wsX3_edit (wsV RX3 107 RJx4a65c yJx4a65c_get_915e3 wsJx4a65c_get_915e3) := goodIn_app (goodIn_of _ (by decide +kernel)) ggX3_edit_Jx4a65c_get_915e3
set_option maxRecDepth 20000 in
theorem ggX3_edit_X3_refusalOf : GoodIn wsX3_edit wsX3_refusalOf := goodIn_r _ [30, 5, 1, 2, 31, 32, 33, 34, 29, 35, 36, 37, 38, 39, 3, 4, 40, 41, 42, 10, 43, 12, 7, 8, 9, 11, 13, 14, 15, 16, 17, 18, 19, 20, 21, 22, 23, 24, 25, 44, 45, 46, 47, 48, 49, 50, 51, 52, 53, 54, 55, 56, 57, 58, 59, 60, 61, 62, 63, 64, 65, 66, 67, 68, 69, 115, 116, 117, 118, 96, 97, 98, 99, 100, 101, 102, 103, 104, 105, 106, 107, 108, 109, 110, 111, 112, 113, 114, 119, 120, 121] (by decide +kernel) (by decide +kernel)
set_option maxRecDepth 20000 in
theorem gX3_edit_X3_refusalOf : GoodIn wsX3_edit (wsV RX3 275 RX3 yX3_refusalOf wsX3_refusalOf) := goodIn_app (goodIn_of _ (by decide +kernel)) ggX3_edit_X3_refusalOf
set_option maxRecDepth 20000 in
theorem ggX3_edit_X3_addVersion : GoodIn wsX3_edit wsX3_addVersion := goodIn_r _ [73, 3, 6, 74, 75, 76, 29, 77, 78, 79, 80, 81, 82, 83, 84, 85, 86, 87, 88, 89, 90, 91, 92, 93, 94, 95, 107, 108, 109, 110, 111, 112, 113, 114, 96, 97, 98, 99, 100, 101, 102, 103, 104, 105, 106] (by decide +kernel) (by decide +kernel)
set_option maxRecDepth 20000 in
theorem gX3_edit_X3_addVersion : GoodIn wsX3_edit (wsV RX3 279 RX3 yX3_addVersion wsX3_addVersion) := goodIn_app (goodIn_of _ (by decide +kernel)) ggX3_edit_X3_addVersion
theorem dX3_edit_0 : decode cX3_edit 0 = .ok (.aload_n 0, 1) := by decide +kernel
theorem dX3_edit_1 : decode cX3_edit 1 = .ok (.getfield 25, 3) := by decide +kernel
theorem dX3_edit_4 : decode cX3_edit 4 = .ok (.iload_n 2, 1) := by decide +kernel
theorem dX3_edit_5 : decode cX3_edit 5 = .ok (.invokevirtual 107, 3) := by decide +kernel
theorem dX3_edit_8 : decode cX3_edit 8 = .ok (.checkcast 111, 3) := by decide +kernel
theorem dX3_edit_11 : decode cX3_edit 11 = .ok (.astore 5, 2) := by decide +kernel
theorem dX3_edit_13 : decode cX3_edit 13 = .ok (.aload 5, 2) := by decide +kernel
theorem dX3_edit_15 : decode cX3_edit 15 = .ok (.getfield 138, 3) := by decide +kernel
theorem dX3_edit_18 : decode cX3_edit 18 = .ok (.getfield 151, 3) := by decide +kernel
theorem dX3_edit_21 : decode cX3_edit 21 = .ok (.getfield 154, 3) := by decide +kernel
