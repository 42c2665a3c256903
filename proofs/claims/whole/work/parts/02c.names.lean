theorem dX0_init_0 : decode cX0_init 0 = .ok (.aload_n 0, 1) := by decide +kernel
theorem dX0_init_1 : decode cX0_init 1 = .ok (.invokespecial 1, 3) := by decide +kernel
theorem dX0_init_4 : decode cX0_init 4 = .ok (.aload_n 0, 1) := by decide +kernel
theorem dX0_init_5 : decode cX0_init 5 = .ok (.iload_n 1, 1) := by decide +kernel
theorem dX0_init_6 : decode cX0_init 6 = .ok (.putfield 7, 3) := by decide +kernel
theorem dX0_init_9 : decode cX0_init 9 = .ok (.aload_n 0, 1) := by decide +kernel
theorem dX0_init_10 : decode cX0_init 10 = .ok (.iload_n 2, 1) := by decide +kernel
theorem dX0_init_11 : decode cX0_init 11 = .ok (.putfield 13, 3) := by decide +kernel
theorem dX0_init_14 : decode cX0_init 14 = .ok (.aload_n 0, 1) := by decide +kernel
theorem dX0_init_15 : decode cX0_init 15 = .ok (.iload_n 3, 1) := by decide +kernel
theorem dX0_init_16 : decode cX0_init 16 = .ok (.putfield 17, 3) := by decide +kernel
theorem dX0_init_19 : decode cX0_init 19 = .ok (.aload_n 0, 1) := by decide +kernel
theorem dX0_init_20 : decode cX0_init 20 = .ok (.aload 4, 2) := by decide +kernel
theorem dX0_init_22 : decode cX0_init 22 = .ok (.putfield 20, 3) := by decide +kernel
theorem dX0_init_25 : decode cX0_init 25 = .ok (.return_, 1) := by decide +kernel
theorem dX1_init_0 : decode cX1_init 0 = .ok (.aload_n 0, 1) := by decide +kernel
theorem dX1_init_1 : decode cX1_init 1 = .ok (.invokespecial 1, 3) := by decide +kernel
theorem dX1_init_4 : decode cX1_init 4 = .ok (.aload_n 0, 1) := by decide +kernel
theorem dX1_init_5 : decode cX1_init 5 = .ok (.iload_n 1, 1) := by decide +kernel
theorem dX1_init_6 : decode cX1_init 6 = .ok (.putfield 7, 3) := by decide +kernel
theorem dX1_init_9 : decode cX1_init 9 = .ok (.aload_n 0, 1) := by decide +kernel
theorem dX1_init_10 : decode cX1_init 10 = .ok (.aload_n 2, 1) := by decide +kernel
theorem dX1_init_11 : decode cX1_init 11 = .ok (.putfield 13, 3) := by decide +kernel
theorem dX1_init_14 : decode cX1_init 14 = .ok (.return_, 1) := by decide +kernel
theorem dX2_init_0 : decode cX2_init 0 = .ok (.aload_n 0, 1) := by decide +kernel
theorem dX2_init_1 : decode cX2_init 1 = .ok (.invokespecial 1, 3) := by decide +kernel
theorem dX2_init_4 : decode cX2_init 4 = .ok (.aload_n 0, 1) := by decide +kernel
theorem dX2_init_5 : decode cX2_init 5 = .ok (.aload_n 1, 1) := by decide +kernel
theorem dX2_init_6 : decode cX2_init 6 = .ok (.putfield 7, 3) := by decide +kernel
theorem dX2_init_9 : decode cX2_init 9 = .ok (.aload_n 0, 1) := by decide +kernel
theorem dX2_init_10 : decode cX2_init 10 = .ok (.aload_n 1, 1) := by decide +kernel
theorem dX2_init_11 : decode cX2_init 11 = .ok (.ifnonnull 7, 3) := by decide +kernel
theorem dX2_init_14 : decode cX2_init 14 = .ok (.iconst 1, 1) := by decide +kernel
theorem dX2_init_15 : decode cX2_init 15 = .ok (.goto 9, 3) := by decide +kernel
theorem dX2_init_18 : decode cX2_init 18 = .ok (.aload_n 1, 1) := by decide +kernel
theorem dX2_init_19 : decode cX2_init 19 = .ok (.getfield 13, 3) := by decide +kernel
theorem dX2_init_22 : decode cX2_init 22 = .ok (.iconst 1, 1) := by decide +kernel
theorem dX2_init_23 : decode cX2_init 23 = .ok (.iadd, 1) := by decide +kernel
theorem dX2_init_24 : decode cX2_init 24 = .ok (.putfield 13, 3) := by decide +kernel
theorem dX2_init_27 : decode cX2_init 27 = .ok (.aload_n 0, 1) := by decide +kernel
theorem dX2_init_28 : decode cX2_init 28 = .ok (.iload_n 2, 1) := by decide +kernel
theorem dX2_init_29 : decode cX2_init 29 = .ok (.putfield 17, 3) := by decide +kernel
theorem dX2_init_32 : decode cX2_init 32 = .ok (.aload_n 0, 1) := by decide +kernel
theorem dX2_init_33 : decode cX2_init 33 = .ok (.iload_n 3, 1) := by decide +kernel
theorem dX2_init_34 : decode cX2_init 34 = .ok (.putfield 20, 3) := by decide +kernel
theorem dX2_init_37 : decode cX2_init 37 = .ok (.aload_n 0, 1) := by decide +kernel
theorem dX2_init_38 : decode cX2_init 38 = .ok (.aload 4, 2) := by decide +kernel
theorem dX2_init_40 : decode cX2_init 40 = .ok (.putfield 23, 3) := by decide +kernel
theorem dX2_init_43 : decode cX2_init 43 = .ok (.aload_n 0, 1) := by decide +kernel
theorem dX2_init_44 : decode cX2_init 44 = .ok (.iconst 0, 1) := by decide +kernel
theorem dX2_init_45 : decode cX2_init 45 = .ok (.putfield 27, 3) := by decide +kernel
theorem dX2_init_48 : decode cX2_init 48 = .ok (.return_, 1) := by decide +kernel
set_option maxRecDepth 20000 in
theorem ggX3_init_X0_init : GoodIn wsX3_init wsX0_init := goodIn_r _ [25, 26, 2, 3, 27, 28, 29, 30, 57, 58, 59, 60] (by decide +kernel) (by decide +kernel)
set_option maxRecDepth 20000 in
theorem gX3_init_X0_init : GoodIn wsX3_init (wsX0_init) := ggX3_init_X0_init
set_option maxRecDepth 20000 in
theorem ggX3_init_Jx4a65c_init_da8c8 : GoodIn wsX3_init wsJx4a65c_init_da8c8 := goodIn_r _ [33, 34, 35, 36, 37, 38, 39, 40, 41, 42, 43, 44, 45, 2, 3, 61, 62, 63] (by decide +kernel) (by decide +kernel)
set_option maxRecDepth 20000 in
theorem gX3_init_Jx4a65c_init_da8c8 : GoodIn wsX3_init (wsJx4a65c_init_da8c8) := ggX3_init_Jx4a65c_init_da8c8
theorem dX3_init_0 : decode cX3_init 0 = .ok (.aload_n 0, 1) := by decide +kernel
theorem dX3_init_1 : decode cX3_init 1 = .ok (.invokespecial 1, 3) := by decide +kernel
theorem dX3_init_4 : decode cX3_init 4 = .ok (.aload_n 0, 1) := by decide +kernel
theorem dX3_init_5 : decode cX3_init 5 = .ok (.iconst 0, 1) := by decide +kernel
theorem dX3_init_6 : decode cX3_init 6 = .ok (.newarray .int, 2) := by decide +kernel
theorem dX3_init_8 : decode cX3_init 8 = .ok (.putfield 7, 3) := by decide +kernel
theorem dX3_init_11 : decode cX3_init 11 = .ok (.aload_n 0, 1) := by decide +kernel
theorem dX3_init_12 : decode cX3_init 12 = .ok (.new 13, 3) := by decide +kernel
theorem dX3_init_15 : decode cX3_init 15 = .ok (.dup, 1) := by decide +kernel
theorem dX3_init_16 : decode cX3_init 16 = .ok (.iconst 0, 1) := by decide +kernel
theorem dX3_init_17 : decode cX3_init 17 = .ok (.iconst 0, 1) := by decide +kernel
theorem dX3_init_18 : decode cX3_init 18 = .ok (.iconst 0, 1) := by decide +kernel
theorem dX3_init_19 : decode cX3_init 19 = .ok (.aload_n 0, 1) := by decide +kernel
theorem dX3_init_20 : decode cX3_init 20 = .ok (.getfield 7, 3) := by decide +kernel
theorem dX3_init_23 : decode cX3_init 23 = .ok (.invokespecial 15, 3) := by decide +kernel
theorem dX3_init_26 : decode cX3_init 26 = .ok (.putfield 18, 3) := by decide +kernel
theorem dX3_init_29 : decode cX3_init 29 = .ok (.aload_n 0, 1) := by decide +kernel
theorem dX3_init_30 : decode cX3_init 30 = .ok (.new 22, 3) := by decide +kernel
theorem dX3_init_33 : decode cX3_init 33 = .ok (.dup, 1) := by decide +kernel
theorem dX3_init_34 : decode cX3_init 34 = .ok (.invokespecial 24, 3) := by decide +kernel
theorem dX3_init_37 : decode cX3_init 37 = .ok (.putfield 25, 3) := by decide +kernel
theorem dX3_init_40 : decode cX3_init 40 = .ok (.aload_n 0, 1) := by decide +kernel
theorem dX3_init_41 : decode cX3_init 41 = .ok (.bipush 20, 2) := by decide +kernel
theorem dX3_init_43 : decode cX3_init 43 = .ok (.newarray .boolean, 2) := by decide +kernel
theorem dX3_init_45 : decode cX3_init 45 = .ok (.putfield 29, 3) := by decide +kernel
theorem dX3_init_48 : decode cX3_init 48 = .ok (.aload_n 0, 1) := by decide +kernel
theorem dX3_init_49 : decode cX3_init 49 = .ok (.bipush 20, 2) := by decide +kernel
theorem dX3_init_51 : decode cX3_init 51 = .ok (.newarray .int, 2) := by decide +kernel
theorem dX3_init_53 : decode cX3_init 53 = .ok (.putfield 33, 3) := by decide +kernel
theorem dX3_init_56 : decode cX3_init 56 = .ok (.aload_n 0, 1) := by decide +kernel
theorem dX3_init_57 : decode cX3_init 57 = .ok (.bipush 6, 2) := by decide +kernel
theorem dX3_init_59 : decode cX3_init 59 = .ok (.newarray .int, 2) := by decide +kernel
theorem dX3_init_61 : decode cX3_init 61 = .ok (.putfield 36, 3) := by decide +kernel
theorem dX3_init_64 : decode cX3_init 64 = .ok (.aload_n 0, 1) := by decide +kernel
theorem dX3_init_65 : decode cX3_init 65 = .ok (.iconst 0, 1) := by decide +kernel
theorem dX3_init_66 : decode cX3_init 66 = .ok (.putfield 39, 3) := by decide +kernel
theorem dX3_init_69 : decode cX3_init 69 = .ok (.aload_n 0, 1) := by decide +kernel
theorem dX3_init_70 : decode cX3_init 70 = .ok (.iconst 0, 1) := by decide +kernel
theorem dX3_init_71 : decode cX3_init 71 = .ok (.putfield 43, 3) := by decide +kernel
theorem dX3_init_74 : decode cX3_init 74 = .ok (.aload_n 0, 1) := by decide +kernel
theorem dX3_init_75 : decode cX3_init 75 = .ok (.iconst 0, 1) := by decide +kernel
theorem dX3_init_76 : decode cX3_init 76 = .ok (.putfield 46, 3) := by decide +kernel
theorem dX3_init_79 : decode cX3_init 79 = .ok (.aload_n 0, 1) := by decide +kernel
theorem dX3_init_80 : decode cX3_init 80 = .ok (.iconst 0, 1) := by decide +kernel
theorem dX3_init_81 : decode cX3_init 81 = .ok (.putfield 49, 3) := by decide +kernel
theorem dX3_init_84 : decode cX3_init 84 = .ok (.aload_n 0, 1) := by decide +kernel
theorem dX3_init_85 : decode cX3_init 85 = .ok (.iconst 0, 1) := by decide +kernel
theorem dX3_init_86 : decode cX3_init 86 = .ok (.putfield 52, 3) := by decide +kernel
theorem dX3_init_89 : decode cX3_init 89 = .ok (.return_, 1) := by decide +kernel
theorem dX3_open_0 : decode cX3_open 0 = .ok (.aload_n 0, 1) := by decide +kernel
theorem dX3_open_1 : decode cX3_open 1 = .ok (.getfield 39, 3) := by decide +kernel
theorem dX3_open_4 : decode cX3_open 4 = .ok (.bipush 20, 2) := by decide +kernel
theorem dX3_open_6 : decode cX3_open 6 = .ok (.if_icmp .lt 13, 3) := by decide +kernel
theorem dX3_open_9 : decode cX3_open 9 = .ok (.new 55, 3) := by decide +kernel
theorem dX3_open_12 : decode cX3_open 12 = .ok (.dup, 1) := by decide +kernel
theorem dX3_open_13 : decode cX3_open 13 = .ok (.ldc 57, 2) := by decide +kernel
theorem dX3_open_15 : decode cX3_open 15 = .ok (.invokespecial 59, 3) := by decide +kernel
theorem dX3_open_18 : decode cX3_open 18 = .ok (.athrow, 1) := by decide +kernel
theorem dX3_open_19 : decode cX3_open 19 = .ok (.aload_n 0, 1) := by decide +kernel
theorem dX3_open_20 : decode cX3_open 20 = .ok (.dup, 1) := by decide +kernel
theorem dX3_open_21 : decode cX3_open 21 = .ok (.getfield 39, 3) := by decide +kernel
theorem dX3_open_24 : decode cX3_open 24 = .ok (.iconst 1, 1) := by decide +kernel
theorem dX3_open_25 : decode cX3_open 25 = .ok (.iadd, 1) := by decide +kernel
theorem dX3_open_26 : decode cX3_open 26 = .ok (.putfield 39, 3) := by decide +kernel
theorem dX3_open_29 : decode cX3_open 29 = .ok (.aload_n 0, 1) := by decide +kernel
theorem dX3_open_30 : decode cX3_open 30 = .ok (.getfield 39, 3) := by decide +kernel
theorem dX3_open_33 : decode cX3_open 33 = .ok (.iconst 1, 1) := by decide +kernel
theorem dX3_open_34 : decode cX3_open 34 = .ok (.isub, 1) := by decide +kernel
theorem dX3_open_35 : decode cX3_open 35 = .ok (.ireturn, 1) := by decide +kernel
set_option maxRecDepth 20000 in
theorem ggX3_close_X3_needSet : GoodIn wsX3_close wsX3_needSet := goodIn_ca (goodIn_r _ [9, 10, 11, 12, 13, 14, 15, 16, 17, 18, 19, 20, 21, 22, 23] (by decide +kernel) (by decide +kernel)) (goodIn_sub (fun _ h => List.mem_cons_of_mem _ (List.mem_append_right _ h)) (by decide +kernel))
set_option maxRecDepth 20000 in
theorem gX3_close_X3_needSet : GoodIn wsX3_close (wsV RX3 62 RX3 yX3_needSet wsX3_needSet) := goodIn_app (goodIn_of _ (by decide +kernel)) ggX3_close_X3_needSet
theorem dX3_close_0 : decode cX3_close 0 = .ok (.aload_n 0, 1) := by decide +kernel
theorem dX3_close_1 : decode cX3_close 1 = .ok (.iload_n 1, 1) := by decide +kernel
theorem dX3_close_2 : decode cX3_close 2 = .ok (.invokevirtual 62, 3) := by decide +kernel
theorem dX3_close_5 : decode cX3_close 5 = .ok (.aload_n 0, 1) := by decide +kernel
theorem dX3_close_6 : decode cX3_close 6 = .ok (.getfield 29, 3) := by decide +kernel
theorem dX3_close_9 : decode cX3_close 9 = .ok (.iload_n 1, 1) := by decide +kernel
theorem dX3_close_10 : decode cX3_close 10 = .ok (.baload, 1) := by decide +kernel
theorem dX3_close_11 : decode cX3_close 11 = .ok (.ifCond .eq 13, 3) := by decide +kernel
theorem dX3_close_14 : decode cX3_close 14 = .ok (.new 55, 3) := by decide +kernel
theorem dX3_close_17 : decode cX3_close 17 = .ok (.dup, 1) := by decide +kernel
theorem dX3_close_18 : decode cX3_close 18 = .ok (.ldc 66, 2) := by decide +kernel
theorem dX3_close_20 : decode cX3_close 20 = .ok (.invokespecial 59, 3) := by decide +kernel
theorem dX3_close_23 : decode cX3_close 23 = .ok (.athrow, 1) := by decide +kernel
theorem dX3_close_24 : decode cX3_close 24 = .ok (.aload_n 0, 1) := by decide +kernel
theorem dX3_close_25 : decode cX3_close 25 = .ok (.getfield 29, 3) := by decide +kernel
theorem dX3_close_28 : decode cX3_close 28 = .ok (.iload_n 1, 1) := by decide +kernel
theorem dX3_close_29 : decode cX3_close 29 = .ok (.iconst 1, 1) := by decide +kernel
theorem dX3_close_30 : decode cX3_close 30 = .ok (.bastore, 1) := by decide +kernel
theorem dX3_close_31 : decode cX3_close 31 = .ok (.aload_n 0, 1) := by decide +kernel
theorem dX3_close_32 : decode cX3_close 32 = .ok (.getfield 33, 3) := by decide +kernel
theorem dX3_close_35 : decode cX3_close 35 = .ok (.iload_n 1, 1) := by decide +kernel
theorem dX3_close_36 : decode cX3_close 36 = .ok (.iaload, 1) := by decide +kernel
theorem dX3_close_37 : decode cX3_close 37 = .ok (.ireturn, 1) := by decide +kernel
set_option maxRecDepth 20000 in
theorem ggX3_refer_X3_needThing : GoodIn wsX3_refer wsX3_needThing := goodIn_ca (goodIn_r _ [9, 10, 11, 12, 13, 14, 8, 15, 16, 17, 18, 19, 20, 21, 22, 23, 24, 25, 26, 27, 28, 29, 30, 31, 32, 33, 34, 35, 36] (by decide +kernel) (by decide +kernel)) (goodIn_sub (fun _ h => List.mem_cons_of_mem _ (List.mem_append_right _ h)) (by decide +kernel))
set_option maxRecDepth 20000 in
theorem gX3_refer_X3_needThing : GoodIn wsX3_refer (wsV RX3 68 RX3 yX3_needThing wsX3_needThing) := goodIn_app (goodIn_of _ (by decide +kernel)) ggX3_refer_X3_needThing
theorem dX3_refer_0 : decode cX3_refer 0 = .ok (.aload_n 0, 1) := by decide +kernel
theorem dX3_refer_1 : decode cX3_refer 1 = .ok (.iload_n 1, 1) := by decide +kernel
theorem dX3_refer_2 : decode cX3_refer 2 = .ok (.invokevirtual 68, 3) := by decide +kernel
theorem dX3_refer_5 : decode cX3_refer 5 = .ok (.aload_n 0, 1) := by decide +kernel
theorem dX3_refer_6 : decode cX3_refer 6 = .ok (.getfield 43, 3) := by decide +kernel
theorem dX3_refer_9 : decode cX3_refer 9 = .ok (.bipush 6, 2) := by decide +kernel
theorem dX3_refer_11 : decode cX3_refer 11 = .ok (.if_icmp .lt 13, 3) := by decide +kernel
theorem dX3_refer_14 : decode cX3_refer 14 = .ok (.new 55, 3) := by decide +kernel
theorem dX3_refer_17 : decode cX3_refer 17 = .ok (.dup, 1) := by decide +kernel
theorem dX3_refer_18 : decode cX3_refer 18 = .ok (.ldc 71, 2) := by decide +kernel
theorem dX3_refer_20 : decode cX3_refer 20 = .ok (.invokespecial 59, 3) := by decide +kernel
theorem dX3_refer_23 : decode cX3_refer 23 = .ok (.athrow, 1) := by decide +kernel
theorem dX3_refer_24 : decode cX3_refer 24 = .ok (.aload_n 0, 1) := by decide +kernel
theorem dX3_refer_25 : decode cX3_refer 25 = .ok (.getfield 36, 3) := by decide +kernel
theorem dX3_refer_28 : decode cX3_refer 28 = .ok (.aload_n 0, 1) := by decide +kernel
theorem dX3_refer_29 : decode cX3_refer 29 = .ok (.getfield 43, 3) := by decide +kernel
theorem dX3_refer_32 : decode cX3_refer 32 = .ok (.iload_n 1, 1) := by decide +kernel
theorem dX3_refer_33 : decode cX3_refer 33 = .ok (.iastore, 1) := by decide +kernel
theorem dX3_refer_34 : decode cX3_refer 34 = .ok (.aload_n 0, 1) := by decide +kernel
theorem dX3_refer_35 : decode cX3_refer 35 = .ok (.dup, 1) := by decide +kernel
theorem dX3_refer_36 : decode cX3_refer 36 = .ok (.getfield 43, 3) := by decide +kernel
theorem dX3_refer_39 : decode cX3_refer 39 = .ok (.iconst 1, 1) := by decide +kernel
theorem dX3_refer_40 : decode cX3_refer 40 = .ok (.iadd, 1) := by decide +kernel
theorem dX3_refer_41 : decode cX3_refer 41 = .ok (.putfield 43, 3) := by decide +kernel
theorem dX3_refer_44 : decode cX3_refer 44 = .ok (.aload_n 0, 1) := by decide +kernel
theorem dX3_refer_45 : decode cX3_refer 45 = .ok (.getfield 43, 3) := by decide +kernel
theorem dX3_refer_48 : decode cX3_refer 48 = .ok (.ireturn, 1) := by decide +kernel
theorem dX3_wipe_0 : decode cX3_wipe 0 = .ok (.aload_n 0, 1) := by decide +kernel
theorem dX3_wipe_1 : decode cX3_wipe 1 = .ok (.getfield 43, 3) := by decide +kernel
theorem dX3_wipe_4 : decode cX3_wipe 4 = .ok (.istore_n 1, 1) := by decide +kernel
theorem dX3_wipe_5 : decode cX3_wipe 5 = .ok (.aload_n 0, 1) := by decide +kernel
theorem dX3_wipe_6 : decode cX3_wipe 6 = .ok (.iconst 0, 1) := by decide +kernel
theorem dX3_wipe_7 : decode cX3_wipe 7 = .ok (.putfield 43, 3) := by decide +kernel
theorem dX3_wipe_10 : decode cX3_wipe 10 = .ok (.iload_n 1, 1) := by decide +kernel
theorem dX3_wipe_11 : decode cX3_wipe 11 = .ok (.ireturn, 1) := by decide +kernel
set_option maxRecDepth 20000 in
theorem ggX3_point_X3_needSet : GoodIn wsX3_point wsX3_needSet := goodIn_ca (goodIn_r _ [5, 6, 7, 8, 138, 139, 140, 141, 142, 143, 144, 145, 146, 147, 148] (by decide +kernel) (by decide +kernel)) (goodIn_sub (fun _ h => List.mem_cons_of_mem _ (List.mem_append_left _ (List.mem_append_left _ (List.mem_append_right _ h)))) (by decide +kernel))
set_option maxRecDepth 20000 in
theorem gX3_point_X3_needSet : GoodIn wsX3_point (wsV RX3 62 RX3 yX3_needSet wsX3_needSet) := goodIn_app (goodIn_of _ (by decide +kernel)) ggX3_point_X3_needSet
set_option maxRecDepth 20000 in
theorem ggX3_point_X3_needPlace : GoodIn wsX3_point wsX3_needPlace := goodIn_ca (goodIn_r _ [12, 13, 14] (by decide +kernel) (by decide +kernel)) (goodIn_sub (fun _ h => List.mem_cons_of_mem _ (List.mem_append_left _ (List.mem_append_right _ h))) (by decide +kernel))
set_option maxRecDepth 20000 in
theorem gX3_point_X3_needPlace : GoodIn wsX3_point (wsV RX3 73 RX3 yX3_needPlace wsX3_needPlace) := goodIn_app (goodIn_of _ (by decide +kernel)) ggX3_point_X3_needPlace
set_option maxRecDepth 20000 in
theorem ggX3_point_X3_needOpen : GoodIn wsX3_point wsX3_needOpen := goodIn_ca (goodIn_r _ [18, 19, 20, 21, 22, 138, 139, 140, 141, 142, 143, 144, 145, 146, 147, 148] (by decide +kernel) (by decide +kernel)) (goodIn_sub (fun _ h => List.mem_cons_of_mem _ (List.mem_append_right _ h)) (by decide +kernel))
set_option maxRecDepth 20000 in
theorem gX3_point_X3_needOpen : GoodIn wsX3_point (wsV RX3 77 RX3 yX3_needOpen wsX3_needOpen) := goodIn_app (goodIn_of _ (by decide +kernel)) ggX3_point_X3_needOpen
set_option maxRecDepth 20000 in
theorem ggX3_point_X3_needRoomForThing : GoodIn wsX3_point wsX3_needRoomForThing := goodIn_ca (goodIn_r _ [26, 19, 20, 27, 28, 29, 30, 31, 32, 33, 138, 139, 140, 141, 142, 143, 144, 145, 146, 147, 148, 149, 150, 151] (by decide +kernel) (by decide +kernel)) (goodIn_sub (fun _ h => List.mem_cons_of_mem _ (List.mem_append_right _ h)) (by decide +kernel))
set_option maxRecDepth 20000 in
theorem gX3_point_X3_needRoomForThing : GoodIn wsX3_point (wsV RX3 80 RX3 yX3_needRoomForThing wsX3_needRoomForThing) := goodIn_app (goodIn_of _ (by decide +kernel)) ggX3_point_X3_needRoomForThing
set_option maxRecDepth 20000 in
theorem ggX3_point_X3_contentOfPoint : GoodIn wsX3_point wsX3_contentOfPoint := goodIn_r _ [37, 38, 39, 40, 41, 42, 43, 44, 45, 46, 47, 48, 49, 50, 51, 152, 153, 154, 155, 138, 139, 140, 141, 142, 143, 144, 145, 146, 147, 148] (by decide +kernel) (by decide +kernel)
set_option maxRecDepth 20000 in
theorem gX3_point_X3_contentOfPoint : GoodIn wsX3_point (wsV RX3 83 RX3 yX3_contentOfPoint wsX3_contentOfPoint) := goodIn_app (goodIn_of _ (by decide +kernel)) ggX3_point_X3_contentOfPoint
set_option maxRecDepth 20000 in
theorem ggX3_point_X3_addThing : GoodIn wsX3_point wsX3_addThing := goodIn_r _ [55, 27, 56, 57, 58, 59, 60, 61, 4, 62, 22, 63, 64, 65, 66, 67, 68, 69, 70, 71, 46, 47, 72, 73, 74, 75, 76, 77, 78, 79, 80, 81, 82, 83, 84, 85, 86, 31, 87, 88, 89, 90, 33, 91, 92, 93, 94, 95, 96, 97, 98, 99, 100, 101, 102, 103, 104, 105, 106, 107, 108, 109, 110, 111, 112, 113, 114, 115, 116, 117, 118, 119, 120, 121, 122, 123, 124, 125, 126, 127, 128, 129, 130, 131, 132, 133, 134, 135, 136, 137, 28, 29, 30, 32, 138, 139, 140, 141, 142, 143, 144, 145, 146, 147, 148, 156, 157, 158, 159, 160, 161, 162, 163, 149, 150, 151] (by decide +kernel) (by decide +kernel)
set_option maxRecDepth 20000 in
theorem gX3_point_X3_addThing : GoodIn wsX3_point (wsV RX3 87 RX3 yX3_addThing wsX3_addThing) := goodIn_app (goodIn_of _ (by decide +kernel)) ggX3_point_X3_addThing
theorem dX3_point_0 : decode cX3_point 0 = .ok (.aload_n 0, 1) := by decide +kernel
theorem dX3_point_1 : decode cX3_point 1 = .ok (.iload_n 1, 1) := by decide +kernel
theorem dX3_point_2 : decode cX3_point 2 = .ok (.invokevirtual 62, 3) := by decide +kernel
theorem dX3_point_5 : decode cX3_point 5 = .ok (.aload_n 0, 1) := by decide +kernel
theorem dX3_point_6 : decode cX3_point 6 = .ok (.iload_n 2, 1) := by decide +kernel
theorem dX3_point_7 : decode cX3_point 7 = .ok (.iload_n 3, 1) := by decide +kernel
theorem dX3_point_8 : decode cX3_point 8 = .ok (.invokevirtual 73, 3) := by decide +kernel
theorem dX3_point_11 : decode cX3_point 11 = .ok (.aload_n 0, 1) := by decide +kernel
theorem dX3_point_12 : decode cX3_point 12 = .ok (.iload_n 1, 1) := by decide +kernel
theorem dX3_point_13 : decode cX3_point 13 = .ok (.invokevirtual 77, 3) := by decide +kernel
theorem dX3_point_16 : decode cX3_point 16 = .ok (.aload_n 0, 1) := by decide +kernel
theorem dX3_point_17 : decode cX3_point 17 = .ok (.invokevirtual 80, 3) := by decide +kernel
theorem dX3_point_20 : decode cX3_point 20 = .ok (.aload_n 0, 1) := by decide +kernel
theorem dX3_point_21 : decode cX3_point 21 = .ok (.iload_n 1, 1) := by decide +kernel
theorem dX3_point_22 : decode cX3_point 22 = .ok (.iconst 0, 1) := by decide +kernel
theorem dX3_point_23 : decode cX3_point 23 = .ok (.aload_n 0, 1) := by decide +kernel
theorem dX3_point_24 : decode cX3_point 24 = .ok (.iload_n 2, 1) := by decide +kernel
theorem dX3_point_25 : decode cX3_point 25 = .ok (.iload_n 3, 1) := by decide +kernel
theorem dX3_point_26 : decode cX3_point 26 = .ok (.invokevirtual 83, 3) := by decide +kernel
theorem dX3_point_29 : decode cX3_point 29 = .ok (.invokevirtual 87, 3) := by decide +kernel
theorem dX3_point_32 : decode cX3_point 32 = .ok (.ireturn, 1) := by decide +kernel
set_option maxRecDepth 20000 in
theorem ggX3_make_X3_needSet : GoodIn wsX3_make wsX3_needSet := goodIn_ca (goodIn_r _ [8, 9, 10, 11, 183, 184, 185, 186, 187, 188, 189, 190, 191, 192, 193] (by decide +kernel) (by decide +kernel)) (goodIn_sub (fun _ h => List.mem_cons_of_mem _ (List.mem_append_left _ (List.mem_append_right _ h))) (by decide +kernel))
set_option maxRecDepth 20000 in
theorem gX3_make_X3_needSet : GoodIn wsX3_make (wsV RX3 62 RX3 yX3_needSet wsX3_needSet) := goodIn_app (goodIn_of _ (by decide +kernel)) ggX3_make_X3_needSet
set_option maxRecDepth 20000 in
theorem ggX3_make_X3_needOpen : GoodIn wsX3_make wsX3_needOpen := goodIn_ca (goodIn_r _ [15, 16, 17, 18, 19, 183, 184, 185, 186, 187, 188, 189, 190, 191, 192, 193] (by decide +kernel) (by decide +kernel)) (goodIn_sub (fun _ h => List.mem_cons_of_mem _ (List.mem_append_right _ h)) (by decide +kernel))
set_option maxRecDepth 20000 in
theorem gX3_make_X3_needOpen : GoodIn wsX3_make (wsV RX3 77 RX3 yX3_needOpen wsX3_needOpen) := goodIn_app (goodIn_of _ (by decide +kernel)) ggX3_make_X3_needOpen
set_option maxRecDepth 20000 in
theorem ggX3_make_X3_needRoomForThing : GoodIn wsX3_make wsX3_needRoomForThing := goodIn_ca (goodIn_r _ [23, 16, 17, 24, 25, 26, 27, 28, 29, 30, 183, 184, 185, 186, 187, 188, 189, 190, 191, 192, 193, 194, 195, 196] (by decide +kernel) (by decide +kernel)) (goodIn_sub (fun _ h => List.mem_cons_of_mem _ (List.mem_append_right _ h)) (by decide +kernel))
set_option maxRecDepth 20000 in
theorem gX3_make_X3_needRoomForThing : GoodIn wsX3_make (wsV RX3 80 RX3 yX3_needRoomForThing wsX3_needRoomForThing) := goodIn_app (goodIn_of _ (by decide +kernel)) ggX3_make_X3_needRoomForThing
set_option maxRecDepth 20000 in
theorem ggX3_make_X3_contentOfDraft : GoodIn wsX3_make wsX3_contentOfDraft := goodIn_r _ [34, 35, 36, 37, 38, 39, 40, 41, 42, 43, 44, 45, 46, 47, 48, 49, 50, 51, 52, 53, 54, 55, 56, 57, 58, 59, 60, 61, 62, 63, 64, 65, 66, 67, 68, 179, 180, 181, 182, 183, 184, 185, 186, 187, 188, 189, 190, 191, 192, 193] (by decide +kernel) (by decide +kernel)
set_option maxRecDepth 20000 in
theorem gX3_make_X3_contentOfDraft : GoodIn wsX3_make (wsV RX3 96 RX3 yX3_contentOfDraft wsX3_contentOfDraft) := goodIn_app (goodIn_of _ (by decide +kernel)) ggX3_make_X3_contentOfDraft
set_option maxRecDepth 20000 in
theorem ggX3_make_X3_isRowFor : GoodIn wsX3_make wsX3_isRowFor := goodIn_r _ [72, 24, 73, 74, 75, 76, 77, 7, 78, 79, 80, 81, 82, 83, 84, 85, 25, 26, 27, 28, 29, 30, 86, 87, 88, 89, 90, 91, 92, 93, 94, 95, 96, 97, 98, 99, 100, 101, 102, 183, 184, 185, 186, 187, 188, 189, 190, 191, 192, 193, 197, 198, 199, 200, 201, 202, 203, 204, 179, 180, 181, 182, 194, 195, 196] (by decide +kernel) (by decide +kernel)
set_option maxRecDepth 20000 in
theorem gX3_make_X3_isRowFor : GoodIn wsX3_make (wsV RX3 103 RX3 yX3_isRowFor wsX3_isRowFor) := goodIn_app (goodIn_of _ (by decide +kernel)) ggX3_make_X3_isRowFor
set_option maxRecDepth 20000 in
theorem ggX3_make_X3_addThing : GoodIn wsX3_make wsX3_addThing := goodIn_r _ [106, 24, 107, 108, 109, 110, 111, 112, 7, 113, 19, 114, 115, 116, 117, 118, 119, 120, 121, 122, 63, 64, 123, 124, 125, 126, 127, 128, 129, 130, 131, 132, 133, 134, 135, 136, 137, 28, 138, 139, 140, 102, 30, 141, 142, 143, 144, 145, 146, 147, 148, 149, 150, 151, 152, 153, 154, 155, 53, 156, 157, 158, 159, 160, 161, 162, 163, 164, 165, 166, 167, 168, 42, 169, 170, 171, 172, 173, 174, 175, 176, 177, 178, 51, 52, 54, 55, 56, 57, 58, 25, 26, 27, 29, 183, 184, 185, 186, 187, 188, 189, 190, 191, 192, 193, 197, 198, 199, 200, 201, 202, 203, 204, 194, 195, 196] (by decide +kernel) (by decide +kernel)
set_option maxRecDepth 20000 in
theorem gX3_make_X3_addThing : GoodIn wsX3_make (wsV RX3 87 RX3 yX3_addThing wsX3_addThing) := goodIn_app (goodIn_of _ (by decide +kernel)) ggX3_make_X3_addThing
theorem dX3_make_0 : decode cX3_make 0 = .ok (.aload_n 0, 1) := by decide +kernel
theorem dX3_make_1 : decode cX3_make 1 = .ok (.iload_n 1, 1) := by decide +kernel
theorem dX3_make_2 : decode cX3_make 2 = .ok (.invokevirtual 62, 3) := by decide +kernel
theorem dX3_make_5 : decode cX3_make 5 = .ok (.iload_n 2, 1) := by decide +kernel
theorem dX3_make_6 : decode cX3_make 6 = .ok (.iconst 1, 1) := by decide +kernel
theorem dX3_make_7 : decode cX3_make 7 = .ok (.if_icmp .eq 18, 3) := by decide +kernel
theorem dX3_make_10 : decode cX3_make 10 = .ok (.iload_n 2, 1) := by decide +kernel
theorem dX3_make_11 : decode cX3_make 11 = .ok (.iconst 2, 1) := by decide +kernel
theorem dX3_make_12 : decode cX3_make 12 = .ok (.if_icmp .eq 13, 3) := by decide +kernel
theorem dX3_make_15 : decode cX3_make 15 = .ok (.new 91, 3) := by decide +kernel
theorem dX3_make_18 : decode cX3_make 18 = .ok (.dup, 1) := by decide +kernel
theorem dX3_make_19 : decode cX3_make 19 = .ok (.ldc 93, 2) := by decide +kernel
theorem dX3_make_21 : decode cX3_make 21 = .ok (.invokespecial 95, 3) := by decide +kernel
theorem dX3_make_24 : decode cX3_make 24 = .ok (.athrow, 1) := by decide +kernel
theorem dX3_make_25 : decode cX3_make 25 = .ok (.aload_n 0, 1) := by decide +kernel
theorem dX3_make_26 : decode cX3_make 26 = .ok (.iload_n 1, 1) := by decide +kernel
theorem dX3_make_27 : decode cX3_make 27 = .ok (.invokevirtual 77, 3) := by decide +kernel
theorem dX3_make_30 : decode cX3_make 30 = .ok (.aload_n 0, 1) := by decide +kernel
theorem dX3_make_31 : decode cX3_make 31 = .ok (.invokevirtual 80, 3) := by decide +kernel
theorem dX3_make_34 : decode cX3_make 34 = .ok (.aload_n 0, 1) := by decide +kernel
theorem dX3_make_35 : decode cX3_make 35 = .ok (.invokevirtual 96, 3) := by decide +kernel
theorem dX3_make_38 : decode cX3_make 38 = .ok (.astore_n 3, 1) := by decide +kernel
theorem dX3_make_39 : decode cX3_make 39 = .ok (.aload_n 0, 1) := by decide +kernel
theorem dX3_make_40 : decode cX3_make 40 = .ok (.iload_n 2, 1) := by decide +kernel
theorem dX3_make_41 : decode cX3_make 41 = .ok (.aload_n 3, 1) := by decide +kernel
theorem dX3_make_42 : decode cX3_make 42 = .ok (.getfield 100, 3) := by decide +kernel
theorem dX3_make_45 : decode cX3_make 45 = .ok (.invokevirtual 103, 3) := by decide +kernel
theorem dX3_make_48 : decode cX3_make 48 = .ok (.ifCond .ne 6, 3) := by decide +kernel
theorem dX3_make_51 : decode cX3_make 51 = .ok (.bipush (-3), 2) := by decide +kernel
theorem dX3_make_53 : decode cX3_make 53 = .ok (.ireturn, 1) := by decide +kernel
theorem dX3_make_54 : decode cX3_make 54 = .ok (.aload_n 0, 1) := by decide +kernel
theorem dX3_make_55 : decode cX3_make 55 = .ok (.iload_n 1, 1) := by decide +kernel
theorem dX3_make_56 : decode cX3_make 56 = .ok (.iload_n 2, 1) := by decide +kernel
theorem dX3_make_57 : decode cX3_make 57 = .ok (.aload_n 3, 1) := by decide +kernel
theorem dX3_make_58 : decode cX3_make 58 = .ok (.invokevirtual 87, 3) := by decide +kernel
theorem dX3_make_61 : decode cX3_make 61 = .ok (.ireturn, 1) := by decide +kernel
set_option maxRecDepth 20000 in
theorem ggX3_move_X3_needSet : GoodIn wsX3_move wsX3_needSet := goodIn_ca (goodIn_r _ [10, 11, 12, 13, 140, 141, 142, 143, 144, 145, 146, 147, 148, 149, 150] (by decide +kernel) (by decide +kernel)) (goodIn_sub (fun _ h => List.mem_cons_of_mem _ (List.mem_append_left _ (List.mem_append_right _ h))) (by decide +kernel))
set_option maxRecDepth 20000 in
theorem gX3_move_X3_needSet : GoodIn wsX3_move (wsV RX3 62 RX3 yX3_needSet wsX3_needSet) := goodIn_app (goodIn_of _ (by decide +kernel)) ggX3_move_X3_needSet
set_option maxRecDepth 20000 in
theorem ggX3_move_X3_needThing : GoodIn wsX3_move wsX3_needThing := goodIn_ca (goodIn_r _ [17, 11, 12, 18, 19, 20, 9, 21, 3, 22, 23, 24, 25, 26, 27, 140, 141, 142, 143, 144, 145, 146, 147, 148, 149, 150, 153, 154, 155] (by decide +kernel) (by decide +kernel)) (goodIn_sub (fun _ h => List.mem_cons_of_mem _ (List.mem_append_left _ (List.mem_append_right _ h))) (by decide +kernel))
set_option maxRecDepth 20000 in
theorem gX3_move_X3_needThing : GoodIn wsX3_move (wsV RX3 68 RX3 yX3_needThing wsX3_needThing) := goodIn_app (goodIn_of _ (by decide +kernel)) ggX3_move_X3_needThing
set_option maxRecDepth 20000 in
theorem ggX3_move_Jx4a65c_get_915e3 : GoodIn wsX3_move wsJx4a65c_get_915e3 := goodIn_r _ [31, 27, 32, 33, 34, 35, 36, 37, 38, 39, 40, 41, 42, 25, 43, 44, 153, 154, 155] (by decide +kernel) (by decide +kernel)
set_option maxRecDepth 20000 in
theorem gX3_move_Jx4a65c_get_915e3 : GoodIn wsX3_move (wsV RX3 107 RJx4a65c yJx4a65c_get_915e3 wsJx4a65c_get_915e3) := goodIn_app (goodIn_of _ (by decide +kernel)) ggX3_move_Jx4a65c_get_915e3
set_option maxRecDepth 20000 in
theorem ggX3_move_X3_needPlace : GoodIn wsX3_move wsX3_needPlace := goodIn_ca (goodIn_r _ [48, 1, 2] (by decide +kernel) (by decide +kernel)) (goodIn_sub (fun _ h => List.mem_cons_of_mem _ (List.mem_append_left _ (List.mem_append_left _ (List.mem_append_right _ h)))) (by decide +kernel))
set_option maxRecDepth 20000 in
theorem gX3_move_X3_needPlace : GoodIn wsX3_move (wsV RX3 73 RX3 yX3_needPlace wsX3_needPlace) := goodIn_app (goodIn_of _ (by decide +kernel)) ggX3_move_X3_needPlace
set_option maxRecDepth 20000 in
theorem ggX3_move_X3_needOpen : GoodIn wsX3_move wsX3_needOpen := goodIn_ca (goodIn_r _ [52, 53, 54, 55, 56, 140, 141, 142, 143, 144, 145, 146, 147, 148, 149, 150] (by decide +kernel) (by decide +kernel)) (goodIn_sub (fun _ h => List.mem_cons_of_mem _ (List.mem_append_right _ h)) (by decide +kernel))
set_option maxRecDepth 20000 in
theorem gX3_move_X3_needOpen : GoodIn wsX3_move (wsV RX3 77 RX3 yX3_needOpen wsX3_needOpen) := goodIn_app (goodIn_of _ (by decide +kernel)) ggX3_move_X3_needOpen
set_option maxRecDepth 20000 in
theorem ggX3_move_X3_contentOfPoint : GoodIn wsX3_move wsX3_contentOfPoint := goodIn_r _ [60, 61, 62, 63, 64, 65, 66, 67, 68, 69, 70, 71, 72, 73, 74, 156, 157, 158, 159, 140, 141, 142, 143, 144, 145, 146, 147, 148, 149, 150] (by decide +kernel) (by decide +kernel)
set_option maxRecDepth 20000 in
theorem gX3_move_X3_contentOfPoint : GoodIn wsX3_move (wsV RX3 83 RX3 yX3_contentOfPoint wsX3_contentOfPoint) := goodIn_app (goodIn_of _ (by decide +kernel)) ggX3_move_X3_contentOfPoint
set_option maxRecDepth 20000 in
theorem ggX3_move_X3_edit : GoodIn wsX3_move wsX3_edit := goodIn_r _ [78, 3, 4, 79, 80, 81, 82, 28, 29, 30, 25, 31, 27, 32, 33, 34, 35, 36, 37, 38, 39, 40, 41, 42, 43, 44, 83, 84, 85, 9, 86, 5, 87, 88, 89, 90, 91, 92, 93, 94, 22, 23, 24, 26, 95, 96, 97, 98, 99, 100, 101, 102, 103, 104, 105, 18, 19, 20, 21, 106, 107, 108, 109, 110, 111, 112, 113, 114, 115, 116, 117, 118, 119, 120, 121, 122, 123, 124, 56, 125, 126, 127, 128, 129, 130, 131, 132, 133, 69, 70, 134, 135, 136, 137, 138, 139, 140, 141, 142, 143, 144, 145, 146, 147, 148, 149, 150, 151, 152, 160, 161, 162, 163, 164, 165, 156, 157, 158, 159, 153, 154, 155] (by decide +kernel) (by decide +kernel)
set_option maxRecDepth 20000 in
theorem gX3_move_X3_edit : GoodIn wsX3_move (wsV RX3 118 RX3 yX3_edit wsX3_edit) := goodIn_app (goodIn_of _ (by decide +kernel)) ggX3_move_X3_edit
theorem dX3_move_0 : decode cX3_move 0 = .ok (.aload_n 0, 1) := by decide +kernel
theorem dX3_move_1 : decode cX3_move 1 = .ok (.iload_n 1, 1) := by decide +kernel
theorem dX3_move_2 : decode cX3_move 2 = .ok (.invokevirtual 62, 3) := by decide +kernel
theorem dX3_move_5 : decode cX3_move 5 = .ok (.aload_n 0, 1) := by decide +kernel
theorem dX3_move_6 : decode cX3_move 6 = .ok (.iload_n 2, 1) := by decide +kernel
theorem dX3_move_7 : decode cX3_move 7 = .ok (.invokevirtual 68, 3) := by decide +kernel
theorem dX3_move_10 : decode cX3_move 10 = .ok (.aload_n 0, 1) := by decide +kernel
theorem dX3_move_11 : decode cX3_move 11 = .ok (.getfield 25, 3) := by decide +kernel
theorem dX3_move_14 : decode cX3_move 14 = .ok (.iload_n 2, 1) := by decide +kernel
theorem dX3_move_15 : decode cX3_move 15 = .ok (.invokevirtual 107, 3) := by decide +kernel
theorem dX3_move_18 : decode cX3_move 18 = .ok (.checkcast 111, 3) := by decide +kernel
theorem dX3_move_21 : decode cX3_move 21 = .ok (.getfield 113, 3) := by decide +kernel
theorem dX3_move_24 : decode cX3_move 24 = .ok (.ifCond .eq 13, 3) := by decide +kernel
theorem dX3_move_27 : decode cX3_move 27 = .ok (.new 91, 3) := by decide +kernel
theorem dX3_move_30 : decode cX3_move 30 = .ok (.dup, 1) := by decide +kernel
theorem dX3_move_31 : decode cX3_move 31 = .ok (.ldc 116, 2) := by decide +kernel
theorem dX3_move_33 : decode cX3_move 33 = .ok (.invokespecial 95, 3) := by decide +kernel
theorem dX3_move_36 : decode cX3_move 36 = .ok (.athrow, 1) := by decide +kernel
theorem dX3_move_37 : decode cX3_move 37 = .ok (.aload_n 0, 1) := by decide +kernel
theorem dX3_move_38 : decode cX3_move 38 = .ok (.iload 4, 2) := by decide +kernel
theorem dX3_move_40 : decode cX3_move 40 = .ok (.iload 5, 2) := by decide +kernel
theorem dX3_move_42 : decode cX3_move 42 = .ok (.invokevirtual 73, 3) := by decide +kernel
theorem dX3_move_45 : decode cX3_move 45 = .ok (.aload_n 0, 1) := by decide +kernel
theorem dX3_move_46 : decode cX3_move 46 = .ok (.iload_n 1, 1) := by decide +kernel
theorem dX3_move_47 : decode cX3_move 47 = .ok (.invokevirtual 77, 3) := by decide +kernel
theorem dX3_move_50 : decode cX3_move 50 = .ok (.aload_n 0, 1) := by decide +kernel
theorem dX3_move_51 : decode cX3_move 51 = .ok (.iload_n 1, 1) := by decide +kernel
theorem dX3_move_52 : decode cX3_move 52 = .ok (.iload_n 2, 1) := by decide +kernel
theorem dX3_move_53 : decode cX3_move 53 = .ok (.iload_n 3, 1) := by decide +kernel
theorem dX3_move_54 : decode cX3_move 54 = .ok (.aload_n 0, 1) := by decide +kernel
theorem dX3_move_55 : decode cX3_move 55 = .ok (.iload 4, 2) := by decide +kernel
theorem dX3_move_57 : decode cX3_move 57 = .ok (.iload 5, 2) := by decide +kernel
theorem dX3_move_59 : decode cX3_move 59 = .ok (.invokevirtual 83, 3) := by decide +kernel
theorem dX3_move_62 : decode cX3_move 62 = .ok (.invokevirtual 118, 3) := by decide +kernel
theorem dX3_move_65 : decode cX3_move 65 = .ok (.ireturn, 1) := by decide +kernel
set_option maxRecDepth 20000 in
theorem ggX3_change_X3_needSet : GoodIn wsX3_change wsX3_needSet := goodIn_ca (goodIn_r _ [10, 11, 12, 13, 156, 157, 158, 159, 160, 161, 162, 163, 164, 165, 166] (by decide +kernel) (by decide +kernel)) (goodIn_sub (fun _ h => List.mem_cons_of_mem _ (List.mem_append_left _ (List.mem_append_right _ h))) (by decide +kernel))
set_option maxRecDepth 20000 in
theorem gX3_change_X3_needSet : GoodIn wsX3_change (wsV RX3 62 RX3 yX3_needSet wsX3_needSet) := goodIn_app (goodIn_of _ (by decide +kernel)) ggX3_change_X3_needSet
set_option maxRecDepth 20000 in
theorem ggX3_change_X3_needThing : GoodIn wsX3_change wsX3_needThing := goodIn_ca (goodIn_r _ [17, 11, 12, 18, 19, 20, 9, 21, 3, 22, 23, 24, 25, 26, 27, 156, 157, 158, 159, 160, 161, 162, 163, 164, 165, 166, 169, 170, 171] (by decide +kernel) (by decide +kernel)) (goodIn_sub (fun _ h => List.mem_cons_of_mem _ (List.mem_append_left _ (List.mem_append_right _ h))) (by decide +kernel))
set_option maxRecDepth 20000 in
theorem gX3_change_X3_needThing : GoodIn wsX3_change (wsV RX3 68 RX3 yX3_needThing wsX3_needThing) := goodIn_app (goodIn_of _ (by decide +kernel)) ggX3_change_X3_needThing
set_option maxRecDepth 20000 in
theorem ggX3_change_Jx4a65c_get_915e3 : GoodIn wsX3_change wsJx4a65c_get_915e3 := goodIn_r _ [31, 27, 32, 33, 34, 35, 36, 37, 38, 39, 40, 41, 42, 25, 43, 44, 169, 170, 171] (by decide +kernel) (by decide +kernel)
set_option maxRecDepth 20000 in
theorem gX3_change_Jx4a65c_get_915e3 : GoodIn wsX3_change (wsV RX3 107 RJx4a65c yJx4a65c_get_915e3 wsJx4a65c_get_915e3) := goodIn_app (goodIn_of _ (by decide +kernel)) ggX3_change_Jx4a65c_get_915e3
set_option maxRecDepth 20000 in
theorem ggX3_change_X3_needOpen : GoodIn wsX3_change wsX3_needOpen := goodIn_ca (goodIn_r _ [48, 49, 50, 51, 52, 156, 157, 158, 159, 160, 161, 162, 163, 164, 165, 166] (by decide +kernel) (by decide +kernel)) (goodIn_sub (fun _ h => List.mem_cons_of_mem _ (List.mem_append_right _ h)) (by decide +kernel))
set_option maxRecDepth 20000 in
theorem gX3_change_X3_needOpen : GoodIn wsX3_change (wsV RX3 77 RX3 yX3_needOpen wsX3_needOpen) := goodIn_app (goodIn_of _ (by decide +kernel)) ggX3_change_X3_needOpen
set_option maxRecDepth 20000 in
theorem ggX3_change_X3_contentOfDraft : GoodIn wsX3_change wsX3_contentOfDraft := goodIn_r _ [56, 57, 58, 59, 60, 61, 62, 63, 64, 65, 66, 67, 68, 69, 70, 71, 72, 73, 74, 75, 76, 77, 78, 79, 80, 81, 82, 83, 84, 85, 86, 87, 88, 89, 90, 172, 173, 174, 175, 156, 157, 158, 159, 160, 161, 162, 163, 164, 165, 166] (by decide +kernel) (by decide +kernel)
set_option maxRecDepth 20000 in
theorem gX3_change_X3_contentOfDraft : GoodIn wsX3_change (wsV RX3 96 RX3 yX3_contentOfDraft wsX3_contentOfDraft) := goodIn_app (goodIn_of _ (by decide +kernel)) ggX3_change_X3_contentOfDraft
set_option maxRecDepth 20000 in
theorem ggX3_change_X3_edit : GoodIn wsX3_change wsX3_edit := goodIn_r _ [94, 3, 4, 95, 96, 97, 98, 28, 29, 30, 25, 31, 27, 32, 33, 34, 35, 36, 37, 38, 39, 40, 41, 42, 43, 44, 99, 100, 101, 9, 102, 5, 103, 104, 105, 106, 107, 108, 109, 110, 22, 23, 24, 26, 111, 112, 113, 114, 115, 116, 117, 118, 119, 120, 121, 18, 19, 20, 21, 122, 123, 124, 125, 126, 127, 128, 129, 130, 131, 132, 133, 134, 135, 136, 137, 138, 139, 140, 52, 141, 142, 143, 144, 145, 146, 147, 148, 149, 85, 86, 150, 151, 152, 153, 154, 155, 156, 157, 158, 159, 160, 161, 162, 163, 164, 165, 166, 167, 168, 176, 177, 178, 179, 180, 181, 172, 173, 174, 175, 169, 170, 171] (by decide +kernel) (by decide +kernel)
set_option maxRecDepth 20000 in
theorem gX3_change_X3_edit : GoodIn wsX3_change (wsV RX3 118 RX3 yX3_edit wsX3_edit) := goodIn_app (goodIn_of _ (by decide +kernel)) ggX3_change_X3_edit
theorem dX3_change_0 : decode cX3_change 0 = .ok (.aload_n 0, 1) := by decide +kernel
theorem dX3_change_1 : decode cX3_change 1 = .ok (.iload_n 1, 1) := by decide +kernel
theorem dX3_change_2 : decode cX3_change 2 = .ok (.invokevirtual 62, 3) := by decide +kernel
theorem dX3_change_5 : decode cX3_change 5 = .ok (.aload_n 0, 1) := by decide +kernel
theorem dX3_change_6 : decode cX3_change 6 = .ok (.iload_n 2, 1) := by decide +kernel
theorem dX3_change_7 : decode cX3_change 7 = .ok (.invokevirtual 68, 3) := by decide +kernel
theorem dX3_change_10 : decode cX3_change 10 = .ok (.aload_n 0, 1) := by decide +kernel
theorem dX3_change_11 : decode cX3_change 11 = .ok (.getfield 25, 3) := by decide +kernel
theorem dX3_change_14 : decode cX3_change 14 = .ok (.iload_n 2, 1) := by decide +kernel
theorem dX3_change_15 : decode cX3_change 15 = .ok (.invokevirtual 107, 3) := by decide +kernel
theorem dX3_change_18 : decode cX3_change 18 = .ok (.checkcast 111, 3) := by decide +kernel
theorem dX3_change_21 : decode cX3_change 21 = .ok (.getfield 113, 3) := by decide +kernel
theorem dX3_change_24 : decode cX3_change 24 = .ok (.ifCond .ne 13, 3) := by decide +kernel
theorem dX3_change_27 : decode cX3_change 27 = .ok (.new 91, 3) := by decide +kernel
theorem dX3_change_30 : decode cX3_change 30 = .ok (.dup, 1) := by decide +kernel
theorem dX3_change_31 : decode cX3_change 31 = .ok (.ldc 122, 2) := by decide +kernel
theorem dX3_change_33 : decode cX3_change 33 = .ok (.invokespecial 95, 3) := by decide +kernel
theorem dX3_change_36 : decode cX3_change 36 = .ok (.athrow, 1) := by decide +kernel
theorem dX3_change_37 : decode cX3_change 37 = .ok (.aload_n 0, 1) := by decide +kernel
theorem dX3_change_38 : decode cX3_change 38 = .ok (.iload_n 1, 1) := by decide +kernel
theorem dX3_change_39 : decode cX3_change 39 = .ok (.invokevirtual 77, 3) := by decide +kernel
theorem dX3_change_42 : decode cX3_change 42 = .ok (.aload_n 0, 1) := by decide +kernel
theorem dX3_change_43 : decode cX3_change 43 = .ok (.iload_n 1, 1) := by decide +kernel
theorem dX3_change_44 : decode cX3_change 44 = .ok (.iload_n 2, 1) := by decide +kernel
theorem dX3_change_45 : decode cX3_change 45 = .ok (.iload_n 3, 1) := by decide +kernel
theorem dX3_change_46 : decode cX3_change 46 = .ok (.aload_n 0, 1) := by decide +kernel
theorem dX3_change_47 : decode cX3_change 47 = .ok (.invokevirtual 96, 3) := by decide +kernel
theorem dX3_change_50 : decode cX3_change 50 = .ok (.invokevirtual 118, 3) := by decide +kernel
theorem dX3_change_53 : decode cX3_change 53 = .ok (.ireturn, 1) := by decide +kernel
set_option maxRecDepth 20000 in
theorem ggX3_delete_X3_needSet : GoodIn wsX3_delete wsX3_needSet := goodIn_ca (goodIn_r _ [6, 7, 8, 9, 119, 120, 121, 122, 123, 124, 125, 126, 127, 128, 129] (by decide +kernel) (by decide +kernel)) (goodIn_sub (fun _ h => List.mem_cons_of_mem _ (List.mem_append_left _ (List.mem_append_right _ h))) (by decide +kernel))
set_option maxRecDepth 20000 in
theorem gX3_delete_X3_needSet : GoodIn wsX3_delete (wsV RX3 62 RX3 yX3_needSet wsX3_needSet) := goodIn_app (goodIn_of _ (by decide +kernel)) ggX3_delete_X3_needSet
set_option maxRecDepth 20000 in
theorem ggX3_delete_X3_needThing : GoodIn wsX3_delete wsX3_needThing := goodIn_ca (goodIn_r _ [13, 7, 8, 14, 15, 16, 5, 17, 18, 19, 20, 21, 22, 23, 24, 119, 120, 121, 122, 123, 124, 125, 126, 127, 128, 129, 130, 131, 132] (by decide +kernel) (by decide +kernel)) (goodIn_sub (fun _ h => List.mem_cons_of_mem _ (List.mem_append_left _ (List.mem_append_right _ h))) (by decide +kernel))
set_option maxRecDepth 20000 in
theorem gX3_delete_X3_needThing : GoodIn wsX3_delete (wsV RX3 68 RX3 yX3_needThing wsX3_needThing) := goodIn_app (goodIn_of _ (by decide +kernel)) ggX3_delete_X3_needThing
set_option maxRecDepth 20000 in
theorem ggX3_delete_X3_needOpen : GoodIn wsX3_delete wsX3_needOpen := goodIn_ca (goodIn_r _ [28, 29, 30, 31, 32, 119, 120, 121, 122, 123, 124, 125, 126, 127, 128, 129] (by decide +kernel) (by decide +kernel)) (goodIn_sub (fun _ h => List.mem_cons_of_mem _ (List.mem_append_right _ h)) (by decide +kernel))
set_option maxRecDepth 20000 in
theorem gX3_delete_X3_needOpen : GoodIn wsX3_delete (wsV RX3 77 RX3 yX3_needOpen wsX3_needOpen) := goodIn_app (goodIn_of _ (by decide +kernel)) ggX3_delete_X3_needOpen
set_option maxRecDepth 20000 in
theorem ggX3_delete_X3_edit : GoodIn wsX3_delete wsX3_edit := goodIn_r _ [36, 18, 37, 38, 39, 40, 41, 42, 43, 44, 22, 45, 24, 46, 47, 48, 49, 50, 51, 52, 53, 54, 55, 56, 57, 58, 59, 60, 61, 5, 62, 63, 64, 65, 66, 67, 68, 69, 70, 71, 19, 20, 21, 23, 72, 73, 74, 75, 76, 77, 78, 79, 80, 81, 82, 14, 15, 16, 17, 83, 84, 85, 86, 87, 88, 89, 90, 91, 92, 93, 94, 95, 96, 97, 98, 99, 100, 101, 32, 102, 103, 104, 105, 106, 107, 108, 109, 110, 111, 112, 113, 114, 115, 116, 117, 118, 119, 120, 121, 122, 123, 124, 125, 126, 127, 128, 129, 133, 134, 135, 136, 137, 138, 139, 140, 141, 142, 143, 144, 130, 131, 132] (by decide +kernel) (by decide +kernel)
set_option maxRecDepth 20000 in
theorem gX3_delete_X3_edit : GoodIn wsX3_delete (wsV RX3 118 RX3 yX3_edit wsX3_edit) := goodIn_app (goodIn_of _ (by decide +kernel)) ggX3_delete_X3_edit
theorem dX3_delete_0 : decode cX3_delete 0 = .ok (.aload_n 0, 1) := by decide +kernel
theorem dX3_delete_1 : decode cX3_delete 1 = .ok (.iload_n 1, 1) := by decide +kernel
theorem dX3_delete_2 : decode cX3_delete 2 = .ok (.invokevirtual 62, 3) := by decide +kernel
theorem dX3_delete_5 : decode cX3_delete 5 = .ok (.aload_n 0, 1) := by decide +kernel
theorem dX3_delete_6 : decode cX3_delete 6 = .ok (.iload_n 2, 1) := by decide +kernel
theorem dX3_delete_7 : decode cX3_delete 7 = .ok (.invokevirtual 68, 3) := by decide +kernel
theorem dX3_delete_10 : decode cX3_delete 10 = .ok (.aload_n 0, 1) := by decide +kernel
theorem dX3_delete_11 : decode cX3_delete 11 = .ok (.iload_n 1, 1) := by decide +kernel
theorem dX3_delete_12 : decode cX3_delete 12 = .ok (.invokevirtual 77, 3) := by decide +kernel
theorem dX3_delete_15 : decode cX3_delete 15 = .ok (.aload_n 0, 1) := by decide +kernel
theorem dX3_delete_16 : decode cX3_delete 16 = .ok (.iload_n 1, 1) := by decide +kernel
theorem dX3_delete_17 : decode cX3_delete 17 = .ok (.iload_n 2, 1) := by decide +kernel
theorem dX3_delete_18 : decode cX3_delete 18 = .ok (.iload_n 3, 1) := by decide +kernel
theorem dX3_delete_19 : decode cX3_delete 19 = .ok (.aload_n 0, 1) := by decide +kernel
theorem dX3_delete_20 : decode cX3_delete 20 = .ok (.getfield 18, 3) := by decide +kernel
theorem dX3_delete_23 : decode cX3_delete 23 = .ok (.invokevirtual 118, 3) := by decide +kernel
theorem dX3_delete_26 : decode cX3_delete 26 = .ok (.ireturn, 1) := by decide +kernel
set_option maxRecDepth 20000 in
theorem ggX3_undo_X3_needSet : GoodIn wsX3_undo wsX3_needSet := goodIn_ca (goodIn_r _ [9, 10, 11, 12, 125, 126, 127, 128, 129, 130, 131, 132, 133, 134, 135] (by decide +kernel) (by decide +kernel)) (goodIn_sub (fun _ h => List.mem_cons_of_mem _ (List.mem_append_right _ h)) (by decide +kernel))
set_option maxRecDepth 20000 in
theorem gX3_undo_X3_needSet : GoodIn wsX3_undo (wsV RX3 62 RX3 yX3_needSet wsX3_needSet) := goodIn_app (goodIn_of _ (by decide +kernel)) ggX3_undo_X3_needSet
set_option maxRecDepth 20000 in
theorem ggX3_undo_X3_needOpen : GoodIn wsX3_undo wsX3_needOpen := goodIn_ca (goodIn_r _ [16, 1, 2, 3, 17, 125, 126, 127, 128, 129, 130, 131, 132, 133, 134, 135] (by decide +kernel) (by decide +kernel)) (goodIn_sub (fun _ h => List.mem_cons_of_mem _ (List.mem_append_left _ (List.mem_append_right _ h))) (by decide +kernel))
set_option maxRecDepth 20000 in
theorem gX3_undo_X3_needOpen : GoodIn wsX3_undo (wsV RX3 77 RX3 yX3_needOpen wsX3_needOpen) := goodIn_app (goodIn_of _ (by decide +kernel)) ggX3_undo_X3_needOpen
set_option maxRecDepth 20000 in
theorem ggX3_undo_Jx4a65c_size_8abf5 : GoodIn wsX3_undo wsJx4a65c_size_8abf5 := goodIn_r _ [22, 23, 136, 137, 138] (by decide +kernel) (by decide +kernel)
set_option maxRecDepth 20000 in
theorem gX3_undo_Jx4a65c_size_8abf5 : GoodIn wsX3_undo (wsV RX3 126 RJx4a65c yJx4a65c_size_8abf5 wsJx4a65c_size_8abf5) := goodIn_app (goodIn_of _ (by decide +kernel)) ggX3_undo_Jx4a65c_size_8abf5
set_option maxRecDepth 20000 in
theorem ggX3_undo_X3_hasVersionOf : GoodIn wsX3_undo wsX3_hasVersionOf := goodIn_r _ [27, 4, 28, 29, 30, 31, 32, 33, 34, 21, 35, 23, 36, 37, 38, 39, 40, 41, 42, 43, 44, 45, 46, 47, 48, 125, 126, 127, 128, 129, 130, 131, 132, 133, 134, 135, 139, 140, 141, 142, 143, 144, 145, 146, 136, 137, 138] (by decide +kernel) (by decide +kernel)
set_option maxRecDepth 20000 in
theorem gX3_undo_X3_hasVersionOf : GoodIn wsX3_undo (wsV RX3 130 RX3 yX3_hasVersionOf wsX3_hasVersionOf) := goodIn_app (goodIn_of _ (by decide +kernel)) ggX3_undo_X3_hasVersionOf
set_option maxRecDepth 20000 in
theorem ggX3_undo_X3_undoThing : GoodIn wsX3_undo wsX3_undoThing := goodIn_r _ [52, 4, 28, 29, 30, 32, 33, 34, 21, 35, 23, 36, 37, 38, 39, 40, 41, 42, 43, 44, 45, 46, 47, 48, 53, 54, 55, 8, 56, 31, 57, 58, 59, 60, 61, 62, 63, 64, 65, 66, 67, 68, 69, 70, 71, 72, 18, 19, 20, 22, 73, 74, 75, 76, 77, 78, 79, 80, 81, 82, 83, 84, 85, 86, 87, 88, 89, 90, 91, 92, 93, 94, 95, 96, 97, 98, 99, 100, 101, 102, 103, 104, 105, 106, 107, 17, 108, 109, 110, 111, 112, 113, 114, 115, 116, 117, 118, 119, 120, 121, 122, 123, 124, 125, 126, 127, 128, 129, 130, 131, 132, 133, 134, 135, 139, 140, 141, 142, 143, 144, 145, 146, 136, 137, 138, 147, 148, 149, 150] (by decide +kernel) (by decide +kernel)
set_option maxRecDepth 20000 in
theorem gX3_undo_X3_undoThing : GoodIn wsX3_undo (wsV RX3 134 RX3 yX3_undoThing wsX3_undoThing) := goodIn_app (goodIn_of _ (by decide +kernel)) ggX3_undo_X3_undoThing
theorem dX3_undo_0 : decode cX3_undo 0 = .ok (.aload_n 0, 1) := by decide +kernel
theorem dX3_undo_1 : decode cX3_undo 1 = .ok (.iload_n 1, 1) := by decide +kernel
theorem dX3_undo_2 : decode cX3_undo 2 = .ok (.invokevirtual 62, 3) := by decide +kernel
theorem dX3_undo_5 : decode cX3_undo 5 = .ok (.aload_n 0, 1) := by decide +kernel
theorem dX3_undo_6 : decode cX3_undo 6 = .ok (.iload_n 2, 1) := by decide +kernel
theorem dX3_undo_7 : decode cX3_undo 7 = .ok (.invokevirtual 62, 3) := by decide +kernel
theorem dX3_undo_10 : decode cX3_undo 10 = .ok (.aload_n 0, 1) := by decide +kernel
theorem dX3_undo_11 : decode cX3_undo 11 = .ok (.iload_n 1, 1) := by decide +kernel
theorem dX3_undo_12 : decode cX3_undo 12 = .ok (.invokevirtual 77, 3) := by decide +kernel
theorem dX3_undo_15 : decode cX3_undo 15 = .ok (.aload_n 0, 1) := by decide +kernel
theorem dX3_undo_16 : decode cX3_undo 16 = .ok (.getfield 29, 3) := by decide +kernel
theorem dX3_undo_19 : decode cX3_undo 19 = .ok (.iload_n 2, 1) := by decide +kernel
theorem dX3_undo_20 : decode cX3_undo 20 = .ok (.baload, 1) := by decide +kernel
theorem dX3_undo_21 : decode cX3_undo 21 = .ok (.ifCond .ne 13, 3) := by decide +kernel
theorem dX3_undo_24 : decode cX3_undo 24 = .ok (.new 55, 3) := by decide +kernel
theorem dX3_undo_27 : decode cX3_undo 27 = .ok (.dup, 1) := by decide +kernel
theorem dX3_undo_28 : decode cX3_undo 28 = .ok (.ldc 124, 2) := by decide +kernel
theorem dX3_undo_30 : decode cX3_undo 30 = .ok (.invokespecial 59, 3) := by decide +kernel
theorem dX3_undo_33 : decode cX3_undo 33 = .ok (.athrow, 1) := by decide +kernel
theorem dX3_undo_34 : decode cX3_undo 34 = .ok (.iconst 0, 1) := by decide +kernel
theorem dX3_undo_35 : decode cX3_undo 35 = .ok (.istore_n 3, 1) := by decide +kernel
theorem dX3_undo_36 : decode cX3_undo 36 = .ok (.aload_n 0, 1) := by decide +kernel
theorem dX3_undo_37 : decode cX3_undo 37 = .ok (.getfield 25, 3) := by decide +kernel
theorem dX3_undo_40 : decode cX3_undo 40 = .ok (.invokevirtual 126, 3) := by decide +kernel
theorem dX3_undo_43 : decode cX3_undo 43 = .ok (.iconst 1, 1) := by decide +kernel
theorem dX3_undo_44 : decode cX3_undo 44 = .ok (.isub, 1) := by decide +kernel
theorem dX3_undo_45 : decode cX3_undo 45 = .ok (.istore 4, 2) := by decide +kernel
theorem dX3_undo_47 : decode cX3_undo 47 = .ok (.iload 4, 2) := by decide +kernel
theorem dX3_undo_49 : decode cX3_undo 49 = .ok (.ifCond .lt 33, 3) := by decide +kernel
theorem dX3_undo_52 : decode cX3_undo 52 = .ok (.aload_n 0, 1) := by decide +kernel
theorem dX3_undo_53 : decode cX3_undo 53 = .ok (.iload 4, 2) := by decide +kernel
theorem dX3_undo_55 : decode cX3_undo 55 = .ok (.iload_n 2, 1) := by decide +kernel
theorem dX3_undo_56 : decode cX3_undo 56 = .ok (.invokevirtual 130, 3) := by decide +kernel
theorem dX3_undo_59 : decode cX3_undo 59 = .ok (.ifCond .eq 17, 3) := by decide +kernel
theorem dX3_undo_62 : decode cX3_undo 62 = .ok (.aload_n 0, 1) := by decide +kernel
theorem dX3_undo_63 : decode cX3_undo 63 = .ok (.iload_n 1, 1) := by decide +kernel
theorem dX3_undo_64 : decode cX3_undo 64 = .ok (.iload 4, 2) := by decide +kernel
theorem dX3_undo_66 : decode cX3_undo 66 = .ok (.iload_n 2, 1) := by decide +kernel
theorem dX3_undo_67 : decode cX3_undo 67 = .ok (.invokevirtual 134, 3) := by decide +kernel
theorem dX3_undo_70 : decode cX3_undo 70 = .ok (.ifCond .ne 6, 3) := by decide +kernel
theorem dX3_undo_73 : decode cX3_undo 73 = .ok (.iinc 3 1, 3) := by decide +kernel
theorem dX3_undo_76 : decode cX3_undo 76 = .ok (.iinc 4 (-1), 3) := by decide +kernel
theorem dX3_undo_79 : decode cX3_undo 79 = .ok (.goto (-32), 3) := by decide +kernel
theorem dX3_undo_82 : decode cX3_undo 82 = .ok (.iload_n 3, 1) := by decide +kernel
theorem dX3_undo_83 : decode cX3_undo 83 = .ok (.ireturn, 1) := by decide +kernel
set_option maxRecDepth 20000 in
theorem ggX3_things_Jx4a65c_size_8abf5 : GoodIn wsX3_things wsJx4a65c_size_8abf5 := goodIn_r _ [6, 7, 19, 20, 21] (by decide +kernel) (by decide +kernel)
set_option maxRecDepth 20000 in
theorem gX3_things_Jx4a65c_size_8abf5 : GoodIn wsX3_things (wsV RX3 126 RJx4a65c yJx4a65c_size_8abf5 wsJx4a65c_size_8abf5) := goodIn_app (goodIn_of _ (by decide +kernel)) ggX3_things_Jx4a65c_size_8abf5
theorem dX3_things_0 : decode cX3_things 0 = .ok (.aload_n 0, 1) := by decide +kernel
theorem dX3_things_1 : decode cX3_things 1 = .ok (.getfield 25, 3) := by decide +kernel
theorem dX3_things_4 : decode cX3_things 4 = .ok (.invokevirtual 126, 3) := by decide +kernel
theorem dX3_things_7 : decode cX3_things 7 = .ok (.ireturn, 1) := by decide +kernel
set_option maxRecDepth 20000 in
theorem ggX3_latest_X3_needThing : GoodIn wsX3_latest wsX3_needThing := goodIn_ca (goodIn_r _ [9, 10, 11, 12, 13, 14, 8, 15, 1, 16, 17, 18, 19, 20, 21, 39, 40, 41, 42, 43, 44, 45, 46, 47, 48, 49, 58, 59, 60] (by decide +kernel) (by decide +kernel)) (goodIn_sub (fun _ h => List.mem_cons_of_mem _ (List.mem_append_right _ h)) (by decide +kernel))
set_option maxRecDepth 20000 in
theorem gX3_latest_X3_needThing : GoodIn wsX3_latest (wsV RX3 68 RX3 yX3_needThing wsX3_needThing) := goodIn_app (goodIn_of _ (by decide +kernel)) ggX3_latest_X3_needThing
set_option maxRecDepth 20000 in
theorem ggX3_latest_Jx4a65c_get_915e3 : GoodIn wsX3_latest wsJx4a65c_get_915e3 := goodIn_r _ [25, 21, 26, 27, 28, 29, 30, 31, 32, 33, 34, 35, 36, 19, 37, 38, 58, 59, 60] (by decide +kernel) (by decide +kernel)
set_option maxRecDepth 20000 in
theorem gX3_latest_Jx4a65c_get_915e3 : GoodIn wsX3_latest (wsV RX3 107 RJx4a65c yJx4a65c_get_915e3 wsJx4a65c_get_915e3) := goodIn_app (goodIn_of _ (by decide +kernel)) ggX3_latest_Jx4a65c_get_915e3
theorem dX3_latest_0 : decode cX3_latest 0 = .ok (.aload_n 0, 1) := by decide +kernel
theorem dX3_latest_1 : decode cX3_latest 1 = .ok (.iload_n 1, 1) := by decide +kernel
theorem dX3_latest_2 : decode cX3_latest 2 = .ok (.invokevirtual 68, 3) := by decide +kernel
theorem dX3_latest_5 : decode cX3_latest 5 = .ok (.aload_n 0, 1) := by decide +kernel
theorem dX3_latest_6 : decode cX3_latest 6 = .ok (.getfield 25, 3) := by decide +kernel
theorem dX3_latest_9 : decode cX3_latest 9 = .ok (.iload_n 1, 1) := by decide +kernel
theorem dX3_latest_10 : decode cX3_latest 10 = .ok (.invokevirtual 107, 3) := by decide +kernel
theorem dX3_latest_13 : decode cX3_latest 13 = .ok (.checkcast 111, 3) := by decide +kernel
theorem dX3_latest_16 : decode cX3_latest 16 = .ok (.getfield 138, 3) := by decide +kernel
theorem dX3_latest_19 : decode cX3_latest 19 = .ok (.getfield 142, 3) := by decide +kernel
theorem dX3_latest_22 : decode cX3_latest 22 = .ok (.ireturn, 1) := by decide +kernel
set_option maxRecDepth 20000 in
theorem ggX3_isThere_X3_needThing : GoodIn wsX3_isThere wsX3_needThing := goodIn_ca (goodIn_r _ [5, 6, 7, 8, 9, 10, 4, 11, 12, 13, 14, 15, 16, 17, 18, 44, 45, 46, 47, 48, 49, 50, 51, 52, 53, 54, 55, 56, 57] (by decide +kernel) (by decide +kernel)) (goodIn_sub (fun _ h => List.mem_cons_of_mem _ (List.mem_append_right _ h)) (by decide +kernel))
set_option maxRecDepth 20000 in
theorem gX3_isThere_X3_needThing : GoodIn wsX3_isThere (wsV RX3 68 RX3 yX3_needThing wsX3_needThing) := goodIn_app (goodIn_of _ (by decide +kernel)) ggX3_isThere_X3_needThing
set_option maxRecDepth 20000 in
theorem ggX3_isThere_X3_isNow : GoodIn wsX3_isThere wsX3_isNow := goodIn_r _ [22, 12, 23, 24, 25, 26, 8, 9, 10, 4, 11, 13, 14, 15, 16, 17, 18, 27, 28, 29, 30, 31, 32, 33, 34, 35, 36, 37, 38, 39, 40, 41, 42, 43, 44, 45, 46, 47, 48, 49, 50, 51, 52, 53, 54, 58, 59, 60, 61, 62, 63, 64, 65, 66, 67, 68, 69, 55, 56, 57] (by decide +kernel) (by decide +kernel)
set_option maxRecDepth 20000 in
theorem gX3_isThere_X3_isNow : GoodIn wsX3_isThere (wsV RX3 147 RX3 yX3_isNow wsX3_isNow) := goodIn_app (goodIn_of _ (by decide +kernel)) ggX3_isThere_X3_isNow
theorem dX3_isThere_0 : decode cX3_isThere 0 = .ok (.aload_n 0, 1) := by decide +kernel
theorem dX3_isThere_1 : decode cX3_isThere 1 = .ok (.iload_n 1, 1) := by decide +kernel
theorem dX3_isThere_2 : decode cX3_isThere 2 = .ok (.invokevirtual 68, 3) := by decide +kernel
theorem dX3_isThere_5 : decode cX3_isThere 5 = .ok (.aload_n 0, 1) := by decide +kernel
theorem dX3_isThere_6 : decode cX3_isThere 6 = .ok (.iload_n 1, 1) := by decide +kernel
theorem dX3_isThere_7 : decode cX3_isThere 7 = .ok (.invokevirtual 147, 3) := by decide +kernel
theorem dX3_isThere_10 : decode cX3_isThere 10 = .ok (.ireturn, 1) := by decide +kernel
set_option maxRecDepth 20000 in
theorem ggX3_whereIs_X3_needThing : GoodIn wsX3_whereIs wsX3_needThing := goodIn_ca (goodIn_r _ [15, 16, 17, 18, 19, 20, 14, 21, 3, 22, 23, 24, 25, 26, 27, 45, 46, 47, 48, 49, 50, 51, 52, 53, 54, 55, 68, 69, 70] (by decide +kernel) (by decide +kernel)) (goodIn_sub (fun _ h => List.mem_cons_of_mem _ (List.mem_append_right _ h)) (by decide +kernel))
set_option maxRecDepth 20000 in
theorem gX3_whereIs_X3_needThing : GoodIn wsX3_whereIs (wsV RX3 68 RX3 yX3_needThing wsX3_needThing) := goodIn_app (goodIn_of _ (by decide +kernel)) ggX3_whereIs_X3_needThing
set_option maxRecDepth 20000 in
theorem ggX3_whereIs_Jx4a65c_get_915e3 : GoodIn wsX3_whereIs wsJx4a65c_get_915e3 := goodIn_r _ [31, 27, 32, 33, 34, 35, 36, 37, 38, 39, 40, 41, 42, 25, 43, 44, 68, 69, 70] (by decide +kernel) (by decide +kernel)
set_option maxRecDepth 20000 in
theorem gX3_whereIs_Jx4a65c_get_915e3 : GoodIn wsX3_whereIs (wsV RX3 107 RJx4a65c yJx4a65c_get_915e3 wsJx4a65c_get_915e3) := goodIn_app (goodIn_of _ (by decide +kernel)) ggX3_whereIs_Jx4a65c_get_915e3
theorem dX3_whereIs_0 : decode cX3_whereIs 0 = .ok (.aload_n 0, 1) := by decide +kernel
theorem dX3_whereIs_1 : decode cX3_whereIs 1 = .ok (.iload_n 1, 1) := by decide +kernel
theorem dX3_whereIs_2 : decode cX3_whereIs 2 = .ok (.invokevirtual 68, 3) := by decide +kernel
theorem dX3_whereIs_5 : decode cX3_whereIs 5 = .ok (.aload_n 0, 1) := by decide +kernel
theorem dX3_whereIs_6 : decode cX3_whereIs 6 = .ok (.getfield 25, 3) := by decide +kernel
theorem dX3_whereIs_9 : decode cX3_whereIs 9 = .ok (.iload_n 1, 1) := by decide +kernel
theorem dX3_whereIs_10 : decode cX3_whereIs 10 = .ok (.invokevirtual 107, 3) := by decide +kernel
theorem dX3_whereIs_13 : decode cX3_whereIs 13 = .ok (.checkcast 111, 3) := by decide +kernel
theorem dX3_whereIs_16 : decode cX3_whereIs 16 = .ok (.getfield 138, 3) := by decide +kernel
theorem dX3_whereIs_19 : decode cX3_whereIs 19 = .ok (.getfield 151, 3) := by decide +kernel
theorem dX3_whereIs_22 : decode cX3_whereIs 22 = .ok (.astore_n 2, 1) := by decide +kernel
theorem dX3_whereIs_23 : decode cX3_whereIs 23 = .ok (.aload_n 0, 1) := by decide +kernel
theorem dX3_whereIs_24 : decode cX3_whereIs 24 = .ok (.getfield 25, 3) := by decide +kernel
theorem dX3_whereIs_27 : decode cX3_whereIs 27 = .ok (.iload_n 1, 1) := by decide +kernel
theorem dX3_whereIs_28 : decode cX3_whereIs 28 = .ok (.invokevirtual 107, 3) := by decide +kernel
theorem dX3_whereIs_31 : decode cX3_whereIs 31 = .ok (.checkcast 111, 3) := by decide +kernel
theorem dX3_whereIs_34 : decode cX3_whereIs 34 = .ok (.getfield 113, 3) := by decide +kernel
theorem dX3_whereIs_37 : decode cX3_whereIs 37 = .ok (.ifCond .ne 10, 3) := by decide +kernel
theorem dX3_whereIs_40 : decode cX3_whereIs 40 = .ok (.aload_n 2, 1) := by decide +kernel
theorem dX3_whereIs_41 : decode cX3_whereIs 41 = .ok (.getfield 154, 3) := by decide +kernel
theorem dX3_whereIs_44 : decode cX3_whereIs 44 = .ok (.ifCond .ne 13, 3) := by decide +kernel
theorem dX3_whereIs_47 : decode cX3_whereIs 47 = .ok (.new 158, 3) := by decide +kernel
theorem dX3_whereIs_50 : decode cX3_whereIs 50 = .ok (.dup, 1) := by decide +kernel
theorem dX3_whereIs_51 : decode cX3_whereIs 51 = .ok (.ldc 160, 2) := by decide +kernel
theorem dX3_whereIs_53 : decode cX3_whereIs 53 = .ok (.invokespecial 162, 3) := by decide +kernel
theorem dX3_whereIs_56 : decode cX3_whereIs 56 = .ok (.athrow, 1) := by decide +kernel
theorem dX3_whereIs_57 : decode cX3_whereIs 57 = .ok (.bipush 100, 2) := by decide +kernel
theorem dX3_whereIs_59 : decode cX3_whereIs 59 = .ok (.aload_n 2, 1) := by decide +kernel
theorem dX3_whereIs_60 : decode cX3_whereIs 60 = .ok (.getfield 163, 3) := by decide +kernel
theorem dX3_whereIs_63 : decode cX3_whereIs 63 = .ok (.imul, 1) := by decide +kernel
theorem dX3_whereIs_64 : decode cX3_whereIs 64 = .ok (.aload_n 2, 1) := by decide +kernel
theorem dX3_whereIs_65 : decode cX3_whereIs 65 = .ok (.getfield 166, 3) := by decide +kernel
theorem dX3_whereIs_68 : decode cX3_whereIs 68 = .ok (.iadd, 1) := by decide +kernel
theorem dX3_whereIs_69 : decode cX3_whereIs 69 = .ok (.ireturn, 1) := by decide +kernel
set_option maxRecDepth 20000 in
theorem ggX3_members_X3_needThing : GoodIn wsX3_members wsX3_needThing := goodIn_ca (goodIn_r _ [10, 11, 12, 13, 14, 15, 9, 16, 1, 17, 18, 19, 20, 21, 22, 40, 41, 42, 43, 44, 45, 46, 47, 48, 49, 50, 63, 64, 65] (by decide +kernel) (by decide +kernel)) (goodIn_sub (fun _ h => List.mem_cons_of_mem _ (List.mem_append_right _ h)) (by decide +kernel))
set_option maxRecDepth 20000 in
theorem gX3_members_X3_needThing : GoodIn wsX3_members (wsV RX3 68 RX3 yX3_needThing wsX3_needThing) := goodIn_app (goodIn_of _ (by decide +kernel)) ggX3_members_X3_needThing
set_option maxRecDepth 20000 in
theorem ggX3_members_Jx4a65c_get_915e3 : GoodIn wsX3_members wsJx4a65c_get_915e3 := goodIn_r _ [26, 22, 27, 28, 29, 30, 31, 32, 33, 34, 35, 36, 37, 20, 38, 39, 63, 64, 65] (by decide +kernel) (by decide +kernel)
set_option maxRecDepth 20000 in
theorem gX3_members_Jx4a65c_get_915e3 : GoodIn wsX3_members (wsV RX3 107 RJx4a65c yJx4a65c_get_915e3 wsJx4a65c_get_915e3) := goodIn_app (goodIn_of _ (by decide +kernel)) ggX3_members_Jx4a65c_get_915e3
theorem dX3_members_0 : decode cX3_members 0 = .ok (.aload_n 0, 1) := by decide +kernel
theorem dX3_members_1 : decode cX3_members 1 = .ok (.iload_n 1, 1) := by decide +kernel
theorem dX3_members_2 : decode cX3_members 2 = .ok (.invokevirtual 68, 3) := by decide +kernel
theorem dX3_members_5 : decode cX3_members 5 = .ok (.aload_n 0, 1) := by decide +kernel
theorem dX3_members_6 : decode cX3_members 6 = .ok (.getfield 25, 3) := by decide +kernel
theorem dX3_members_9 : decode cX3_members 9 = .ok (.iload_n 1, 1) := by decide +kernel
theorem dX3_members_10 : decode cX3_members 10 = .ok (.invokevirtual 107, 3) := by decide +kernel
theorem dX3_members_13 : decode cX3_members 13 = .ok (.checkcast 111, 3) := by decide +kernel
theorem dX3_members_16 : decode cX3_members 16 = .ok (.getfield 138, 3) := by decide +kernel
theorem dX3_members_19 : decode cX3_members 19 = .ok (.getfield 151, 3) := by decide +kernel
theorem dX3_members_22 : decode cX3_members 22 = .ok (.getfield 100, 3) := by decide +kernel
theorem dX3_members_25 : decode cX3_members 25 = .ok (.arraylength, 1) := by decide +kernel
theorem dX3_members_26 : decode cX3_members 26 = .ok (.ireturn, 1) := by decide +kernel
set_option maxRecDepth 20000 in
theorem ggX3_usedBy_X3_needThing : GoodIn wsX3_usedBy wsX3_needThing := goodIn_ca (goodIn_r _ [5, 6, 7, 8, 9, 10, 4, 11, 12, 13, 14, 15, 16, 17, 18, 57, 58, 59, 60, 61, 62, 63, 64, 65, 66, 67, 68, 69, 70] (by decide +kernel) (by decide +kernel)) (goodIn_sub (fun _ h => List.mem_cons_of_mem _ (List.mem_append_right _ h)) (by decide +kernel))
set_option maxRecDepth 20000 in
theorem gX3_usedBy_X3_needThing : GoodIn wsX3_usedBy (wsV RX3 68 RX3 yX3_needThing wsX3_needThing) := goodIn_app (goodIn_of _ (by decide +kernel)) ggX3_usedBy_X3_needThing
set_option maxRecDepth 20000 in
theorem ggX3_usedBy_X3_bit : GoodIn wsX3_usedBy wsX3_bit := goodIn_r _ [21] (by decide +kernel) (by decide +kernel)
set_option maxRecDepth 20000 in
theorem gX3_usedBy_X3_bit : GoodIn wsX3_usedBy (va_wsS RX3 169 yX3_bit wsX3_bit) := goodIn_app (goodIn_of _ (by decide +kernel)) ggX3_usedBy_X3_bit
set_option maxRecDepth 20000 in
theorem ggX3_usedBy_X3_usersOf : GoodIn wsX3_usedBy wsX3_usersOf := goodIn_r _ [25, 12, 26, 27, 28, 29, 13, 14, 15, 16, 17, 18, 30, 31, 32, 33, 34, 35, 36, 37, 38, 39, 40, 41, 42, 43, 44, 45, 46, 47, 48, 4, 49, 19, 20, 21, 57, 58, 59, 60, 61, 62, 63, 64, 65, 66, 67, 71, 72, 73, 74, 75, 76, 77, 78, 79, 80, 81, 82, 68, 69, 70] (by decide +kernel) (by decide +kernel)
set_option maxRecDepth 20000 in
theorem gX3_usedBy_X3_usersOf : GoodIn wsX3_usedBy (wsV RX3 173 RX3 yX3_usersOf wsX3_usersOf) := goodIn_app (goodIn_of _ (by decide +kernel)) ggX3_usedBy_X3_usersOf
set_option maxRecDepth 20000 in
theorem ggX3_usedBy_J13_bitCount_95d88 : GoodIn wsX3_usedBy wsJ13_bitCount_95d88 := goodIn_r _ [53, 54, 55, 56] (by decide +kernel) (by decide +kernel)
set_option maxRecDepth 20000 in
theorem gX3_usedBy_J13_bitCount_95d88 : GoodIn wsX3_usedBy (va_wsS RX3 177 yJ13_bitCount_95d88 wsJ13_bitCount_95d88) := goodIn_app (goodIn_of _ (by decide +kernel)) ggX3_usedBy_J13_bitCount_95d88
theorem dX3_usedBy_0 : decode cX3_usedBy 0 = .ok (.aload_n 0, 1) := by decide +kernel
