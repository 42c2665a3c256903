set_option maxRecDepth 100000 in
set_option maxHeartbeats 4000000 in
theorem c_bitCount (l : Launch) (hlt : l.stackTraces = false) (G : jG) {h : jH}  (n : Nat) (hn : n < 2 ^ 40) : jM l G yJ13_bitCount_95d88 wsJ13_bitCount_95d88 0 0 0 0 [.long (lN n)] h (fun r h' => r = some (.int (nI (pop n))) ∧ h' = h) (fun _ _ => False) := by
  refine jM_ofF (cc := cJ13_bitCount_95d88) (maxL := 2) (ret := (some .int)) hlt (by decide +kernel) rfl (Nat.le_of_ble_eq_true rfl) ?_
  intro X C E hXl hXR hXn
  show jW X G 2 0 0 0 [(0, .long (lN n))] [] h
  refine j_lload_n C (i := 0) (x := lN n) 0 rfl dJ13_bitCount_95d88_0 (pc' := 1) rfl ?_
  refine j_lload_n C (i := 0) (x := lN n) 0 rfl dJ13_bitCount_95d88_1 (pc' := 2) rfl ?_
  refine j_iconst C (v := nI 1) rfl dJ13_bitCount_95d88_2 (pc' := 3) rfl ?_
  refine j_lushr C (v := bshr (lN n) 1) rfl dJ13_bitCount_95d88_3 (pc' := 4) rfl ?_
  refine j_ldc2 C (v := 6148914691236517205) (by decide +kernel) dJ13_bitCount_95d88_4 (pc' := 7) rfl ?_
  refine j_land C (x := bshr (lN n) 1) (y := 6148914691236517205) dJ13_bitCount_95d88_7 (pc' := 8) rfl ?_
  refine j_lsub C (x := lN n) (y := (bshr (lN n) 1) &&& 6148914691236517205) dJ13_bitCount_95d88_8 (pc' := 9) rfl ?_
  show jW X G 2 0 0 9 [(0, .long (lN n))] [.long (bc1 (lN n))] h
  refine j_lstore_n C (i := 0) (x := bc1 (lN n)) (l' := [(0, .long (bc1 (lN n)))]) dJ13_bitCount_95d88_9 (pc' := 10) rfl (by decide) rfl ?_
  refine j_lload_n C (i := 0) (x := bc1 (lN n)) 0 rfl dJ13_bitCount_95d88_10 (pc' := 11) rfl ?_
  refine j_ldc2 C (v := 3689348814741910323) (by decide +kernel) dJ13_bitCount_95d88_11 (pc' := 14) rfl ?_
  refine j_land C (x := bc1 (lN n)) (y := 3689348814741910323) dJ13_bitCount_95d88_14 (pc' := 15) rfl ?_
  refine j_lload_n C (i := 0) (x := bc1 (lN n)) 0 rfl dJ13_bitCount_95d88_15 (pc' := 16) rfl ?_
  refine j_iconst C (v := nI 2) rfl dJ13_bitCount_95d88_16 (pc' := 17) rfl ?_
  refine j_lushr C (v := bshr (bc1 (lN n)) 2) rfl dJ13_bitCount_95d88_17 (pc' := 18) rfl ?_
  refine j_ldc2 C (v := 3689348814741910323) (by decide +kernel) dJ13_bitCount_95d88_18 (pc' := 21) rfl ?_
  refine j_land C (x := bshr (bc1 (lN n)) 2) (y := 3689348814741910323) dJ13_bitCount_95d88_21 (pc' := 22) rfl ?_
  refine j_ladd C (x := (bc1 (lN n)) &&& 3689348814741910323) (y := (bshr (bc1 (lN n)) 2) &&& 3689348814741910323) dJ13_bitCount_95d88_22 (pc' := 23) rfl ?_
  show jW X G 2 0 0 23 [(0, .long (bc1 (lN n)))] [.long (bc2 (bc1 (lN n)))] h
  refine j_lstore_n C (i := 0) (x := bc2 (bc1 (lN n))) (l' := [(0, .long (bc2 (bc1 (lN n))))]) dJ13_bitCount_95d88_23 (pc' := 24) rfl (by decide) rfl ?_
  refine j_lload_n C (i := 0) (x := bc2 (bc1 (lN n))) 0 rfl dJ13_bitCount_95d88_24 (pc' := 25) rfl ?_
  refine j_lload_n C (i := 0) (x := bc2 (bc1 (lN n))) 0 rfl dJ13_bitCount_95d88_25 (pc' := 26) rfl ?_
  refine j_iconst C (v := nI 4) rfl dJ13_bitCount_95d88_26 (pc' := 27) rfl ?_
  refine j_lushr C (v := bshr (bc2 (bc1 (lN n))) 4) rfl dJ13_bitCount_95d88_27 (pc' := 28) rfl ?_
  refine j_ladd C (x := bc2 (bc1 (lN n))) (y := bshr (bc2 (bc1 (lN n))) 4) dJ13_bitCount_95d88_28 (pc' := 29) rfl ?_
  refine j_ldc2 C (v := 1085102592571150095) (by decide +kernel) dJ13_bitCount_95d88_29 (pc' := 32) rfl ?_
  refine j_land C (x := (bc2 (bc1 (lN n))) + (bshr (bc2 (bc1 (lN n))) 4)) (y := 1085102592571150095) dJ13_bitCount_95d88_32 (pc' := 33) rfl ?_
  show jW X G 2 0 0 33 [(0, .long (bc2 (bc1 (lN n))))] [.long (bc3 (bc2 (bc1 (lN n))))] h
  refine j_lstore_n C (i := 0) (x := bc3 (bc2 (bc1 (lN n)))) (l' := [(0, .long (bc3 (bc2 (bc1 (lN n)))))]) dJ13_bitCount_95d88_33 (pc' := 34) rfl (by decide) rfl ?_
  refine j_lload_n C (i := 0) (x := bc3 (bc2 (bc1 (lN n)))) 0 rfl dJ13_bitCount_95d88_34 (pc' := 35) rfl ?_
  refine j_lload_n C (i := 0) (x := bc3 (bc2 (bc1 (lN n)))) 0 rfl dJ13_bitCount_95d88_35 (pc' := 36) rfl ?_
  refine j_bipush C (v := nI 8) rfl dJ13_bitCount_95d88_36 (pc' := 38) rfl ?_
  refine j_lushr C (v := bshr (bc3 (bc2 (bc1 (lN n)))) 8) rfl dJ13_bitCount_95d88_38 (pc' := 39) rfl ?_
  refine j_ladd C (x := bc3 (bc2 (bc1 (lN n)))) (y := bshr (bc3 (bc2 (bc1 (lN n)))) 8) dJ13_bitCount_95d88_39 (pc' := 40) rfl ?_
  show jW X G 2 0 0 40 [(0, .long (bc3 (bc2 (bc1 (lN n)))))] [.long (bcS 8 (bc3 (bc2 (bc1 (lN n)))))] h
  refine j_lstore_n C (i := 0) (x := bcS 8 (bc3 (bc2 (bc1 (lN n))))) (l' := [(0, .long (bcS 8 (bc3 (bc2 (bc1 (lN n))))))]) dJ13_bitCount_95d88_40 (pc' := 41) rfl (by decide) rfl ?_
  refine j_lload_n C (i := 0) (x := bcS 8 (bc3 (bc2 (bc1 (lN n))))) 0 rfl dJ13_bitCount_95d88_41 (pc' := 42) rfl ?_
  refine j_lload_n C (i := 0) (x := bcS 8 (bc3 (bc2 (bc1 (lN n))))) 0 rfl dJ13_bitCount_95d88_42 (pc' := 43) rfl ?_
  refine j_bipush C (v := nI 16) rfl dJ13_bitCount_95d88_43 (pc' := 45) rfl ?_
  refine j_lushr C (v := bshr (bcS 8 (bc3 (bc2 (bc1 (lN n))))) 16) rfl dJ13_bitCount_95d88_45 (pc' := 46) rfl ?_
  refine j_ladd C (x := bcS 8 (bc3 (bc2 (bc1 (lN n))))) (y := bshr (bcS 8 (bc3 (bc2 (bc1 (lN n))))) 16) dJ13_bitCount_95d88_46 (pc' := 47) rfl ?_
  show jW X G 2 0 0 47 [(0, .long (bcS 8 (bc3 (bc2 (bc1 (lN n))))))] [.long (bcS 16 (bcS 8 (bc3 (bc2 (bc1 (lN n))))))] h
  refine j_lstore_n C (i := 0) (x := bcS 16 (bcS 8 (bc3 (bc2 (bc1 (lN n)))))) (l' := [(0, .long (bcS 16 (bcS 8 (bc3 (bc2 (bc1 (lN n)))))))]) dJ13_bitCount_95d88_47 (pc' := 48) rfl (by decide) rfl ?_
  refine j_lload_n C (i := 0) (x := bcS 16 (bcS 8 (bc3 (bc2 (bc1 (lN n)))))) 0 rfl dJ13_bitCount_95d88_48 (pc' := 49) rfl ?_
  refine j_lload_n C (i := 0) (x := bcS 16 (bcS 8 (bc3 (bc2 (bc1 (lN n)))))) 0 rfl dJ13_bitCount_95d88_49 (pc' := 50) rfl ?_
  refine j_bipush C (v := nI 32) rfl dJ13_bitCount_95d88_50 (pc' := 52) rfl ?_
  refine j_lushr C (v := bshr (bcS 16 (bcS 8 (bc3 (bc2 (bc1 (lN n)))))) 32) rfl dJ13_bitCount_95d88_52 (pc' := 53) rfl ?_
  refine j_ladd C (x := bcS 16 (bcS 8 (bc3 (bc2 (bc1 (lN n)))))) (y := bshr (bcS 16 (bcS 8 (bc3 (bc2 (bc1 (lN n)))))) 32) dJ13_bitCount_95d88_53 (pc' := 54) rfl ?_
  show jW X G 2 0 0 54 [(0, .long (bcS 16 (bcS 8 (bc3 (bc2 (bc1 (lN n)))))))] [.long (bcS 32 (bcS 16 (bcS 8 (bc3 (bc2 (bc1 (lN n)))))))] h
  refine j_lstore_n C (i := 0) (x := bcS 32 (bcS 16 (bcS 8 (bc3 (bc2 (bc1 (lN n))))))) (l' := [(0, .long (bcS 32 (bcS 16 (bcS 8 (bc3 (bc2 (bc1 (lN n))))))))]) dJ13_bitCount_95d88_54 (pc' := 55) rfl (by decide) rfl ?_
  refine j_lload_n C (i := 0) (x := bcS 32 (bcS 16 (bcS 8 (bc3 (bc2 (bc1 (lN n))))))) 0 rfl dJ13_bitCount_95d88_55 (pc' := 56) rfl ?_
  refine j_l2i C (x := bcS 32 (bcS 16 (bcS 8 (bc3 (bc2 (bc1 (lN n))))))) rfl dJ13_bitCount_95d88_56 (pc' := 57) rfl ?_
  refine j_bipush C (v := nI 127) rfl dJ13_bitCount_95d88_57 (pc' := 59) rfl ?_
  refine j_iand C (x := (bcS 32 (bcS 16 (bcS 8 (bc3 (bc2 (bc1 (lN n))))))).toInt32) (y := nI 127) dJ13_bitCount_95d88_59 (pc' := 60) rfl ?_
  exact j_iret C E dJ13_bitCount_95d88_60 rfl (Nat.le_of_ble_eq_true rfl) (Nat.le_of_ble_eq_true rfl) ⟨by rw [← bc_all hn], rfl⟩
