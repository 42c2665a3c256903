theorem bI1 {b : Bool} (h : b = true) : some (Value.int (nI 1)) = some (Value.int (bI b)) := by rw [h]; rfl
theorem bI0 {b : Bool} (h : b = false) : some (Value.int (nI 0)) = some (Value.int (bI b)) := by rw [h]; rfl
theorem bI_e {x : Nat} {b : Bool} (h : x = b.toNat) : some (Value.int (nI x)) = some (Value.int (bI b)) := by rw [h]; rfl
set_option maxRecDepth 100000 in
set_option maxHeartbeats 4000000 in
theorem m_in (l : Launch) (hlt : l.stackTraces = false) (G : jG) {h : jH} (v lo hi : Int32) : jM l G yX4_in wsX4_in 0 0 0 0 [.int v, .int lo, .int hi] h (fun r h' => r = some (.int (bI (decide (lo ≤ v) && decide (v ≤ hi)))) ∧ h' = h) (fun _ _ => False) := by
  refine jM_of (cc := cX4_in) (maxL := 3) (ret := (some .boolean)) hlt (by decide +kernel) rfl (Nat.le_of_ble_eq_true rfl) ?_
  intro X C E hXl hXR hXn
  show jW X G 3 0 0 0 [(0, .int v), (1, .int lo), (2, .int hi)] [] h
  refine j_iload_n C (i := 0) (x := v) 0 rfl dX4_in_0 (pc' := 1) rfl ?_
  refine j_iload_n C (i := 1) (x := lo) 1 rfl dX4_in_1 (pc' := 2) rfl ?_
  refine j_icmp_lt C dX4_in_2 (tgt := 14) (by decide) (pc' := 5) rfl (fun c_1 => ?_) (fun c_1 => ?_)
  · refine j_iconst C (v := nI 0) rfl dX4_in_14 (pc' := 15) rfl ?_
    exact j_iret C E dX4_in_15 rfl (Nat.le_refl _) (Nat.le_refl _) ⟨bI0 (by rw [Bool.and_eq_false_iff]; exact Or.inl (decide_eq_false (Int32.not_le.mpr c_1))), rfl⟩
  · refine j_iload_n C (i := 0) (x := v) 0 rfl dX4_in_5 (pc' := 6) rfl ?_
    refine j_iload_n C (i := 2) (x := hi) 2 rfl dX4_in_6 (pc' := 7) rfl ?_
    refine j_icmp_gt C dX4_in_7 (tgt := 14) (by decide) (pc' := 10) rfl (fun c_2 => ?_) (fun c_2 => ?_)
    · refine j_iconst C (v := nI 0) rfl dX4_in_14 (pc' := 15) rfl ?_
      exact j_iret C E dX4_in_15 rfl (Nat.le_refl _) (Nat.le_refl _) ⟨bI0 (by rw [Bool.and_eq_false_iff]; exact Or.inr (decide_eq_false (Int32.not_le.mpr c_2))), rfl⟩
    · refine j_iconst C (v := nI 1) rfl dX4_in_10 (pc' := 11) rfl ?_
      refine j_goto C dX4_in_11 (pc' := 15) (by decide) ?_
      exact j_iret C E dX4_in_15 rfl (Nat.le_refl _) (Nat.le_refl _) ⟨bI1 (by rw [Bool.and_eq_true, decide_eq_true_eq, decide_eq_true_eq]; exact ⟨Int32.not_lt.mp c_1, Int32.not_lt.mp c_2⟩), rfl⟩
def gTh (x y z : Bool) : Nat := if x then (if y then (if z then 0 else 3) else 2) else 1
set_option maxRecDepth 100000 in
set_option maxHeartbeats 4000000 in
theorem m_goes (l : Launch) (hlt : l.stackTraces = false) (G : jG) {mo : Nat} {ad : Nat → Nat} {h0 : jH} (M : mG mo ad) (s : mS) (a : mA) (x y z : Bool) : jM l G yX4_goes wsX4_goes 0 0 0 0 [.ref mo, .int (bI x), .int (bI y), .int (bI z)] (hM G mo ad h0 s a) (fun r h' => r = some (.int (bI (x && y && z))) ∧ h' = hM G mo ad h0 (va_up s 25 (gTh x y z)) a) (fun _ _ => False) := by
  refine jM_of (cc := cX4_goes) (maxL := 4) (ret := (some .boolean)) hlt (by decide +kernel) rfl (Nat.le_of_ble_eq_true rfl) ?_
  intro X C E hXl hXR hXn
  have hin : ∀ w ∈ u_ws RX4 TX4 26, w ∈ wsX4_goes := by decide +kernel
  show jW X G 4 0 0 0 [(0, .ref mo), (1, .int (bI x)), (2, .int (bI y)), (3, .int (bI z))] [] (hM G mo ad h0 s a)
  refine j_aload_n C (i := 0) (x := mo) 0 rfl dX4_goes_0 (pc' := 1) rfl ?_
  refine j_iload_n C (i := 1) (x := bI x) 1 rfl dX4_goes_1 (pc' := 2) rfl ?_
  rcases hb_1 : (x) with _ | _
  · show jW X G 4 0 0 2 [(0, .ref mo), (1, .int (nI 0)), (2, .int (bI y)), (3, .int (bI z))] [.int (nI 0), .ref mo] (hM G mo ad h0 s a)
    refine j_if_ne C dX4_goes_2 (tgt := 9) (by decide) (pc' := 5) rfl (fun c_2 => absurd (by decide) c_2) (fun _ => ?_)
    refine j_iconst C (v := nI 1) rfl dX4_goes_5 (pc' := 6) rfl ?_
    refine j_goto C dX4_goes_6 (pc' := 26) (by decide) ?_
    refine m_put C (f := 25) (idx := 65) (v := 1) hin (by decide) rfl (by decide +kernel) dX4_goes_26 (pc' := 29) rfl ?_
    refine j_aload_n C (i := 0) (x := mo) 0 rfl dX4_goes_29 (pc' := 30) rfl ?_
    refine m_get C (f := 25) (idx := 65) hin (by decide) rfl (by decide +kernel) dX4_goes_30 (pc' := 33) rfl ?_
    show jW X G 4 0 0 33 [(0, .ref mo), (1, .int (nI 0)), (2, .int (bI y)), (3, .int (bI z))] [.int (nI 1)] (hM G mo ad h0 va_up s 25 1 a)
    refine j_if_ne C dX4_goes_33 (tgt := 40) (by decide) (pc' := 36) rfl (fun _ => ?_) (fun c_3 => absurd c_3 (by decide))
    refine j_iconst C (v := nI 0) rfl dX4_goes_40 (pc' := 41) rfl ?_
    exact j_iret C E dX4_goes_41 rfl (Nat.le_refl _) (Nat.le_refl _) ⟨rfl, rfl⟩
  · show jW X G 4 0 0 2 [(0, .ref mo), (1, .int (nI 1)), (2, .int (bI y)), (3, .int (bI z))] [.int (nI 1), .ref mo] (hM G mo ad h0 s a)
    refine j_if_ne C dX4_goes_2 (tgt := 9) (by decide) (pc' := 5) rfl (fun _ => ?_) (fun c_4 => absurd c_4 (by decide))
    refine j_iload_n C (i := 2) (x := bI y) 2 rfl dX4_goes_9 (pc' := 10) rfl ?_
    rcases hb_5 : (y) with _ | _
    · show jW X G 4 0 0 10 [(0, .ref mo), (1, .int (nI 1)), (2, .int (nI 0)), (3, .int (bI z))] [.int (nI 0), .ref mo] (hM G mo ad h0 s a)
      refine j_if_ne C dX4_goes_10 (tgt := 17) (by decide) (pc' := 13) rfl (fun c_6 => absurd (by decide) c_6) (fun _ => ?_)
      refine j_iconst C (v := nI 2) rfl dX4_goes_13 (pc' := 14) rfl ?_
      refine j_goto C dX4_goes_14 (pc' := 26) (by decide) ?_
      refine m_put C (f := 25) (idx := 65) (v := 2) hin (by decide) rfl (by decide +kernel) dX4_goes_26 (pc' := 29) rfl ?_
      refine j_aload_n C (i := 0) (x := mo) 0 rfl dX4_goes_29 (pc' := 30) rfl ?_
      refine m_get C (f := 25) (idx := 65) hin (by decide) rfl (by decide +kernel) dX4_goes_30 (pc' := 33) rfl ?_
      show jW X G 4 0 0 33 [(0, .ref mo), (1, .int (nI 1)), (2, .int (nI 0)), (3, .int (bI z))] [.int (nI 2)] (hM G mo ad h0 va_up s 25 2 a)
      refine j_if_ne C dX4_goes_33 (tgt := 40) (by decide) (pc' := 36) rfl (fun _ => ?_) (fun c_7 => absurd c_7 (by decide))
      refine j_iconst C (v := nI 0) rfl dX4_goes_40 (pc' := 41) rfl ?_
      exact j_iret C E dX4_goes_41 rfl (Nat.le_refl _) (Nat.le_refl _) ⟨rfl, rfl⟩
    · show jW X G 4 0 0 10 [(0, .ref mo), (1, .int (nI 1)), (2, .int (nI 1)), (3, .int (bI z))] [.int (nI 1), .ref mo] (hM G mo ad h0 s a)
      refine j_if_ne C dX4_goes_10 (tgt := 17) (by decide) (pc' := 13) rfl (fun _ => ?_) (fun c_8 => absurd c_8 (by decide))
      refine j_iload_n C (i := 3) (x := bI z) 3 rfl dX4_goes_17 (pc' := 18) rfl ?_
      rcases hb_9 : (z) with _ | _
      · show jW X G 4 0 0 18 [(0, .ref mo), (1, .int (nI 1)), (2, .int (nI 1)), (3, .int (nI 0))] [.int (nI 0), .ref mo] (hM G mo ad h0 s a)
        refine j_if_ne C dX4_goes_18 (tgt := 25) (by decide) (pc' := 21) rfl (fun c_10 => absurd (by decide) c_10) (fun _ => ?_)
        refine j_iconst C (v := nI 3) rfl dX4_goes_21 (pc' := 22) rfl ?_
        refine j_goto C dX4_goes_22 (pc' := 26) (by decide) ?_
        refine m_put C (f := 25) (idx := 65) (v := 3) hin (by decide) rfl (by decide +kernel) dX4_goes_26 (pc' := 29) rfl ?_
        refine j_aload_n C (i := 0) (x := mo) 0 rfl dX4_goes_29 (pc' := 30) rfl ?_
        refine m_get C (f := 25) (idx := 65) hin (by decide) rfl (by decide +kernel) dX4_goes_30 (pc' := 33) rfl ?_
        show jW X G 4 0 0 33 [(0, .ref mo), (1, .int (nI 1)), (2, .int (nI 1)), (3, .int (nI 0))] [.int (nI 3)] (hM G mo ad h0 va_up s 25 3 a)
        refine j_if_ne C dX4_goes_33 (tgt := 40) (by decide) (pc' := 36) rfl (fun _ => ?_) (fun c_11 => absurd c_11 (by decide))
        refine j_iconst C (v := nI 0) rfl dX4_goes_40 (pc' := 41) rfl ?_
        exact j_iret C E dX4_goes_41 rfl (Nat.le_refl _) (Nat.le_refl _) ⟨rfl, rfl⟩
      · show jW X G 4 0 0 18 [(0, .ref mo), (1, .int (nI 1)), (2, .int (nI 1)), (3, .int (nI 1))] [.int (nI 1), .ref mo] (hM G mo ad h0 s a)
        refine j_if_ne C dX4_goes_18 (tgt := 25) (by decide) (pc' := 21) rfl (fun _ => ?_) (fun c_12 => absurd c_12 (by decide))
        refine j_iconst C (v := nI 0) rfl dX4_goes_25 (pc' := 26) rfl ?_
        refine m_put C (f := 25) (idx := 65) (v := 0) hin (by decide) rfl (by decide +kernel) dX4_goes_26 (pc' := 29) rfl ?_
        refine j_aload_n C (i := 0) (x := mo) 0 rfl dX4_goes_29 (pc' := 30) rfl ?_
        refine m_get C (f := 25) (idx := 65) hin (by decide) rfl (by decide +kernel) dX4_goes_30 (pc' := 33) rfl ?_
        show jW X G 4 0 0 33 [(0, .ref mo), (1, .int (nI 1)), (2, .int (nI 1)), (3, .int (nI 1))] [.int (nI 0)] (hM G mo ad h0 va_up s 25 0 a)
        refine j_if_ne C dX4_goes_33 (tgt := 40) (by decide) (pc' := 36) rfl (fun c_13 => absurd (by decide) c_13) (fun _ => ?_)
        refine j_iconst C (v := nI 1) rfl dX4_goes_36 (pc' := 37) rfl ?_
        refine j_goto C dX4_goes_37 (pc' := 41) (by decide) ?_
        exact j_iret C E dX4_goes_41 rfl (Nat.le_refl _) (Nat.le_refl _) ⟨rfl, rfl⟩
