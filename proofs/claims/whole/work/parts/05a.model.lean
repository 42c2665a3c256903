theorem in_leN {x : Int32} {n : Nat} (hn : n < 2 ^ 30) : (decide (nI 0 ≤ x) && decide (x ≤ nI n - nI 1)) = inN x n := in_le hn
set_option maxRecDepth 100000 in
set_option maxHeartbeats 4000000 in
theorem m_in (l : Launch) (hlt : l.stackTraces = false) (G : jG) {h : jH} (v lo hi : Int32) : jM l G yX4_in wsX4_in 0 0 0 0 [.int v, .int lo, .int hi] h (fun r h' => r = some (.int (bI (decide (lo ≤ v) && decide (v ≤ hi)))) ∧ h' = h) (fun _ _ => False) := by
  refine jM_of (cc := cX4_in) (maxL := 3) (ret := (some .boolean)) hlt (by decide +kernel) rfl (Nat.le_of_ble_eq_true rfl) ?_
  intro X C E hXl hXR hXn
  show jW X G 3 0 0 0 [(0, .int v), (1, .int lo), (2, .int hi)] [] h
  refine j_iload_n C (i := 0) (x := v) 0 rfl dX4_in_0 (pc' := 1) rfl ?_
  refine j_iload_n C (i := 1) (x := lo) 1 rfl dX4_in_1 (pc' := 2) rfl ?_
  refine j_icmp_lt C dX4_in_2 (tgt := 14) (by decide) (pc' := 5) rfl (fun c_1 => ?_) (fun c_1 => ?_)
  · refine j_iconst C (v := nI 0) rfl dX4_in_14 (pc' := 15) rfl ?_
    exact j_iret C E dX4_in_15 rfl (Nat.le_refl _) (Nat.le_refl _) ⟨bI0 (by rw [Bool.and_eq_false_iff]; exact Or.inl (decide_eq_false (Int32.not_le.mpr c_1))), rfl⟩
  · refine j_iload_n C (i := 0) (x := v) 0 rfl dX4_in_5 (pc' := 6) rfl ?_
    refine j_iload_n C (i := 2) (x := hi) 2 rfl dX4_in_6 (pc' := 7) rfl ?_
    refine j_icmp_gt C dX4_in_7 (tgt := 14) (by decide) (pc' := 10) rfl (fun c_2 => ?_) (fun c_2 => ?_)
    · refine j_iconst C (v := nI 0) rfl dX4_in_14 (pc' := 15) rfl ?_
      exact j_iret C E dX4_in_15 rfl (Nat.le_refl _) (Nat.le_refl _) ⟨bI0 (by rw [Bool.and_eq_false_iff]; exact Or.inr (decide_eq_false (Int32.not_le.mpr c_2))), rfl⟩
    · refine j_iconst C (v := nI 1) rfl dX4_in_10 (pc' := 11) rfl ?_
      refine j_goto C dX4_in_11 (pc' := 15) (by decide) ?_
      exact j_iret C E dX4_in_15 rfl (Nat.le_refl _) (Nat.le_refl _) ⟨bI1 (by rw [Bool.and_eq_true, decide_eq_true_eq, decide_eq_true_eq]; exact ⟨Int32.not_lt.mp c_1, Int32.not_lt.mp c_2⟩), rfl⟩
set_option maxRecDepth 100000 in
set_option maxHeartbeats 4000000 in
theorem m_thrown (l : Launch) (hlt : l.stackTraces = false) (G : jG) {mo : Nat} {ad : Nat → Nat} {h0 : jH} (M : mG mo ad) (s : mS) (a : mA)  : jM l G yX4_thrown wsX4_thrown 0 0 0 0 [.ref mo] (hM G mo ad h0 s a) (fun r h' => r = some (.int (nI (s 25))) ∧ h' = hM G mo ad h0 s a) (fun _ _ => False) := by
  refine jM_of (cc := cX4_thrown) (maxL := 1) (ret := (some .int)) hlt (by decide +kernel) rfl (Nat.le_of_ble_eq_true rfl) ?_
  intro X C E hXl hXR hXn
  have hin : ∀ w ∈ u_ws RX4 TX4 26, w ∈ wsX4_thrown := by decide +kernel
  show jW X G 1 0 0 0 [(0, .ref mo)] [] ((hM G mo ad h0 s a))
  refine j_aload_n C (i := 0) (x := mo) 0 rfl dX4_thrown_0 (pc' := 1) rfl ?_
  refine m_get C (f := 25) (idx := 65) hin (by decide) rfl (by decide +kernel) dX4_thrown_1 (pc' := 4) rfl ?_
  exact j_iret C E dX4_thrown_4 rfl (Nat.le_refl _) (Nat.le_refl _) ⟨rfl, rfl⟩
set_option maxRecDepth 100000 in
set_option maxHeartbeats 4000000 in
theorem m_goes (l : Launch) (hlt : l.stackTraces = false) (G : jG) {mo : Nat} {ad : Nat → Nat} {h0 : jH} (M : mG mo ad) (s : mS) (a : mA) (x y z : Bool) : jM l G yX4_goes wsX4_goes 0 0 0 0 [.ref mo, .int (bI x), .int (bI y), .int (bI z)] (hM G mo ad h0 s a) (fun r h' => r = some (.int (bI (x && y && z))) ∧ h' = hM G mo ad h0 (va_up s 25 (gTh x y z)) a) (fun _ _ => False) := by
  refine jM_of (cc := cX4_goes) (maxL := 4) (ret := (some .boolean)) hlt (by decide +kernel) rfl (Nat.le_of_ble_eq_true rfl) ?_
  intro X C E hXl hXR hXn
  have hin : ∀ w ∈ u_ws RX4 TX4 26, w ∈ wsX4_goes := by decide +kernel
  show jW X G 4 0 0 0 [(0, .ref mo), (1, .int (bI x)), (2, .int (bI y)), (3, .int (bI z))] [] ((hM G mo ad h0 s a))
  refine j_aload_n C (i := 0) (x := mo) 0 rfl dX4_goes_0 (pc' := 1) rfl ?_
  refine j_iload_n C (i := 1) (x := bI x) 1 rfl dX4_goes_1 (pc' := 2) rfl ?_
  rcases hb_1 : (x) with _ | _
  · show jW X G 4 0 0 2 [(0, .ref mo), (1, .int (nI 0)), (2, .int (bI y)), (3, .int (bI z))] [.int (nI 0), .ref mo] ((hM G mo ad h0 s a))
    refine j_if_ne C dX4_goes_2 (tgt := 9) (by decide) (pc' := 5) rfl (fun c_2 => absurd (by decide) c_2) (fun _ => ?_)
    refine j_iconst C (v := nI 1) rfl dX4_goes_5 (pc' := 6) rfl ?_
    refine j_goto C dX4_goes_6 (pc' := 26) (by decide) ?_
    refine m_put C (f := 25) (idx := 65) (v := 1) hin (by decide) rfl (by decide +kernel) dX4_goes_26 (pc' := 29) rfl ?_
    refine j_aload_n C (i := 0) (x := mo) 0 rfl dX4_goes_29 (pc' := 30) rfl ?_
    refine m_get C (f := 25) (idx := 65) hin (by decide) rfl (by decide +kernel) dX4_goes_30 (pc' := 33) rfl ?_
    show jW X G 4 0 0 33 [(0, .ref mo), (1, .int (nI 0)), (2, .int (bI y)), (3, .int (bI z))] [.int (nI 1)] ((hM G mo ad h0 (va_up s 25 1) a))
    refine j_if_ne C dX4_goes_33 (tgt := 40) (by decide) (pc' := 36) rfl (fun _ => ?_) (fun c_3 => absurd c_3 (by decide))
    refine j_iconst C (v := nI 0) rfl dX4_goes_40 (pc' := 41) rfl ?_
    exact j_iret C E dX4_goes_41 rfl (Nat.le_refl _) (Nat.le_refl _) ⟨by rw [hb_1]; rfl, by rw [hb_1]; rfl⟩
  · show jW X G 4 0 0 2 [(0, .ref mo), (1, .int (nI 1)), (2, .int (bI y)), (3, .int (bI z))] [.int (nI 1), .ref mo] ((hM G mo ad h0 s a))
    refine j_if_ne C dX4_goes_2 (tgt := 9) (by decide) (pc' := 5) rfl (fun _ => ?_) (fun c_4 => absurd c_4 (by decide))
    refine j_iload_n C (i := 2) (x := bI y) 2 rfl dX4_goes_9 (pc' := 10) rfl ?_
    rcases hb_5 : (y) with _ | _
    · show jW X G 4 0 0 10 [(0, .ref mo), (1, .int (nI 1)), (2, .int (nI 0)), (3, .int (bI z))] [.int (nI 0), .ref mo] ((hM G mo ad h0 s a))
      refine j_if_ne C dX4_goes_10 (tgt := 17) (by decide) (pc' := 13) rfl (fun c_6 => absurd (by decide) c_6) (fun _ => ?_)
      refine j_iconst C (v := nI 2) rfl dX4_goes_13 (pc' := 14) rfl ?_
      refine j_goto C dX4_goes_14 (pc' := 26) (by decide) ?_
      refine m_put C (f := 25) (idx := 65) (v := 2) hin (by decide) rfl (by decide +kernel) dX4_goes_26 (pc' := 29) rfl ?_
      refine j_aload_n C (i := 0) (x := mo) 0 rfl dX4_goes_29 (pc' := 30) rfl ?_
      refine m_get C (f := 25) (idx := 65) hin (by decide) rfl (by decide +kernel) dX4_goes_30 (pc' := 33) rfl ?_
      show jW X G 4 0 0 33 [(0, .ref mo), (1, .int (nI 1)), (2, .int (nI 0)), (3, .int (bI z))] [.int (nI 2)] ((hM G mo ad h0 (va_up s 25 2) a))
      refine j_if_ne C dX4_goes_33 (tgt := 40) (by decide) (pc' := 36) rfl (fun _ => ?_) (fun c_7 => absurd c_7 (by decide))
      refine j_iconst C (v := nI 0) rfl dX4_goes_40 (pc' := 41) rfl ?_
      exact j_iret C E dX4_goes_41 rfl (Nat.le_refl _) (Nat.le_refl _) ⟨by rw [hb_1, hb_5]; rfl, by rw [hb_1, hb_5]; rfl⟩
    · show jW X G 4 0 0 10 [(0, .ref mo), (1, .int (nI 1)), (2, .int (nI 1)), (3, .int (bI z))] [.int (nI 1), .ref mo] ((hM G mo ad h0 s a))
      refine j_if_ne C dX4_goes_10 (tgt := 17) (by decide) (pc' := 13) rfl (fun _ => ?_) (fun c_8 => absurd c_8 (by decide))
      refine j_iload_n C (i := 3) (x := bI z) 3 rfl dX4_goes_17 (pc' := 18) rfl ?_
      rcases hb_9 : (z) with _ | _
      · show jW X G 4 0 0 18 [(0, .ref mo), (1, .int (nI 1)), (2, .int (nI 1)), (3, .int (nI 0))] [.int (nI 0), .ref mo] ((hM G mo ad h0 s a))
        refine j_if_ne C dX4_goes_18 (tgt := 25) (by decide) (pc' := 21) rfl (fun c_10 => absurd (by decide) c_10) (fun _ => ?_)
        refine j_iconst C (v := nI 3) rfl dX4_goes_21 (pc' := 22) rfl ?_
        refine j_goto C dX4_goes_22 (pc' := 26) (by decide) ?_
        refine m_put C (f := 25) (idx := 65) (v := 3) hin (by decide) rfl (by decide +kernel) dX4_goes_26 (pc' := 29) rfl ?_
        refine j_aload_n C (i := 0) (x := mo) 0 rfl dX4_goes_29 (pc' := 30) rfl ?_
        refine m_get C (f := 25) (idx := 65) hin (by decide) rfl (by decide +kernel) dX4_goes_30 (pc' := 33) rfl ?_
        show jW X G 4 0 0 33 [(0, .ref mo), (1, .int (nI 1)), (2, .int (nI 1)), (3, .int (nI 0))] [.int (nI 3)] ((hM G mo ad h0 (va_up s 25 3) a))
        refine j_if_ne C dX4_goes_33 (tgt := 40) (by decide) (pc' := 36) rfl (fun _ => ?_) (fun c_11 => absurd c_11 (by decide))
        refine j_iconst C (v := nI 0) rfl dX4_goes_40 (pc' := 41) rfl ?_
        exact j_iret C E dX4_goes_41 rfl (Nat.le_refl _) (Nat.le_refl _) ⟨by rw [hb_1, hb_5, hb_9]; rfl, by rw [hb_1, hb_5, hb_9]; rfl⟩
      · show jW X G 4 0 0 18 [(0, .ref mo), (1, .int (nI 1)), (2, .int (nI 1)), (3, .int (nI 1))] [.int (nI 1), .ref mo] ((hM G mo ad h0 s a))
        refine j_if_ne C dX4_goes_18 (tgt := 25) (by decide) (pc' := 21) rfl (fun _ => ?_) (fun c_12 => absurd c_12 (by decide))
        refine j_iconst C (v := nI 0) rfl dX4_goes_25 (pc' := 26) rfl ?_
        refine m_put C (f := 25) (idx := 65) (v := 0) hin (by decide) rfl (by decide +kernel) dX4_goes_26 (pc' := 29) rfl ?_
        refine j_aload_n C (i := 0) (x := mo) 0 rfl dX4_goes_29 (pc' := 30) rfl ?_
        refine m_get C (f := 25) (idx := 65) hin (by decide) rfl (by decide +kernel) dX4_goes_30 (pc' := 33) rfl ?_
        show jW X G 4 0 0 33 [(0, .ref mo), (1, .int (nI 1)), (2, .int (nI 1)), (3, .int (nI 1))] [.int (nI 0)] ((hM G mo ad h0 (va_up s 25 0) a))
        refine j_if_ne C dX4_goes_33 (tgt := 40) (by decide) (pc' := 36) rfl (fun c_13 => absurd (by decide) c_13) (fun _ => ?_)
        refine j_iconst C (v := nI 1) rfl dX4_goes_36 (pc' := 37) rfl ?_
        refine j_goto C dX4_goes_37 (pc' := 41) (by decide) ?_
        exact j_iret C E dX4_goes_41 rfl (Nat.le_refl _) (Nat.le_refl _) ⟨by rw [hb_1, hb_5, hb_9]; rfl, by rw [hb_1, hb_5, hb_9]; rfl⟩
set_option maxRecDepth 100000 in
set_option maxHeartbeats 4000000 in
theorem m_told (l : Launch) (hlt : l.stackTraces = false) (G : jG) {mo : Nat} {ad : Nat → Nat} {h0 : jH} (M : mG mo ad) (s : mS) (a : mA) (v : Int32) : jM l G yX4_told wsX4_told 0 0 0 0 [.ref mo, .int v] (hM G mo ad h0 s a) (fun r h' => r = some (.int v) ∧ h' = hM G mo ad h0 (va_up s 25 0) a) (fun _ _ => False) := by
  refine jM_of (cc := cX4_told) (maxL := 2) (ret := (some .int)) hlt (by decide +kernel) rfl (Nat.le_of_ble_eq_true rfl) ?_
  intro X C E hXl hXR hXn
  have hin : ∀ w ∈ u_ws RX4 TX4 26, w ∈ wsX4_told := by decide +kernel
  show jW X G 2 0 0 0 [(0, .ref mo), (1, .int v)] [] ((hM G mo ad h0 s a))
  refine j_aload_n C (i := 0) (x := mo) 0 rfl dX4_told_0 (pc' := 1) rfl ?_
  refine j_iconst C (v := nI 0) rfl dX4_told_1 (pc' := 2) rfl ?_
  refine m_put C (f := 25) (idx := 65) (v := 0) hin (by decide) rfl (by decide +kernel) dX4_told_2 (pc' := 5) rfl ?_
  refine j_iload_n C (i := 1) (x := v) 1 rfl dX4_told_5 (pc' := 6) rfl ?_
  exact j_iret C E dX4_told_6 rfl (Nat.le_refl _) (Nat.le_refl _) ⟨rfl, rfl⟩
set_option maxRecDepth 100000 in
set_option maxHeartbeats 4000000 in
theorem m_isThing (l : Launch) (hlt : l.stackTraces = false) (G : jG) {mo : Nat} {ad : Nat → Nat} {h0 : jH} (M : mG mo ad) (s : mS) (a : mA) (p : Int32) (J : IS s) : jM l G yX4_isThing wsX4_isThing 1 22 0 0 [.ref mo, .int p] (hM G mo ad h0 s a) (fun r h' => r = some (.int (bI (inN p (s 6)))) ∧ h' = hM G mo ad h0 s a) (fun _ _ => False) := by
  refine jM_of (cc := cX4_isThing) (maxL := 2) (ret := (some .boolean)) hlt (by decide +kernel) rfl (Nat.le_of_ble_eq_true rfl) ?_
  intro X C E hXl hXR hXn
  have hin : ∀ w ∈ u_ws RX4 TX4 26, w ∈ wsX4_isThing := by decide +kernel
  show jW X G 2 0 0 0 [(0, .ref mo), (1, .int p)] [] ((hM G mo ad h0 s a))
  refine j_iload_n C (i := 1) (x := p) 1 rfl dX4_isThing_0 (pc' := 1) rfl ?_
  refine j_iconst C (v := nI 0) rfl dX4_isThing_1 (pc' := 2) rfl ?_
  refine j_aload_n C (i := 0) (x := mo) 0 rfl dX4_isThing_2 (pc' := 3) rfl ?_
  refine m_get C (f := 6) (idx := 69) hin (by decide) rfl (by decide +kernel) dX4_isThing_3 (pc' := 6) rfl ?_
  refine j_iconst C (v := nI 1) rfl dX4_isThing_6 (pc' := 7) rfl ?_
  refine j_isub C (x := nI (s 6)) (y := nI 1) dX4_isThing_7 (pc' := 8) rfl ?_
  refine j_callS C (As := [.int p, .int (nI 0), .int (nI (s 6) - nI 1)]) (rest := []) (m_in X.2.1 C.2.2.2.2.2.2.2.2 G p (nI 0) (nI (s 6) - nI 1)) (va_cwS 3 C.2.2.2.2.1 gX4_isThing_X4_in rfl rfl rfl (by decide +kernel) (by rw [hXR]; decide)) rfl rfl (Nat.le_of_ble_eq_true rfl) dX4_isThing_8 (pc' := 11) rfl (by rw [hXR]; exact Nat.zero_le _) (by rw [hXR]; exact Nat.zero_le _) (fun _ _ z => z.elim) ?_
  rintro r h' ⟨rfl, rfl⟩
  show jW X G 2 0 0 11 [(0, .ref mo), (1, .int p)] [.int (bI (decide (nI 0 ≤ p) && decide (p ≤ nI (s 6) - nI 1)))] ((hM G mo ad h0 s a))
  exact j_iret C E dX4_isThing_11 (bI_nar _) (Nat.le_refl _) (Nat.le_refl _) ⟨congrArg (fun b => some (Value.int (bI b))) (in_leN (n := s 6) (by have := J.1 6; omega)), rfl⟩
set_option maxRecDepth 100000 in
set_option maxHeartbeats 4000000 in
theorem m_isSet (l : Launch) (hlt : l.stackTraces = false) (G : jG) {mo : Nat} {ad : Nat → Nat} {h0 : jH} (M : mG mo ad) (s : mS) (a : mA) (p : Int32) (J : IS s) : jM l G yX4_isSet wsX4_isSet 1 22 0 0 [.ref mo, .int p] (hM G mo ad h0 s a) (fun r h' => r = some (.int (bI (inN p (s 2)))) ∧ h' = hM G mo ad h0 s a) (fun _ _ => False) := by
  refine jM_of (cc := cX4_isSet) (maxL := 2) (ret := (some .boolean)) hlt (by decide +kernel) rfl (Nat.le_of_ble_eq_true rfl) ?_
  intro X C E hXl hXR hXn
  have hin : ∀ w ∈ u_ws RX4 TX4 26, w ∈ wsX4_isSet := by decide +kernel
  show jW X G 2 0 0 0 [(0, .ref mo), (1, .int p)] [] ((hM G mo ad h0 s a))
  refine j_iload_n C (i := 1) (x := p) 1 rfl dX4_isSet_0 (pc' := 1) rfl ?_
  refine j_iconst C (v := nI 0) rfl dX4_isSet_1 (pc' := 2) rfl ?_
  refine j_aload_n C (i := 0) (x := mo) 0 rfl dX4_isSet_2 (pc' := 3) rfl ?_
  refine m_get C (f := 2) (idx := 76) hin (by decide) rfl (by decide +kernel) dX4_isSet_3 (pc' := 6) rfl ?_
  refine j_iconst C (v := nI 1) rfl dX4_isSet_6 (pc' := 7) rfl ?_
  refine j_isub C (x := nI (s 2)) (y := nI 1) dX4_isSet_7 (pc' := 8) rfl ?_
  refine j_callS C (As := [.int p, .int (nI 0), .int (nI (s 2) - nI 1)]) (rest := []) (m_in X.2.1 C.2.2.2.2.2.2.2.2 G p (nI 0) (nI (s 2) - nI 1)) (va_cwS 3 C.2.2.2.2.1 gX4_isSet_X4_in rfl rfl rfl (by decide +kernel) (by rw [hXR]; decide)) rfl rfl (Nat.le_of_ble_eq_true rfl) dX4_isSet_8 (pc' := 11) rfl (by rw [hXR]; exact Nat.zero_le _) (by rw [hXR]; exact Nat.zero_le _) (fun _ _ z => z.elim) ?_
  rintro r h' ⟨rfl, rfl⟩
  show jW X G 2 0 0 11 [(0, .ref mo), (1, .int p)] [.int (bI (decide (nI 0 ≤ p) && decide (p ≤ nI (s 2) - nI 1)))] ((hM G mo ad h0 s a))
  exact j_iret C E dX4_isSet_11 (bI_nar _) (Nat.le_refl _) (Nat.le_refl _) ⟨congrArg (fun b => some (Value.int (bI b))) (in_leN (n := s 2) (by have := J.1 2; omega)), rfl⟩
set_option maxRecDepth 100000 in
set_option maxHeartbeats 4000000 in
theorem m_is (l : Launch) (hlt : l.stackTraces = false) (G : jG) {mo : Nat} {ad : Nat → Nat} {h0 : jH} (M : mG mo ad) (s : mS) (a : mA) (t : Nat) (I : IA a) (ht : t < 40) : jM l G yX4_is wsX4_is 0 0 0 0 [.ref mo, .int (nI t)] (hM G mo ad h0 s a) (fun r h' => r = some (.int (bI (mIs a t))) ∧ h' = hM G mo ad h0 s a) (fun _ _ => False) := by
  refine jM_of (cc := cX4_is) (maxL := 2) (ret := (some .boolean)) hlt (by decide +kernel) rfl (Nat.le_of_ble_eq_true rfl) ?_
  intro X C E hXl hXR hXn
  have hin : ∀ w ∈ u_ws RX4 TX4 26, w ∈ wsX4_is := by decide +kernel
  show jW X G 2 0 0 0 [(0, .ref mo), (1, .int (nI t))] [] ((hM G mo ad h0 s a))
  refine j_aload_n C (i := 0) (x := mo) 0 rfl dX4_is_0 (pc' := 1) rfl ?_
  refine m_geta C (f := 16) (idx := 41) hin (by decide) rfl (by decide +kernel) dX4_is_1 (pc' := 4) rfl ?_
  refine j_aload_n C (i := 0) (x := mo) 0 rfl dX4_is_4 (pc' := 5) rfl ?_
  refine m_geta C (f := 8) (idx := 20) hin (by decide) rfl (by decide +kernel) dX4_is_5 (pc' := 8) rfl ?_
  refine j_iload_n C (i := 1) (x := nI t) 1 rfl dX4_is_8 (pc' := 9) rfl ?_
  refine m_ald C M (f := 8) (j := t) (by decide) rfl rfl rfl (show t < 40 by omega) dX4_is_9 (pc' := 10) rfl ?_
  have B_1 := IA.last I t
  refine m_zld C M (f := 16) (j := a 8 t) (by decide) rfl rfl rfl (show a 8 t < 1400 by omega) dX4_is_10 (pc' := 11) rfl ?_
  have B_2 := IA.there I (a 8 t)
  exact j_iret C E dX4_is_11 (nar1 (IA.there I _)) (Nat.le_refl _) (Nat.le_refl _) ⟨bI_e (toN1 (IA.there I _)), rfl⟩
theorem mHas_eq {a : mA} {t o n : Nat} {x y : Bool} (h1 : mIs a t = x) (h2 : n = a 19 (a 8 t)) (h3 : anyN (fun k => decide (a 20 (6 * a 8 t + k) = o)) n = y) : mHas a t o = (x && y) := by unfold mHas; rw [← h2, h1, h3]
set_option maxRecDepth 100000 in
set_option maxHeartbeats 4000000 in
theorem m_hasMember (l : Launch) (hlt : l.stackTraces = false) (G : jG) {mo : Nat} {ad : Nat → Nat} {h0 : jH} (M : mG mo ad) (s : mS) (a : mA) (t o : Nat) (I : IA a) (ht : t < 40) (ho : o < 1048576) : jM l G yX4_hasMember wsX4_hasMember 1 21 0 0 [.ref mo, .int (nI t), .int (nI o)] (hM G mo ad h0 s a) (fun r h' => r = some (.int (bI (mHas a t o))) ∧ h' = hM G mo ad h0 s a) (fun _ _ => False) := by
  have hz := IA.size I (a 8 t)
  have hl := IA.last I t
  refine jM_of (cc := cX4_hasMember) (maxL := 5) (ret := (some .boolean)) hlt (by decide +kernel) rfl (Nat.le_of_ble_eq_true rfl) ?_
  intro X C E hXl hXR hXn
  have hin : ∀ w ∈ u_ws RX4 TX4 26, w ∈ wsX4_hasMember := by decide +kernel
  show jW X G 5 0 0 0 [(0, .ref mo), (1, .int (nI t)), (2, .int (nI o))] [] ((hM G mo ad h0 s a))
  refine j_iconst C (v := nI 0) rfl dX4_hasMember_0 (pc' := 1) rfl ?_
  refine j_istore_n C (i := 3) (x := nI 0) (l' := [(3, .int (nI 0)), (0, .ref mo), (1, .int (nI t)), (2, .int (nI o))]) dX4_hasMember_1 (pc' := 2) rfl (by decide) rfl ?_
  refine j_iconst C (v := nI 0) rfl dX4_hasMember_2 (pc' := 3) rfl ?_
  refine j_istore C (i := 4) (x := nI 0) (l' := [(4, .int (nI 0)), (3, .int (nI 0)), (0, .ref mo), (1, .int (nI t)), (2, .int (nI o))]) dX4_hasMember_3 (pc' := 5) rfl (by decide) rfl ?_
  have L_5 : ∀ (N_5 : Nat) (k : Nat), (a 19 (a 8 t) - k) < N_5 → (k ≤ a 19 (a 8 t)) → jW X G 5 0 0 5 [(0, .ref mo), (1, .int (nI t)), (2, .int (nI o)), (3, .int (bI (anyN (fun k => decide (a 20 (6 * a 8 t + k) = o)) k))), (4, .int (nI k))] [] ((hM G mo ad h0 s a)) := by
    intro N_5
    induction N_5 with
    | zero => intro k hm_5 hk; omega
    | succ N_5 ih_5 =>
      intro k hm_5 hk
      refine j_iload C (i := 4) (x := nI k) 4 rfl dX4_hasMember_5 (pc' := 7) rfl ?_
      refine j_aload_n C (i := 0) (x := mo) 0 rfl dX4_hasMember_7 (pc' := 8) rfl ?_
      refine m_geta C (f := 19) (idx := 50) hin (by decide) rfl (by decide +kernel) dX4_hasMember_8 (pc' := 11) rfl ?_
      refine j_aload_n C (i := 0) (x := mo) 0 rfl dX4_hasMember_11 (pc' := 12) rfl ?_
      refine m_geta C (f := 8) (idx := 20) hin (by decide) rfl (by decide +kernel) dX4_hasMember_12 (pc' := 15) rfl ?_
      refine j_iload_n C (i := 1) (x := nI t) 1 rfl dX4_hasMember_15 (pc' := 16) rfl ?_
      refine m_ald C M (f := 8) (j := t) (by decide) rfl rfl rfl (show t < 40 by omega) dX4_hasMember_16 (pc' := 17) rfl ?_
      have B_1 := IA.last I t
      refine m_ald C M (f := 19) (j := a 8 t) (by decide) rfl rfl rfl (show a 8 t < 1400 by omega) dX4_hasMember_17 (pc' := 18) rfl ?_
      have B_2 := IA.size I (a 8 t)
      refine j_icmp_ge C dX4_hasMember_18 (tgt := 58) (by decide) (pc' := 21) rfl (fun c_3 => ?_) (fun c_3 => ?_)
      · have c_3 := (nI_leI (a := a 19 (a 8 t)) (b := k) (by omega) (by omega)).mp c_3
        have c_3 : (a 19 (a 8 t)) ≤ k := c_3
        refine j_aload_n C (i := 0) (x := mo) 0 rfl dX4_hasMember_58 (pc' := 59) rfl ?_
        refine j_iload_n C (i := 1) (x := nI t) 1 rfl dX4_hasMember_59 (pc' := 60) rfl ?_
        refine j_callV C (As := [.int (nI t)]) (rest := []) (m_is X.2.1 C.2.2.2.2.2.2.2.2 G M s a t I (by omega)) (cwV 1 C.2.2.2.2.1 gX4_hasMember_X4_is rfl rfl rfl (by decide +kernel) (by rw [hXR]; decide)) hM_obj rfl rfl rfl (Nat.le_of_ble_eq_true rfl) dX4_hasMember_60 (pc' := 63) rfl (by rw [hXR]; exact Nat.zero_le _) (by rw [hXR]; exact Nat.zero_le _) (fun _ _ z => z.elim) ?_
        rintro r h' ⟨rfl, rfl⟩
        show jW X G 5 0 0 63 [(0, .ref mo), (1, .int (nI t)), (2, .int (nI o)), (3, .int (bI (anyN (fun k => decide (a 20 (6 * a 8 t + k) = o)) k))), (4, .int (nI k))] [.int (bI (mIs a t))] ((hM G mo ad h0 s a))
        rcases hb_4 : (mIs a t) with _ | _
        · show jW X G 5 0 0 63 [(0, .ref mo), (1, .int (nI t)), (2, .int (nI o)), (3, .int (bI (anyN (fun k => decide (a 20 (6 * a 8 t + k) = o)) k))), (4, .int (nI k))] [.int (nI 0)] ((hM G mo ad h0 s a))
          refine j_if_eq C dX4_hasMember_63 (tgt := 74) (by decide) (pc' := 66) rfl (fun _ => ?_) (fun c_5 => absurd (by decide) c_5)
          refine j_iconst C (v := nI 0) rfl dX4_hasMember_74 (pc' := 75) rfl ?_
          exact j_iret C E dX4_hasMember_75 rfl (Nat.le_refl _) (Nat.le_refl _) ⟨bI0 (by unfold mHas; rw [hb_4]; rfl), rfl⟩
        · show jW X G 5 0 0 63 [(0, .ref mo), (1, .int (nI t)), (2, .int (nI o)), (3, .int (bI (anyN (fun k => decide (a 20 (6 * a 8 t + k) = o)) k))), (4, .int (nI k))] [.int (nI 1)] ((hM G mo ad h0 s a))
          refine j_if_eq C dX4_hasMember_63 (tgt := 74) (by decide) (pc' := 66) rfl (fun c_6 => absurd c_6 (by decide)) (fun _ => ?_)
          refine j_iload_n C (i := 3) (x := bI (anyN (fun k => decide (a 20 (6 * a 8 t + k) = o)) k)) 3 rfl dX4_hasMember_66 (pc' := 67) rfl ?_
          rcases hb_7 : (anyN (fun k => decide (a 20 (6 * a 8 t + k) = o)) k) with _ | _
          · show jW X G 5 0 0 67 [(0, .ref mo), (1, .int (nI t)), (2, .int (nI o)), (3, .int (nI 0)), (4, .int (nI k))] [.int (nI 0)] ((hM G mo ad h0 s a))
            refine j_if_eq C dX4_hasMember_67 (tgt := 74) (by decide) (pc' := 70) rfl (fun _ => ?_) (fun c_8 => absurd (by decide) c_8)
            refine j_iconst C (v := nI 0) rfl dX4_hasMember_74 (pc' := 75) rfl ?_
            exact j_iret C E dX4_hasMember_75 rfl (Nat.le_refl _) (Nat.le_refl _) ⟨bI0 (mHas_eq hb_4 (by omega) hb_7), rfl⟩
          · show jW X G 5 0 0 67 [(0, .ref mo), (1, .int (nI t)), (2, .int (nI o)), (3, .int (nI 1)), (4, .int (nI k))] [.int (nI 1)] ((hM G mo ad h0 s a))
            refine j_if_eq C dX4_hasMember_67 (tgt := 74) (by decide) (pc' := 70) rfl (fun c_9 => absurd c_9 (by decide)) (fun _ => ?_)
            refine j_iconst C (v := nI 1) rfl dX4_hasMember_70 (pc' := 71) rfl ?_
            refine j_goto C dX4_hasMember_71 (pc' := 75) (by decide) ?_
            exact j_iret C E dX4_hasMember_75 rfl (Nat.le_refl _) (Nat.le_refl _) ⟨bI1 (mHas_eq hb_4 (by omega) hb_7), rfl⟩
      · have c_3 := fun zq => c_3 ((nI_leI (a := a 19 (a 8 t)) (b := k) (by omega) (by omega)).mpr zq)
        have c_3 : ¬ (a 19 (a 8 t)) ≤ k := c_3
        refine j_iload_n C (i := 3) (x := bI (anyN (fun k => decide (a 20 (6 * a 8 t + k) = o)) k)) 3 rfl dX4_hasMember_21 (pc' := 22) rfl ?_
        rcases hb_10 : (anyN (fun k => decide (a 20 (6 * a 8 t + k) = o)) k) with _ | _
        · show jW X G 5 0 0 22 [(0, .ref mo), (1, .int (nI t)), (2, .int (nI o)), (3, .int (nI 0)), (4, .int (nI k))] [.int (nI 0)] ((hM G mo ad h0 s a))
          refine j_if_ne C dX4_hasMember_22 (tgt := 46) (by decide) (pc' := 25) rfl (fun c_11 => absurd (by decide) c_11) (fun _ => ?_)
          refine j_aload_n C (i := 0) (x := mo) 0 rfl dX4_hasMember_25 (pc' := 26) rfl ?_
          refine m_geta C (f := 20) (idx := 53) hin (by decide) rfl (by decide +kernel) dX4_hasMember_26 (pc' := 29) rfl ?_
          refine j_bipush C (v := nI 6) rfl dX4_hasMember_29 (pc' := 31) rfl ?_
          refine j_aload_n C (i := 0) (x := mo) 0 rfl dX4_hasMember_31 (pc' := 32) rfl ?_
          refine m_geta C (f := 8) (idx := 20) hin (by decide) rfl (by decide +kernel) dX4_hasMember_32 (pc' := 35) rfl ?_
          refine j_iload_n C (i := 1) (x := nI t) 1 rfl dX4_hasMember_35 (pc' := 36) rfl ?_
          refine m_ald C M (f := 8) (j := t) (by decide) rfl rfl rfl (show t < 40 by omega) dX4_hasMember_36 (pc' := 37) rfl ?_
          have B_12 := IA.last I t
          refine j_imul C (x := nI 6) (y := nI (a 8 t)) dX4_hasMember_37 (pc' := 38) rfl ?_
          refine jt_i (pk_mul _ _) ?_
          refine j_iload C (i := 4) (x := nI k) 4 rfl dX4_hasMember_38 (pc' := 40) rfl ?_
          refine j_iadd C (x := nI (6 * (a 8 t))) (y := nI k) dX4_hasMember_40 (pc' := 41) rfl ?_
          refine jt_i (nI_add _ _) ?_
          refine m_ald C M (f := 20) (j := 6 * (a 8 t) + k) (by decide) rfl rfl rfl (show 6 * (a 8 t) + k < 8400 by omega) dX4_hasMember_41 (pc' := 42) rfl ?_
          have B_13 := IA.member I (6 * (a 8 t) + k)
          refine j_iload_n C (i := 2) (x := nI o) 2 rfl dX4_hasMember_42 (pc' := 43) rfl ?_
          refine j_icmp_ne C dX4_hasMember_43 (tgt := 50) (by decide) (pc' := 46) rfl (fun c_14 => ?_) (fun c_14 => ?_)
          · have c_14 := fun zq => c_14 ((nI_eq (a := a 20 (6 * (a 8 t) + k)) (b := o) (by omega) (by omega)).mpr zq)
            have c_14 : ¬ (a 20 (6 * (a 8 t) + k)) = o := c_14
            refine j_iconst C (v := nI 0) rfl dX4_hasMember_50 (pc' := 51) rfl ?_
            refine j_istore_n C (i := 3) (x := nI 0) (l' := [(3, .int (nI 0)), (0, .ref mo), (1, .int (nI t)), (2, .int (nI o)), (4, .int (nI k))]) dX4_hasMember_51 (pc' := 52) rfl (by decide) rfl ?_
            refine j_iinc C (i := 4) (q := 4) (x := nI k) (v := nI (k + 1)) (l' := [(4, .int (nI (k + 1))), (3, .int (nI 0)), (0, .ref mo), (1, .int (nI t)), (2, .int (nI o))]) dX4_hasMember_52 (pc' := 55) rfl rfl (nI_add _ _) (by decide) rfl ?_
            refine j_goto C dX4_hasMember_55 (pc' := 5) (by decide) ?_
            refine jt_loc (l' := [(4, .int (nI (k + 1))), (3, .int (bI (anyN (fun k => decide (a 20 (6 * a 8 t + k) = o)) (k + 1)))), (0, .ref mo), (1, .int (nI t)), (2, .int (nI o))]) (by rw [← bI_0 (show anyN (fun k => decide (a 20 (6 * a 8 t + k) = o)) (k + 1) = false by rw [anyN_s, hb_10]; exact decide_eq_false c_14)]) ?_
            exact jW.locals [2, 3, 4, 1, 0] rfl (ih_5 (k + 1) (by omega) (by omega))
          · have c_14 := (nI_eq (a := a 20 (6 * (a 8 t) + k)) (b := o) (by omega) (by omega)).mp c_14
            have c_14 : (a 20 (6 * (a 8 t) + k)) = o := c_14
            refine j_iconst C (v := nI 1) rfl dX4_hasMember_46 (pc' := 47) rfl ?_
            refine j_goto C dX4_hasMember_47 (pc' := 51) (by decide) ?_
            refine j_istore_n C (i := 3) (x := nI 1) (l' := [(3, .int (nI 1)), (0, .ref mo), (1, .int (nI t)), (2, .int (nI o)), (4, .int (nI k))]) dX4_hasMember_51 (pc' := 52) rfl (by decide) rfl ?_
            refine j_iinc C (i := 4) (q := 4) (x := nI k) (v := nI (k + 1)) (l' := [(4, .int (nI (k + 1))), (3, .int (nI 1)), (0, .ref mo), (1, .int (nI t)), (2, .int (nI o))]) dX4_hasMember_52 (pc' := 55) rfl rfl (nI_add _ _) (by decide) rfl ?_
            refine j_goto C dX4_hasMember_55 (pc' := 5) (by decide) ?_
            refine jt_loc (l' := [(4, .int (nI (k + 1))), (3, .int (bI (anyN (fun k => decide (a 20 (6 * a 8 t + k) = o)) (k + 1)))), (0, .ref mo), (1, .int (nI t)), (2, .int (nI o))]) (by rw [← bI_1 (show anyN (fun k => decide (a 20 (6 * a 8 t + k) = o)) (k + 1) = true by rw [anyN_s, hb_10]; exact decide_eq_true c_14)]) ?_
            exact jW.locals [2, 3, 4, 1, 0] rfl (ih_5 (k + 1) (by omega) (by omega))
        · show jW X G 5 0 0 22 [(0, .ref mo), (1, .int (nI t)), (2, .int (nI o)), (3, .int (nI 1)), (4, .int (nI k))] [.int (nI 1)] ((hM G mo ad h0 s a))
          refine j_if_ne C dX4_hasMember_22 (tgt := 46) (by decide) (pc' := 25) rfl (fun _ => ?_) (fun c_15 => absurd c_15 (by decide))
          refine j_iconst C (v := nI 1) rfl dX4_hasMember_46 (pc' := 47) rfl ?_
          refine j_goto C dX4_hasMember_47 (pc' := 51) (by decide) ?_
          refine j_istore_n C (i := 3) (x := nI 1) (l' := [(3, .int (nI 1)), (0, .ref mo), (1, .int (nI t)), (2, .int (nI o)), (4, .int (nI k))]) dX4_hasMember_51 (pc' := 52) rfl (by decide) rfl ?_
          refine j_iinc C (i := 4) (q := 4) (x := nI k) (v := nI (k + 1)) (l' := [(4, .int (nI (k + 1))), (3, .int (nI 1)), (0, .ref mo), (1, .int (nI t)), (2, .int (nI o))]) dX4_hasMember_52 (pc' := 55) rfl rfl (nI_add _ _) (by decide) rfl ?_
          refine j_goto C dX4_hasMember_55 (pc' := 5) (by decide) ?_
          refine jt_loc (l' := [(4, .int (nI (k + 1))), (3, .int (bI (anyN (fun k => decide (a 20 (6 * a 8 t + k) = o)) (k + 1)))), (0, .ref mo), (1, .int (nI t)), (2, .int (nI o))]) (by rw [← bI_1 (show anyN (fun k => decide (a 20 (6 * a 8 t + k) = o)) (k + 1) = true by rw [anyN_s, hb_10]; rfl)]) ?_
          exact jW.locals [2, 3, 4, 1, 0] rfl (ih_5 (k + 1) (by omega) (by omega))
  exact jW.locals [2, 3, 4, 1, 0] rfl (L_5 ((a 19 (a 8 t) - 0) + 1) 0 (by omega) (by omega))
