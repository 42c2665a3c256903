def shF (a : mA) : Nat → Nat → Nat
  | 0, _ => 0
  | _ + 1, 0 => 0
  | f + 1, p + 1 => (if a 17 p = 0 then 1 else 0) + shF a f (a 13 p)
def oHide (s : mS) (a : mA) (p v : Int32) : mO := if mIsV s a p v = true then (if ¬ tn v = a 9 (tn p) ∧ a 17 (mPl a (tn p) (tn v)) = 0 then
  (nI (shF (va_up2 a 17 (mPl a (tn p) (tn v)) 1) 1400 (a 8 (tn p) + 1)), va_up s 25 0, va_up2 a 17 (mPl a (tn p) (tn v)) 1) else oTh s a 2) else oTh s a 1
theorem sh_s {a : mA} {f p n t x : Nat} (h : n + shF a f (p + 1) = t) (hf : p + 1 ≤ f) (hx : x = if a 17 p = 0 then 1 else 0) (hz : a 13 p ≤ p) : n + x + shF a (f - 1) (a 13 p) = t ∧ a 13 p ≤ f - 1 := by
  obtain ⟨g, rfl⟩ : ∃ g, f = g + 1 := ⟨f - 1, by omega⟩
  have e : shF a (g + 1) (p + 1) = (if a 17 p = 0 then 1 else 0) + shF a g (a 13 p) := rfl
  rw [e, ← hx] at h
  exact ⟨by show n + x + shF a g _ = t; omega, by show _ ≤ g + 1 - 1; omega⟩
theorem sh_0 {a : mA} {f n t : Nat} (h : n + shF a f 0 = t) : t = n := by
  have : shF a f 0 = 0 := by cases f <;> rfl
  omega
theorem mIsV_of {s : mS} {a : mA} (J : IS s) (I : IA a) {p v : Int32} (h : mIsV s a p v = true) : ∃ j i, j < s 6 ∧ 1 ≤ i ∧ i ≤ a 9 j ∧ p = nI j ∧ v = nI i := by
  unfold mIsV at h
  rw [Bool.and_eq_true] at h
  obtain ⟨j, hj, rfl⟩ := inN_of h.1
  have h2 := h.2
  have h6 := J.2.1
  rw [nI_toInt (by omega)] at h2
  obtain ⟨i, h3, h4, rfl⟩ := inV_of (I.1 9 _) h2
  exact ⟨j, i, hj, h3, h4, rfl, rfl⟩
set_option maxRecDepth 100000 in
set_option maxHeartbeats 4000000 in
theorem m_setOf (l : Launch) (hlt : l.stackTraces = false) (G : jG) {mo : Nat} {ad : Nat → Nat} {h0 : jH} (M : mG mo ad) (s : mS) (a : mA) (p v : Int32) (J : IS s) (I : IA a) (Z0 : 0 < s 6 → a 13 0 = 0) (K : mCh s a) : jM l G yX4_setOf wsX4_setOf 3 65 0 0 [.ref mo, .int p, .int v] (hM G mo ad h0 s a) (fun r h' => r = some (.int (oSetOf s a p v).1) ∧ h' = hM G mo ad h0 (oSetOf s a p v).2.1 (oSetOf s a p v).2.2) (fun _ _ => False) := by
  have h6 := J.2.1
  have h2 := J.2.2.1
  have h4 := J.2.2.2.1
  have h10 := J.2.2.2.2.1
  have hs0 := J.1 0
  have hs1 := J.1 1
  refine jM_of (cc := cX4_setOf) (maxL := 5) (ret := (some .int)) hlt (by decide +kernel) rfl (Nat.le_of_ble_eq_true rfl) ?_
  intro X C E hXl hXR hXn
  have hin : ∀ w ∈ u_ws RX4 TX4 26, w ∈ wsX4_setOf := by decide +kernel
  show jW X G 5 0 0 0 [(0, .ref mo), (1, .int p), (2, .int v)] [] ((hM G mo ad h0 s a))
  refine j_aload_n C (i := 0) (x := mo) 0 rfl dX4_setOf_0 (pc' := 1) rfl ?_
  refine j_iload_n C (i := 1) (x := p) 1 rfl dX4_setOf_1 (pc' := 2) rfl ?_
  refine j_iload_n C (i := 2) (x := v) 2 rfl dX4_setOf_2 (pc' := 3) rfl ?_
  refine j_callV C (As := [.int p, .int v]) (rest := []) (m_isVersion X.2.1 C.2.2.2.2.2.2.2.2 G M s a p v J I) (cwV 2 C.2.2.2.2.1 gX4_setOf_X4_isVersion rfl rfl rfl (by decide +kernel) (by rw [hXR]; decide)) hM_obj rfl rfl rfl (Nat.le_of_ble_eq_true rfl) dX4_setOf_3 (pc' := 6) rfl (by rw [hXR]; exact Nat.zero_le _) (by rw [hXR]; exact Nat.zero_le _) (fun _ _ z => z.elim) ?_
  rintro r h' ⟨rfl, rfl⟩
  show jW X G 5 0 0 6 [(0, .ref mo), (1, .int p), (2, .int v)] [.int (bI (mIsV s a p v))] ((hM G mo ad h0 s a))
  rcases hb_1 : (mIsV s a p v) with _ | _
  · show jW X G 5 0 0 6 [(0, .ref mo), (1, .int p), (2, .int v)] [.int (nI 0)] ((hM G mo ad h0 s a))
    refine j_istore_n C (i := 3) (x := nI 0) (l' := [(3, .int (nI 0)), (0, .ref mo), (1, .int p), (2, .int v)]) dX4_setOf_6 (pc' := 7) rfl (by decide) rfl ?_
    refine j_iload_n C (i := 3) (x := nI 0) 0 rfl dX4_setOf_7 (pc' := 8) rfl ?_
    refine j_if_eq C dX4_setOf_8 (tgt := 20) (by decide) (pc' := 11) rfl (fun _ => ?_) (fun c_2 => absurd (by decide) c_2)
    refine j_iconst C (v := nI 0) rfl dX4_setOf_20 (pc' := 21) rfl ?_
    refine j_istore C (i := 4) (x := nI 0) (l' := [(4, .int (nI 0)), (3, .int (nI 0)), (0, .ref mo), (1, .int p), (2, .int v)]) dX4_setOf_21 (pc' := 23) rfl (by decide) rfl ?_
    refine j_aload_n C (i := 0) (x := mo) 2 rfl dX4_setOf_23 (pc' := 24) rfl ?_
    refine j_iload_n C (i := 3) (x := nI 0) 1 rfl dX4_setOf_24 (pc' := 25) rfl ?_
    refine j_iload_n C (i := 3) (x := nI 0) 1 rfl dX4_setOf_25 (pc' := 26) rfl ?_
    refine j_if_eq C dX4_setOf_26 (tgt := 43) (by decide) (pc' := 29) rfl (fun _ => ?_) (fun c_3 => absurd (by decide) c_3)
    refine j_iconst C (v := nI 0) rfl dX4_setOf_43 (pc' := 44) rfl ?_
    refine j_iconst C (v := nI 1) rfl dX4_setOf_44 (pc' := 45) rfl ?_
    refine j_callV C (As := [.int (nI 0), .int (nI 0), .int (nI 1)]) (rest := []) (m_goes X.2.1 C.2.2.2.2.2.2.2.2 G M s a false false true) (cwV 3 C.2.2.2.2.1 gX4_setOf_X4_goes rfl rfl rfl (by decide +kernel) (by rw [hXR]; decide)) hM_obj rfl rfl rfl (Nat.le_of_ble_eq_true rfl) dX4_setOf_45 (pc' := 48) rfl (by rw [hXR]; exact Nat.zero_le _) (by rw [hXR]; exact Nat.zero_le _) (fun _ _ z => z.elim) ?_
    rintro r h' ⟨rfl, rfl⟩
    show jW X G 5 0 0 48 [(4, .int (nI 0)), (3, .int (nI 0)), (0, .ref mo), (1, .int p), (2, .int v)] [.int (nI 0)] ((hM G mo ad h0 (va_up s 25 1) a))
    refine j_if_eq C dX4_setOf_48 (tgt := 61) (by decide) (pc' := 51) rfl (fun _ => ?_) (fun c_4 => absurd (by decide) c_4)
    refine j_iconst C (v := nI 0) rfl dX4_setOf_61 (pc' := 62) rfl ?_
    exact j_iret C E dX4_setOf_62 rfl (Nat.le_refl _) (Nat.le_refl _) (o_leaf (by unfold oSetOf; exact oel (bff hb_1) (rfl)))
  · show jW X G 5 0 0 6 [(0, .ref mo), (1, .int p), (2, .int v)] [.int (nI 1)] ((hM G mo ad h0 s a))
    obtain ⟨j, i, hj, li, hi, rfl, rfl⟩ := mIsV_of J I hb_1
    have Z := Z0 (by omega)
    have hi9 := IA.big I 9 j
    have hpl := mPl_ok J I Z K hj li hi
    have hl8 := IA.last I j
    refine j_istore_n C (i := 3) (x := nI 1) (l' := [(3, .int (nI 1)), (0, .ref mo), (1, .int (nI j)), (2, .int (nI i))]) dX4_setOf_6 (pc' := 7) rfl (by decide) rfl ?_
    refine j_iload_n C (i := 3) (x := nI 1) 0 rfl dX4_setOf_7 (pc' := 8) rfl ?_
    refine j_if_eq C dX4_setOf_8 (tgt := 20) (by decide) (pc' := 11) rfl (fun c_5 => absurd c_5 (by decide)) (fun _ => ?_)
    refine j_aload_n C (i := 0) (x := mo) 1 rfl dX4_setOf_11 (pc' := 12) rfl ?_
    refine j_iload_n C (i := 1) (x := nI j) 2 rfl dX4_setOf_12 (pc' := 13) rfl ?_
    refine j_iload_n C (i := 2) (x := nI i) 3 rfl dX4_setOf_13 (pc' := 14) rfl ?_
    refine j_callV C (As := [.int (nI j), .int (nI i)]) (rest := []) (m_placeOf X.2.1 C.2.2.2.2.2.2.2.2 G M s a j i J I Z K (by omega) (by omega) (by omega)) (cwV 2 C.2.2.2.2.1 gX4_setOf_X4_placeOf rfl rfl rfl (by decide +kernel) (by rw [hXR]; decide)) hM_obj rfl rfl rfl (Nat.le_of_ble_eq_true rfl) dX4_setOf_14 (pc' := 17) rfl (by rw [hXR]; exact Nat.zero_le _) (by rw [hXR]; exact Nat.zero_le _) (fun _ _ z => z.elim) ?_
    rintro r h' ⟨rfl, rfl⟩
    show jW X G 5 0 0 17 [(3, .int (nI 1)), (0, .ref mo), (1, .int (nI j)), (2, .int (nI i))] [.int (nI (mPl a j i))] ((hM G mo ad h0 s a))
    refine j_goto C dX4_setOf_17 (pc' := 21) (by decide) ?_
    refine j_istore C (i := 4) (x := nI (mPl a j i)) (l' := [(4, .int (nI (mPl a j i))), (3, .int (nI 1)), (0, .ref mo), (1, .int (nI j)), (2, .int (nI i))]) dX4_setOf_21 (pc' := 23) rfl (by decide) rfl ?_
    refine j_aload_n C (i := 0) (x := mo) 2 rfl dX4_setOf_23 (pc' := 24) rfl ?_
    refine j_iload_n C (i := 3) (x := nI 1) 1 rfl dX4_setOf_24 (pc' := 25) rfl ?_
    refine j_iload_n C (i := 3) (x := nI 1) 1 rfl dX4_setOf_25 (pc' := 26) rfl ?_
    refine j_if_eq C dX4_setOf_26 (tgt := 43) (by decide) (pc' := 29) rfl (fun c_6 => absurd c_6 (by decide)) (fun _ => ?_)
    refine j_aload_n C (i := 0) (x := mo) 2 rfl dX4_setOf_29 (pc' := 30) rfl ?_
    refine m_geta C (f := 17) (idx := 44) hin (by decide) rfl (by decide +kernel) dX4_setOf_30 (pc' := 33) rfl ?_
    refine j_iload C (i := 4) (x := nI (mPl a j i)) 0 rfl dX4_setOf_33 (pc' := 35) rfl ?_
    refine m_zld C M (f := 17) (j := mPl a j i) (by decide) rfl rfl rfl (show mPl a j i < 1400 by omega) dX4_setOf_35 (pc' := 36) rfl ?_
    have B_7 := IA.hidden I (mPl a j i)
    refine j_if_ne C dX4_setOf_36 (tgt := 43) (by decide) (pc' := 39) rfl (fun c_8 => ?_) (fun c_8 => ?_)
    · have c_8 := fun zq => c_8 ((nI_eq (a := a 17 (mPl a j i)) (b := 0) (by omega) (by omega)).mpr zq)
      have c_8 : ¬ (a 17 (mPl a j i)) = 0 := c_8
      refine j_iconst C (v := nI 0) rfl dX4_setOf_43 (pc' := 44) rfl ?_
      refine j_iconst C (v := nI 1) rfl dX4_setOf_44 (pc' := 45) rfl ?_
      refine j_callV C (As := [.int (nI 1), .int (nI 0), .int (nI 1)]) (rest := []) (m_goes X.2.1 C.2.2.2.2.2.2.2.2 G M s a true false true) (cwV 3 C.2.2.2.2.1 gX4_setOf_X4_goes rfl rfl rfl (by decide +kernel) (by rw [hXR]; decide)) hM_obj rfl rfl rfl (Nat.le_of_ble_eq_true rfl) dX4_setOf_45 (pc' := 48) rfl (by rw [hXR]; exact Nat.zero_le _) (by rw [hXR]; exact Nat.zero_le _) (fun _ _ z => z.elim) ?_
      rintro r h' ⟨rfl, rfl⟩
      show jW X G 5 0 0 48 [(4, .int (nI (mPl a j i))), (3, .int (nI 1)), (0, .ref mo), (1, .int (nI j)), (2, .int (nI i))] [.int (nI 0)] ((hM G mo ad h0 (va_up s 25 2) a))
      refine j_if_eq C dX4_setOf_48 (tgt := 61) (by decide) (pc' := 51) rfl (fun _ => ?_) (fun c_9 => absurd (by decide) c_9)
      refine j_iconst C (v := nI 0) rfl dX4_setOf_61 (pc' := 62) rfl ?_
      exact j_iret C E dX4_setOf_62 rfl (Nat.le_refl _) (Nat.le_refl _) (o_leaf (by unfold oSetOf; simp only [tn_nI (show j < 2 ^ 31 by omega), tn_nI (show i < 2 ^ 31 by omega)]; exact oif hb_1 (oel (show ¬ (a 17 (mPl a j i) = 0) by omega) (rfl))))
    · have c_8 := (nI_eq (a := a 17 (mPl a j i)) (b := 0) (by omega) (by omega)).mp c_8
      have c_8 : (a 17 (mPl a j i)) = 0 := c_8
      refine j_iconst C (v := nI 1) rfl dX4_setOf_39 (pc' := 40) rfl ?_
      refine j_goto C dX4_setOf_40 (pc' := 44) (by decide) ?_
      refine j_iconst C (v := nI 1) rfl dX4_setOf_44 (pc' := 45) rfl ?_
      refine j_callV C (As := [.int (nI 1), .int (nI 1), .int (nI 1)]) (rest := []) (m_goes X.2.1 C.2.2.2.2.2.2.2.2 G M s a true true true) (cwV 3 C.2.2.2.2.1 gX4_setOf_X4_goes rfl rfl rfl (by decide +kernel) (by rw [hXR]; decide)) hM_obj rfl rfl rfl (Nat.le_of_ble_eq_true rfl) dX4_setOf_45 (pc' := 48) rfl (by rw [hXR]; exact Nat.zero_le _) (by rw [hXR]; exact Nat.zero_le _) (fun _ _ z => z.elim) ?_
      rintro r h' ⟨rfl, rfl⟩
      show jW X G 5 0 0 48 [(4, .int (nI (mPl a j i))), (3, .int (nI 1)), (0, .ref mo), (1, .int (nI j)), (2, .int (nI i))] [.int (nI 1)] ((hM G mo ad h0 (va_up s 25 0) a))
      refine j_if_eq C dX4_setOf_48 (tgt := 61) (by decide) (pc' := 51) rfl (fun c_10 => absurd c_10 (by decide)) (fun _ => ?_)
      refine j_aload_n C (i := 0) (x := mo) 2 rfl dX4_setOf_51 (pc' := 52) rfl ?_
      refine m_geta C (f := 14) (idx := 35) hin (by decide) rfl (by decide +kernel) dX4_setOf_52 (pc' := 55) rfl ?_
      refine j_iload C (i := 4) (x := nI (mPl a j i)) 0 rfl dX4_setOf_55 (pc' := 57) rfl ?_
      refine m_ald C M (f := 14) (j := mPl a j i) (by decide) rfl rfl rfl (show mPl a j i < 1400 by omega) dX4_setOf_57 (pc' := 58) rfl ?_
      have B_11 := IA.big I 14 (mPl a j i)
      refine j_goto C dX4_setOf_58 (pc' := 62) (by decide) ?_
      exact j_iret C E dX4_setOf_62 rfl (Nat.le_refl _) (Nat.le_refl _) (o_leaf (by unfold oSetOf; simp only [tn_nI (show j < 2 ^ 31 by omega), tn_nI (show i < 2 ^ 31 by omega)]; exact oif hb_1 (oif (show a 17 (mPl a j i) = 0 by omega) (rfl))))
set_option maxRecDepth 100000 in
set_option maxHeartbeats 4000000 in
theorem m_hide (l : Launch) (hlt : l.stackTraces = false) (G : jG) {mo : Nat} {ad : Nat → Nat} {h0 : jH} (M : mG mo ad) (s : mS) (a : mA) (p v : Int32) (J : IS s) (I : IA a) (Z0 : 0 < s 6 → a 13 0 = 0) (K : mCh s a) : jM l G yX4_hide wsX4_hide 3 65 0 0 [.ref mo, .int p, .int v] (hM G mo ad h0 s a) (fun r h' => r = some (.int (oHide s a p v).1) ∧ h' = hM G mo ad h0 (oHide s a p v).2.1 (oHide s a p v).2.2) (fun _ _ => False) := by
  have h6 := J.2.1
  have h2 := J.2.2.1
  have h4 := J.2.2.2.1
  have h10 := J.2.2.2.2.1
  have hs0 := J.1 0
  have hs1 := J.1 1
  refine jM_of (cc := cX4_hide) (maxL := 7) (ret := (some .int)) hlt (by decide +kernel) rfl (Nat.le_of_ble_eq_true rfl) ?_
  intro X C E hXl hXR hXn
  have hin : ∀ w ∈ u_ws RX4 TX4 26, w ∈ wsX4_hide := by decide +kernel
  show jW X G 7 0 0 0 [(0, .ref mo), (1, .int p), (2, .int v)] [] ((hM G mo ad h0 s a))
  refine j_aload_n C (i := 0) (x := mo) 0 rfl dX4_hide_0 (pc' := 1) rfl ?_
  refine j_iload_n C (i := 1) (x := p) 1 rfl dX4_hide_1 (pc' := 2) rfl ?_
  refine j_iload_n C (i := 2) (x := v) 2 rfl dX4_hide_2 (pc' := 3) rfl ?_
  refine j_callV C (As := [.int p, .int v]) (rest := []) (m_isVersion X.2.1 C.2.2.2.2.2.2.2.2 G M s a p v J I) (cwV 2 C.2.2.2.2.1 gX4_hide_X4_isVersion rfl rfl rfl (by decide +kernel) (by rw [hXR]; decide)) hM_obj rfl rfl rfl (Nat.le_of_ble_eq_true rfl) dX4_hide_3 (pc' := 6) rfl (by rw [hXR]; exact Nat.zero_le _) (by rw [hXR]; exact Nat.zero_le _) (fun _ _ z => z.elim) ?_
  rintro r h' ⟨rfl, rfl⟩
  show jW X G 7 0 0 6 [(0, .ref mo), (1, .int p), (2, .int v)] [.int (bI (mIsV s a p v))] ((hM G mo ad h0 s a))
  rcases hb_1 : (mIsV s a p v) with _ | _
  · show jW X G 7 0 0 6 [(0, .ref mo), (1, .int p), (2, .int v)] [.int (nI 0)] ((hM G mo ad h0 s a))
    refine j_istore_n C (i := 3) (x := nI 0) (l' := [(3, .int (nI 0)), (0, .ref mo), (1, .int p), (2, .int v)]) dX4_hide_6 (pc' := 7) rfl (by decide) rfl ?_
    refine j_iload_n C (i := 3) (x := nI 0) 0 rfl dX4_hide_7 (pc' := 8) rfl ?_
    refine j_if_eq C dX4_hide_8 (tgt := 20) (by decide) (pc' := 11) rfl (fun _ => ?_) (fun c_2 => absurd (by decide) c_2)
    refine j_iconst C (v := nI 0) rfl dX4_hide_20 (pc' := 21) rfl ?_
    refine j_istore C (i := 4) (x := nI 0) (l' := [(4, .int (nI 0)), (3, .int (nI 0)), (0, .ref mo), (1, .int p), (2, .int v)]) dX4_hide_21 (pc' := 23) rfl (by decide) rfl ?_
    refine j_aload_n C (i := 0) (x := mo) 2 rfl dX4_hide_23 (pc' := 24) rfl ?_
    refine j_iload_n C (i := 3) (x := nI 0) 1 rfl dX4_hide_24 (pc' := 25) rfl ?_
    refine j_iload_n C (i := 3) (x := nI 0) 1 rfl dX4_hide_25 (pc' := 26) rfl ?_
    refine j_if_eq C dX4_hide_26 (tgt := 53) (by decide) (pc' := 29) rfl (fun _ => ?_) (fun c_3 => absurd (by decide) c_3)
    refine j_iconst C (v := nI 0) rfl dX4_hide_53 (pc' := 54) rfl ?_
    refine j_iconst C (v := nI 1) rfl dX4_hide_54 (pc' := 55) rfl ?_
    refine j_callV C (As := [.int (nI 0), .int (nI 0), .int (nI 1)]) (rest := []) (m_goes X.2.1 C.2.2.2.2.2.2.2.2 G M s a false false true) (cwV 3 C.2.2.2.2.1 gX4_hide_X4_goes rfl rfl rfl (by decide +kernel) (by rw [hXR]; decide)) hM_obj rfl rfl rfl (Nat.le_of_ble_eq_true rfl) dX4_hide_55 (pc' := 58) rfl (by rw [hXR]; exact Nat.zero_le _) (by rw [hXR]; exact Nat.zero_le _) (fun _ _ z => z.elim) ?_
    rintro r h' ⟨rfl, rfl⟩
    show jW X G 7 0 0 58 [(4, .int (nI 0)), (3, .int (nI 0)), (0, .ref mo), (1, .int p), (2, .int v)] [.int (nI 0)] ((hM G mo ad h0 (va_up s 25 1) a))
    refine j_if_ne C dX4_hide_58 (tgt := 63) (by decide) (pc' := 61) rfl (fun c_4 => absurd (by decide) c_4) (fun _ => ?_)
    refine j_iconst C (v := nI 0) rfl dX4_hide_61 (pc' := 62) rfl ?_
    exact j_iret C E dX4_hide_62 rfl (Nat.le_refl _) (Nat.le_refl _) (o_leaf (by unfold oHide; exact oel (bff hb_1) (rfl)))
  · show jW X G 7 0 0 6 [(0, .ref mo), (1, .int p), (2, .int v)] [.int (nI 1)] ((hM G mo ad h0 s a))
    obtain ⟨j, i, hj, li, hi, rfl, rfl⟩ := mIsV_of J I hb_1
    have Z := Z0 (by omega)
    have hi9 := IA.big I 9 j
    have hpl := mPl_ok J I Z K hj li hi
    have hl8 := IA.last I j
    refine j_istore_n C (i := 3) (x := nI 1) (l' := [(3, .int (nI 1)), (0, .ref mo), (1, .int (nI j)), (2, .int (nI i))]) dX4_hide_6 (pc' := 7) rfl (by decide) rfl ?_
    refine j_iload_n C (i := 3) (x := nI 1) 0 rfl dX4_hide_7 (pc' := 8) rfl ?_
    refine j_if_eq C dX4_hide_8 (tgt := 20) (by decide) (pc' := 11) rfl (fun c_5 => absurd c_5 (by decide)) (fun _ => ?_)
    refine j_aload_n C (i := 0) (x := mo) 1 rfl dX4_hide_11 (pc' := 12) rfl ?_
    refine j_iload_n C (i := 1) (x := nI j) 2 rfl dX4_hide_12 (pc' := 13) rfl ?_
    refine j_iload_n C (i := 2) (x := nI i) 3 rfl dX4_hide_13 (pc' := 14) rfl ?_
    refine j_callV C (As := [.int (nI j), .int (nI i)]) (rest := []) (m_placeOf X.2.1 C.2.2.2.2.2.2.2.2 G M s a j i J I Z K (by omega) (by omega) (by omega)) (cwV 2 C.2.2.2.2.1 gX4_hide_X4_placeOf rfl rfl rfl (by decide +kernel) (by rw [hXR]; decide)) hM_obj rfl rfl rfl (Nat.le_of_ble_eq_true rfl) dX4_hide_14 (pc' := 17) rfl (by rw [hXR]; exact Nat.zero_le _) (by rw [hXR]; exact Nat.zero_le _) (fun _ _ z => z.elim) ?_
    rintro r h' ⟨rfl, rfl⟩
    show jW X G 7 0 0 17 [(3, .int (nI 1)), (0, .ref mo), (1, .int (nI j)), (2, .int (nI i))] [.int (nI (mPl a j i))] ((hM G mo ad h0 s a))
    refine j_goto C dX4_hide_17 (pc' := 21) (by decide) ?_
    refine j_istore C (i := 4) (x := nI (mPl a j i)) (l' := [(4, .int (nI (mPl a j i))), (3, .int (nI 1)), (0, .ref mo), (1, .int (nI j)), (2, .int (nI i))]) dX4_hide_21 (pc' := 23) rfl (by decide) rfl ?_
    refine j_aload_n C (i := 0) (x := mo) 2 rfl dX4_hide_23 (pc' := 24) rfl ?_
    refine j_iload_n C (i := 3) (x := nI 1) 1 rfl dX4_hide_24 (pc' := 25) rfl ?_
    refine j_iload_n C (i := 3) (x := nI 1) 1 rfl dX4_hide_25 (pc' := 26) rfl ?_
    refine j_if_eq C dX4_hide_26 (tgt := 53) (by decide) (pc' := 29) rfl (fun c_6 => absurd c_6 (by decide)) (fun _ => ?_)
    refine j_iload_n C (i := 2) (x := nI i) 4 rfl dX4_hide_29 (pc' := 30) rfl ?_
    refine j_aload_n C (i := 0) (x := mo) 2 rfl dX4_hide_30 (pc' := 31) rfl ?_
    refine m_geta C (f := 9) (idx := 23) hin (by decide) rfl (by decide +kernel) dX4_hide_31 (pc' := 34) rfl ?_
    refine j_iload_n C (i := 1) (x := nI j) 3 rfl dX4_hide_34 (pc' := 35) rfl ?_
    refine m_ald C M (f := 9) (j := j) (by decide) rfl rfl rfl (show j < 40 by omega) dX4_hide_35 (pc' := 36) rfl ?_
    have B_7 := IA.big I 9 j
    refine j_icmp_eq C dX4_hide_36 (tgt := 53) (by decide) (pc' := 39) rfl (fun c_8 => ?_) (fun c_8 => ?_)
    · have c_8 := (nI_eq (a := i) (b := a 9 j) (by omega) (by omega)).mp c_8
      have c_8 : i = (a 9 j) := c_8
      refine j_iconst C (v := nI 0) rfl dX4_hide_53 (pc' := 54) rfl ?_
      refine j_iconst C (v := nI 1) rfl dX4_hide_54 (pc' := 55) rfl ?_
      refine j_callV C (As := [.int (nI 1), .int (nI 0), .int (nI 1)]) (rest := []) (m_goes X.2.1 C.2.2.2.2.2.2.2.2 G M s a true false true) (cwV 3 C.2.2.2.2.1 gX4_hide_X4_goes rfl rfl rfl (by decide +kernel) (by rw [hXR]; decide)) hM_obj rfl rfl rfl (Nat.le_of_ble_eq_true rfl) dX4_hide_55 (pc' := 58) rfl (by rw [hXR]; exact Nat.zero_le _) (by rw [hXR]; exact Nat.zero_le _) (fun _ _ z => z.elim) ?_
      rintro r h' ⟨rfl, rfl⟩
      show jW X G 7 0 0 58 [(4, .int (nI (mPl a j i))), (3, .int (nI 1)), (0, .ref mo), (1, .int (nI j)), (2, .int (nI i))] [.int (nI 0)] ((hM G mo ad h0 (va_up s 25 2) a))
      refine j_if_ne C dX4_hide_58 (tgt := 63) (by decide) (pc' := 61) rfl (fun c_9 => absurd (by decide) c_9) (fun _ => ?_)
      refine j_iconst C (v := nI 0) rfl dX4_hide_61 (pc' := 62) rfl ?_
      exact j_iret C E dX4_hide_62 rfl (Nat.le_refl _) (Nat.le_refl _) (o_leaf (by unfold oHide; simp only [tn_nI (show j < 2 ^ 31 by omega), tn_nI (show i < 2 ^ 31 by omega)]; exact oif hb_1 (oel (fun z => (show ¬ (¬ i = a 9 j) by omega) z.1) (rfl))))
    · have c_8 := fun zq => c_8 ((nI_eq (a := i) (b := a 9 j) (by omega) (by omega)).mpr zq)
      have c_8 : ¬ i = (a 9 j) := c_8
      refine j_aload_n C (i := 0) (x := mo) 2 rfl dX4_hide_39 (pc' := 40) rfl ?_
      refine m_geta C (f := 17) (idx := 44) hin (by decide) rfl (by decide +kernel) dX4_hide_40 (pc' := 43) rfl ?_
      refine j_iload C (i := 4) (x := nI (mPl a j i)) 0 rfl dX4_hide_43 (pc' := 45) rfl ?_
      refine m_zld C M (f := 17) (j := mPl a j i) (by decide) rfl rfl rfl (show mPl a j i < 1400 by omega) dX4_hide_45 (pc' := 46) rfl ?_
      have B_10 := IA.hidden I (mPl a j i)
      refine j_if_ne C dX4_hide_46 (tgt := 53) (by decide) (pc' := 49) rfl (fun c_11 => ?_) (fun c_11 => ?_)
      · have c_11 := fun zq => c_11 ((nI_eq (a := a 17 (mPl a j i)) (b := 0) (by omega) (by omega)).mpr zq)
        have c_11 : ¬ (a 17 (mPl a j i)) = 0 := c_11
        refine j_iconst C (v := nI 0) rfl dX4_hide_53 (pc' := 54) rfl ?_
        refine j_iconst C (v := nI 1) rfl dX4_hide_54 (pc' := 55) rfl ?_
        refine j_callV C (As := [.int (nI 1), .int (nI 0), .int (nI 1)]) (rest := []) (m_goes X.2.1 C.2.2.2.2.2.2.2.2 G M s a true false true) (cwV 3 C.2.2.2.2.1 gX4_hide_X4_goes rfl rfl rfl (by decide +kernel) (by rw [hXR]; decide)) hM_obj rfl rfl rfl (Nat.le_of_ble_eq_true rfl) dX4_hide_55 (pc' := 58) rfl (by rw [hXR]; exact Nat.zero_le _) (by rw [hXR]; exact Nat.zero_le _) (fun _ _ z => z.elim) ?_
        rintro r h' ⟨rfl, rfl⟩
        show jW X G 7 0 0 58 [(4, .int (nI (mPl a j i))), (3, .int (nI 1)), (0, .ref mo), (1, .int (nI j)), (2, .int (nI i))] [.int (nI 0)] ((hM G mo ad h0 (va_up s 25 2) a))
        refine j_if_ne C dX4_hide_58 (tgt := 63) (by decide) (pc' := 61) rfl (fun c_12 => absurd (by decide) c_12) (fun _ => ?_)
        refine j_iconst C (v := nI 0) rfl dX4_hide_61 (pc' := 62) rfl ?_
        exact j_iret C E dX4_hide_62 rfl (Nat.le_refl _) (Nat.le_refl _) (o_leaf (by unfold oHide; simp only [tn_nI (show j < 2 ^ 31 by omega), tn_nI (show i < 2 ^ 31 by omega)]; exact oif hb_1 (oel (fun z => (show ¬ (a 17 (mPl a j i) = 0) by omega) z.2) (rfl))))
      · have c_11 := (nI_eq (a := a 17 (mPl a j i)) (b := 0) (by omega) (by omega)).mp c_11
        have c_11 : (a 17 (mPl a j i)) = 0 := c_11
        refine j_iconst C (v := nI 1) rfl dX4_hide_49 (pc' := 50) rfl ?_
        refine j_goto C dX4_hide_50 (pc' := 54) (by decide) ?_
        refine j_iconst C (v := nI 1) rfl dX4_hide_54 (pc' := 55) rfl ?_
        refine j_callV C (As := [.int (nI 1), .int (nI 1), .int (nI 1)]) (rest := []) (m_goes X.2.1 C.2.2.2.2.2.2.2.2 G M s a true true true) (cwV 3 C.2.2.2.2.1 gX4_hide_X4_goes rfl rfl rfl (by decide +kernel) (by rw [hXR]; decide)) hM_obj rfl rfl rfl (Nat.le_of_ble_eq_true rfl) dX4_hide_55 (pc' := 58) rfl (by rw [hXR]; exact Nat.zero_le _) (by rw [hXR]; exact Nat.zero_le _) (fun _ _ z => z.elim) ?_
        rintro r h' ⟨rfl, rfl⟩
        show jW X G 7 0 0 58 [(4, .int (nI (mPl a j i))), (3, .int (nI 1)), (0, .ref mo), (1, .int (nI j)), (2, .int (nI i))] [.int (nI 1)] ((hM G mo ad h0 (va_up s 25 0) a))
        refine j_if_ne C dX4_hide_58 (tgt := 63) (by decide) (pc' := 61) rfl (fun _ => ?_) (fun c_13 => absurd c_13 (by decide))
        refine j_aload_n C (i := 0) (x := mo) 2 rfl dX4_hide_63 (pc' := 64) rfl ?_
        refine m_geta C (f := 17) (idx := 44) hin (by decide) rfl (by decide +kernel) dX4_hide_64 (pc' := 67) rfl ?_
        refine j_iload C (i := 4) (x := nI (mPl a j i)) 0 rfl dX4_hide_67 (pc' := 69) rfl ?_
        refine j_iconst C (v := nI 1) rfl dX4_hide_69 (pc' := 70) rfl ?_
        refine m_zst C M (f := 17) (j := mPl a j i) (v := 1) (by decide) rfl rfl rfl (show mPl a j i < 1400 by omega) (by first | rfl | exact bI_vp _) dX4_hide_70 (pc' := 71) rfl ?_
        refine j_iconst C (v := nI 0) rfl dX4_hide_71 (pc' := 72) rfl ?_
        refine j_istore C (i := 5) (x := nI 0) (l' := [(5, .int (nI 0)), (4, .int (nI (mPl a j i))), (3, .int (nI 1)), (0, .ref mo), (1, .int (nI j)), (2, .int (nI i))]) dX4_hide_72 (pc' := 74) rfl (by decide) rfl ?_
        refine j_aload_n C (i := 0) (x := mo) 3 rfl dX4_hide_74 (pc' := 75) rfl ?_
        refine m_geta C (f := 8) (idx := 20) hin (by decide) rfl (by decide +kernel) dX4_hide_75 (pc' := 78) rfl ?_
        refine j_iload_n C (i := 1) (x := nI j) 4 rfl dX4_hide_78 (pc' := 79) rfl ?_
        refine m_ald C M (f := 8) (j := j) (by decide) rfl rfl rfl (show j < 40 by omega) dX4_hide_79 (pc' := 80) rfl ?_
        show jW X G 7 0 0 80 [(5, .int (nI 0)), (4, .int (nI (mPl a j i))), (3, .int (nI 1)), (0, .ref mo), (1, .int (nI j)), (2, .int (nI i))] [.int (nI (a 8 j))] ((hM G mo ad h0 (va_up s 25 0) (va_up2 a 17 (mPl a j i) 1)))
        have B_14 := IA.last I j
        refine j_istore C (i := 6) (x := nI (a 8 j)) (l' := [(6, .int (nI (a 8 j))), (5, .int (nI 0)), (4, .int (nI (mPl a j i))), (3, .int (nI 1)), (0, .ref mo), (1, .int (nI j)), (2, .int (nI i))]) dX4_hide_80 (pc' := 82) rfl (by decide) rfl ?_
        have L_82 : ∀ (N_82 : Nat) (f b n : Nat), (b) < N_82 → (b ≤ f) → (f ≤ 1400) → (n + shF (va_up2 a 17 (mPl a j i) 1) f b = shF (va_up2 a 17 (mPl a j i) 1) 1400 (a 8 j + 1)) → jW X G 7 0 0 82 [(0, .ref mo), (1, .int (nI j)), (2, .int (nI i)), (3, .int (nI 1)), (4, .int (nI (mPl a j i))), (5, .int (nI n)), (6, .int (mP b))] [] ((hM G mo ad h0 (va_up s 25 0) (va_up2 a 17 (mPl a j i) 1))) := by
          intro N_82
          induction N_82 with
          | zero => intro f b n hm_82 hb hf hR; omega
          | succ N_82 ih_82 =>
            intro f b n hm_82 hb hf hR
            rcases b with _ | p
            · refine jt_loc (l' := [(0, .ref mo), (1, .int (nI j)), (2, .int (nI i)), (3, .int (nI 1)), (4, .int (nI (mPl a j i))), (5, .int (nI n)), (6, .int ((-1)))]) (by rw [mP_0]) ?_
              refine j_iload C (i := 6) (x := (-1)) 6 rfl dX4_hide_82 (pc' := 84) rfl ?_
              refine j_iconst C (v := (-1)) rfl dX4_hide_84 (pc' := 85) rfl ?_
              refine j_icmp_eq C dX4_hide_85 (tgt := 120) (by decide) (pc' := 88) rfl (fun _ => ?_) (fun c_15 => absurd rfl c_15)
              refine j_iload C (i := 5) (x := nI n) 5 rfl dX4_hide_120 (pc' := 122) rfl ?_
              exact j_iret C E dX4_hide_122 rfl (Nat.le_refl _) (Nat.le_refl _) (o_leaf (by unfold oHide; simp only [tn_nI (show j < 2 ^ 31 by omega), tn_nI (show i < 2 ^ 31 by omega)]; exact oif hb_1 (oif ⟨(show ¬ i = a 9 j by omega), (show a 17 (mPl a j i) = 0 by omega)⟩ (by rw [sh_0 hR]))))
            · refine jt_loc (l' := [(0, .ref mo), (1, .int (nI j)), (2, .int (nI i)), (3, .int (nI 1)), (4, .int (nI (mPl a j i))), (5, .int (nI n)), (6, .int (nI p))]) (by rw [mP_s]) ?_
              have hp9 : p < 1400 := by omega
              refine j_iload C (i := 6) (x := nI p) 6 rfl dX4_hide_82 (pc' := 84) rfl ?_
              refine j_iconst C (v := (-1)) rfl dX4_hide_84 (pc' := 85) rfl ?_
              refine j_icmp_eq C dX4_hide_85 (tgt := 120) (by decide) (pc' := 88) rfl (fun c_16 => absurd c_16 (nI_ne1 (by omega))) (fun _ => ?_)
              refine j_iload C (i := 5) (x := nI n) 5 rfl dX4_hide_88 (pc' := 90) rfl ?_
              refine j_aload_n C (i := 0) (x := mo) 0 rfl dX4_hide_90 (pc' := 91) rfl ?_
              refine m_geta C (f := 17) (idx := 44) hin (by decide) rfl (by decide +kernel) dX4_hide_91 (pc' := 94) rfl ?_
              refine j_iload C (i := 6) (x := nI p) 6 rfl dX4_hide_94 (pc' := 96) rfl ?_
              refine m_zld C M (f := 17) (j := p) (by decide) rfl rfl rfl (show p < 1400 by omega) dX4_hide_96 (pc' := 97) rfl ?_
              have B_17 := IA.hidden (IA.up2c I (f := 17) (j := (mPl a j i)) (v := 1) ⟨by omega, fun _ => by omega, fun _ => by omega, fun _ => by omega, fun _ => by omega, fun _ => by omega, fun _ => by omega, fun _ => by omega, fun _ => by omega, fun _ => by omega, fun _ => by omega, fun _ => by omega, fun _ => by omega, fun _ => by omega⟩) p
              refine j_if_eq C dX4_hide_97 (tgt := 104) (by decide) (pc' := 100) rfl (fun c_18 => ?_) (fun c_18 => ?_)
              · have c_18 := (nI_eq (a := (va_up2 a 17 (mPl a j i) 1) 17 p) (b := 0) (by omega) (by omega)).mp c_18
                have c_18 : ((va_up2 a 17 (mPl a j i) 1) 17 p) = 0 := c_18
                refine j_iconst C (v := nI 1) rfl dX4_hide_104 (pc' := 105) rfl ?_
                refine j_iadd C (x := nI n) (y := nI 1) dX4_hide_105 (pc' := 106) rfl ?_
                refine jt_i (nI_add _ _) ?_
                refine j_istore C (i := 5) (x := nI (n + 1)) (l' := [(5, .int (nI (n + 1))), (0, .ref mo), (1, .int (nI j)), (2, .int (nI i)), (3, .int (nI 1)), (4, .int (nI (mPl a j i))), (6, .int (nI p))]) dX4_hide_106 (pc' := 108) rfl (by decide) rfl ?_
                refine j_aload_n C (i := 0) (x := mo) 1 rfl dX4_hide_108 (pc' := 109) rfl ?_
                refine m_geta C (f := 13) (idx := 32) hin (by decide) rfl (by decide +kernel) dX4_hide_109 (pc' := 112) rfl ?_
                refine j_iload C (i := 6) (x := nI p) 6 rfl dX4_hide_112 (pc' := 114) rfl ?_
                refine m_ald C M (f := 13) (j := p) (by decide) rfl rfl rfl (show p < 1400 by omega) dX4_hide_114 (pc' := 115) rfl ?_
                show jW X G 7 0 0 115 [(5, .int (nI (n + 1))), (0, .ref mo), (1, .int (nI j)), (2, .int (nI i)), (3, .int (nI 1)), (4, .int (nI (mPl a j i))), (6, .int (nI p))] [.int (mV 13 (a 13 p))] ((hM G mo ad h0 (va_up s 25 0) (va_up2 a 17 (mPl a j i) 1)))
                have B_19 := IA.ahead I Z p
                have B_20 := IA.big I 13 p
                refine j_istore C (i := 6) (x := mV 13 (a 13 p)) (l' := [(6, .int (mV 13 (a 13 p))), (5, .int (nI (n + 1))), (0, .ref mo), (1, .int (nI j)), (2, .int (nI i)), (3, .int (nI 1)), (4, .int (nI (mPl a j i)))]) dX4_hide_115 (pc' := 117) rfl (by decide) rfl ?_
                refine j_goto C dX4_hide_117 (pc' := 82) (by decide) ?_
                refine jt_loc (l' := [(6, .int (mP (a 13 p))), (5, .int (nI (n + 1))), (0, .ref mo), (1, .int (nI j)), (2, .int (nI i)), (3, .int (nI 1)), (4, .int (nI (mPl a j i)))]) (by rfl) ?_
                exact jW.locals [2, 3, 4, 5, 6, 1, 0] rfl (ih_82 (f - 1) (a 13 p) (n + 1) (by omega) (sh_s (x := 1) hR hb (by rw [if_pos (show (va_up2 a 17 (mPl a j i) 1) 17 p = 0 by omega)]) (IA.ahead I Z p)).2 (by omega) (sh_s (x := 1) hR hb (by rw [if_pos (show (va_up2 a 17 (mPl a j i) 1) 17 p = 0 by omega)]) (IA.ahead I Z p)).1)
              · have c_18 := fun zq => c_18 ((nI_eq (a := (va_up2 a 17 (mPl a j i) 1) 17 p) (b := 0) (by omega) (by omega)).mpr zq)
                have c_18 : ¬ ((va_up2 a 17 (mPl a j i) 1) 17 p) = 0 := c_18
                refine j_iconst C (v := nI 0) rfl dX4_hide_100 (pc' := 101) rfl ?_
                refine j_goto C dX4_hide_101 (pc' := 105) (by decide) ?_
                refine j_iadd C (x := nI n) (y := nI 0) dX4_hide_105 (pc' := 106) rfl ?_
                refine jt_i (nI_add _ _) ?_
                refine j_istore C (i := 5) (x := nI (n + 0)) (l' := [(5, .int (nI (n + 0))), (0, .ref mo), (1, .int (nI j)), (2, .int (nI i)), (3, .int (nI 1)), (4, .int (nI (mPl a j i))), (6, .int (nI p))]) dX4_hide_106 (pc' := 108) rfl (by decide) rfl ?_
                refine j_aload_n C (i := 0) (x := mo) 1 rfl dX4_hide_108 (pc' := 109) rfl ?_
                refine m_geta C (f := 13) (idx := 32) hin (by decide) rfl (by decide +kernel) dX4_hide_109 (pc' := 112) rfl ?_
                refine j_iload C (i := 6) (x := nI p) 6 rfl dX4_hide_112 (pc' := 114) rfl ?_
                refine m_ald C M (f := 13) (j := p) (by decide) rfl rfl rfl (show p < 1400 by omega) dX4_hide_114 (pc' := 115) rfl ?_
                show jW X G 7 0 0 115 [(5, .int (nI (n + 0))), (0, .ref mo), (1, .int (nI j)), (2, .int (nI i)), (3, .int (nI 1)), (4, .int (nI (mPl a j i))), (6, .int (nI p))] [.int (mV 13 (a 13 p))] ((hM G mo ad h0 (va_up s 25 0) (va_up2 a 17 (mPl a j i) 1)))
                have B_21 := IA.ahead I Z p
                have B_22 := IA.big I 13 p
                refine j_istore C (i := 6) (x := mV 13 (a 13 p)) (l' := [(6, .int (mV 13 (a 13 p))), (5, .int (nI (n + 0))), (0, .ref mo), (1, .int (nI j)), (2, .int (nI i)), (3, .int (nI 1)), (4, .int (nI (mPl a j i)))]) dX4_hide_115 (pc' := 117) rfl (by decide) rfl ?_
                refine j_goto C dX4_hide_117 (pc' := 82) (by decide) ?_
                refine jt_loc (l' := [(6, .int (mP (a 13 p))), (5, .int (nI (n + 0))), (0, .ref mo), (1, .int (nI j)), (2, .int (nI i)), (3, .int (nI 1)), (4, .int (nI (mPl a j i)))]) (by rfl) ?_
                exact jW.locals [2, 3, 4, 5, 6, 1, 0] rfl (ih_82 (f - 1) (a 13 p) (n + 0) (by omega) (sh_s (x := 0) hR hb (by rw [if_neg (show ¬ (va_up2 a 17 (mPl a j i) 1) 17 p = 0 by omega)]) (IA.ahead I Z p)).2 (by omega) (sh_s (x := 0) hR hb (by rw [if_neg (show ¬ (va_up2 a 17 (mPl a j i) 1) 17 p = 0 by omega)]) (IA.ahead I Z p)).1)
        refine jt_loc (l' := [(6, .int (mP (a 8 j + 1))), (5, .int (nI 0)), (4, .int (nI (mPl a j i))), (3, .int (nI 1)), (0, .ref mo), (1, .int (nI j)), (2, .int (nI i))]) (by rw [← mP_s]) ?_
        exact jW.locals [4, 5, 6, 3, 2, 1, 0] rfl (L_82 ((a 8 j + 1) + 1) 1400 (a 8 j + 1) 0 (by omega) (by omega) (by omega) (by rw [Nat.zero_add]))
