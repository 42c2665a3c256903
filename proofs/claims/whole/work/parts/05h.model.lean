set_option maxRecDepth 100000 in
set_option maxHeartbeats 4000000 in
theorem m_make (l : Launch) (hlt : l.stackTraces = false) (G : jG) {mo : Nat} {ad : Nat → Nat} {h0 : jH} (M : mG mo ad) (s : mS) (a : mA) (p w : Int32) (J : IS s) (I : IA a) : jM l G yX4_make wsX4_make 3 64 0 0 [.ref mo, .int p, .int w] (hM G mo ad h0 s a) (fun r h' => r = some (.int (oMake s a p w).1) ∧ h' = hM G mo ad h0 (oMake s a p w).2.1 (oMake s a p w).2.2) (fun _ _ => False) := by
  have h6 := J.2.1
  have h2 := J.2.2.1
  have h4 := J.2.2.2.1
  have h10 := J.2.2.2.2.1
  have hs0 := J.1 0
  have hs1 := J.1 1
  refine jM_of (cc := cX4_make) (maxL := 4) (ret := (some .int)) hlt (by decide +kernel) rfl (Nat.le_of_ble_eq_true rfl) ?_
  intro X C E hXl hXR hXn
  have hin : ∀ w ∈ u_ws RX4 TX4 26, w ∈ wsX4_make := by decide +kernel
  show jW X G 4 0 0 0 [(0, .ref mo), (1, .int p), (2, .int w)] [] ((hM G mo ad h0 s a))
  refine j_aload_n C (i := 0) (x := mo) 0 rfl dX4_make_0 (pc' := 1) rfl ?_
  refine j_aload_n C (i := 0) (x := mo) 0 rfl dX4_make_1 (pc' := 2) rfl ?_
  refine j_iload_n C (i := 1) (x := p) 1 rfl dX4_make_2 (pc' := 3) rfl ?_
  refine j_callV C (As := [.int p]) (rest := [.ref mo]) (m_isSet X.2.1 C.2.2.2.2.2.2.2.2 G M s a p J) (cwV 1 C.2.2.2.2.1 gX4_make_X4_isSet rfl rfl rfl (by decide +kernel) (by rw [hXR]; decide)) hM_obj rfl rfl rfl (Nat.le_of_ble_eq_true rfl) dX4_make_3 (pc' := 6) rfl (by rw [hXR]; exact Nat.zero_le _) (by rw [hXR]; exact Nat.zero_le _) (fun _ _ z => z.elim) ?_
  rintro r h' ⟨rfl, rfl⟩
  show jW X G 4 0 0 6 [(0, .ref mo), (1, .int p), (2, .int w)] [.int (bI (inN p (s 2))), .ref mo] ((hM G mo ad h0 s a))
  rcases hb_1 : (inN p (s 2)) with _ | _
  · show jW X G 4 0 0 6 [(0, .ref mo), (1, .int p), (2, .int w)] [.int (nI 0), .ref mo] ((hM G mo ad h0 s a))
    refine j_iload_n C (i := 2) (x := w) 2 rfl dX4_make_6 (pc' := 7) rfl ?_
    refine j_iconst C (v := nI 1) rfl dX4_make_7 (pc' := 8) rfl ?_
    refine j_iconst C (v := nI 2) rfl dX4_make_8 (pc' := 9) rfl ?_
    refine j_callS C (As := [.int w, .int (nI 1), .int (nI 2)]) (rest := [.int (nI 0), .ref mo]) (m_in X.2.1 C.2.2.2.2.2.2.2.2 G w (nI 1) (nI 2)) (va_cwS 3 C.2.2.2.2.1 gX4_make_X4_in rfl rfl rfl (by decide +kernel) (by rw [hXR]; decide)) rfl rfl (Nat.le_of_ble_eq_true rfl) dX4_make_9 (pc' := 12) rfl (by rw [hXR]; exact Nat.zero_le _) (by rw [hXR]; exact Nat.zero_le _) (fun _ _ z => z.elim) ?_
    rintro r h' ⟨rfl, rfl⟩
    show jW X G 4 0 0 12 [(0, .ref mo), (1, .int p), (2, .int w)] [.int (bI (decide (nI 1 ≤ w) && decide (w ≤ nI 2))), .int (nI 0), .ref mo] ((hM G mo ad h0 s a))
    rcases hb_2 : (decide (nI 1 ≤ w) && decide (w ≤ nI 2)) with _ | _
    · show jW X G 4 0 0 12 [(0, .ref mo), (1, .int p), (2, .int w)] [.int (nI 0), .int (nI 0), .ref mo] ((hM G mo ad h0 s a))
      refine j_aload_n C (i := 0) (x := mo) 0 rfl dX4_make_12 (pc' := 13) rfl ?_
      refine j_iload_n C (i := 1) (x := p) 1 rfl dX4_make_13 (pc' := 14) rfl ?_
      refine j_callV C (As := [.int p]) (rest := [.int (nI 0), .int (nI 0), .ref mo]) (m_isOpen X.2.1 C.2.2.2.2.2.2.2.2 G M s a p J I) (cwV 1 C.2.2.2.2.1 gX4_make_X4_isOpen rfl rfl rfl (by decide +kernel) (by rw [hXR]; decide)) hM_obj rfl rfl rfl (Nat.le_of_ble_eq_true rfl) dX4_make_14 (pc' := 17) rfl (by rw [hXR]; exact Nat.zero_le _) (by rw [hXR]; exact Nat.zero_le _) (fun _ _ z => z.elim) ?_
      rintro r h' ⟨rfl, rfl⟩
      show jW X G 4 0 0 17 [(0, .ref mo), (1, .int p), (2, .int w)] [.int (bI (mOpen s a p)), .int (nI 0), .int (nI 0), .ref mo] ((hM G mo ad h0 s a))
      rcases hb_3 : (mOpen s a p) with _ | _
      · show jW X G 4 0 0 17 [(0, .ref mo), (1, .int p), (2, .int w)] [.int (nI 0), .int (nI 0), .int (nI 0), .ref mo] ((hM G mo ad h0 s a))
        refine j_if_eq C dX4_make_17 (tgt := 33) (by decide) (pc' := 20) rfl (fun _ => ?_) (fun c_4 => absurd (by decide) c_4)
        refine j_iconst C (v := nI 0) rfl dX4_make_33 (pc' := 34) rfl ?_
        refine j_callV C (As := [.int (nI 0), .int (nI 0), .int (nI 0)]) (rest := []) (m_goes X.2.1 C.2.2.2.2.2.2.2.2 G M s a false false false) (cwV 3 C.2.2.2.2.1 gX4_make_X4_goes rfl rfl rfl (by decide +kernel) (by rw [hXR]; decide)) hM_obj rfl rfl rfl (Nat.le_of_ble_eq_true rfl) dX4_make_34 (pc' := 37) rfl (by rw [hXR]; exact Nat.zero_le _) (by rw [hXR]; exact Nat.zero_le _) (fun _ _ z => z.elim) ?_
        rintro r h' ⟨rfl, rfl⟩
        show jW X G 4 0 0 37 [(0, .ref mo), (1, .int p), (2, .int w)] [.int (nI 0)] ((hM G mo ad h0 (va_up s 25 1) a))
        refine j_if_ne C dX4_make_37 (tgt := 42) (by decide) (pc' := 40) rfl (fun c_5 => absurd (by decide) c_5) (fun _ => ?_)
        refine j_iconst C (v := nI 0) rfl dX4_make_40 (pc' := 41) rfl ?_
        exact j_iret C E dX4_make_41 rfl (Nat.le_refl _) (Nat.le_refl _) (o_leaf (by unfold oMake; exact oel (bff hb_1) (rfl)))
      · show jW X G 4 0 0 17 [(0, .ref mo), (1, .int p), (2, .int w)] [.int (nI 1), .int (nI 0), .int (nI 0), .ref mo] ((hM G mo ad h0 s a))
        refine j_if_eq C dX4_make_17 (tgt := 33) (by decide) (pc' := 20) rfl (fun c_6 => absurd c_6 (by decide)) (fun _ => ?_)
        refine j_aload_n C (i := 0) (x := mo) 0 rfl dX4_make_20 (pc' := 21) rfl ?_
        refine m_get C (f := 6) (idx := 69) hin (by decide) rfl (by decide +kernel) dX4_make_21 (pc' := 24) rfl ?_
        refine j_bipush C (v := nI 40) rfl dX4_make_24 (pc' := 26) rfl ?_
        refine j_icmp_ge C dX4_make_26 (tgt := 33) (by decide) (pc' := 29) rfl (fun c_7 => ?_) (fun c_7 => ?_)
        · have c_7 := (nI_leI (a := 40) (b := s 6) (by omega) (by omega)).mp c_7
          have c_7 : 40 ≤ (s 6) := c_7
          refine j_iconst C (v := nI 0) rfl dX4_make_33 (pc' := 34) rfl ?_
          refine j_callV C (As := [.int (nI 0), .int (nI 0), .int (nI 0)]) (rest := []) (m_goes X.2.1 C.2.2.2.2.2.2.2.2 G M s a false false false) (cwV 3 C.2.2.2.2.1 gX4_make_X4_goes rfl rfl rfl (by decide +kernel) (by rw [hXR]; decide)) hM_obj rfl rfl rfl (Nat.le_of_ble_eq_true rfl) dX4_make_34 (pc' := 37) rfl (by rw [hXR]; exact Nat.zero_le _) (by rw [hXR]; exact Nat.zero_le _) (fun _ _ z => z.elim) ?_
          rintro r h' ⟨rfl, rfl⟩
          show jW X G 4 0 0 37 [(0, .ref mo), (1, .int p), (2, .int w)] [.int (nI 0)] ((hM G mo ad h0 (va_up s 25 1) a))
          refine j_if_ne C dX4_make_37 (tgt := 42) (by decide) (pc' := 40) rfl (fun c_8 => absurd (by decide) c_8) (fun _ => ?_)
          refine j_iconst C (v := nI 0) rfl dX4_make_40 (pc' := 41) rfl ?_
          exact j_iret C E dX4_make_41 rfl (Nat.le_refl _) (Nat.le_refl _) (o_leaf (by unfold oMake; exact oel (bff hb_1) (rfl)))
        · have c_7 := fun zq => c_7 ((nI_leI (a := 40) (b := s 6) (by omega) (by omega)).mpr zq)
          have c_7 : ¬ 40 ≤ (s 6) := c_7
          refine j_iconst C (v := nI 1) rfl dX4_make_29 (pc' := 30) rfl ?_
          refine j_goto C dX4_make_30 (pc' := 34) (by decide) ?_
          refine j_callV C (As := [.int (nI 0), .int (nI 0), .int (nI 1)]) (rest := []) (m_goes X.2.1 C.2.2.2.2.2.2.2.2 G M s a false false true) (cwV 3 C.2.2.2.2.1 gX4_make_X4_goes rfl rfl rfl (by decide +kernel) (by rw [hXR]; decide)) hM_obj rfl rfl rfl (Nat.le_of_ble_eq_true rfl) dX4_make_34 (pc' := 37) rfl (by rw [hXR]; exact Nat.zero_le _) (by rw [hXR]; exact Nat.zero_le _) (fun _ _ z => z.elim) ?_
          rintro r h' ⟨rfl, rfl⟩
          show jW X G 4 0 0 37 [(0, .ref mo), (1, .int p), (2, .int w)] [.int (nI 0)] ((hM G mo ad h0 (va_up s 25 1) a))
          refine j_if_ne C dX4_make_37 (tgt := 42) (by decide) (pc' := 40) rfl (fun c_9 => absurd (by decide) c_9) (fun _ => ?_)
          refine j_iconst C (v := nI 0) rfl dX4_make_40 (pc' := 41) rfl ?_
          exact j_iret C E dX4_make_41 rfl (Nat.le_refl _) (Nat.le_refl _) (o_leaf (by unfold oMake; exact oel (bff hb_1) (rfl)))
    · show jW X G 4 0 0 12 [(0, .ref mo), (1, .int p), (2, .int w)] [.int (nI 1), .int (nI 0), .ref mo] ((hM G mo ad h0 s a))
      obtain ⟨q, lq, hq, rfl⟩ := inR_of (by omega) (by omega) (show inR _ 1 2 = true from hb_2)
      refine j_aload_n C (i := 0) (x := mo) 0 rfl dX4_make_12 (pc' := 13) rfl ?_
      refine j_iload_n C (i := 1) (x := p) 1 rfl dX4_make_13 (pc' := 14) rfl ?_
      refine j_callV C (As := [.int p]) (rest := [.int (nI 1), .int (nI 0), .ref mo]) (m_isOpen X.2.1 C.2.2.2.2.2.2.2.2 G M s a p J I) (cwV 1 C.2.2.2.2.1 gX4_make_X4_isOpen rfl rfl rfl (by decide +kernel) (by rw [hXR]; decide)) hM_obj rfl rfl rfl (Nat.le_of_ble_eq_true rfl) dX4_make_14 (pc' := 17) rfl (by rw [hXR]; exact Nat.zero_le _) (by rw [hXR]; exact Nat.zero_le _) (fun _ _ z => z.elim) ?_
      rintro r h' ⟨rfl, rfl⟩
      show jW X G 4 0 0 17 [(0, .ref mo), (1, .int p), (2, .int (nI q))] [.int (bI (mOpen s a p)), .int (nI 1), .int (nI 0), .ref mo] ((hM G mo ad h0 s a))
      rcases hb_10 : (mOpen s a p) with _ | _
      · show jW X G 4 0 0 17 [(0, .ref mo), (1, .int p), (2, .int (nI q))] [.int (nI 0), .int (nI 1), .int (nI 0), .ref mo] ((hM G mo ad h0 s a))
        refine j_if_eq C dX4_make_17 (tgt := 33) (by decide) (pc' := 20) rfl (fun _ => ?_) (fun c_11 => absurd (by decide) c_11)
        refine j_iconst C (v := nI 0) rfl dX4_make_33 (pc' := 34) rfl ?_
        refine j_callV C (As := [.int (nI 0), .int (nI 1), .int (nI 0)]) (rest := []) (m_goes X.2.1 C.2.2.2.2.2.2.2.2 G M s a false true false) (cwV 3 C.2.2.2.2.1 gX4_make_X4_goes rfl rfl rfl (by decide +kernel) (by rw [hXR]; decide)) hM_obj rfl rfl rfl (Nat.le_of_ble_eq_true rfl) dX4_make_34 (pc' := 37) rfl (by rw [hXR]; exact Nat.zero_le _) (by rw [hXR]; exact Nat.zero_le _) (fun _ _ z => z.elim) ?_
        rintro r h' ⟨rfl, rfl⟩
        show jW X G 4 0 0 37 [(0, .ref mo), (1, .int p), (2, .int (nI q))] [.int (nI 0)] ((hM G mo ad h0 (va_up s 25 1) a))
        refine j_if_ne C dX4_make_37 (tgt := 42) (by decide) (pc' := 40) rfl (fun c_12 => absurd (by decide) c_12) (fun _ => ?_)
        refine j_iconst C (v := nI 0) rfl dX4_make_40 (pc' := 41) rfl ?_
        exact j_iret C E dX4_make_41 rfl (Nat.le_refl _) (Nat.le_refl _) (o_leaf (by unfold oMake; exact oel (bff hb_1) (rfl)))
      · show jW X G 4 0 0 17 [(0, .ref mo), (1, .int p), (2, .int (nI q))] [.int (nI 1), .int (nI 1), .int (nI 0), .ref mo] ((hM G mo ad h0 s a))
        refine j_if_eq C dX4_make_17 (tgt := 33) (by decide) (pc' := 20) rfl (fun c_13 => absurd c_13 (by decide)) (fun _ => ?_)
        refine j_aload_n C (i := 0) (x := mo) 0 rfl dX4_make_20 (pc' := 21) rfl ?_
        refine m_get C (f := 6) (idx := 69) hin (by decide) rfl (by decide +kernel) dX4_make_21 (pc' := 24) rfl ?_
        refine j_bipush C (v := nI 40) rfl dX4_make_24 (pc' := 26) rfl ?_
        refine j_icmp_ge C dX4_make_26 (tgt := 33) (by decide) (pc' := 29) rfl (fun c_14 => ?_) (fun c_14 => ?_)
        · have c_14 := (nI_leI (a := 40) (b := s 6) (by omega) (by omega)).mp c_14
          have c_14 : 40 ≤ (s 6) := c_14
          refine j_iconst C (v := nI 0) rfl dX4_make_33 (pc' := 34) rfl ?_
          refine j_callV C (As := [.int (nI 0), .int (nI 1), .int (nI 0)]) (rest := []) (m_goes X.2.1 C.2.2.2.2.2.2.2.2 G M s a false true false) (cwV 3 C.2.2.2.2.1 gX4_make_X4_goes rfl rfl rfl (by decide +kernel) (by rw [hXR]; decide)) hM_obj rfl rfl rfl (Nat.le_of_ble_eq_true rfl) dX4_make_34 (pc' := 37) rfl (by rw [hXR]; exact Nat.zero_le _) (by rw [hXR]; exact Nat.zero_le _) (fun _ _ z => z.elim) ?_
          rintro r h' ⟨rfl, rfl⟩
          show jW X G 4 0 0 37 [(0, .ref mo), (1, .int p), (2, .int (nI q))] [.int (nI 0)] ((hM G mo ad h0 (va_up s 25 1) a))
          refine j_if_ne C dX4_make_37 (tgt := 42) (by decide) (pc' := 40) rfl (fun c_15 => absurd (by decide) c_15) (fun _ => ?_)
          refine j_iconst C (v := nI 0) rfl dX4_make_40 (pc' := 41) rfl ?_
          exact j_iret C E dX4_make_41 rfl (Nat.le_refl _) (Nat.le_refl _) (o_leaf (by unfold oMake; exact oel (bff hb_1) (rfl)))
        · have c_14 := fun zq => c_14 ((nI_leI (a := 40) (b := s 6) (by omega) (by omega)).mpr zq)
          have c_14 : ¬ 40 ≤ (s 6) := c_14
          refine j_iconst C (v := nI 1) rfl dX4_make_29 (pc' := 30) rfl ?_
          refine j_goto C dX4_make_30 (pc' := 34) (by decide) ?_
          refine j_callV C (As := [.int (nI 0), .int (nI 1), .int (nI 1)]) (rest := []) (m_goes X.2.1 C.2.2.2.2.2.2.2.2 G M s a false true true) (cwV 3 C.2.2.2.2.1 gX4_make_X4_goes rfl rfl rfl (by decide +kernel) (by rw [hXR]; decide)) hM_obj rfl rfl rfl (Nat.le_of_ble_eq_true rfl) dX4_make_34 (pc' := 37) rfl (by rw [hXR]; exact Nat.zero_le _) (by rw [hXR]; exact Nat.zero_le _) (fun _ _ z => z.elim) ?_
          rintro r h' ⟨rfl, rfl⟩
          show jW X G 4 0 0 37 [(0, .ref mo), (1, .int p), (2, .int (nI q))] [.int (nI 0)] ((hM G mo ad h0 (va_up s 25 1) a))
          refine j_if_ne C dX4_make_37 (tgt := 42) (by decide) (pc' := 40) rfl (fun c_16 => absurd (by decide) c_16) (fun _ => ?_)
          refine j_iconst C (v := nI 0) rfl dX4_make_40 (pc' := 41) rfl ?_
          exact j_iret C E dX4_make_41 rfl (Nat.le_refl _) (Nat.le_refl _) (o_leaf (by unfold oMake; exact oel (bff hb_1) (rfl)))
  · show jW X G 4 0 0 6 [(0, .ref mo), (1, .int p), (2, .int w)] [.int (nI 1), .ref mo] ((hM G mo ad h0 s a))
    obtain ⟨j, hj, rfl⟩ := inN_of hb_1
    refine j_iload_n C (i := 2) (x := w) 2 rfl dX4_make_6 (pc' := 7) rfl ?_
    refine j_iconst C (v := nI 1) rfl dX4_make_7 (pc' := 8) rfl ?_
    refine j_iconst C (v := nI 2) rfl dX4_make_8 (pc' := 9) rfl ?_
    refine j_callS C (As := [.int w, .int (nI 1), .int (nI 2)]) (rest := [.int (nI 1), .ref mo]) (m_in X.2.1 C.2.2.2.2.2.2.2.2 G w (nI 1) (nI 2)) (va_cwS 3 C.2.2.2.2.1 gX4_make_X4_in rfl rfl rfl (by decide +kernel) (by rw [hXR]; decide)) rfl rfl (Nat.le_of_ble_eq_true rfl) dX4_make_9 (pc' := 12) rfl (by rw [hXR]; exact Nat.zero_le _) (by rw [hXR]; exact Nat.zero_le _) (fun _ _ z => z.elim) ?_
    rintro r h' ⟨rfl, rfl⟩
    show jW X G 4 0 0 12 [(0, .ref mo), (1, .int (nI j)), (2, .int w)] [.int (bI (decide (nI 1 ≤ w) && decide (w ≤ nI 2))), .int (nI 1), .ref mo] ((hM G mo ad h0 s a))
    rcases hb_17 : (decide (nI 1 ≤ w) && decide (w ≤ nI 2)) with _ | _
    · show jW X G 4 0 0 12 [(0, .ref mo), (1, .int (nI j)), (2, .int w)] [.int (nI 0), .int (nI 1), .ref mo] ((hM G mo ad h0 s a))
      refine j_aload_n C (i := 0) (x := mo) 0 rfl dX4_make_12 (pc' := 13) rfl ?_
      refine j_iload_n C (i := 1) (x := nI j) 1 rfl dX4_make_13 (pc' := 14) rfl ?_
      refine j_callV C (As := [.int (nI j)]) (rest := [.int (nI 0), .int (nI 1), .ref mo]) (m_isOpen X.2.1 C.2.2.2.2.2.2.2.2 G M s a (nI j) J I) (cwV 1 C.2.2.2.2.1 gX4_make_X4_isOpen rfl rfl rfl (by decide +kernel) (by rw [hXR]; decide)) hM_obj rfl rfl rfl (Nat.le_of_ble_eq_true rfl) dX4_make_14 (pc' := 17) rfl (by rw [hXR]; exact Nat.zero_le _) (by rw [hXR]; exact Nat.zero_le _) (fun _ _ z => z.elim) ?_
      rintro r h' ⟨rfl, rfl⟩
      show jW X G 4 0 0 17 [(0, .ref mo), (1, .int (nI j)), (2, .int w)] [.int (bI (mOpen s a (nI j))), .int (nI 0), .int (nI 1), .ref mo] ((hM G mo ad h0 s a))
      rcases hb_18 : (mOpen s a (nI j)) with _ | _
      · show jW X G 4 0 0 17 [(0, .ref mo), (1, .int (nI j)), (2, .int w)] [.int (nI 0), .int (nI 0), .int (nI 1), .ref mo] ((hM G mo ad h0 s a))
        refine j_if_eq C dX4_make_17 (tgt := 33) (by decide) (pc' := 20) rfl (fun _ => ?_) (fun c_19 => absurd (by decide) c_19)
        refine j_iconst C (v := nI 0) rfl dX4_make_33 (pc' := 34) rfl ?_
        refine j_callV C (As := [.int (nI 1), .int (nI 0), .int (nI 0)]) (rest := []) (m_goes X.2.1 C.2.2.2.2.2.2.2.2 G M s a true false false) (cwV 3 C.2.2.2.2.1 gX4_make_X4_goes rfl rfl rfl (by decide +kernel) (by rw [hXR]; decide)) hM_obj rfl rfl rfl (Nat.le_of_ble_eq_true rfl) dX4_make_34 (pc' := 37) rfl (by rw [hXR]; exact Nat.zero_le _) (by rw [hXR]; exact Nat.zero_le _) (fun _ _ z => z.elim) ?_
        rintro r h' ⟨rfl, rfl⟩
        show jW X G 4 0 0 37 [(0, .ref mo), (1, .int (nI j)), (2, .int w)] [.int (nI 0)] ((hM G mo ad h0 (va_up s 25 2) a))
        refine j_if_ne C dX4_make_37 (tgt := 42) (by decide) (pc' := 40) rfl (fun c_20 => absurd (by decide) c_20) (fun _ => ?_)
        refine j_iconst C (v := nI 0) rfl dX4_make_40 (pc' := 41) rfl ?_
        exact j_iret C E dX4_make_41 rfl (Nat.le_refl _) (Nat.le_refl _) (o_leaf (by unfold oMake; exact oif hb_1 (oel (bff hb_17) (rfl))))
      · show jW X G 4 0 0 17 [(0, .ref mo), (1, .int (nI j)), (2, .int w)] [.int (nI 1), .int (nI 0), .int (nI 1), .ref mo] ((hM G mo ad h0 s a))
        refine j_if_eq C dX4_make_17 (tgt := 33) (by decide) (pc' := 20) rfl (fun c_21 => absurd c_21 (by decide)) (fun _ => ?_)
        refine j_aload_n C (i := 0) (x := mo) 0 rfl dX4_make_20 (pc' := 21) rfl ?_
        refine m_get C (f := 6) (idx := 69) hin (by decide) rfl (by decide +kernel) dX4_make_21 (pc' := 24) rfl ?_
        refine j_bipush C (v := nI 40) rfl dX4_make_24 (pc' := 26) rfl ?_
        refine j_icmp_ge C dX4_make_26 (tgt := 33) (by decide) (pc' := 29) rfl (fun c_22 => ?_) (fun c_22 => ?_)
        · have c_22 := (nI_leI (a := 40) (b := s 6) (by omega) (by omega)).mp c_22
          have c_22 : 40 ≤ (s 6) := c_22
          refine j_iconst C (v := nI 0) rfl dX4_make_33 (pc' := 34) rfl ?_
          refine j_callV C (As := [.int (nI 1), .int (nI 0), .int (nI 0)]) (rest := []) (m_goes X.2.1 C.2.2.2.2.2.2.2.2 G M s a true false false) (cwV 3 C.2.2.2.2.1 gX4_make_X4_goes rfl rfl rfl (by decide +kernel) (by rw [hXR]; decide)) hM_obj rfl rfl rfl (Nat.le_of_ble_eq_true rfl) dX4_make_34 (pc' := 37) rfl (by rw [hXR]; exact Nat.zero_le _) (by rw [hXR]; exact Nat.zero_le _) (fun _ _ z => z.elim) ?_
          rintro r h' ⟨rfl, rfl⟩
          show jW X G 4 0 0 37 [(0, .ref mo), (1, .int (nI j)), (2, .int w)] [.int (nI 0)] ((hM G mo ad h0 (va_up s 25 2) a))
          refine j_if_ne C dX4_make_37 (tgt := 42) (by decide) (pc' := 40) rfl (fun c_23 => absurd (by decide) c_23) (fun _ => ?_)
          refine j_iconst C (v := nI 0) rfl dX4_make_40 (pc' := 41) rfl ?_
          exact j_iret C E dX4_make_41 rfl (Nat.le_refl _) (Nat.le_refl _) (o_leaf (by unfold oMake; exact oif hb_1 (oel (bff hb_17) (rfl))))
        · have c_22 := fun zq => c_22 ((nI_leI (a := 40) (b := s 6) (by omega) (by omega)).mpr zq)
          have c_22 : ¬ 40 ≤ (s 6) := c_22
          refine j_iconst C (v := nI 1) rfl dX4_make_29 (pc' := 30) rfl ?_
          refine j_goto C dX4_make_30 (pc' := 34) (by decide) ?_
          refine j_callV C (As := [.int (nI 1), .int (nI 0), .int (nI 1)]) (rest := []) (m_goes X.2.1 C.2.2.2.2.2.2.2.2 G M s a true false true) (cwV 3 C.2.2.2.2.1 gX4_make_X4_goes rfl rfl rfl (by decide +kernel) (by rw [hXR]; decide)) hM_obj rfl rfl rfl (Nat.le_of_ble_eq_true rfl) dX4_make_34 (pc' := 37) rfl (by rw [hXR]; exact Nat.zero_le _) (by rw [hXR]; exact Nat.zero_le _) (fun _ _ z => z.elim) ?_
          rintro r h' ⟨rfl, rfl⟩
          show jW X G 4 0 0 37 [(0, .ref mo), (1, .int (nI j)), (2, .int w)] [.int (nI 0)] ((hM G mo ad h0 (va_up s 25 2) a))
          refine j_if_ne C dX4_make_37 (tgt := 42) (by decide) (pc' := 40) rfl (fun c_24 => absurd (by decide) c_24) (fun _ => ?_)
          refine j_iconst C (v := nI 0) rfl dX4_make_40 (pc' := 41) rfl ?_
          exact j_iret C E dX4_make_41 rfl (Nat.le_refl _) (Nat.le_refl _) (o_leaf (by unfold oMake; exact oif hb_1 (oel (bff hb_17) (rfl))))
    · show jW X G 4 0 0 12 [(0, .ref mo), (1, .int (nI j)), (2, .int w)] [.int (nI 1), .int (nI 1), .ref mo] ((hM G mo ad h0 s a))
      obtain ⟨q, lq, hq, rfl⟩ := inR_of (by omega) (by omega) (show inR _ 1 2 = true from hb_17)
      refine j_aload_n C (i := 0) (x := mo) 0 rfl dX4_make_12 (pc' := 13) rfl ?_
      refine j_iload_n C (i := 1) (x := nI j) 1 rfl dX4_make_13 (pc' := 14) rfl ?_
      refine j_callV C (As := [.int (nI j)]) (rest := [.int (nI 1), .int (nI 1), .ref mo]) (m_isOpen X.2.1 C.2.2.2.2.2.2.2.2 G M s a (nI j) J I) (cwV 1 C.2.2.2.2.1 gX4_make_X4_isOpen rfl rfl rfl (by decide +kernel) (by rw [hXR]; decide)) hM_obj rfl rfl rfl (Nat.le_of_ble_eq_true rfl) dX4_make_14 (pc' := 17) rfl (by rw [hXR]; exact Nat.zero_le _) (by rw [hXR]; exact Nat.zero_le _) (fun _ _ z => z.elim) ?_
      rintro r h' ⟨rfl, rfl⟩
      show jW X G 4 0 0 17 [(0, .ref mo), (1, .int (nI j)), (2, .int (nI q))] [.int (bI (mOpen s a (nI j))), .int (nI 1), .int (nI 1), .ref mo] ((hM G mo ad h0 s a))
      rcases hb_25 : (mOpen s a (nI j)) with _ | _
      · show jW X G 4 0 0 17 [(0, .ref mo), (1, .int (nI j)), (2, .int (nI q))] [.int (nI 0), .int (nI 1), .int (nI 1), .ref mo] ((hM G mo ad h0 s a))
        refine j_if_eq C dX4_make_17 (tgt := 33) (by decide) (pc' := 20) rfl (fun _ => ?_) (fun c_26 => absurd (by decide) c_26)
        refine j_iconst C (v := nI 0) rfl dX4_make_33 (pc' := 34) rfl ?_
        refine j_callV C (As := [.int (nI 1), .int (nI 1), .int (nI 0)]) (rest := []) (m_goes X.2.1 C.2.2.2.2.2.2.2.2 G M s a true true false) (cwV 3 C.2.2.2.2.1 gX4_make_X4_goes rfl rfl rfl (by decide +kernel) (by rw [hXR]; decide)) hM_obj rfl rfl rfl (Nat.le_of_ble_eq_true rfl) dX4_make_34 (pc' := 37) rfl (by rw [hXR]; exact Nat.zero_le _) (by rw [hXR]; exact Nat.zero_le _) (fun _ _ z => z.elim) ?_
        rintro r h' ⟨rfl, rfl⟩
        show jW X G 4 0 0 37 [(0, .ref mo), (1, .int (nI j)), (2, .int (nI q))] [.int (nI 0)] ((hM G mo ad h0 (va_up s 25 3) a))
        refine j_if_ne C dX4_make_37 (tgt := 42) (by decide) (pc' := 40) rfl (fun c_27 => absurd (by decide) c_27) (fun _ => ?_)
        refine j_iconst C (v := nI 0) rfl dX4_make_40 (pc' := 41) rfl ?_
        exact j_iret C E dX4_make_41 rfl (Nat.le_refl _) (Nat.le_refl _) (o_leaf (by unfold oMake; exact oif hb_1 (oif hb_17 (oel (fun z => (bff hb_25) z.1) (rfl)))))
      · show jW X G 4 0 0 17 [(0, .ref mo), (1, .int (nI j)), (2, .int (nI q))] [.int (nI 1), .int (nI 1), .int (nI 1), .ref mo] ((hM G mo ad h0 s a))
        refine j_if_eq C dX4_make_17 (tgt := 33) (by decide) (pc' := 20) rfl (fun c_28 => absurd c_28 (by decide)) (fun _ => ?_)
        refine j_aload_n C (i := 0) (x := mo) 0 rfl dX4_make_20 (pc' := 21) rfl ?_
        refine m_get C (f := 6) (idx := 69) hin (by decide) rfl (by decide +kernel) dX4_make_21 (pc' := 24) rfl ?_
        refine j_bipush C (v := nI 40) rfl dX4_make_24 (pc' := 26) rfl ?_
        refine j_icmp_ge C dX4_make_26 (tgt := 33) (by decide) (pc' := 29) rfl (fun c_29 => ?_) (fun c_29 => ?_)
        · have c_29 := (nI_leI (a := 40) (b := s 6) (by omega) (by omega)).mp c_29
          have c_29 : 40 ≤ (s 6) := c_29
          refine j_iconst C (v := nI 0) rfl dX4_make_33 (pc' := 34) rfl ?_
          refine j_callV C (As := [.int (nI 1), .int (nI 1), .int (nI 0)]) (rest := []) (m_goes X.2.1 C.2.2.2.2.2.2.2.2 G M s a true true false) (cwV 3 C.2.2.2.2.1 gX4_make_X4_goes rfl rfl rfl (by decide +kernel) (by rw [hXR]; decide)) hM_obj rfl rfl rfl (Nat.le_of_ble_eq_true rfl) dX4_make_34 (pc' := 37) rfl (by rw [hXR]; exact Nat.zero_le _) (by rw [hXR]; exact Nat.zero_le _) (fun _ _ z => z.elim) ?_
          rintro r h' ⟨rfl, rfl⟩
          show jW X G 4 0 0 37 [(0, .ref mo), (1, .int (nI j)), (2, .int (nI q))] [.int (nI 0)] ((hM G mo ad h0 (va_up s 25 3) a))
          refine j_if_ne C dX4_make_37 (tgt := 42) (by decide) (pc' := 40) rfl (fun c_30 => absurd (by decide) c_30) (fun _ => ?_)
          refine j_iconst C (v := nI 0) rfl dX4_make_40 (pc' := 41) rfl ?_
          exact j_iret C E dX4_make_41 rfl (Nat.le_refl _) (Nat.le_refl _) (o_leaf (by unfold oMake; exact oif hb_1 (oif hb_17 (oel (fun z => (show ¬ (s 6 < 40) by omega) z.2) (rfl)))))
        · have c_29 := fun zq => c_29 ((nI_leI (a := 40) (b := s 6) (by omega) (by omega)).mpr zq)
          have c_29 : ¬ 40 ≤ (s 6) := c_29
          refine j_iconst C (v := nI 1) rfl dX4_make_29 (pc' := 30) rfl ?_
          refine j_goto C dX4_make_30 (pc' := 34) (by decide) ?_
          refine j_callV C (As := [.int (nI 1), .int (nI 1), .int (nI 1)]) (rest := []) (m_goes X.2.1 C.2.2.2.2.2.2.2.2 G M s a true true true) (cwV 3 C.2.2.2.2.1 gX4_make_X4_goes rfl rfl rfl (by decide +kernel) (by rw [hXR]; decide)) hM_obj rfl rfl rfl (Nat.le_of_ble_eq_true rfl) dX4_make_34 (pc' := 37) rfl (by rw [hXR]; exact Nat.zero_le _) (by rw [hXR]; exact Nat.zero_le _) (fun _ _ z => z.elim) ?_
          rintro r h' ⟨rfl, rfl⟩
          show jW X G 4 0 0 37 [(0, .ref mo), (1, .int (nI j)), (2, .int (nI q))] [.int (nI 1)] ((hM G mo ad h0 (va_up s 25 0) a))
          refine j_if_ne C dX4_make_37 (tgt := 42) (by decide) (pc' := 40) rfl (fun _ => ?_) (fun c_31 => absurd c_31 (by decide))
          refine j_aload_n C (i := 0) (x := mo) 0 rfl dX4_make_42 (pc' := 43) rfl ?_
          refine j_callV C (As := []) (rest := []) (m_asksDraft X.2.1 C.2.2.2.2.2.2.2.2 G M (va_up s 25 0) a (IS.th J (v := 0) (by first | decide | exact gTh_le _ _ _)) I) (cwV 0 C.2.2.2.2.1 gX4_make_X4_asksDraft rfl rfl rfl (by decide +kernel) (by rw [hXR]; decide)) hM_obj rfl rfl rfl (Nat.le_of_ble_eq_true rfl) dX4_make_43 (pc' := 46) rfl (by rw [hXR]; exact Nat.zero_le _) (by rw [hXR]; exact Nat.zero_le _) (fun _ _ z => z.elim) ?_
          rintro r h' ⟨rfl, rfl⟩
          show jW X G 4 0 0 46 [(0, .ref mo), (1, .int (nI j)), (2, .int (nI q))] [] ((hM G mo ad h0 (va_up (va_up s 25 0) 23 (s 4)) (aDr a (s 4))))
          refine j_aload_n C (i := 0) (x := mo) 0 rfl dX4_make_46 (pc' := 47) rfl ?_
          refine j_iload_n C (i := 2) (x := nI q) 2 rfl dX4_make_47 (pc' := 48) rfl ?_
          refine j_callV C (As := [.int (nI q)]) (rest := []) (m_isUnlike X.2.1 C.2.2.2.2.2.2.2.2 G M (va_up (va_up s 25 0) 23 (s 4)) (aDr a (s 4)) q (IS.asked (IS.th J (v := 0) (by first | decide | exact gTh_le _ _ _)) (v := (s 4)) (by omega)) (IA.aDr I (s 4)) (by omega)) (cwV 1 C.2.2.2.2.1 gX4_make_X4_isUnlike rfl rfl rfl (by decide +kernel) (by rw [hXR]; decide)) hM_obj rfl rfl rfl (Nat.le_of_ble_eq_true rfl) dX4_make_48 (pc' := 51) rfl (by rw [hXR]; exact Nat.zero_le _) (by rw [hXR]; exact Nat.zero_le _) (fun _ _ z => z.elim) ?_
          rintro r h' ⟨rfl, rfl⟩
          show jW X G 4 0 0 51 [(0, .ref mo), (1, .int (nI j)), (2, .int (nI q))] [.int (bI (mUnl (va_up (va_up s 25 0) 23 (s 4)) (aDr a (s 4)) q))] ((hM G mo ad h0 (va_up (va_up s 25 0) 23 (s 4)) (aDr a (s 4))))
          rcases hb_32 : (mUnl (va_up (va_up s 25 0) 23 (s 4)) (aDr a (s 4)) q) with _ | _
          · show jW X G 4 0 0 51 [(0, .ref mo), (1, .int (nI j)), (2, .int (nI q))] [.int (nI 0)] ((hM G mo ad h0 (va_up (va_up s 25 0) 23 (s 4)) (aDr a (s 4))))
            refine j_if_eq C dX4_make_51 (tgt := 57) (by decide) (pc' := 54) rfl (fun _ => ?_) (fun c_33 => absurd (by decide) c_33)
            refine j_aload_n C (i := 0) (x := mo) 0 rfl dX4_make_57 (pc' := 58) rfl ?_
            refine m_geta C (f := 7) (idx := 17) hin (by decide) rfl (by decide +kernel) dX4_make_58 (pc' := 61) rfl ?_
            refine j_aload_n C (i := 0) (x := mo) 0 rfl dX4_make_61 (pc' := 62) rfl ?_
            refine m_get C (f := 6) (idx := 69) hin (by decide) rfl (by decide +kernel) dX4_make_62 (pc' := 65) rfl ?_
            show jW X G 4 0 0 65 [(0, .ref mo), (1, .int (nI j)), (2, .int (nI q))] [.int (nI (s 6)), .ref (ad 7)] ((hM G mo ad h0 (va_up (va_up s 25 0) 23 (s 4)) (aDr a (s 4))))
            refine j_iload_n C (i := 2) (x := nI q) 2 rfl dX4_make_65 (pc' := 66) rfl ?_
            refine m_ast C M (f := 7) (j := s 6) (v := q) (by decide) rfl rfl rfl (show s 6 < 40 by omega) rfl dX4_make_66 (pc' := 67) rfl ?_
            refine j_aload_n C (i := 0) (x := mo) 0 rfl dX4_make_67 (pc' := 68) rfl ?_
            refine j_iload_n C (i := 1) (x := nI j) 1 rfl dX4_make_68 (pc' := 69) rfl ?_
            refine j_aload_n C (i := 0) (x := mo) 0 rfl dX4_make_69 (pc' := 70) rfl ?_
            refine m_get C (f := 6) (idx := 69) hin (by decide) rfl (by decide +kernel) dX4_make_70 (pc' := 73) rfl ?_
            show jW X G 4 0 0 73 [(0, .ref mo), (1, .int (nI j)), (2, .int (nI q))] [.int (nI (s 6)), .int (nI j), .ref mo] ((hM G mo ad h0 (va_up (va_up s 25 0) 23 (s 4)) (va_up2 (aDr a (s 4)) 7 (s 6) q)))
            refine j_iconst C (v := nI 1) rfl dX4_make_73 (pc' := 74) rfl ?_
            refine j_iconst C (v := nI 0) rfl dX4_make_74 (pc' := 75) rfl ?_
            refine j_callV C (As := [.int (nI j), .int (nI (s 6)), .int (nI 1), .int (nI 0)]) (rest := []) (m_makes X.2.1 C.2.2.2.2.2.2.2.2 G M (va_up (va_up s 25 0) 23 (s 4)) (va_up2 (aDr a (s 4)) 7 (s 6) q) j (s 6) 1 0 (IS.asked (IS.th J (v := 0) (by first | decide | exact gTh_le _ _ _)) (v := (s 4)) (by omega)) (IA.up2c (IA.aDr I (s 4)) (f := 7) (j := (s 6)) (v := q) ⟨by omega, fun _ => by omega, fun _ => by omega, fun _ => by omega, fun _ => by omega, fun _ => by omega, fun _ => by omega, fun _ => by omega, fun _ => by omega, fun _ => by omega, fun _ => by omega, fun _ => by omega, fun _ => by omega, fun _ => by omega⟩) (by omega) (by omega) (by omega) (by omega)) (cwV 4 C.2.2.2.2.1 gX4_make_X4_makes rfl rfl rfl (by decide +kernel) (by rw [hXR]; decide)) hM_obj rfl rfl rfl (Nat.le_of_ble_eq_true rfl) dX4_make_75 (pc' := 78) rfl (by rw [hXR]; exact Nat.zero_le _) (by rw [hXR]; exact Nat.zero_le _) (fun _ _ z => z.elim) ?_
            rintro r h' ⟨rfl, rfl⟩
            show jW X G 4 0 0 78 [(0, .ref mo), (1, .int (nI j)), (2, .int (nI q))] [.int (nI (a 9 (s 6) + 1))] ((hM G mo ad h0 (va_up (va_up (va_up s 25 0) 23 (s 4)) 10 (s 10 + 1)) (mkA (va_up (va_up s 25 0) 23 (s 4)) (va_up2 (aDr a (s 4)) 7 (s 6) q) j (s 6) 1 0)))
            refine j_istore_n C (i := 3) (x := nI (a 9 (s 6) + 1)) (l' := [(3, .int (nI (a 9 (s 6) + 1))), (0, .ref mo), (1, .int (nI j)), (2, .int (nI q))]) dX4_make_78 (pc' := 79) rfl (by decide) rfl ?_
            refine j_aload_n C (i := 0) (x := mo) 1 rfl dX4_make_79 (pc' := 80) rfl ?_
            refine j_dup C rfl dX4_make_80 (pc' := 81) rfl ?_
            refine m_get C (f := 6) (idx := 69) hin (by decide) rfl (by decide +kernel) dX4_make_81 (pc' := 84) rfl ?_
            show jW X G 4 0 0 84 [(3, .int (nI (a 9 (s 6) + 1))), (0, .ref mo), (1, .int (nI j)), (2, .int (nI q))] [.int (nI (s 6)), .ref mo] ((hM G mo ad h0 (va_up (va_up (va_up s 25 0) 23 (s 4)) 10 (s 10 + 1)) (mkA (va_up (va_up s 25 0) 23 (s 4)) (va_up2 (aDr a (s 4)) 7 (s 6) q) j (s 6) 1 0)))
            refine j_iconst C (v := nI 1) rfl dX4_make_84 (pc' := 85) rfl ?_
            refine j_iadd C (x := nI (s 6)) (y := nI 1) dX4_make_85 (pc' := 86) rfl ?_
            refine jt_i (nI_add _ _) ?_
            refine m_put C (f := 6) (idx := 69) (v := s 6 + 1) hin (by decide) rfl (by decide +kernel) dX4_make_86 (pc' := 89) rfl ?_
            refine j_aload_n C (i := 0) (x := mo) 1 rfl dX4_make_89 (pc' := 90) rfl ?_
            refine m_get C (f := 6) (idx := 69) hin (by decide) rfl (by decide +kernel) dX4_make_90 (pc' := 93) rfl ?_
            show jW X G 4 0 0 93 [(3, .int (nI (a 9 (s 6) + 1))), (0, .ref mo), (1, .int (nI j)), (2, .int (nI q))] [.int (nI (s 6 + 1))] ((hM G mo ad h0 (va_up (va_up (va_up (va_up s 25 0) 23 (s 4)) 10 (s 10 + 1)) 6 (s 6 + 1)) (mkA (va_up (va_up s 25 0) 23 (s 4)) (va_up2 (aDr a (s 4)) 7 (s 6) q) j (s 6) 1 0)))
            refine j_iconst C (v := nI 1) rfl dX4_make_93 (pc' := 94) rfl ?_
            refine j_isub C (x := nI (s 6 + 1)) (y := nI 1) dX4_make_94 (pc' := 95) rfl ?_
            refine jt_i (pk_sub (by omega)) ?_
            exact j_iret C E dX4_make_95 rfl (Nat.le_refl _) (Nat.le_refl _) (o_leaf (by unfold oMake; simp only [tn_nI (show j < 2 ^ 31 by omega), tn_nI (show q < 2 ^ 31 by omega)]; exact oif hb_1 (oif hb_17 (oif ⟨hb_25, (show s 6 < 40 by omega)⟩ (oel (bff hb_32) (rfl))))))
          · show jW X G 4 0 0 51 [(0, .ref mo), (1, .int (nI j)), (2, .int (nI q))] [.int (nI 1)] ((hM G mo ad h0 (va_up (va_up s 25 0) 23 (s 4)) (aDr a (s 4))))
            refine j_if_eq C dX4_make_51 (tgt := 57) (by decide) (pc' := 54) rfl (fun c_34 => absurd c_34 (by decide)) (fun _ => ?_)
            refine j_bipush C (v := (-3)) rfl dX4_make_54 (pc' := 56) rfl ?_
            exact j_iret C E dX4_make_56 rfl (Nat.le_refl _) (Nat.le_refl _) (o_leaf (by unfold oMake; simp only [tn_nI (show q < 2 ^ 31 by omega)]; exact oif hb_1 (oif hb_17 (oif ⟨hb_25, (show s 6 < 40 by omega)⟩ (oif hb_32 (rfl))))))
set_option maxRecDepth 100000 in
set_option maxHeartbeats 4000000 in
theorem m_delete (l : Launch) (hlt : l.stackTraces = false) (G : jG) {mo : Nat} {ad : Nat → Nat} {h0 : jH} (M : mG mo ad) (s : mS) (a : mA) (p t v : Int32) (J : IS s) (I : IA a) : jM l G yX4_delete wsX4_delete 3 68 0 0 [.ref mo, .int p, .int t, .int v] (hM G mo ad h0 s a) (fun r h' => r = some (.int (oDelete s a p t v).1) ∧ h' = hM G mo ad h0 (oDelete s a p t v).2.1 (oDelete s a p t v).2.2) (fun _ _ => False) := by
  have h6 := J.2.1
  have h2 := J.2.2.1
  have h4 := J.2.2.2.1
  have h10 := J.2.2.2.2.1
  have hs0 := J.1 0
  have hs1 := J.1 1
  refine jM_of (cc := cX4_delete) (maxL := 5) (ret := (some .int)) hlt (by decide +kernel) rfl (Nat.le_of_ble_eq_true rfl) ?_
  intro X C E hXl hXR hXn
  have hin : ∀ w ∈ u_ws RX4 TX4 26, w ∈ wsX4_delete := by decide +kernel
  show jW X G 5 0 0 0 [(0, .ref mo), (1, .int p), (2, .int t), (3, .int v)] [] ((hM G mo ad h0 s a))
  refine j_aload_n C (i := 0) (x := mo) 0 rfl dX4_delete_0 (pc' := 1) rfl ?_
  refine j_iload_n C (i := 1) (x := p) 1 rfl dX4_delete_1 (pc' := 2) rfl ?_
  refine j_callV C (As := [.int p]) (rest := []) (m_isSet X.2.1 C.2.2.2.2.2.2.2.2 G M s a p J) (cwV 1 C.2.2.2.2.1 gX4_delete_X4_isSet rfl rfl rfl (by decide +kernel) (by rw [hXR]; decide)) hM_obj rfl rfl rfl (Nat.le_of_ble_eq_true rfl) dX4_delete_2 (pc' := 5) rfl (by rw [hXR]; exact Nat.zero_le _) (by rw [hXR]; exact Nat.zero_le _) (fun _ _ z => z.elim) ?_
  rintro r h' ⟨rfl, rfl⟩
  show jW X G 5 0 0 5 [(0, .ref mo), (1, .int p), (2, .int t), (3, .int v)] [.int (bI (inN p (s 2)))] ((hM G mo ad h0 s a))
  rcases hb_1 : (inN p (s 2)) with _ | _
  · show jW X G 5 0 0 5 [(0, .ref mo), (1, .int p), (2, .int t), (3, .int v)] [.int (nI 0)] ((hM G mo ad h0 s a))
    refine j_if_eq C dX4_delete_5 (tgt := 20) (by decide) (pc' := 8) rfl (fun _ => ?_) (fun c_2 => absurd (by decide) c_2)
    refine j_iconst C (v := nI 0) rfl dX4_delete_20 (pc' := 21) rfl ?_
    refine j_istore C (i := 4) (x := nI 0) (l' := [(4, .int (nI 0)), (0, .ref mo), (1, .int p), (2, .int t), (3, .int v)]) dX4_delete_21 (pc' := 23) rfl (by decide) rfl ?_
    refine j_aload_n C (i := 0) (x := mo) 1 rfl dX4_delete_23 (pc' := 24) rfl ?_
    refine j_iload C (i := 4) (x := nI 0) 0 rfl dX4_delete_24 (pc' := 26) rfl ?_
    refine j_aload_n C (i := 0) (x := mo) 1 rfl dX4_delete_26 (pc' := 27) rfl ?_
    refine j_iload_n C (i := 1) (x := p) 2 rfl dX4_delete_27 (pc' := 28) rfl ?_
    refine j_callV C (As := [.int p]) (rest := [.int (nI 0), .ref mo]) (m_isOpen X.2.1 C.2.2.2.2.2.2.2.2 G M s a p J I) (cwV 1 C.2.2.2.2.1 gX4_delete_X4_isOpen rfl rfl rfl (by decide +kernel) (by rw [hXR]; decide)) hM_obj rfl rfl rfl (Nat.le_of_ble_eq_true rfl) dX4_delete_28 (pc' := 31) rfl (by rw [hXR]; exact Nat.zero_le _) (by rw [hXR]; exact Nat.zero_le _) (fun _ _ z => z.elim) ?_
    rintro r h' ⟨rfl, rfl⟩
    show jW X G 5 0 0 31 [(4, .int (nI 0)), (0, .ref mo), (1, .int p), (2, .int t), (3, .int v)] [.int (bI (mOpen s a p)), .int (nI 0), .ref mo] ((hM G mo ad h0 s a))
    refine j_iconst C (v := nI 1) rfl dX4_delete_31 (pc' := 32) rfl ?_
    rcases hb_3 : (mOpen s a p) with _ | _
    · show jW X G 5 0 0 32 [(4, .int (nI 0)), (0, .ref mo), (1, .int p), (2, .int t), (3, .int v)] [.int (nI 1), .int (nI 0), .int (nI 0), .ref mo] ((hM G mo ad h0 s a))
      refine j_callV C (As := [.int (nI 0), .int (nI 0), .int (nI 1)]) (rest := []) (m_goes X.2.1 C.2.2.2.2.2.2.2.2 G M s a false false true) (cwV 3 C.2.2.2.2.1 gX4_delete_X4_goes rfl rfl rfl (by decide +kernel) (by rw [hXR]; decide)) hM_obj rfl rfl rfl (Nat.le_of_ble_eq_true rfl) dX4_delete_32 (pc' := 35) rfl (by rw [hXR]; exact Nat.zero_le _) (by rw [hXR]; exact Nat.zero_le _) (fun _ _ z => z.elim) ?_
      rintro r h' ⟨rfl, rfl⟩
      show jW X G 5 0 0 35 [(4, .int (nI 0)), (0, .ref mo), (1, .int p), (2, .int t), (3, .int v)] [.int (nI 0)] ((hM G mo ad h0 (va_up s 25 1) a))
      refine j_if_ne C dX4_delete_35 (tgt := 40) (by decide) (pc' := 38) rfl (fun c_4 => absurd (by decide) c_4) (fun _ => ?_)
      refine j_iconst C (v := nI 0) rfl dX4_delete_38 (pc' := 39) rfl ?_
      exact j_iret C E dX4_delete_39 rfl (Nat.le_refl _) (Nat.le_refl _) (o_leaf (by unfold oDelete; exact oel (fun z => (bff hb_1) z.1) (rfl)))
    · show jW X G 5 0 0 32 [(4, .int (nI 0)), (0, .ref mo), (1, .int p), (2, .int t), (3, .int v)] [.int (nI 1), .int (nI 1), .int (nI 0), .ref mo] ((hM G mo ad h0 s a))
      refine j_callV C (As := [.int (nI 0), .int (nI 1), .int (nI 1)]) (rest := []) (m_goes X.2.1 C.2.2.2.2.2.2.2.2 G M s a false true true) (cwV 3 C.2.2.2.2.1 gX4_delete_X4_goes rfl rfl rfl (by decide +kernel) (by rw [hXR]; decide)) hM_obj rfl rfl rfl (Nat.le_of_ble_eq_true rfl) dX4_delete_32 (pc' := 35) rfl (by rw [hXR]; exact Nat.zero_le _) (by rw [hXR]; exact Nat.zero_le _) (fun _ _ z => z.elim) ?_
      rintro r h' ⟨rfl, rfl⟩
      show jW X G 5 0 0 35 [(4, .int (nI 0)), (0, .ref mo), (1, .int p), (2, .int t), (3, .int v)] [.int (nI 0)] ((hM G mo ad h0 (va_up s 25 1) a))
      refine j_if_ne C dX4_delete_35 (tgt := 40) (by decide) (pc' := 38) rfl (fun c_5 => absurd (by decide) c_5) (fun _ => ?_)
      refine j_iconst C (v := nI 0) rfl dX4_delete_38 (pc' := 39) rfl ?_
      exact j_iret C E dX4_delete_39 rfl (Nat.le_refl _) (Nat.le_refl _) (o_leaf (by unfold oDelete; exact oel (fun z => (bff hb_1) z.1) (rfl)))
  · show jW X G 5 0 0 5 [(0, .ref mo), (1, .int p), (2, .int t), (3, .int v)] [.int (nI 1)] ((hM G mo ad h0 s a))
    obtain ⟨j, hj, rfl⟩ := inN_of hb_1
    refine j_if_eq C dX4_delete_5 (tgt := 20) (by decide) (pc' := 8) rfl (fun c_6 => absurd c_6 (by decide)) (fun _ => ?_)
    refine j_aload_n C (i := 0) (x := mo) 0 rfl dX4_delete_8 (pc' := 9) rfl ?_
    refine j_iload_n C (i := 2) (x := t) 2 rfl dX4_delete_9 (pc' := 10) rfl ?_
    refine j_callV C (As := [.int t]) (rest := []) (m_isThing X.2.1 C.2.2.2.2.2.2.2.2 G M s a t J) (cwV 1 C.2.2.2.2.1 gX4_delete_X4_isThing rfl rfl rfl (by decide +kernel) (by rw [hXR]; decide)) hM_obj rfl rfl rfl (Nat.le_of_ble_eq_true rfl) dX4_delete_10 (pc' := 13) rfl (by rw [hXR]; exact Nat.zero_le _) (by rw [hXR]; exact Nat.zero_le _) (fun _ _ z => z.elim) ?_
    rintro r h' ⟨rfl, rfl⟩
    show jW X G 5 0 0 13 [(0, .ref mo), (1, .int (nI j)), (2, .int t), (3, .int v)] [.int (bI (inN t (s 6)))] ((hM G mo ad h0 s a))
    rcases hb_7 : (inN t (s 6)) with _ | _
    · show jW X G 5 0 0 13 [(0, .ref mo), (1, .int (nI j)), (2, .int t), (3, .int v)] [.int (nI 0)] ((hM G mo ad h0 s a))
      refine j_if_eq C dX4_delete_13 (tgt := 20) (by decide) (pc' := 16) rfl (fun _ => ?_) (fun c_8 => absurd (by decide) c_8)
      refine j_iconst C (v := nI 0) rfl dX4_delete_20 (pc' := 21) rfl ?_
      refine j_istore C (i := 4) (x := nI 0) (l' := [(4, .int (nI 0)), (0, .ref mo), (1, .int (nI j)), (2, .int t), (3, .int v)]) dX4_delete_21 (pc' := 23) rfl (by decide) rfl ?_
      refine j_aload_n C (i := 0) (x := mo) 1 rfl dX4_delete_23 (pc' := 24) rfl ?_
      refine j_iload C (i := 4) (x := nI 0) 0 rfl dX4_delete_24 (pc' := 26) rfl ?_
      refine j_aload_n C (i := 0) (x := mo) 1 rfl dX4_delete_26 (pc' := 27) rfl ?_
      refine j_iload_n C (i := 1) (x := nI j) 2 rfl dX4_delete_27 (pc' := 28) rfl ?_
      refine j_callV C (As := [.int (nI j)]) (rest := [.int (nI 0), .ref mo]) (m_isOpen X.2.1 C.2.2.2.2.2.2.2.2 G M s a (nI j) J I) (cwV 1 C.2.2.2.2.1 gX4_delete_X4_isOpen rfl rfl rfl (by decide +kernel) (by rw [hXR]; decide)) hM_obj rfl rfl rfl (Nat.le_of_ble_eq_true rfl) dX4_delete_28 (pc' := 31) rfl (by rw [hXR]; exact Nat.zero_le _) (by rw [hXR]; exact Nat.zero_le _) (fun _ _ z => z.elim) ?_
      rintro r h' ⟨rfl, rfl⟩
      show jW X G 5 0 0 31 [(4, .int (nI 0)), (0, .ref mo), (1, .int (nI j)), (2, .int t), (3, .int v)] [.int (bI (mOpen s a (nI j))), .int (nI 0), .ref mo] ((hM G mo ad h0 s a))
      refine j_iconst C (v := nI 1) rfl dX4_delete_31 (pc' := 32) rfl ?_
      rcases hb_9 : (mOpen s a (nI j)) with _ | _
      · show jW X G 5 0 0 32 [(4, .int (nI 0)), (0, .ref mo), (1, .int (nI j)), (2, .int t), (3, .int v)] [.int (nI 1), .int (nI 0), .int (nI 0), .ref mo] ((hM G mo ad h0 s a))
        refine j_callV C (As := [.int (nI 0), .int (nI 0), .int (nI 1)]) (rest := []) (m_goes X.2.1 C.2.2.2.2.2.2.2.2 G M s a false false true) (cwV 3 C.2.2.2.2.1 gX4_delete_X4_goes rfl rfl rfl (by decide +kernel) (by rw [hXR]; decide)) hM_obj rfl rfl rfl (Nat.le_of_ble_eq_true rfl) dX4_delete_32 (pc' := 35) rfl (by rw [hXR]; exact Nat.zero_le _) (by rw [hXR]; exact Nat.zero_le _) (fun _ _ z => z.elim) ?_
        rintro r h' ⟨rfl, rfl⟩
        show jW X G 5 0 0 35 [(4, .int (nI 0)), (0, .ref mo), (1, .int (nI j)), (2, .int t), (3, .int v)] [.int (nI 0)] ((hM G mo ad h0 (va_up s 25 1) a))
        refine j_if_ne C dX4_delete_35 (tgt := 40) (by decide) (pc' := 38) rfl (fun c_10 => absurd (by decide) c_10) (fun _ => ?_)
        refine j_iconst C (v := nI 0) rfl dX4_delete_38 (pc' := 39) rfl ?_
        exact j_iret C E dX4_delete_39 rfl (Nat.le_refl _) (Nat.le_refl _) (o_leaf (by unfold oDelete; exact oel (fun z => (bff hb_7) z.2) (rfl)))
      · show jW X G 5 0 0 32 [(4, .int (nI 0)), (0, .ref mo), (1, .int (nI j)), (2, .int t), (3, .int v)] [.int (nI 1), .int (nI 1), .int (nI 0), .ref mo] ((hM G mo ad h0 s a))
        refine j_callV C (As := [.int (nI 0), .int (nI 1), .int (nI 1)]) (rest := []) (m_goes X.2.1 C.2.2.2.2.2.2.2.2 G M s a false true true) (cwV 3 C.2.2.2.2.1 gX4_delete_X4_goes rfl rfl rfl (by decide +kernel) (by rw [hXR]; decide)) hM_obj rfl rfl rfl (Nat.le_of_ble_eq_true rfl) dX4_delete_32 (pc' := 35) rfl (by rw [hXR]; exact Nat.zero_le _) (by rw [hXR]; exact Nat.zero_le _) (fun _ _ z => z.elim) ?_
        rintro r h' ⟨rfl, rfl⟩
        show jW X G 5 0 0 35 [(4, .int (nI 0)), (0, .ref mo), (1, .int (nI j)), (2, .int t), (3, .int v)] [.int (nI 0)] ((hM G mo ad h0 (va_up s 25 1) a))
        refine j_if_ne C dX4_delete_35 (tgt := 40) (by decide) (pc' := 38) rfl (fun c_11 => absurd (by decide) c_11) (fun _ => ?_)
        refine j_iconst C (v := nI 0) rfl dX4_delete_38 (pc' := 39) rfl ?_
        exact j_iret C E dX4_delete_39 rfl (Nat.le_refl _) (Nat.le_refl _) (o_leaf (by unfold oDelete; exact oel (fun z => (bff hb_7) z.2) (rfl)))
    · show jW X G 5 0 0 13 [(0, .ref mo), (1, .int (nI j)), (2, .int t), (3, .int v)] [.int (nI 1)] ((hM G mo ad h0 s a))
      obtain ⟨i, hi, rfl⟩ := inN_of hb_7
      refine j_if_eq C dX4_delete_13 (tgt := 20) (by decide) (pc' := 16) rfl (fun c_12 => absurd c_12 (by decide)) (fun _ => ?_)
      refine j_iconst C (v := nI 1) rfl dX4_delete_16 (pc' := 17) rfl ?_
      refine j_goto C dX4_delete_17 (pc' := 21) (by decide) ?_
      refine j_istore C (i := 4) (x := nI 1) (l' := [(4, .int (nI 1)), (0, .ref mo), (1, .int (nI j)), (2, .int (nI i)), (3, .int v)]) dX4_delete_21 (pc' := 23) rfl (by decide) rfl ?_
      refine j_aload_n C (i := 0) (x := mo) 1 rfl dX4_delete_23 (pc' := 24) rfl ?_
      refine j_iload C (i := 4) (x := nI 1) 0 rfl dX4_delete_24 (pc' := 26) rfl ?_
      refine j_aload_n C (i := 0) (x := mo) 1 rfl dX4_delete_26 (pc' := 27) rfl ?_
      refine j_iload_n C (i := 1) (x := nI j) 2 rfl dX4_delete_27 (pc' := 28) rfl ?_
      refine j_callV C (As := [.int (nI j)]) (rest := [.int (nI 1), .ref mo]) (m_isOpen X.2.1 C.2.2.2.2.2.2.2.2 G M s a (nI j) J I) (cwV 1 C.2.2.2.2.1 gX4_delete_X4_isOpen rfl rfl rfl (by decide +kernel) (by rw [hXR]; decide)) hM_obj rfl rfl rfl (Nat.le_of_ble_eq_true rfl) dX4_delete_28 (pc' := 31) rfl (by rw [hXR]; exact Nat.zero_le _) (by rw [hXR]; exact Nat.zero_le _) (fun _ _ z => z.elim) ?_
      rintro r h' ⟨rfl, rfl⟩
      show jW X G 5 0 0 31 [(4, .int (nI 1)), (0, .ref mo), (1, .int (nI j)), (2, .int (nI i)), (3, .int v)] [.int (bI (mOpen s a (nI j))), .int (nI 1), .ref mo] ((hM G mo ad h0 s a))
      refine j_iconst C (v := nI 1) rfl dX4_delete_31 (pc' := 32) rfl ?_
      rcases hb_13 : (mOpen s a (nI j)) with _ | _
      · show jW X G 5 0 0 32 [(4, .int (nI 1)), (0, .ref mo), (1, .int (nI j)), (2, .int (nI i)), (3, .int v)] [.int (nI 1), .int (nI 0), .int (nI 1), .ref mo] ((hM G mo ad h0 s a))
        refine j_callV C (As := [.int (nI 1), .int (nI 0), .int (nI 1)]) (rest := []) (m_goes X.2.1 C.2.2.2.2.2.2.2.2 G M s a true false true) (cwV 3 C.2.2.2.2.1 gX4_delete_X4_goes rfl rfl rfl (by decide +kernel) (by rw [hXR]; decide)) hM_obj rfl rfl rfl (Nat.le_of_ble_eq_true rfl) dX4_delete_32 (pc' := 35) rfl (by rw [hXR]; exact Nat.zero_le _) (by rw [hXR]; exact Nat.zero_le _) (fun _ _ z => z.elim) ?_
        rintro r h' ⟨rfl, rfl⟩
        show jW X G 5 0 0 35 [(4, .int (nI 1)), (0, .ref mo), (1, .int (nI j)), (2, .int (nI i)), (3, .int v)] [.int (nI 0)] ((hM G mo ad h0 (va_up s 25 2) a))
        refine j_if_ne C dX4_delete_35 (tgt := 40) (by decide) (pc' := 38) rfl (fun c_14 => absurd (by decide) c_14) (fun _ => ?_)
        refine j_iconst C (v := nI 0) rfl dX4_delete_38 (pc' := 39) rfl ?_
        exact j_iret C E dX4_delete_39 rfl (Nat.le_refl _) (Nat.le_refl _) (o_leaf (by unfold oDelete; exact oif ⟨hb_1, hb_7⟩ (oel (bff hb_13) (rfl))))
      · show jW X G 5 0 0 32 [(4, .int (nI 1)), (0, .ref mo), (1, .int (nI j)), (2, .int (nI i)), (3, .int v)] [.int (nI 1), .int (nI 1), .int (nI 1), .ref mo] ((hM G mo ad h0 s a))
        refine j_callV C (As := [.int (nI 1), .int (nI 1), .int (nI 1)]) (rest := []) (m_goes X.2.1 C.2.2.2.2.2.2.2.2 G M s a true true true) (cwV 3 C.2.2.2.2.1 gX4_delete_X4_goes rfl rfl rfl (by decide +kernel) (by rw [hXR]; decide)) hM_obj rfl rfl rfl (Nat.le_of_ble_eq_true rfl) dX4_delete_32 (pc' := 35) rfl (by rw [hXR]; exact Nat.zero_le _) (by rw [hXR]; exact Nat.zero_le _) (fun _ _ z => z.elim) ?_
        rintro r h' ⟨rfl, rfl⟩
        show jW X G 5 0 0 35 [(4, .int (nI 1)), (0, .ref mo), (1, .int (nI j)), (2, .int (nI i)), (3, .int v)] [.int (nI 1)] ((hM G mo ad h0 (va_up s 25 0) a))
        refine j_if_ne C dX4_delete_35 (tgt := 40) (by decide) (pc' := 38) rfl (fun _ => ?_) (fun c_15 => absurd c_15 (by decide))
        refine j_aload_n C (i := 0) (x := mo) 1 rfl dX4_delete_40 (pc' := 41) rfl ?_
        refine j_iload_n C (i := 2) (x := nI i) 3 rfl dX4_delete_41 (pc' := 42) rfl ?_
        refine j_callV C (As := [.int (nI i)]) (rest := []) (m_is X.2.1 C.2.2.2.2.2.2.2.2 G M (va_up s 25 0) a i I (by omega)) (cwV 1 C.2.2.2.2.1 gX4_delete_X4_is rfl rfl rfl (by decide +kernel) (by rw [hXR]; decide)) hM_obj rfl rfl rfl (Nat.le_of_ble_eq_true rfl) dX4_delete_42 (pc' := 45) rfl (by rw [hXR]; exact Nat.zero_le _) (by rw [hXR]; exact Nat.zero_le _) (fun _ _ z => z.elim) ?_
        rintro r h' ⟨rfl, rfl⟩
        show jW X G 5 0 0 45 [(4, .int (nI 1)), (0, .ref mo), (1, .int (nI j)), (2, .int (nI i)), (3, .int v)] [.int (bI (mIs a i))] ((hM G mo ad h0 (va_up s 25 0) a))
        rcases hb_16 : (mIs a i) with _ | _
        · show jW X G 5 0 0 45 [(4, .int (nI 1)), (0, .ref mo), (1, .int (nI j)), (2, .int (nI i)), (3, .int v)] [.int (nI 0)] ((hM G mo ad h0 (va_up s 25 0) a))
          refine j_if_ne C dX4_delete_45 (tgt := 52) (by decide) (pc' := 48) rfl (fun c_17 => absurd (by decide) c_17) (fun _ => ?_)
          refine j_iconst C (v := (-1)) rfl dX4_delete_48 (pc' := 49) rfl ?_
          refine j_goto C dX4_delete_49 (pc' := 88) (by decide) ?_
          exact j_iret C E dX4_delete_88 rfl (Nat.le_refl _) (Nat.le_refl _) (o_leaf (by unfold oDelete; simp only [tn_nI (show i < 2 ^ 31 by omega)]; exact oif ⟨hb_1, hb_7⟩ (oif hb_13 (oel (bff hb_16) (rfl)))))
        · show jW X G 5 0 0 45 [(4, .int (nI 1)), (0, .ref mo), (1, .int (nI j)), (2, .int (nI i)), (3, .int v)] [.int (nI 1)] ((hM G mo ad h0 (va_up s 25 0) a))
          refine j_if_ne C dX4_delete_45 (tgt := 52) (by decide) (pc' := 48) rfl (fun _ => ?_) (fun c_18 => absurd c_18 (by decide))
          refine j_iload_n C (i := 3) (x := v) 4 rfl dX4_delete_52 (pc' := 53) rfl ?_
          refine j_aload_n C (i := 0) (x := mo) 1 rfl dX4_delete_53 (pc' := 54) rfl ?_
          refine m_geta C (f := 9) (idx := 23) hin (by decide) rfl (by decide +kernel) dX4_delete_54 (pc' := 57) rfl ?_
          refine j_iload_n C (i := 2) (x := nI i) 3 rfl dX4_delete_57 (pc' := 58) rfl ?_
          refine m_ald C M (f := 9) (j := i) (by decide) rfl rfl rfl (show i < 40 by omega) dX4_delete_58 (pc' := 59) rfl ?_
          have B_19 := IA.big I 9 i
          refine j_icmp_eq C dX4_delete_59 (tgt := 67) (by decide) (pc' := 62) rfl (fun c_20 => ?_) (fun c_20 => ?_)
          · refine j_aload_n C (i := 0) (x := mo) 1 rfl dX4_delete_67 (pc' := 68) rfl ?_
            refine j_iload_n C (i := 2) (x := nI i) 3 rfl dX4_delete_68 (pc' := 69) rfl ?_
            refine j_callV C (As := [.int (nI i)]) (rest := []) (m_users X.2.1 C.2.2.2.2.2.2.2.2 G M (va_up s 25 0) a i (IS.th J (v := 0) (by first | decide | exact gTh_le _ _ _)) I (by omega)) (cwV 1 C.2.2.2.2.1 gX4_delete_X4_users rfl rfl rfl (by decide +kernel) (by rw [hXR]; decide)) hM_obj rfl rfl rfl (Nat.le_of_ble_eq_true rfl) dX4_delete_69 (pc' := 72) rfl (by rw [hXR]; exact Nat.zero_le _) (by rw [hXR]; exact Nat.zero_le _) (fun _ _ z => z.elim) ?_
            rintro r h' ⟨rfl, rfl⟩
            show jW X G 5 0 0 72 [(4, .int (nI 1)), (0, .ref mo), (1, .int (nI j)), (2, .int (nI i)), (3, .int v)] [.int (nI (mUsers a (s 6) i))] ((hM G mo ad h0 (va_up s 25 0) a))
            have B_21 := mUsers_le a (s 6) i
            refine j_if_le C dX4_delete_72 (tgt := 80) (by decide) (pc' := 75) rfl (fun c_22 => ?_) (fun c_22 => ?_)
            · have c_22 := (nI_leI (a := mUsers a (s 6) i) (b := 0) (by omega) (by omega)).mp c_22
              have c_22 : (mUsers a (s 6) i) ≤ 0 := c_22
              refine j_aload_n C (i := 0) (x := mo) 1 rfl dX4_delete_80 (pc' := 81) rfl ?_
              refine j_iload_n C (i := 1) (x := nI j) 2 rfl dX4_delete_81 (pc' := 82) rfl ?_
              refine j_iload_n C (i := 2) (x := nI i) 3 rfl dX4_delete_82 (pc' := 83) rfl ?_
              refine j_iconst C (v := nI 0) rfl dX4_delete_83 (pc' := 84) rfl ?_
              refine j_iconst C (v := nI 0) rfl dX4_delete_84 (pc' := 85) rfl ?_
              refine j_callV C (As := [.int (nI j), .int (nI i), .int (nI 0), .int (nI 0)]) (rest := []) (m_makes X.2.1 C.2.2.2.2.2.2.2.2 G M (va_up s 25 0) a j i 0 0 (IS.th J (v := 0) (by first | decide | exact gTh_le _ _ _)) I (by omega) (by omega) (by omega) (by omega)) (cwV 4 C.2.2.2.2.1 gX4_delete_X4_makes rfl rfl rfl (by decide +kernel) (by rw [hXR]; decide)) hM_obj rfl rfl rfl (Nat.le_of_ble_eq_true rfl) dX4_delete_85 (pc' := 88) rfl (by rw [hXR]; exact Nat.zero_le _) (by rw [hXR]; exact Nat.zero_le _) (fun _ _ z => z.elim) ?_
              rintro r h' ⟨rfl, rfl⟩
              show jW X G 5 0 0 88 [(4, .int (nI 1)), (0, .ref mo), (1, .int (nI j)), (2, .int (nI i)), (3, .int v)] [.int (nI (a 9 i + 1))] ((hM G mo ad h0 (va_up (va_up s 25 0) 10 (s 10 + 1)) (mkA (va_up s 25 0) a j i 0 0)))
              exact j_iret C E dX4_delete_88 rfl (Nat.le_refl _) (Nat.le_refl _) (o_leaf (by unfold oDelete; simp only [tn_nI (show j < 2 ^ 31 by omega), tn_nI (show i < 2 ^ 31 by omega)]; exact oif ⟨hb_1, hb_7⟩ (oif hb_13 (oif hb_16 (oif c_20 (oel (show ¬ (0 < mUsers a (s 6) i) by omega) (rfl)))))))
            · have c_22 := fun zq => c_22 ((nI_leI (a := mUsers a (s 6) i) (b := 0) (by omega) (by omega)).mpr zq)
              have c_22 : ¬ (mUsers a (s 6) i) ≤ 0 := c_22
              refine j_bipush C (v := (-5)) rfl dX4_delete_75 (pc' := 77) rfl ?_
              refine j_goto C dX4_delete_77 (pc' := 88) (by decide) ?_
              exact j_iret C E dX4_delete_88 rfl (Nat.le_refl _) (Nat.le_refl _) (o_leaf (by unfold oDelete; simp only [tn_nI (show i < 2 ^ 31 by omega)]; exact oif ⟨hb_1, hb_7⟩ (oif hb_13 (oif hb_16 (oif c_20 (oif (show 0 < mUsers a (s 6) i by omega) (rfl)))))))
          · refine j_bipush C (v := (-2)) rfl dX4_delete_62 (pc' := 64) rfl ?_
            refine j_goto C dX4_delete_64 (pc' := 88) (by decide) ?_
            exact j_iret C E dX4_delete_88 rfl (Nat.le_refl _) (Nat.le_refl _) (o_leaf (by unfold oDelete; simp only [tn_nI (show i < 2 ^ 31 by omega)]; exact oif ⟨hb_1, hb_7⟩ (oif hb_13 (oif hb_16 (oel c_20 (rfl))))))
set_option maxRecDepth 100000 in
set_option maxHeartbeats 4000000 in
theorem m_move (l : Launch) (hlt : l.stackTraces = false) (G : jG) {mo : Nat} {ad : Nat → Nat} {h0 : jH} (M : mG mo ad) (s : mS) (a : mA) (p t v x y : Int32) (J : IS s) (I : IA a) : jM l G yX4_move wsX4_move 3 64 0 0 [.ref mo, .int p, .int t, .int v, .int x, .int y] (hM G mo ad h0 s a) (fun r h' => r = some (.int (oMove s a p t v x y).1) ∧ h' = hM G mo ad h0 (oMove s a p t v x y).2.1 (oMove s a p t v x y).2.2) (fun _ _ => False) := by
  have h6 := J.2.1
  have h2 := J.2.2.1
  have h4 := J.2.2.2.1
  have h10 := J.2.2.2.2.1
  have hs0 := J.1 0
  have hs1 := J.1 1
  refine jM_of (cc := cX4_move) (maxL := 7) (ret := (some .int)) hlt (by decide +kernel) rfl (Nat.le_of_ble_eq_true rfl) ?_
  intro X C E hXl hXR hXn
  have hin : ∀ w ∈ u_ws RX4 TX4 26, w ∈ wsX4_move := by decide +kernel
  show jW X G 7 0 0 0 [(0, .ref mo), (1, .int p), (2, .int t), (3, .int v), (4, .int x), (5, .int y)] [] ((hM G mo ad h0 s a))
  refine j_aload_n C (i := 0) (x := mo) 0 rfl dX4_move_0 (pc' := 1) rfl ?_
  refine j_iload_n C (i := 1) (x := p) 1 rfl dX4_move_1 (pc' := 2) rfl ?_
  refine j_callV C (As := [.int p]) (rest := []) (m_isSet X.2.1 C.2.2.2.2.2.2.2.2 G M s a p J) (cwV 1 C.2.2.2.2.1 gX4_move_X4_isSet rfl rfl rfl (by decide +kernel) (by rw [hXR]; decide)) hM_obj rfl rfl rfl (Nat.le_of_ble_eq_true rfl) dX4_move_2 (pc' := 5) rfl (by rw [hXR]; exact Nat.zero_le _) (by rw [hXR]; exact Nat.zero_le _) (fun _ _ z => z.elim) ?_
  rintro r h' ⟨rfl, rfl⟩
  show jW X G 7 0 0 5 [(0, .ref mo), (1, .int p), (2, .int t), (3, .int v), (4, .int x), (5, .int y)] [.int (bI (inN p (s 2)))] ((hM G mo ad h0 s a))
  rcases hb_1 : (inN p (s 2)) with _ | _
  · show jW X G 7 0 0 5 [(0, .ref mo), (1, .int p), (2, .int t), (3, .int v), (4, .int x), (5, .int y)] [.int (nI 0)] ((hM G mo ad h0 s a))
    refine j_if_eq C dX4_move_5 (tgt := 20) (by decide) (pc' := 8) rfl (fun _ => ?_) (fun c_2 => absurd (by decide) c_2)
    refine j_iconst C (v := nI 0) rfl dX4_move_20 (pc' := 21) rfl ?_
    refine j_istore C (i := 6) (x := nI 0) (l' := [(6, .int (nI 0)), (0, .ref mo), (1, .int p), (2, .int t), (3, .int v), (4, .int x), (5, .int y)]) dX4_move_21 (pc' := 23) rfl (by decide) rfl ?_
    refine j_aload_n C (i := 0) (x := mo) 1 rfl dX4_move_23 (pc' := 24) rfl ?_
    refine j_iload C (i := 6) (x := nI 0) 0 rfl dX4_move_24 (pc' := 26) rfl ?_
    refine j_iload C (i := 6) (x := nI 0) 0 rfl dX4_move_26 (pc' := 28) rfl ?_
    refine j_if_eq C dX4_move_28 (tgt := 66) (by decide) (pc' := 31) rfl (fun _ => ?_) (fun c_3 => absurd (by decide) c_3)
    refine j_iconst C (v := nI 0) rfl dX4_move_66 (pc' := 67) rfl ?_
    refine j_aload_n C (i := 0) (x := mo) 1 rfl dX4_move_67 (pc' := 68) rfl ?_
    refine j_iload_n C (i := 1) (x := p) 2 rfl dX4_move_68 (pc' := 69) rfl ?_
    refine j_callV C (As := [.int p]) (rest := [.int (nI 0), .int (nI 0), .ref mo]) (m_isOpen X.2.1 C.2.2.2.2.2.2.2.2 G M s a p J I) (cwV 1 C.2.2.2.2.1 gX4_move_X4_isOpen rfl rfl rfl (by decide +kernel) (by rw [hXR]; decide)) hM_obj rfl rfl rfl (Nat.le_of_ble_eq_true rfl) dX4_move_69 (pc' := 72) rfl (by rw [hXR]; exact Nat.zero_le _) (by rw [hXR]; exact Nat.zero_le _) (fun _ _ z => z.elim) ?_
    rintro r h' ⟨rfl, rfl⟩
    show jW X G 7 0 0 72 [(6, .int (nI 0)), (0, .ref mo), (1, .int p), (2, .int t), (3, .int v), (4, .int x), (5, .int y)] [.int (bI (mOpen s a p)), .int (nI 0), .int (nI 0), .ref mo] ((hM G mo ad h0 s a))
    rcases hb_4 : (mOpen s a p) with _ | _
    · show jW X G 7 0 0 72 [(6, .int (nI 0)), (0, .ref mo), (1, .int p), (2, .int t), (3, .int v), (4, .int x), (5, .int y)] [.int (nI 0), .int (nI 0), .int (nI 0), .ref mo] ((hM G mo ad h0 s a))
      refine j_callV C (As := [.int (nI 0), .int (nI 0), .int (nI 0)]) (rest := []) (m_goes X.2.1 C.2.2.2.2.2.2.2.2 G M s a false false false) (cwV 3 C.2.2.2.2.1 gX4_move_X4_goes rfl rfl rfl (by decide +kernel) (by rw [hXR]; decide)) hM_obj rfl rfl rfl (Nat.le_of_ble_eq_true rfl) dX4_move_72 (pc' := 75) rfl (by rw [hXR]; exact Nat.zero_le _) (by rw [hXR]; exact Nat.zero_le _) (fun _ _ z => z.elim) ?_
      rintro r h' ⟨rfl, rfl⟩
      show jW X G 7 0 0 75 [(6, .int (nI 0)), (0, .ref mo), (1, .int p), (2, .int t), (3, .int v), (4, .int x), (5, .int y)] [.int (nI 0)] ((hM G mo ad h0 (va_up s 25 1) a))
      refine j_if_ne C dX4_move_75 (tgt := 80) (by decide) (pc' := 78) rfl (fun c_5 => absurd (by decide) c_5) (fun _ => ?_)
      refine j_iconst C (v := nI 0) rfl dX4_move_78 (pc' := 79) rfl ?_
      exact j_iret C E dX4_move_79 rfl (Nat.le_refl _) (Nat.le_refl _) (o_leaf (by unfold oMove; exact oel (fun z => (bff hb_1) z.1) (rfl)))
    · show jW X G 7 0 0 72 [(6, .int (nI 0)), (0, .ref mo), (1, .int p), (2, .int t), (3, .int v), (4, .int x), (5, .int y)] [.int (nI 1), .int (nI 0), .int (nI 0), .ref mo] ((hM G mo ad h0 s a))
      refine j_callV C (As := [.int (nI 0), .int (nI 0), .int (nI 1)]) (rest := []) (m_goes X.2.1 C.2.2.2.2.2.2.2.2 G M s a false false true) (cwV 3 C.2.2.2.2.1 gX4_move_X4_goes rfl rfl rfl (by decide +kernel) (by rw [hXR]; decide)) hM_obj rfl rfl rfl (Nat.le_of_ble_eq_true rfl) dX4_move_72 (pc' := 75) rfl (by rw [hXR]; exact Nat.zero_le _) (by rw [hXR]; exact Nat.zero_le _) (fun _ _ z => z.elim) ?_
      rintro r h' ⟨rfl, rfl⟩
      show jW X G 7 0 0 75 [(6, .int (nI 0)), (0, .ref mo), (1, .int p), (2, .int t), (3, .int v), (4, .int x), (5, .int y)] [.int (nI 0)] ((hM G mo ad h0 (va_up s 25 1) a))
      refine j_if_ne C dX4_move_75 (tgt := 80) (by decide) (pc' := 78) rfl (fun c_6 => absurd (by decide) c_6) (fun _ => ?_)
      refine j_iconst C (v := nI 0) rfl dX4_move_78 (pc' := 79) rfl ?_
      exact j_iret C E dX4_move_79 rfl (Nat.le_refl _) (Nat.le_refl _) (o_leaf (by unfold oMove; exact oel (fun z => (bff hb_1) z.1) (rfl)))
  · show jW X G 7 0 0 5 [(0, .ref mo), (1, .int p), (2, .int t), (3, .int v), (4, .int x), (5, .int y)] [.int (nI 1)] ((hM G mo ad h0 s a))
    obtain ⟨j, hj, rfl⟩ := inN_of hb_1
    refine j_if_eq C dX4_move_5 (tgt := 20) (by decide) (pc' := 8) rfl (fun c_7 => absurd c_7 (by decide)) (fun _ => ?_)
    refine j_aload_n C (i := 0) (x := mo) 0 rfl dX4_move_8 (pc' := 9) rfl ?_
    refine j_iload_n C (i := 2) (x := t) 2 rfl dX4_move_9 (pc' := 10) rfl ?_
    refine j_callV C (As := [.int t]) (rest := []) (m_isThing X.2.1 C.2.2.2.2.2.2.2.2 G M s a t J) (cwV 1 C.2.2.2.2.1 gX4_move_X4_isThing rfl rfl rfl (by decide +kernel) (by rw [hXR]; decide)) hM_obj rfl rfl rfl (Nat.le_of_ble_eq_true rfl) dX4_move_10 (pc' := 13) rfl (by rw [hXR]; exact Nat.zero_le _) (by rw [hXR]; exact Nat.zero_le _) (fun _ _ z => z.elim) ?_
    rintro r h' ⟨rfl, rfl⟩
    show jW X G 7 0 0 13 [(0, .ref mo), (1, .int (nI j)), (2, .int t), (3, .int v), (4, .int x), (5, .int y)] [.int (bI (inN t (s 6)))] ((hM G mo ad h0 s a))
    rcases hb_8 : (inN t (s 6)) with _ | _
    · show jW X G 7 0 0 13 [(0, .ref mo), (1, .int (nI j)), (2, .int t), (3, .int v), (4, .int x), (5, .int y)] [.int (nI 0)] ((hM G mo ad h0 s a))
      refine j_if_eq C dX4_move_13 (tgt := 20) (by decide) (pc' := 16) rfl (fun _ => ?_) (fun c_9 => absurd (by decide) c_9)
      refine j_iconst C (v := nI 0) rfl dX4_move_20 (pc' := 21) rfl ?_
      refine j_istore C (i := 6) (x := nI 0) (l' := [(6, .int (nI 0)), (0, .ref mo), (1, .int (nI j)), (2, .int t), (3, .int v), (4, .int x), (5, .int y)]) dX4_move_21 (pc' := 23) rfl (by decide) rfl ?_
      refine j_aload_n C (i := 0) (x := mo) 1 rfl dX4_move_23 (pc' := 24) rfl ?_
      refine j_iload C (i := 6) (x := nI 0) 0 rfl dX4_move_24 (pc' := 26) rfl ?_
      refine j_iload C (i := 6) (x := nI 0) 0 rfl dX4_move_26 (pc' := 28) rfl ?_
      refine j_if_eq C dX4_move_28 (tgt := 66) (by decide) (pc' := 31) rfl (fun _ => ?_) (fun c_10 => absurd (by decide) c_10)
      refine j_iconst C (v := nI 0) rfl dX4_move_66 (pc' := 67) rfl ?_
      refine j_aload_n C (i := 0) (x := mo) 1 rfl dX4_move_67 (pc' := 68) rfl ?_
      refine j_iload_n C (i := 1) (x := nI j) 2 rfl dX4_move_68 (pc' := 69) rfl ?_
      refine j_callV C (As := [.int (nI j)]) (rest := [.int (nI 0), .int (nI 0), .ref mo]) (m_isOpen X.2.1 C.2.2.2.2.2.2.2.2 G M s a (nI j) J I) (cwV 1 C.2.2.2.2.1 gX4_move_X4_isOpen rfl rfl rfl (by decide +kernel) (by rw [hXR]; decide)) hM_obj rfl rfl rfl (Nat.le_of_ble_eq_true rfl) dX4_move_69 (pc' := 72) rfl (by rw [hXR]; exact Nat.zero_le _) (by rw [hXR]; exact Nat.zero_le _) (fun _ _ z => z.elim) ?_
      rintro r h' ⟨rfl, rfl⟩
      show jW X G 7 0 0 72 [(6, .int (nI 0)), (0, .ref mo), (1, .int (nI j)), (2, .int t), (3, .int v), (4, .int x), (5, .int y)] [.int (bI (mOpen s a (nI j))), .int (nI 0), .int (nI 0), .ref mo] ((hM G mo ad h0 s a))
      rcases hb_11 : (mOpen s a (nI j)) with _ | _
      · show jW X G 7 0 0 72 [(6, .int (nI 0)), (0, .ref mo), (1, .int (nI j)), (2, .int t), (3, .int v), (4, .int x), (5, .int y)] [.int (nI 0), .int (nI 0), .int (nI 0), .ref mo] ((hM G mo ad h0 s a))
        refine j_callV C (As := [.int (nI 0), .int (nI 0), .int (nI 0)]) (rest := []) (m_goes X.2.1 C.2.2.2.2.2.2.2.2 G M s a false false false) (cwV 3 C.2.2.2.2.1 gX4_move_X4_goes rfl rfl rfl (by decide +kernel) (by rw [hXR]; decide)) hM_obj rfl rfl rfl (Nat.le_of_ble_eq_true rfl) dX4_move_72 (pc' := 75) rfl (by rw [hXR]; exact Nat.zero_le _) (by rw [hXR]; exact Nat.zero_le _) (fun _ _ z => z.elim) ?_
        rintro r h' ⟨rfl, rfl⟩
        show jW X G 7 0 0 75 [(6, .int (nI 0)), (0, .ref mo), (1, .int (nI j)), (2, .int t), (3, .int v), (4, .int x), (5, .int y)] [.int (nI 0)] ((hM G mo ad h0 (va_up s 25 1) a))
        refine j_if_ne C dX4_move_75 (tgt := 80) (by decide) (pc' := 78) rfl (fun c_12 => absurd (by decide) c_12) (fun _ => ?_)
        refine j_iconst C (v := nI 0) rfl dX4_move_78 (pc' := 79) rfl ?_
        exact j_iret C E dX4_move_79 rfl (Nat.le_refl _) (Nat.le_refl _) (o_leaf (by unfold oMove; exact oel (fun z => (bff hb_8) z.2) (rfl)))
      · show jW X G 7 0 0 72 [(6, .int (nI 0)), (0, .ref mo), (1, .int (nI j)), (2, .int t), (3, .int v), (4, .int x), (5, .int y)] [.int (nI 1), .int (nI 0), .int (nI 0), .ref mo] ((hM G mo ad h0 s a))
        refine j_callV C (As := [.int (nI 0), .int (nI 0), .int (nI 1)]) (rest := []) (m_goes X.2.1 C.2.2.2.2.2.2.2.2 G M s a false false true) (cwV 3 C.2.2.2.2.1 gX4_move_X4_goes rfl rfl rfl (by decide +kernel) (by rw [hXR]; decide)) hM_obj rfl rfl rfl (Nat.le_of_ble_eq_true rfl) dX4_move_72 (pc' := 75) rfl (by rw [hXR]; exact Nat.zero_le _) (by rw [hXR]; exact Nat.zero_le _) (fun _ _ z => z.elim) ?_
        rintro r h' ⟨rfl, rfl⟩
        show jW X G 7 0 0 75 [(6, .int (nI 0)), (0, .ref mo), (1, .int (nI j)), (2, .int t), (3, .int v), (4, .int x), (5, .int y)] [.int (nI 0)] ((hM G mo ad h0 (va_up s 25 1) a))
        refine j_if_ne C dX4_move_75 (tgt := 80) (by decide) (pc' := 78) rfl (fun c_13 => absurd (by decide) c_13) (fun _ => ?_)
        refine j_iconst C (v := nI 0) rfl dX4_move_78 (pc' := 79) rfl ?_
        exact j_iret C E dX4_move_79 rfl (Nat.le_refl _) (Nat.le_refl _) (o_leaf (by unfold oMove; exact oel (fun z => (bff hb_8) z.2) (rfl)))
    · show jW X G 7 0 0 13 [(0, .ref mo), (1, .int (nI j)), (2, .int t), (3, .int v), (4, .int x), (5, .int y)] [.int (nI 1)] ((hM G mo ad h0 s a))
      obtain ⟨i, hi, rfl⟩ := inN_of hb_8
      refine j_if_eq C dX4_move_13 (tgt := 20) (by decide) (pc' := 16) rfl (fun c_14 => absurd c_14 (by decide)) (fun _ => ?_)
      refine j_iconst C (v := nI 1) rfl dX4_move_16 (pc' := 17) rfl ?_
      refine j_goto C dX4_move_17 (pc' := 21) (by decide) ?_
      refine j_istore C (i := 6) (x := nI 1) (l' := [(6, .int (nI 1)), (0, .ref mo), (1, .int (nI j)), (2, .int (nI i)), (3, .int v), (4, .int x), (5, .int y)]) dX4_move_21 (pc' := 23) rfl (by decide) rfl ?_
      refine j_aload_n C (i := 0) (x := mo) 1 rfl dX4_move_23 (pc' := 24) rfl ?_
      refine j_iload C (i := 6) (x := nI 1) 0 rfl dX4_move_24 (pc' := 26) rfl ?_
      refine j_iload C (i := 6) (x := nI 1) 0 rfl dX4_move_26 (pc' := 28) rfl ?_
      refine j_if_eq C dX4_move_28 (tgt := 66) (by decide) (pc' := 31) rfl (fun c_15 => absurd c_15 (by decide)) (fun _ => ?_)
      refine j_aload_n C (i := 0) (x := mo) 1 rfl dX4_move_31 (pc' := 32) rfl ?_
      refine m_geta C (f := 7) (idx := 17) hin (by decide) rfl (by decide +kernel) dX4_move_32 (pc' := 35) rfl ?_
      refine j_iload_n C (i := 2) (x := nI i) 3 rfl dX4_move_35 (pc' := 36) rfl ?_
      refine m_ald C M (f := 7) (j := i) (by decide) rfl rfl rfl (show i < 40 by omega) dX4_move_36 (pc' := 37) rfl ?_
      have B_16 := IA.kind I i
      refine j_if_ne C dX4_move_37 (tgt := 66) (by decide) (pc' := 40) rfl (fun c_17 => ?_) (fun c_17 => ?_)
      · have c_17 := fun zq => c_17 ((nI_eq (a := a 7 i) (b := 0) (by omega) (by omega)).mpr zq)
        have c_17 : ¬ (a 7 i) = 0 := c_17
        refine j_iconst C (v := nI 0) rfl dX4_move_66 (pc' := 67) rfl ?_
        refine j_aload_n C (i := 0) (x := mo) 1 rfl dX4_move_67 (pc' := 68) rfl ?_
        refine j_iload_n C (i := 1) (x := nI j) 2 rfl dX4_move_68 (pc' := 69) rfl ?_
        refine j_callV C (As := [.int (nI j)]) (rest := [.int (nI 0), .int (nI 1), .ref mo]) (m_isOpen X.2.1 C.2.2.2.2.2.2.2.2 G M s a (nI j) J I) (cwV 1 C.2.2.2.2.1 gX4_move_X4_isOpen rfl rfl rfl (by decide +kernel) (by rw [hXR]; decide)) hM_obj rfl rfl rfl (Nat.le_of_ble_eq_true rfl) dX4_move_69 (pc' := 72) rfl (by rw [hXR]; exact Nat.zero_le _) (by rw [hXR]; exact Nat.zero_le _) (fun _ _ z => z.elim) ?_
        rintro r h' ⟨rfl, rfl⟩
        show jW X G 7 0 0 72 [(6, .int (nI 1)), (0, .ref mo), (1, .int (nI j)), (2, .int (nI i)), (3, .int v), (4, .int x), (5, .int y)] [.int (bI (mOpen s a (nI j))), .int (nI 0), .int (nI 1), .ref mo] ((hM G mo ad h0 s a))
        rcases hb_18 : (mOpen s a (nI j)) with _ | _
        · show jW X G 7 0 0 72 [(6, .int (nI 1)), (0, .ref mo), (1, .int (nI j)), (2, .int (nI i)), (3, .int v), (4, .int x), (5, .int y)] [.int (nI 0), .int (nI 0), .int (nI 1), .ref mo] ((hM G mo ad h0 s a))
          refine j_callV C (As := [.int (nI 1), .int (nI 0), .int (nI 0)]) (rest := []) (m_goes X.2.1 C.2.2.2.2.2.2.2.2 G M s a true false false) (cwV 3 C.2.2.2.2.1 gX4_move_X4_goes rfl rfl rfl (by decide +kernel) (by rw [hXR]; decide)) hM_obj rfl rfl rfl (Nat.le_of_ble_eq_true rfl) dX4_move_72 (pc' := 75) rfl (by rw [hXR]; exact Nat.zero_le _) (by rw [hXR]; exact Nat.zero_le _) (fun _ _ z => z.elim) ?_
          rintro r h' ⟨rfl, rfl⟩
          show jW X G 7 0 0 75 [(6, .int (nI 1)), (0, .ref mo), (1, .int (nI j)), (2, .int (nI i)), (3, .int v), (4, .int x), (5, .int y)] [.int (nI 0)] ((hM G mo ad h0 (va_up s 25 2) a))
          refine j_if_ne C dX4_move_75 (tgt := 80) (by decide) (pc' := 78) rfl (fun c_19 => absurd (by decide) c_19) (fun _ => ?_)
          refine j_iconst C (v := nI 0) rfl dX4_move_78 (pc' := 79) rfl ?_
          exact j_iret C E dX4_move_79 rfl (Nat.le_refl _) (Nat.le_refl _) (o_leaf (by unfold oMove; simp only [tn_nI (show i < 2 ^ 31 by omega)]; exact oif ⟨hb_1, hb_8⟩ (oel (fun z => (show ¬ (a 7 i = 0) by omega) z.1) (rfl))))
        · show jW X G 7 0 0 72 [(6, .int (nI 1)), (0, .ref mo), (1, .int (nI j)), (2, .int (nI i)), (3, .int v), (4, .int x), (5, .int y)] [.int (nI 1), .int (nI 0), .int (nI 1), .ref mo] ((hM G mo ad h0 s a))
          refine j_callV C (As := [.int (nI 1), .int (nI 0), .int (nI 1)]) (rest := []) (m_goes X.2.1 C.2.2.2.2.2.2.2.2 G M s a true false true) (cwV 3 C.2.2.2.2.1 gX4_move_X4_goes rfl rfl rfl (by decide +kernel) (by rw [hXR]; decide)) hM_obj rfl rfl rfl (Nat.le_of_ble_eq_true rfl) dX4_move_72 (pc' := 75) rfl (by rw [hXR]; exact Nat.zero_le _) (by rw [hXR]; exact Nat.zero_le _) (fun _ _ z => z.elim) ?_
          rintro r h' ⟨rfl, rfl⟩
          show jW X G 7 0 0 75 [(6, .int (nI 1)), (0, .ref mo), (1, .int (nI j)), (2, .int (nI i)), (3, .int v), (4, .int x), (5, .int y)] [.int (nI 0)] ((hM G mo ad h0 (va_up s 25 2) a))
          refine j_if_ne C dX4_move_75 (tgt := 80) (by decide) (pc' := 78) rfl (fun c_20 => absurd (by decide) c_20) (fun _ => ?_)
          refine j_iconst C (v := nI 0) rfl dX4_move_78 (pc' := 79) rfl ?_
          exact j_iret C E dX4_move_79 rfl (Nat.le_refl _) (Nat.le_refl _) (o_leaf (by unfold oMove; simp only [tn_nI (show i < 2 ^ 31 by omega)]; exact oif ⟨hb_1, hb_8⟩ (oel (fun z => (show ¬ (a 7 i = 0) by omega) z.1) (rfl))))
      · have c_17 := (nI_eq (a := a 7 i) (b := 0) (by omega) (by omega)).mp c_17
        have c_17 : (a 7 i) = 0 := c_17
        refine j_iload C (i := 4) (x := x) 5 rfl dX4_move_40 (pc' := 42) rfl ?_
        refine j_iconst C (v := nI 0) rfl dX4_move_42 (pc' := 43) rfl ?_
        refine j_bipush C (v := nI 99) rfl dX4_move_43 (pc' := 45) rfl ?_
        refine j_callS C (As := [.int x, .int (nI 0), .int (nI 99)]) (rest := [.int (nI 1), .ref mo]) (m_in X.2.1 C.2.2.2.2.2.2.2.2 G x (nI 0) (nI 99)) (va_cwS 3 C.2.2.2.2.1 gX4_move_X4_in rfl rfl rfl (by decide +kernel) (by rw [hXR]; decide)) rfl rfl (Nat.le_of_ble_eq_true rfl) dX4_move_45 (pc' := 48) rfl (by rw [hXR]; exact Nat.zero_le _) (by rw [hXR]; exact Nat.zero_le _) (fun _ _ z => z.elim) ?_
        rintro r h' ⟨rfl, rfl⟩
        show jW X G 7 0 0 48 [(6, .int (nI 1)), (0, .ref mo), (1, .int (nI j)), (2, .int (nI i)), (3, .int v), (4, .int x), (5, .int y)] [.int (bI (decide (nI 0 ≤ x) && decide (x ≤ nI 99))), .int (nI 1), .ref mo] ((hM G mo ad h0 s a))
        rcases hb_21 : (decide (nI 0 ≤ x) && decide (x ≤ nI 99)) with _ | _
        · show jW X G 7 0 0 48 [(6, .int (nI 1)), (0, .ref mo), (1, .int (nI j)), (2, .int (nI i)), (3, .int v), (4, .int x), (5, .int y)] [.int (nI 0), .int (nI 1), .ref mo] ((hM G mo ad h0 s a))
          refine j_if_eq C dX4_move_48 (tgt := 66) (by decide) (pc' := 51) rfl (fun _ => ?_) (fun c_22 => absurd (by decide) c_22)
          refine j_iconst C (v := nI 0) rfl dX4_move_66 (pc' := 67) rfl ?_
          refine j_aload_n C (i := 0) (x := mo) 1 rfl dX4_move_67 (pc' := 68) rfl ?_
          refine j_iload_n C (i := 1) (x := nI j) 2 rfl dX4_move_68 (pc' := 69) rfl ?_
          refine j_callV C (As := [.int (nI j)]) (rest := [.int (nI 0), .int (nI 1), .ref mo]) (m_isOpen X.2.1 C.2.2.2.2.2.2.2.2 G M s a (nI j) J I) (cwV 1 C.2.2.2.2.1 gX4_move_X4_isOpen rfl rfl rfl (by decide +kernel) (by rw [hXR]; decide)) hM_obj rfl rfl rfl (Nat.le_of_ble_eq_true rfl) dX4_move_69 (pc' := 72) rfl (by rw [hXR]; exact Nat.zero_le _) (by rw [hXR]; exact Nat.zero_le _) (fun _ _ z => z.elim) ?_
          rintro r h' ⟨rfl, rfl⟩
          show jW X G 7 0 0 72 [(6, .int (nI 1)), (0, .ref mo), (1, .int (nI j)), (2, .int (nI i)), (3, .int v), (4, .int x), (5, .int y)] [.int (bI (mOpen s a (nI j))), .int (nI 0), .int (nI 1), .ref mo] ((hM G mo ad h0 s a))
          rcases hb_23 : (mOpen s a (nI j)) with _ | _
          · show jW X G 7 0 0 72 [(6, .int (nI 1)), (0, .ref mo), (1, .int (nI j)), (2, .int (nI i)), (3, .int v), (4, .int x), (5, .int y)] [.int (nI 0), .int (nI 0), .int (nI 1), .ref mo] ((hM G mo ad h0 s a))
            refine j_callV C (As := [.int (nI 1), .int (nI 0), .int (nI 0)]) (rest := []) (m_goes X.2.1 C.2.2.2.2.2.2.2.2 G M s a true false false) (cwV 3 C.2.2.2.2.1 gX4_move_X4_goes rfl rfl rfl (by decide +kernel) (by rw [hXR]; decide)) hM_obj rfl rfl rfl (Nat.le_of_ble_eq_true rfl) dX4_move_72 (pc' := 75) rfl (by rw [hXR]; exact Nat.zero_le _) (by rw [hXR]; exact Nat.zero_le _) (fun _ _ z => z.elim) ?_
            rintro r h' ⟨rfl, rfl⟩
            show jW X G 7 0 0 75 [(6, .int (nI 1)), (0, .ref mo), (1, .int (nI j)), (2, .int (nI i)), (3, .int v), (4, .int x), (5, .int y)] [.int (nI 0)] ((hM G mo ad h0 (va_up s 25 2) a))
            refine j_if_ne C dX4_move_75 (tgt := 80) (by decide) (pc' := 78) rfl (fun c_24 => absurd (by decide) c_24) (fun _ => ?_)
            refine j_iconst C (v := nI 0) rfl dX4_move_78 (pc' := 79) rfl ?_
            exact j_iret C E dX4_move_79 rfl (Nat.le_refl _) (Nat.le_refl _) (o_leaf (by unfold oMove; simp only [tn_nI (show i < 2 ^ 31 by omega)]; exact oif ⟨hb_1, hb_8⟩ (oel (fun z => (bff hb_21) z.2.1) (rfl))))
          · show jW X G 7 0 0 72 [(6, .int (nI 1)), (0, .ref mo), (1, .int (nI j)), (2, .int (nI i)), (3, .int v), (4, .int x), (5, .int y)] [.int (nI 1), .int (nI 0), .int (nI 1), .ref mo] ((hM G mo ad h0 s a))
            refine j_callV C (As := [.int (nI 1), .int (nI 0), .int (nI 1)]) (rest := []) (m_goes X.2.1 C.2.2.2.2.2.2.2.2 G M s a true false true) (cwV 3 C.2.2.2.2.1 gX4_move_X4_goes rfl rfl rfl (by decide +kernel) (by rw [hXR]; decide)) hM_obj rfl rfl rfl (Nat.le_of_ble_eq_true rfl) dX4_move_72 (pc' := 75) rfl (by rw [hXR]; exact Nat.zero_le _) (by rw [hXR]; exact Nat.zero_le _) (fun _ _ z => z.elim) ?_
            rintro r h' ⟨rfl, rfl⟩
            show jW X G 7 0 0 75 [(6, .int (nI 1)), (0, .ref mo), (1, .int (nI j)), (2, .int (nI i)), (3, .int v), (4, .int x), (5, .int y)] [.int (nI 0)] ((hM G mo ad h0 (va_up s 25 2) a))
            refine j_if_ne C dX4_move_75 (tgt := 80) (by decide) (pc' := 78) rfl (fun c_25 => absurd (by decide) c_25) (fun _ => ?_)
            refine j_iconst C (v := nI 0) rfl dX4_move_78 (pc' := 79) rfl ?_
            exact j_iret C E dX4_move_79 rfl (Nat.le_refl _) (Nat.le_refl _) (o_leaf (by unfold oMove; simp only [tn_nI (show i < 2 ^ 31 by omega)]; exact oif ⟨hb_1, hb_8⟩ (oel (fun z => (bff hb_21) z.2.1) (rfl))))
        · show jW X G 7 0 0 48 [(6, .int (nI 1)), (0, .ref mo), (1, .int (nI j)), (2, .int (nI i)), (3, .int v), (4, .int x), (5, .int y)] [.int (nI 1), .int (nI 1), .ref mo] ((hM G mo ad h0 s a))
          obtain ⟨k, lk, hk, rfl⟩ := inR_of (by omega) (by omega) (show inR _ 0 99 = true from hb_21)
          refine j_if_eq C dX4_move_48 (tgt := 66) (by decide) (pc' := 51) rfl (fun c_26 => absurd c_26 (by decide)) (fun _ => ?_)
          refine j_iload C (i := 5) (x := y) 6 rfl dX4_move_51 (pc' := 53) rfl ?_
          refine j_iconst C (v := nI 0) rfl dX4_move_53 (pc' := 54) rfl ?_
          refine j_bipush C (v := nI 99) rfl dX4_move_54 (pc' := 56) rfl ?_
          refine j_callS C (As := [.int y, .int (nI 0), .int (nI 99)]) (rest := [.int (nI 1), .ref mo]) (m_in X.2.1 C.2.2.2.2.2.2.2.2 G y (nI 0) (nI 99)) (va_cwS 3 C.2.2.2.2.1 gX4_move_X4_in rfl rfl rfl (by decide +kernel) (by rw [hXR]; decide)) rfl rfl (Nat.le_of_ble_eq_true rfl) dX4_move_56 (pc' := 59) rfl (by rw [hXR]; exact Nat.zero_le _) (by rw [hXR]; exact Nat.zero_le _) (fun _ _ z => z.elim) ?_
          rintro r h' ⟨rfl, rfl⟩
          show jW X G 7 0 0 59 [(6, .int (nI 1)), (0, .ref mo), (1, .int (nI j)), (2, .int (nI i)), (3, .int v), (4, .int (nI k)), (5, .int y)] [.int (bI (decide (nI 0 ≤ y) && decide (y ≤ nI 99))), .int (nI 1), .ref mo] ((hM G mo ad h0 s a))
          rcases hb_27 : (decide (nI 0 ≤ y) && decide (y ≤ nI 99)) with _ | _
          · show jW X G 7 0 0 59 [(6, .int (nI 1)), (0, .ref mo), (1, .int (nI j)), (2, .int (nI i)), (3, .int v), (4, .int (nI k)), (5, .int y)] [.int (nI 0), .int (nI 1), .ref mo] ((hM G mo ad h0 s a))
            refine j_if_eq C dX4_move_59 (tgt := 66) (by decide) (pc' := 62) rfl (fun _ => ?_) (fun c_28 => absurd (by decide) c_28)
            refine j_iconst C (v := nI 0) rfl dX4_move_66 (pc' := 67) rfl ?_
            refine j_aload_n C (i := 0) (x := mo) 1 rfl dX4_move_67 (pc' := 68) rfl ?_
            refine j_iload_n C (i := 1) (x := nI j) 2 rfl dX4_move_68 (pc' := 69) rfl ?_
            refine j_callV C (As := [.int (nI j)]) (rest := [.int (nI 0), .int (nI 1), .ref mo]) (m_isOpen X.2.1 C.2.2.2.2.2.2.2.2 G M s a (nI j) J I) (cwV 1 C.2.2.2.2.1 gX4_move_X4_isOpen rfl rfl rfl (by decide +kernel) (by rw [hXR]; decide)) hM_obj rfl rfl rfl (Nat.le_of_ble_eq_true rfl) dX4_move_69 (pc' := 72) rfl (by rw [hXR]; exact Nat.zero_le _) (by rw [hXR]; exact Nat.zero_le _) (fun _ _ z => z.elim) ?_
            rintro r h' ⟨rfl, rfl⟩
            show jW X G 7 0 0 72 [(6, .int (nI 1)), (0, .ref mo), (1, .int (nI j)), (2, .int (nI i)), (3, .int v), (4, .int (nI k)), (5, .int y)] [.int (bI (mOpen s a (nI j))), .int (nI 0), .int (nI 1), .ref mo] ((hM G mo ad h0 s a))
            rcases hb_29 : (mOpen s a (nI j)) with _ | _
            · show jW X G 7 0 0 72 [(6, .int (nI 1)), (0, .ref mo), (1, .int (nI j)), (2, .int (nI i)), (3, .int v), (4, .int (nI k)), (5, .int y)] [.int (nI 0), .int (nI 0), .int (nI 1), .ref mo] ((hM G mo ad h0 s a))
              refine j_callV C (As := [.int (nI 1), .int (nI 0), .int (nI 0)]) (rest := []) (m_goes X.2.1 C.2.2.2.2.2.2.2.2 G M s a true false false) (cwV 3 C.2.2.2.2.1 gX4_move_X4_goes rfl rfl rfl (by decide +kernel) (by rw [hXR]; decide)) hM_obj rfl rfl rfl (Nat.le_of_ble_eq_true rfl) dX4_move_72 (pc' := 75) rfl (by rw [hXR]; exact Nat.zero_le _) (by rw [hXR]; exact Nat.zero_le _) (fun _ _ z => z.elim) ?_
              rintro r h' ⟨rfl, rfl⟩
              show jW X G 7 0 0 75 [(6, .int (nI 1)), (0, .ref mo), (1, .int (nI j)), (2, .int (nI i)), (3, .int v), (4, .int (nI k)), (5, .int y)] [.int (nI 0)] ((hM G mo ad h0 (va_up s 25 2) a))
              refine j_if_ne C dX4_move_75 (tgt := 80) (by decide) (pc' := 78) rfl (fun c_30 => absurd (by decide) c_30) (fun _ => ?_)
              refine j_iconst C (v := nI 0) rfl dX4_move_78 (pc' := 79) rfl ?_
              exact j_iret C E dX4_move_79 rfl (Nat.le_refl _) (Nat.le_refl _) (o_leaf (by unfold oMove; simp only [tn_nI (show i < 2 ^ 31 by omega)]; exact oif ⟨hb_1, hb_8⟩ (oel (fun z => (bff hb_27) z.2.2) (rfl))))
            · show jW X G 7 0 0 72 [(6, .int (nI 1)), (0, .ref mo), (1, .int (nI j)), (2, .int (nI i)), (3, .int v), (4, .int (nI k)), (5, .int y)] [.int (nI 1), .int (nI 0), .int (nI 1), .ref mo] ((hM G mo ad h0 s a))
              refine j_callV C (As := [.int (nI 1), .int (nI 0), .int (nI 1)]) (rest := []) (m_goes X.2.1 C.2.2.2.2.2.2.2.2 G M s a true false true) (cwV 3 C.2.2.2.2.1 gX4_move_X4_goes rfl rfl rfl (by decide +kernel) (by rw [hXR]; decide)) hM_obj rfl rfl rfl (Nat.le_of_ble_eq_true rfl) dX4_move_72 (pc' := 75) rfl (by rw [hXR]; exact Nat.zero_le _) (by rw [hXR]; exact Nat.zero_le _) (fun _ _ z => z.elim) ?_
              rintro r h' ⟨rfl, rfl⟩
              show jW X G 7 0 0 75 [(6, .int (nI 1)), (0, .ref mo), (1, .int (nI j)), (2, .int (nI i)), (3, .int v), (4, .int (nI k)), (5, .int y)] [.int (nI 0)] ((hM G mo ad h0 (va_up s 25 2) a))
              refine j_if_ne C dX4_move_75 (tgt := 80) (by decide) (pc' := 78) rfl (fun c_31 => absurd (by decide) c_31) (fun _ => ?_)
              refine j_iconst C (v := nI 0) rfl dX4_move_78 (pc' := 79) rfl ?_
              exact j_iret C E dX4_move_79 rfl (Nat.le_refl _) (Nat.le_refl _) (o_leaf (by unfold oMove; simp only [tn_nI (show i < 2 ^ 31 by omega)]; exact oif ⟨hb_1, hb_8⟩ (oel (fun z => (bff hb_27) z.2.2) (rfl))))
          · show jW X G 7 0 0 59 [(6, .int (nI 1)), (0, .ref mo), (1, .int (nI j)), (2, .int (nI i)), (3, .int v), (4, .int (nI k)), (5, .int y)] [.int (nI 1), .int (nI 1), .ref mo] ((hM G mo ad h0 s a))
            obtain ⟨q, lq, hq, rfl⟩ := inR_of (by omega) (by omega) (show inR _ 0 99 = true from hb_27)
            refine j_if_eq C dX4_move_59 (tgt := 66) (by decide) (pc' := 62) rfl (fun c_32 => absurd c_32 (by decide)) (fun _ => ?_)
            refine j_iconst C (v := nI 1) rfl dX4_move_62 (pc' := 63) rfl ?_
            refine j_goto C dX4_move_63 (pc' := 67) (by decide) ?_
            refine j_aload_n C (i := 0) (x := mo) 1 rfl dX4_move_67 (pc' := 68) rfl ?_
            refine j_iload_n C (i := 1) (x := nI j) 2 rfl dX4_move_68 (pc' := 69) rfl ?_
            refine j_callV C (As := [.int (nI j)]) (rest := [.int (nI 1), .int (nI 1), .ref mo]) (m_isOpen X.2.1 C.2.2.2.2.2.2.2.2 G M s a (nI j) J I) (cwV 1 C.2.2.2.2.1 gX4_move_X4_isOpen rfl rfl rfl (by decide +kernel) (by rw [hXR]; decide)) hM_obj rfl rfl rfl (Nat.le_of_ble_eq_true rfl) dX4_move_69 (pc' := 72) rfl (by rw [hXR]; exact Nat.zero_le _) (by rw [hXR]; exact Nat.zero_le _) (fun _ _ z => z.elim) ?_
            rintro r h' ⟨rfl, rfl⟩
            show jW X G 7 0 0 72 [(6, .int (nI 1)), (0, .ref mo), (1, .int (nI j)), (2, .int (nI i)), (3, .int v), (4, .int (nI k)), (5, .int (nI q))] [.int (bI (mOpen s a (nI j))), .int (nI 1), .int (nI 1), .ref mo] ((hM G mo ad h0 s a))
            rcases hb_33 : (mOpen s a (nI j)) with _ | _
            · show jW X G 7 0 0 72 [(6, .int (nI 1)), (0, .ref mo), (1, .int (nI j)), (2, .int (nI i)), (3, .int v), (4, .int (nI k)), (5, .int (nI q))] [.int (nI 0), .int (nI 1), .int (nI 1), .ref mo] ((hM G mo ad h0 s a))
              refine j_callV C (As := [.int (nI 1), .int (nI 1), .int (nI 0)]) (rest := []) (m_goes X.2.1 C.2.2.2.2.2.2.2.2 G M s a true true false) (cwV 3 C.2.2.2.2.1 gX4_move_X4_goes rfl rfl rfl (by decide +kernel) (by rw [hXR]; decide)) hM_obj rfl rfl rfl (Nat.le_of_ble_eq_true rfl) dX4_move_72 (pc' := 75) rfl (by rw [hXR]; exact Nat.zero_le _) (by rw [hXR]; exact Nat.zero_le _) (fun _ _ z => z.elim) ?_
              rintro r h' ⟨rfl, rfl⟩
              show jW X G 7 0 0 75 [(6, .int (nI 1)), (0, .ref mo), (1, .int (nI j)), (2, .int (nI i)), (3, .int v), (4, .int (nI k)), (5, .int (nI q))] [.int (nI 0)] ((hM G mo ad h0 (va_up s 25 3) a))
              refine j_if_ne C dX4_move_75 (tgt := 80) (by decide) (pc' := 78) rfl (fun c_34 => absurd (by decide) c_34) (fun _ => ?_)
              refine j_iconst C (v := nI 0) rfl dX4_move_78 (pc' := 79) rfl ?_
              exact j_iret C E dX4_move_79 rfl (Nat.le_refl _) (Nat.le_refl _) (o_leaf (by unfold oMove; simp only [tn_nI (show i < 2 ^ 31 by omega)]; exact oif ⟨hb_1, hb_8⟩ (oif ⟨(show a 7 i = 0 by omega), hb_21, hb_27⟩ (oel (bff hb_33) (rfl)))))
            · show jW X G 7 0 0 72 [(6, .int (nI 1)), (0, .ref mo), (1, .int (nI j)), (2, .int (nI i)), (3, .int v), (4, .int (nI k)), (5, .int (nI q))] [.int (nI 1), .int (nI 1), .int (nI 1), .ref mo] ((hM G mo ad h0 s a))
              refine j_callV C (As := [.int (nI 1), .int (nI 1), .int (nI 1)]) (rest := []) (m_goes X.2.1 C.2.2.2.2.2.2.2.2 G M s a true true true) (cwV 3 C.2.2.2.2.1 gX4_move_X4_goes rfl rfl rfl (by decide +kernel) (by rw [hXR]; decide)) hM_obj rfl rfl rfl (Nat.le_of_ble_eq_true rfl) dX4_move_72 (pc' := 75) rfl (by rw [hXR]; exact Nat.zero_le _) (by rw [hXR]; exact Nat.zero_le _) (fun _ _ z => z.elim) ?_
              rintro r h' ⟨rfl, rfl⟩
              show jW X G 7 0 0 75 [(6, .int (nI 1)), (0, .ref mo), (1, .int (nI j)), (2, .int (nI i)), (3, .int v), (4, .int (nI k)), (5, .int (nI q))] [.int (nI 1)] ((hM G mo ad h0 (va_up s 25 0) a))
              refine j_if_ne C dX4_move_75 (tgt := 80) (by decide) (pc' := 78) rfl (fun _ => ?_) (fun c_35 => absurd c_35 (by decide))
              refine j_aload_n C (i := 0) (x := mo) 1 rfl dX4_move_80 (pc' := 81) rfl ?_
              refine j_iconst C (v := nI 0) rfl dX4_move_81 (pc' := 82) rfl ?_
              refine m_put C (f := 23) (idx := 100) (v := 0) hin (by decide) rfl (by decide +kernel) dX4_move_82 (pc' := 85) rfl ?_
              refine j_aload_n C (i := 0) (x := mo) 1 rfl dX4_move_85 (pc' := 86) rfl ?_
              refine j_iload_n C (i := 2) (x := nI i) 3 rfl dX4_move_86 (pc' := 87) rfl ?_
              refine j_callV C (As := [.int (nI i)]) (rest := []) (m_is X.2.1 C.2.2.2.2.2.2.2.2 G M (va_up (va_up s 25 0) 23 0) a i I (by omega)) (cwV 1 C.2.2.2.2.1 gX4_move_X4_is rfl rfl rfl (by decide +kernel) (by rw [hXR]; decide)) hM_obj rfl rfl rfl (Nat.le_of_ble_eq_true rfl) dX4_move_87 (pc' := 90) rfl (by rw [hXR]; exact Nat.zero_le _) (by rw [hXR]; exact Nat.zero_le _) (fun _ _ z => z.elim) ?_
              rintro r h' ⟨rfl, rfl⟩
              show jW X G 7 0 0 90 [(6, .int (nI 1)), (0, .ref mo), (1, .int (nI j)), (2, .int (nI i)), (3, .int v), (4, .int (nI k)), (5, .int (nI q))] [.int (bI (mIs a i))] ((hM G mo ad h0 (va_up (va_up s 25 0) 23 0) a))
              rcases hb_36 : (mIs a i) with _ | _
              · show jW X G 7 0 0 90 [(6, .int (nI 1)), (0, .ref mo), (1, .int (nI j)), (2, .int (nI i)), (3, .int v), (4, .int (nI k)), (5, .int (nI q))] [.int (nI 0)] ((hM G mo ad h0 (va_up (va_up s 25 0) 23 0) a))
                refine j_if_ne C dX4_move_90 (tgt := 97) (by decide) (pc' := 93) rfl (fun c_37 => absurd (by decide) c_37) (fun _ => ?_)
                refine j_iconst C (v := (-1)) rfl dX4_move_93 (pc' := 94) rfl ?_
                refine j_goto C dX4_move_94 (pc' := 127) (by decide) ?_
                exact j_iret C E dX4_move_127 rfl (Nat.le_refl _) (Nat.le_refl _) (o_leaf (by unfold oMove; simp only [tn_nI (show i < 2 ^ 31 by omega)]; exact oif ⟨hb_1, hb_8⟩ (oif ⟨(show a 7 i = 0 by omega), hb_21, hb_27⟩ (oif hb_33 (oel (bff hb_36) (rfl))))))
              · show jW X G 7 0 0 90 [(6, .int (nI 1)), (0, .ref mo), (1, .int (nI j)), (2, .int (nI i)), (3, .int v), (4, .int (nI k)), (5, .int (nI q))] [.int (nI 1)] ((hM G mo ad h0 (va_up (va_up s 25 0) 23 0) a))
                refine j_if_ne C dX4_move_90 (tgt := 97) (by decide) (pc' := 93) rfl (fun _ => ?_) (fun c_38 => absurd c_38 (by decide))
                refine j_iload_n C (i := 3) (x := v) 4 rfl dX4_move_97 (pc' := 98) rfl ?_
                refine j_aload_n C (i := 0) (x := mo) 1 rfl dX4_move_98 (pc' := 99) rfl ?_
                refine m_geta C (f := 9) (idx := 23) hin (by decide) rfl (by decide +kernel) dX4_move_99 (pc' := 102) rfl ?_
                refine j_iload_n C (i := 2) (x := nI i) 3 rfl dX4_move_102 (pc' := 103) rfl ?_
                refine m_ald C M (f := 9) (j := i) (by decide) rfl rfl rfl (show i < 40 by omega) dX4_move_103 (pc' := 104) rfl ?_
                have B_39 := IA.big I 9 i
                refine j_icmp_eq C dX4_move_104 (tgt := 112) (by decide) (pc' := 107) rfl (fun c_40 => ?_) (fun c_40 => ?_)
                · refine j_aload_n C (i := 0) (x := mo) 1 rfl dX4_move_112 (pc' := 113) rfl ?_
                  refine j_iload_n C (i := 1) (x := nI j) 2 rfl dX4_move_113 (pc' := 114) rfl ?_
                  refine j_iload_n C (i := 2) (x := nI i) 3 rfl dX4_move_114 (pc' := 115) rfl ?_
                  refine j_iconst C (v := nI 1) rfl dX4_move_115 (pc' := 116) rfl ?_
                  refine j_bipush C (v := nI 100) rfl dX4_move_116 (pc' := 118) rfl ?_
                  refine j_iload C (i := 4) (x := nI k) 5 rfl dX4_move_118 (pc' := 120) rfl ?_
                  refine j_imul C (x := nI 100) (y := nI k) dX4_move_120 (pc' := 121) rfl ?_
                  refine jt_i (pk_mul _ _) ?_
                  refine j_iload C (i := 5) (x := nI q) 6 rfl dX4_move_121 (pc' := 123) rfl ?_
                  refine j_iadd C (x := nI (100 * k)) (y := nI q) dX4_move_123 (pc' := 124) rfl ?_
                  refine jt_i (nI_add _ _) ?_
                  refine j_callV C (As := [.int (nI j), .int (nI i), .int (nI 1), .int (nI (100 * k + q))]) (rest := []) (m_makes X.2.1 C.2.2.2.2.2.2.2.2 G M (va_up (va_up s 25 0) 23 0) a j i 1 (100 * k + q) (IS.asked (IS.th J (v := 0) (by first | decide | exact gTh_le _ _ _)) (v := 0) (by omega)) I (by omega) (by omega) (by omega) (by omega)) (cwV 4 C.2.2.2.2.1 gX4_move_X4_makes rfl rfl rfl (by decide +kernel) (by rw [hXR]; decide)) hM_obj rfl rfl rfl (Nat.le_of_ble_eq_true rfl) dX4_move_124 (pc' := 127) rfl (by rw [hXR]; exact Nat.zero_le _) (by rw [hXR]; exact Nat.zero_le _) (fun _ _ z => z.elim) ?_
                  rintro r h' ⟨rfl, rfl⟩
                  show jW X G 7 0 0 127 [(6, .int (nI 1)), (0, .ref mo), (1, .int (nI j)), (2, .int (nI i)), (3, .int v), (4, .int (nI k)), (5, .int (nI q))] [.int (nI (a 9 i + 1))] ((hM G mo ad h0 (va_up (va_up (va_up s 25 0) 23 0) 10 (s 10 + 1)) (mkA (va_up (va_up s 25 0) 23 0) a j i 1 (100 * k + q))))
                  exact j_iret C E dX4_move_127 rfl (Nat.le_refl _) (Nat.le_refl _) (o_leaf (by unfold oMove; simp only [tn_nI (show j < 2 ^ 31 by omega), tn_nI (show i < 2 ^ 31 by omega), tn_nI (show k < 2 ^ 31 by omega), tn_nI (show q < 2 ^ 31 by omega)]; exact oif ⟨hb_1, hb_8⟩ (oif ⟨(show a 7 i = 0 by omega), hb_21, hb_27⟩ (oif hb_33 (oif hb_36 (oif c_40 (rfl)))))))
                · refine j_bipush C (v := (-2)) rfl dX4_move_107 (pc' := 109) rfl ?_
                  refine j_goto C dX4_move_109 (pc' := 127) (by decide) ?_
                  exact j_iret C E dX4_move_127 rfl (Nat.le_refl _) (Nat.le_refl _) (o_leaf (by unfold oMove; simp only [tn_nI (show i < 2 ^ 31 by omega)]; exact oif ⟨hb_1, hb_8⟩ (oif ⟨(show a 7 i = 0 by omega), hb_21, hb_27⟩ (oif hb_33 (oif hb_36 (oel c_40 (rfl)))))))
set_option maxRecDepth 100000 in
set_option maxHeartbeats 4000000 in
theorem m_change (l : Launch) (hlt : l.stackTraces = false) (G : jG) {mo : Nat} {ad : Nat → Nat} {h0 : jH} (M : mG mo ad) (s : mS) (a : mA) (p t v : Int32) (J : IS s) (I : IA a) : jM l G yX4_change wsX4_change 3 69 0 0 [.ref mo, .int p, .int t, .int v] (hM G mo ad h0 s a) (fun r h' => r = some (.int (oChange s a p t v).1) ∧ h' = hM G mo ad h0 (oChange s a p t v).2.1 (oChange s a p t v).2.2) (fun _ _ => False) := by
  have h6 := J.2.1
  have h2 := J.2.2.1
  have h4 := J.2.2.2.1
  have h10 := J.2.2.2.2.1
  have hs0 := J.1 0
  have hs1 := J.1 1
  refine jM_of (cc := cX4_change) (maxL := 5) (ret := (some .int)) hlt (by decide +kernel) rfl (Nat.le_of_ble_eq_true rfl) ?_
  intro X C E hXl hXR hXn
  have hin : ∀ w ∈ u_ws RX4 TX4 26, w ∈ wsX4_change := by decide +kernel
  show jW X G 5 0 0 0 [(0, .ref mo), (1, .int p), (2, .int t), (3, .int v)] [] ((hM G mo ad h0 s a))
  refine j_aload_n C (i := 0) (x := mo) 0 rfl dX4_change_0 (pc' := 1) rfl ?_
  refine j_iload_n C (i := 1) (x := p) 1 rfl dX4_change_1 (pc' := 2) rfl ?_
  refine j_callV C (As := [.int p]) (rest := []) (m_isSet X.2.1 C.2.2.2.2.2.2.2.2 G M s a p J) (cwV 1 C.2.2.2.2.1 gX4_change_X4_isSet rfl rfl rfl (by decide +kernel) (by rw [hXR]; decide)) hM_obj rfl rfl rfl (Nat.le_of_ble_eq_true rfl) dX4_change_2 (pc' := 5) rfl (by rw [hXR]; exact Nat.zero_le _) (by rw [hXR]; exact Nat.zero_le _) (fun _ _ z => z.elim) ?_
  rintro r h' ⟨rfl, rfl⟩
  show jW X G 5 0 0 5 [(0, .ref mo), (1, .int p), (2, .int t), (3, .int v)] [.int (bI (inN p (s 2)))] ((hM G mo ad h0 s a))
  rcases hb_1 : (inN p (s 2)) with _ | _
  · show jW X G 5 0 0 5 [(0, .ref mo), (1, .int p), (2, .int t), (3, .int v)] [.int (nI 0)] ((hM G mo ad h0 s a))
    refine j_if_eq C dX4_change_5 (tgt := 20) (by decide) (pc' := 8) rfl (fun _ => ?_) (fun c_2 => absurd (by decide) c_2)
    refine j_iconst C (v := nI 0) rfl dX4_change_20 (pc' := 21) rfl ?_
    refine j_istore C (i := 4) (x := nI 0) (l' := [(4, .int (nI 0)), (0, .ref mo), (1, .int p), (2, .int t), (3, .int v)]) dX4_change_21 (pc' := 23) rfl (by decide) rfl ?_
    refine j_aload_n C (i := 0) (x := mo) 1 rfl dX4_change_23 (pc' := 24) rfl ?_
    refine j_iload C (i := 4) (x := nI 0) 0 rfl dX4_change_24 (pc' := 26) rfl ?_
    refine j_iload C (i := 4) (x := nI 0) 0 rfl dX4_change_26 (pc' := 28) rfl ?_
    refine j_if_eq C dX4_change_28 (tgt := 44) (by decide) (pc' := 31) rfl (fun _ => ?_) (fun c_3 => absurd (by decide) c_3)
    refine j_iconst C (v := nI 0) rfl dX4_change_44 (pc' := 45) rfl ?_
    refine j_aload_n C (i := 0) (x := mo) 1 rfl dX4_change_45 (pc' := 46) rfl ?_
    refine j_iload_n C (i := 1) (x := p) 2 rfl dX4_change_46 (pc' := 47) rfl ?_
    refine j_callV C (As := [.int p]) (rest := [.int (nI 0), .int (nI 0), .ref mo]) (m_isOpen X.2.1 C.2.2.2.2.2.2.2.2 G M s a p J I) (cwV 1 C.2.2.2.2.1 gX4_change_X4_isOpen rfl rfl rfl (by decide +kernel) (by rw [hXR]; decide)) hM_obj rfl rfl rfl (Nat.le_of_ble_eq_true rfl) dX4_change_47 (pc' := 50) rfl (by rw [hXR]; exact Nat.zero_le _) (by rw [hXR]; exact Nat.zero_le _) (fun _ _ z => z.elim) ?_
    rintro r h' ⟨rfl, rfl⟩
    show jW X G 5 0 0 50 [(4, .int (nI 0)), (0, .ref mo), (1, .int p), (2, .int t), (3, .int v)] [.int (bI (mOpen s a p)), .int (nI 0), .int (nI 0), .ref mo] ((hM G mo ad h0 s a))
    rcases hb_4 : (mOpen s a p) with _ | _
    · show jW X G 5 0 0 50 [(4, .int (nI 0)), (0, .ref mo), (1, .int p), (2, .int t), (3, .int v)] [.int (nI 0), .int (nI 0), .int (nI 0), .ref mo] ((hM G mo ad h0 s a))
      refine j_callV C (As := [.int (nI 0), .int (nI 0), .int (nI 0)]) (rest := []) (m_goes X.2.1 C.2.2.2.2.2.2.2.2 G M s a false false false) (cwV 3 C.2.2.2.2.1 gX4_change_X4_goes rfl rfl rfl (by decide +kernel) (by rw [hXR]; decide)) hM_obj rfl rfl rfl (Nat.le_of_ble_eq_true rfl) dX4_change_50 (pc' := 53) rfl (by rw [hXR]; exact Nat.zero_le _) (by rw [hXR]; exact Nat.zero_le _) (fun _ _ z => z.elim) ?_
      rintro r h' ⟨rfl, rfl⟩
      show jW X G 5 0 0 53 [(4, .int (nI 0)), (0, .ref mo), (1, .int p), (2, .int t), (3, .int v)] [.int (nI 0)] ((hM G mo ad h0 (va_up s 25 1) a))
      refine j_if_ne C dX4_change_53 (tgt := 58) (by decide) (pc' := 56) rfl (fun c_5 => absurd (by decide) c_5) (fun _ => ?_)
      refine j_iconst C (v := nI 0) rfl dX4_change_56 (pc' := 57) rfl ?_
      exact j_iret C E dX4_change_57 rfl (Nat.le_refl _) (Nat.le_refl _) (o_leaf (by unfold oChange; exact oel (fun z => (bff hb_1) z.1) (rfl)))
    · show jW X G 5 0 0 50 [(4, .int (nI 0)), (0, .ref mo), (1, .int p), (2, .int t), (3, .int v)] [.int (nI 1), .int (nI 0), .int (nI 0), .ref mo] ((hM G mo ad h0 s a))
      refine j_callV C (As := [.int (nI 0), .int (nI 0), .int (nI 1)]) (rest := []) (m_goes X.2.1 C.2.2.2.2.2.2.2.2 G M s a false false true) (cwV 3 C.2.2.2.2.1 gX4_change_X4_goes rfl rfl rfl (by decide +kernel) (by rw [hXR]; decide)) hM_obj rfl rfl rfl (Nat.le_of_ble_eq_true rfl) dX4_change_50 (pc' := 53) rfl (by rw [hXR]; exact Nat.zero_le _) (by rw [hXR]; exact Nat.zero_le _) (fun _ _ z => z.elim) ?_
      rintro r h' ⟨rfl, rfl⟩
      show jW X G 5 0 0 53 [(4, .int (nI 0)), (0, .ref mo), (1, .int p), (2, .int t), (3, .int v)] [.int (nI 0)] ((hM G mo ad h0 (va_up s 25 1) a))
      refine j_if_ne C dX4_change_53 (tgt := 58) (by decide) (pc' := 56) rfl (fun c_6 => absurd (by decide) c_6) (fun _ => ?_)
      refine j_iconst C (v := nI 0) rfl dX4_change_56 (pc' := 57) rfl ?_
      exact j_iret C E dX4_change_57 rfl (Nat.le_refl _) (Nat.le_refl _) (o_leaf (by unfold oChange; exact oel (fun z => (bff hb_1) z.1) (rfl)))
  · show jW X G 5 0 0 5 [(0, .ref mo), (1, .int p), (2, .int t), (3, .int v)] [.int (nI 1)] ((hM G mo ad h0 s a))
    obtain ⟨j, hj, rfl⟩ := inN_of hb_1
    refine j_if_eq C dX4_change_5 (tgt := 20) (by decide) (pc' := 8) rfl (fun c_7 => absurd c_7 (by decide)) (fun _ => ?_)
    refine j_aload_n C (i := 0) (x := mo) 0 rfl dX4_change_8 (pc' := 9) rfl ?_
    refine j_iload_n C (i := 2) (x := t) 2 rfl dX4_change_9 (pc' := 10) rfl ?_
    refine j_callV C (As := [.int t]) (rest := []) (m_isThing X.2.1 C.2.2.2.2.2.2.2.2 G M s a t J) (cwV 1 C.2.2.2.2.1 gX4_change_X4_isThing rfl rfl rfl (by decide +kernel) (by rw [hXR]; decide)) hM_obj rfl rfl rfl (Nat.le_of_ble_eq_true rfl) dX4_change_10 (pc' := 13) rfl (by rw [hXR]; exact Nat.zero_le _) (by rw [hXR]; exact Nat.zero_le _) (fun _ _ z => z.elim) ?_
    rintro r h' ⟨rfl, rfl⟩
    show jW X G 5 0 0 13 [(0, .ref mo), (1, .int (nI j)), (2, .int t), (3, .int v)] [.int (bI (inN t (s 6)))] ((hM G mo ad h0 s a))
    rcases hb_8 : (inN t (s 6)) with _ | _
    · show jW X G 5 0 0 13 [(0, .ref mo), (1, .int (nI j)), (2, .int t), (3, .int v)] [.int (nI 0)] ((hM G mo ad h0 s a))
      refine j_if_eq C dX4_change_13 (tgt := 20) (by decide) (pc' := 16) rfl (fun _ => ?_) (fun c_9 => absurd (by decide) c_9)
      refine j_iconst C (v := nI 0) rfl dX4_change_20 (pc' := 21) rfl ?_
      refine j_istore C (i := 4) (x := nI 0) (l' := [(4, .int (nI 0)), (0, .ref mo), (1, .int (nI j)), (2, .int t), (3, .int v)]) dX4_change_21 (pc' := 23) rfl (by decide) rfl ?_
      refine j_aload_n C (i := 0) (x := mo) 1 rfl dX4_change_23 (pc' := 24) rfl ?_
      refine j_iload C (i := 4) (x := nI 0) 0 rfl dX4_change_24 (pc' := 26) rfl ?_
      refine j_iload C (i := 4) (x := nI 0) 0 rfl dX4_change_26 (pc' := 28) rfl ?_
      refine j_if_eq C dX4_change_28 (tgt := 44) (by decide) (pc' := 31) rfl (fun _ => ?_) (fun c_10 => absurd (by decide) c_10)
      refine j_iconst C (v := nI 0) rfl dX4_change_44 (pc' := 45) rfl ?_
      refine j_aload_n C (i := 0) (x := mo) 1 rfl dX4_change_45 (pc' := 46) rfl ?_
      refine j_iload_n C (i := 1) (x := nI j) 2 rfl dX4_change_46 (pc' := 47) rfl ?_
      refine j_callV C (As := [.int (nI j)]) (rest := [.int (nI 0), .int (nI 0), .ref mo]) (m_isOpen X.2.1 C.2.2.2.2.2.2.2.2 G M s a (nI j) J I) (cwV 1 C.2.2.2.2.1 gX4_change_X4_isOpen rfl rfl rfl (by decide +kernel) (by rw [hXR]; decide)) hM_obj rfl rfl rfl (Nat.le_of_ble_eq_true rfl) dX4_change_47 (pc' := 50) rfl (by rw [hXR]; exact Nat.zero_le _) (by rw [hXR]; exact Nat.zero_le _) (fun _ _ z => z.elim) ?_
      rintro r h' ⟨rfl, rfl⟩
      show jW X G 5 0 0 50 [(4, .int (nI 0)), (0, .ref mo), (1, .int (nI j)), (2, .int t), (3, .int v)] [.int (bI (mOpen s a (nI j))), .int (nI 0), .int (nI 0), .ref mo] ((hM G mo ad h0 s a))
      rcases hb_11 : (mOpen s a (nI j)) with _ | _
      · show jW X G 5 0 0 50 [(4, .int (nI 0)), (0, .ref mo), (1, .int (nI j)), (2, .int t), (3, .int v)] [.int (nI 0), .int (nI 0), .int (nI 0), .ref mo] ((hM G mo ad h0 s a))
        refine j_callV C (As := [.int (nI 0), .int (nI 0), .int (nI 0)]) (rest := []) (m_goes X.2.1 C.2.2.2.2.2.2.2.2 G M s a false false false) (cwV 3 C.2.2.2.2.1 gX4_change_X4_goes rfl rfl rfl (by decide +kernel) (by rw [hXR]; decide)) hM_obj rfl rfl rfl (Nat.le_of_ble_eq_true rfl) dX4_change_50 (pc' := 53) rfl (by rw [hXR]; exact Nat.zero_le _) (by rw [hXR]; exact Nat.zero_le _) (fun _ _ z => z.elim) ?_
        rintro r h' ⟨rfl, rfl⟩
        show jW X G 5 0 0 53 [(4, .int (nI 0)), (0, .ref mo), (1, .int (nI j)), (2, .int t), (3, .int v)] [.int (nI 0)] ((hM G mo ad h0 (va_up s 25 1) a))
        refine j_if_ne C dX4_change_53 (tgt := 58) (by decide) (pc' := 56) rfl (fun c_12 => absurd (by decide) c_12) (fun _ => ?_)
        refine j_iconst C (v := nI 0) rfl dX4_change_56 (pc' := 57) rfl ?_
        exact j_iret C E dX4_change_57 rfl (Nat.le_refl _) (Nat.le_refl _) (o_leaf (by unfold oChange; exact oel (fun z => (bff hb_8) z.2) (rfl)))
      · show jW X G 5 0 0 50 [(4, .int (nI 0)), (0, .ref mo), (1, .int (nI j)), (2, .int t), (3, .int v)] [.int (nI 1), .int (nI 0), .int (nI 0), .ref mo] ((hM G mo ad h0 s a))
        refine j_callV C (As := [.int (nI 0), .int (nI 0), .int (nI 1)]) (rest := []) (m_goes X.2.1 C.2.2.2.2.2.2.2.2 G M s a false false true) (cwV 3 C.2.2.2.2.1 gX4_change_X4_goes rfl rfl rfl (by decide +kernel) (by rw [hXR]; decide)) hM_obj rfl rfl rfl (Nat.le_of_ble_eq_true rfl) dX4_change_50 (pc' := 53) rfl (by rw [hXR]; exact Nat.zero_le _) (by rw [hXR]; exact Nat.zero_le _) (fun _ _ z => z.elim) ?_
        rintro r h' ⟨rfl, rfl⟩
        show jW X G 5 0 0 53 [(4, .int (nI 0)), (0, .ref mo), (1, .int (nI j)), (2, .int t), (3, .int v)] [.int (nI 0)] ((hM G mo ad h0 (va_up s 25 1) a))
        refine j_if_ne C dX4_change_53 (tgt := 58) (by decide) (pc' := 56) rfl (fun c_13 => absurd (by decide) c_13) (fun _ => ?_)
        refine j_iconst C (v := nI 0) rfl dX4_change_56 (pc' := 57) rfl ?_
        exact j_iret C E dX4_change_57 rfl (Nat.le_refl _) (Nat.le_refl _) (o_leaf (by unfold oChange; exact oel (fun z => (bff hb_8) z.2) (rfl)))
    · show jW X G 5 0 0 13 [(0, .ref mo), (1, .int (nI j)), (2, .int t), (3, .int v)] [.int (nI 1)] ((hM G mo ad h0 s a))
      obtain ⟨i, hi, rfl⟩ := inN_of hb_8
      refine j_if_eq C dX4_change_13 (tgt := 20) (by decide) (pc' := 16) rfl (fun c_14 => absurd c_14 (by decide)) (fun _ => ?_)
      refine j_iconst C (v := nI 1) rfl dX4_change_16 (pc' := 17) rfl ?_
      refine j_goto C dX4_change_17 (pc' := 21) (by decide) ?_
      refine j_istore C (i := 4) (x := nI 1) (l' := [(4, .int (nI 1)), (0, .ref mo), (1, .int (nI j)), (2, .int (nI i)), (3, .int v)]) dX4_change_21 (pc' := 23) rfl (by decide) rfl ?_
      refine j_aload_n C (i := 0) (x := mo) 1 rfl dX4_change_23 (pc' := 24) rfl ?_
      refine j_iload C (i := 4) (x := nI 1) 0 rfl dX4_change_24 (pc' := 26) rfl ?_
      refine j_iload C (i := 4) (x := nI 1) 0 rfl dX4_change_26 (pc' := 28) rfl ?_
      refine j_if_eq C dX4_change_28 (tgt := 44) (by decide) (pc' := 31) rfl (fun c_15 => absurd c_15 (by decide)) (fun _ => ?_)
      refine j_aload_n C (i := 0) (x := mo) 1 rfl dX4_change_31 (pc' := 32) rfl ?_
      refine m_geta C (f := 7) (idx := 17) hin (by decide) rfl (by decide +kernel) dX4_change_32 (pc' := 35) rfl ?_
      refine j_iload_n C (i := 2) (x := nI i) 3 rfl dX4_change_35 (pc' := 36) rfl ?_
      refine m_ald C M (f := 7) (j := i) (by decide) rfl rfl rfl (show i < 40 by omega) dX4_change_36 (pc' := 37) rfl ?_
      have B_16 := IA.kind I i
      refine j_if_eq C dX4_change_37 (tgt := 44) (by decide) (pc' := 40) rfl (fun c_17 => ?_) (fun c_17 => ?_)
      · have c_17 := (nI_eq (a := a 7 i) (b := 0) (by omega) (by omega)).mp c_17
        have c_17 : (a 7 i) = 0 := c_17
        refine j_iconst C (v := nI 0) rfl dX4_change_44 (pc' := 45) rfl ?_
        refine j_aload_n C (i := 0) (x := mo) 1 rfl dX4_change_45 (pc' := 46) rfl ?_
        refine j_iload_n C (i := 1) (x := nI j) 2 rfl dX4_change_46 (pc' := 47) rfl ?_
        refine j_callV C (As := [.int (nI j)]) (rest := [.int (nI 0), .int (nI 1), .ref mo]) (m_isOpen X.2.1 C.2.2.2.2.2.2.2.2 G M s a (nI j) J I) (cwV 1 C.2.2.2.2.1 gX4_change_X4_isOpen rfl rfl rfl (by decide +kernel) (by rw [hXR]; decide)) hM_obj rfl rfl rfl (Nat.le_of_ble_eq_true rfl) dX4_change_47 (pc' := 50) rfl (by rw [hXR]; exact Nat.zero_le _) (by rw [hXR]; exact Nat.zero_le _) (fun _ _ z => z.elim) ?_
        rintro r h' ⟨rfl, rfl⟩
        show jW X G 5 0 0 50 [(4, .int (nI 1)), (0, .ref mo), (1, .int (nI j)), (2, .int (nI i)), (3, .int v)] [.int (bI (mOpen s a (nI j))), .int (nI 0), .int (nI 1), .ref mo] ((hM G mo ad h0 s a))
        rcases hb_18 : (mOpen s a (nI j)) with _ | _
        · show jW X G 5 0 0 50 [(4, .int (nI 1)), (0, .ref mo), (1, .int (nI j)), (2, .int (nI i)), (3, .int v)] [.int (nI 0), .int (nI 0), .int (nI 1), .ref mo] ((hM G mo ad h0 s a))
          refine j_callV C (As := [.int (nI 1), .int (nI 0), .int (nI 0)]) (rest := []) (m_goes X.2.1 C.2.2.2.2.2.2.2.2 G M s a true false false) (cwV 3 C.2.2.2.2.1 gX4_change_X4_goes rfl rfl rfl (by decide +kernel) (by rw [hXR]; decide)) hM_obj rfl rfl rfl (Nat.le_of_ble_eq_true rfl) dX4_change_50 (pc' := 53) rfl (by rw [hXR]; exact Nat.zero_le _) (by rw [hXR]; exact Nat.zero_le _) (fun _ _ z => z.elim) ?_
          rintro r h' ⟨rfl, rfl⟩
          show jW X G 5 0 0 53 [(4, .int (nI 1)), (0, .ref mo), (1, .int (nI j)), (2, .int (nI i)), (3, .int v)] [.int (nI 0)] ((hM G mo ad h0 (va_up s 25 2) a))
          refine j_if_ne C dX4_change_53 (tgt := 58) (by decide) (pc' := 56) rfl (fun c_19 => absurd (by decide) c_19) (fun _ => ?_)
          refine j_iconst C (v := nI 0) rfl dX4_change_56 (pc' := 57) rfl ?_
          exact j_iret C E dX4_change_57 rfl (Nat.le_refl _) (Nat.le_refl _) (o_leaf (by unfold oChange; simp only [tn_nI (show i < 2 ^ 31 by omega)]; exact oif ⟨hb_1, hb_8⟩ (oif (show a 7 i = 0 by omega) (rfl))))
        · show jW X G 5 0 0 50 [(4, .int (nI 1)), (0, .ref mo), (1, .int (nI j)), (2, .int (nI i)), (3, .int v)] [.int (nI 1), .int (nI 0), .int (nI 1), .ref mo] ((hM G mo ad h0 s a))
          refine j_callV C (As := [.int (nI 1), .int (nI 0), .int (nI 1)]) (rest := []) (m_goes X.2.1 C.2.2.2.2.2.2.2.2 G M s a true false true) (cwV 3 C.2.2.2.2.1 gX4_change_X4_goes rfl rfl rfl (by decide +kernel) (by rw [hXR]; decide)) hM_obj rfl rfl rfl (Nat.le_of_ble_eq_true rfl) dX4_change_50 (pc' := 53) rfl (by rw [hXR]; exact Nat.zero_le _) (by rw [hXR]; exact Nat.zero_le _) (fun _ _ z => z.elim) ?_
          rintro r h' ⟨rfl, rfl⟩
          show jW X G 5 0 0 53 [(4, .int (nI 1)), (0, .ref mo), (1, .int (nI j)), (2, .int (nI i)), (3, .int v)] [.int (nI 0)] ((hM G mo ad h0 (va_up s 25 2) a))
          refine j_if_ne C dX4_change_53 (tgt := 58) (by decide) (pc' := 56) rfl (fun c_20 => absurd (by decide) c_20) (fun _ => ?_)
          refine j_iconst C (v := nI 0) rfl dX4_change_56 (pc' := 57) rfl ?_
          exact j_iret C E dX4_change_57 rfl (Nat.le_refl _) (Nat.le_refl _) (o_leaf (by unfold oChange; simp only [tn_nI (show i < 2 ^ 31 by omega)]; exact oif ⟨hb_1, hb_8⟩ (oif (show a 7 i = 0 by omega) (rfl))))
      · have c_17 := fun zq => c_17 ((nI_eq (a := a 7 i) (b := 0) (by omega) (by omega)).mpr zq)
        have c_17 : ¬ (a 7 i) = 0 := c_17
        refine j_iconst C (v := nI 1) rfl dX4_change_40 (pc' := 41) rfl ?_
        refine j_goto C dX4_change_41 (pc' := 45) (by decide) ?_
        refine j_aload_n C (i := 0) (x := mo) 1 rfl dX4_change_45 (pc' := 46) rfl ?_
        refine j_iload_n C (i := 1) (x := nI j) 2 rfl dX4_change_46 (pc' := 47) rfl ?_
        refine j_callV C (As := [.int (nI j)]) (rest := [.int (nI 1), .int (nI 1), .ref mo]) (m_isOpen X.2.1 C.2.2.2.2.2.2.2.2 G M s a (nI j) J I) (cwV 1 C.2.2.2.2.1 gX4_change_X4_isOpen rfl rfl rfl (by decide +kernel) (by rw [hXR]; decide)) hM_obj rfl rfl rfl (Nat.le_of_ble_eq_true rfl) dX4_change_47 (pc' := 50) rfl (by rw [hXR]; exact Nat.zero_le _) (by rw [hXR]; exact Nat.zero_le _) (fun _ _ z => z.elim) ?_
        rintro r h' ⟨rfl, rfl⟩
        show jW X G 5 0 0 50 [(4, .int (nI 1)), (0, .ref mo), (1, .int (nI j)), (2, .int (nI i)), (3, .int v)] [.int (bI (mOpen s a (nI j))), .int (nI 1), .int (nI 1), .ref mo] ((hM G mo ad h0 s a))
        rcases hb_21 : (mOpen s a (nI j)) with _ | _
        · show jW X G 5 0 0 50 [(4, .int (nI 1)), (0, .ref mo), (1, .int (nI j)), (2, .int (nI i)), (3, .int v)] [.int (nI 0), .int (nI 1), .int (nI 1), .ref mo] ((hM G mo ad h0 s a))
          refine j_callV C (As := [.int (nI 1), .int (nI 1), .int (nI 0)]) (rest := []) (m_goes X.2.1 C.2.2.2.2.2.2.2.2 G M s a true true false) (cwV 3 C.2.2.2.2.1 gX4_change_X4_goes rfl rfl rfl (by decide +kernel) (by rw [hXR]; decide)) hM_obj rfl rfl rfl (Nat.le_of_ble_eq_true rfl) dX4_change_50 (pc' := 53) rfl (by rw [hXR]; exact Nat.zero_le _) (by rw [hXR]; exact Nat.zero_le _) (fun _ _ z => z.elim) ?_
          rintro r h' ⟨rfl, rfl⟩
          show jW X G 5 0 0 53 [(4, .int (nI 1)), (0, .ref mo), (1, .int (nI j)), (2, .int (nI i)), (3, .int v)] [.int (nI 0)] ((hM G mo ad h0 (va_up s 25 3) a))
          refine j_if_ne C dX4_change_53 (tgt := 58) (by decide) (pc' := 56) rfl (fun c_22 => absurd (by decide) c_22) (fun _ => ?_)
          refine j_iconst C (v := nI 0) rfl dX4_change_56 (pc' := 57) rfl ?_
          exact j_iret C E dX4_change_57 rfl (Nat.le_refl _) (Nat.le_refl _) (o_leaf (by unfold oChange; simp only [tn_nI (show i < 2 ^ 31 by omega)]; exact oif ⟨hb_1, hb_8⟩ (oel (show ¬ (a 7 i = 0) by omega) (oel (bff hb_21) (rfl)))))
        · show jW X G 5 0 0 50 [(4, .int (nI 1)), (0, .ref mo), (1, .int (nI j)), (2, .int (nI i)), (3, .int v)] [.int (nI 1), .int (nI 1), .int (nI 1), .ref mo] ((hM G mo ad h0 s a))
          refine j_callV C (As := [.int (nI 1), .int (nI 1), .int (nI 1)]) (rest := []) (m_goes X.2.1 C.2.2.2.2.2.2.2.2 G M s a true true true) (cwV 3 C.2.2.2.2.1 gX4_change_X4_goes rfl rfl rfl (by decide +kernel) (by rw [hXR]; decide)) hM_obj rfl rfl rfl (Nat.le_of_ble_eq_true rfl) dX4_change_50 (pc' := 53) rfl (by rw [hXR]; exact Nat.zero_le _) (by rw [hXR]; exact Nat.zero_le _) (fun _ _ z => z.elim) ?_
          rintro r h' ⟨rfl, rfl⟩
          show jW X G 5 0 0 53 [(4, .int (nI 1)), (0, .ref mo), (1, .int (nI j)), (2, .int (nI i)), (3, .int v)] [.int (nI 1)] ((hM G mo ad h0 (va_up s 25 0) a))
          refine j_if_ne C dX4_change_53 (tgt := 58) (by decide) (pc' := 56) rfl (fun _ => ?_) (fun c_23 => absurd c_23 (by decide))
          refine j_aload_n C (i := 0) (x := mo) 1 rfl dX4_change_58 (pc' := 59) rfl ?_
          refine j_callV C (As := []) (rest := []) (m_asksDraft X.2.1 C.2.2.2.2.2.2.2.2 G M (va_up s 25 0) a (IS.th J (v := 0) (by first | decide | exact gTh_le _ _ _)) I) (cwV 0 C.2.2.2.2.1 gX4_change_X4_asksDraft rfl rfl rfl (by decide +kernel) (by rw [hXR]; decide)) hM_obj rfl rfl rfl (Nat.le_of_ble_eq_true rfl) dX4_change_59 (pc' := 62) rfl (by rw [hXR]; exact Nat.zero_le _) (by rw [hXR]; exact Nat.zero_le _) (fun _ _ z => z.elim) ?_
          rintro r h' ⟨rfl, rfl⟩
          show jW X G 5 0 0 62 [(4, .int (nI 1)), (0, .ref mo), (1, .int (nI j)), (2, .int (nI i)), (3, .int v)] [] ((hM G mo ad h0 (va_up (va_up s 25 0) 23 (s 4)) (aDr a (s 4))))
          refine j_aload_n C (i := 0) (x := mo) 1 rfl dX4_change_62 (pc' := 63) rfl ?_
          refine j_iload_n C (i := 2) (x := nI i) 3 rfl dX4_change_63 (pc' := 64) rfl ?_
          refine j_callV C (As := [.int (nI i)]) (rest := []) (m_is X.2.1 C.2.2.2.2.2.2.2.2 G M (va_up (va_up s 25 0) 23 (s 4)) (aDr a (s 4)) i (IA.aDr I (s 4)) (by omega)) (cwV 1 C.2.2.2.2.1 gX4_change_X4_is rfl rfl rfl (by decide +kernel) (by rw [hXR]; decide)) hM_obj rfl rfl rfl (Nat.le_of_ble_eq_true rfl) dX4_change_64 (pc' := 67) rfl (by rw [hXR]; exact Nat.zero_le _) (by rw [hXR]; exact Nat.zero_le _) (fun _ _ z => z.elim) ?_
          rintro r h' ⟨rfl, rfl⟩
          show jW X G 5 0 0 67 [(4, .int (nI 1)), (0, .ref mo), (1, .int (nI j)), (2, .int (nI i)), (3, .int v)] [.int (bI (mIs (aDr a (s 4)) i))] ((hM G mo ad h0 (va_up (va_up s 25 0) 23 (s 4)) (aDr a (s 4))))
          rcases hb_24 : (mIs (aDr a (s 4)) i) with _ | _
          · show jW X G 5 0 0 67 [(4, .int (nI 1)), (0, .ref mo), (1, .int (nI j)), (2, .int (nI i)), (3, .int v)] [.int (nI 0)] ((hM G mo ad h0 (va_up (va_up s 25 0) 23 (s 4)) (aDr a (s 4))))
            refine j_if_ne C dX4_change_67 (tgt := 74) (by decide) (pc' := 70) rfl (fun c_25 => absurd (by decide) c_25) (fun _ => ?_)
            refine j_iconst C (v := (-1)) rfl dX4_change_70 (pc' := 71) rfl ?_
            refine j_goto C dX4_change_71 (pc' := 128) (by decide) ?_
            exact j_iret C E dX4_change_128 rfl (Nat.le_refl _) (Nat.le_refl _) (o_leaf (by unfold oChange; simp only [tn_nI (show i < 2 ^ 31 by omega)]; exact oif ⟨hb_1, hb_8⟩ (oel (show ¬ (a 7 i = 0) by omega) (oif hb_21 (oel (bff hb_24) (rfl))))))
          · show jW X G 5 0 0 67 [(4, .int (nI 1)), (0, .ref mo), (1, .int (nI j)), (2, .int (nI i)), (3, .int v)] [.int (nI 1)] ((hM G mo ad h0 (va_up (va_up s 25 0) 23 (s 4)) (aDr a (s 4))))
            refine j_if_ne C dX4_change_67 (tgt := 74) (by decide) (pc' := 70) rfl (fun _ => ?_) (fun c_26 => absurd c_26 (by decide))
            refine j_iload_n C (i := 3) (x := v) 4 rfl dX4_change_74 (pc' := 75) rfl ?_
            refine j_aload_n C (i := 0) (x := mo) 1 rfl dX4_change_75 (pc' := 76) rfl ?_
            refine m_geta C (f := 9) (idx := 23) hin (by decide) rfl (by decide +kernel) dX4_change_76 (pc' := 79) rfl ?_
            refine j_iload_n C (i := 2) (x := nI i) 3 rfl dX4_change_79 (pc' := 80) rfl ?_
            refine m_ald C M (f := 9) (j := i) (by decide) rfl rfl rfl (show i < 40 by omega) dX4_change_80 (pc' := 81) rfl ?_
            show jW X G 5 0 0 81 [(4, .int (nI 1)), (0, .ref mo), (1, .int (nI j)), (2, .int (nI i)), (3, .int v)] [.int (nI (a 9 i)), .int v] ((hM G mo ad h0 (va_up (va_up s 25 0) 23 (s 4)) (aDr a (s 4))))
            have B_27 := IA.big (IA.aDr I (s 4)) 9 i
            refine j_icmp_eq C dX4_change_81 (tgt := 89) (by decide) (pc' := 84) rfl (fun c_28 => ?_) (fun c_28 => ?_)
            · refine j_aload_n C (i := 0) (x := mo) 1 rfl dX4_change_89 (pc' := 90) rfl ?_
              refine j_aload_n C (i := 0) (x := mo) 1 rfl dX4_change_90 (pc' := 91) rfl ?_
              refine m_geta C (f := 7) (idx := 17) hin (by decide) rfl (by decide +kernel) dX4_change_91 (pc' := 94) rfl ?_
              refine j_iload_n C (i := 2) (x := nI i) 3 rfl dX4_change_94 (pc' := 95) rfl ?_
              refine m_ald C M (f := 7) (j := i) (by decide) rfl rfl rfl (show i < 40 by omega) dX4_change_95 (pc' := 96) rfl ?_
              show jW X G 5 0 0 96 [(4, .int (nI 1)), (0, .ref mo), (1, .int (nI j)), (2, .int (nI i)), (3, .int v)] [.int (nI (a 7 i)), .ref mo] ((hM G mo ad h0 (va_up (va_up s 25 0) 23 (s 4)) (aDr a (s 4))))
              have B_29 := IA.kind (IA.aDr I (s 4)) i
              refine j_callV C (As := [.int (nI (a 7 i))]) (rest := []) (m_isUnlike X.2.1 C.2.2.2.2.2.2.2.2 G M (va_up (va_up s 25 0) 23 (s 4)) (aDr a (s 4)) (a 7 i) (IS.asked (IS.th J (v := 0) (by first | decide | exact gTh_le _ _ _)) (v := (s 4)) (by omega)) (IA.aDr I (s 4)) (by omega)) (cwV 1 C.2.2.2.2.1 gX4_change_X4_isUnlike rfl rfl rfl (by decide +kernel) (by rw [hXR]; decide)) hM_obj rfl rfl rfl (Nat.le_of_ble_eq_true rfl) dX4_change_96 (pc' := 99) rfl (by rw [hXR]; exact Nat.zero_le _) (by rw [hXR]; exact Nat.zero_le _) (fun _ _ z => z.elim) ?_
              rintro r h' ⟨rfl, rfl⟩
              show jW X G 5 0 0 99 [(4, .int (nI 1)), (0, .ref mo), (1, .int (nI j)), (2, .int (nI i)), (3, .int v)] [.int (bI (mUnl (va_up (va_up s 25 0) 23 (s 4)) (aDr a (s 4)) (a 7 i)))] ((hM G mo ad h0 (va_up (va_up s 25 0) 23 (s 4)) (aDr a (s 4))))
              rcases hb_30 : (mUnl (va_up (va_up s 25 0) 23 (s 4)) (aDr a (s 4)) (a 7 i)) with _ | _
              · show jW X G 5 0 0 99 [(4, .int (nI 1)), (0, .ref mo), (1, .int (nI j)), (2, .int (nI i)), (3, .int v)] [.int (nI 0)] ((hM G mo ad h0 (va_up (va_up s 25 0) 23 (s 4)) (aDr a (s 4))))
                refine j_if_eq C dX4_change_99 (tgt := 107) (by decide) (pc' := 102) rfl (fun _ => ?_) (fun c_31 => absurd (by decide) c_31)
                refine j_aload_n C (i := 0) (x := mo) 1 rfl dX4_change_107 (pc' := 108) rfl ?_
                refine j_iload_n C (i := 2) (x := nI i) 3 rfl dX4_change_108 (pc' := 109) rfl ?_
                refine j_callV C (As := [.int (nI i)]) (rest := []) (m_isRing X.2.1 C.2.2.2.2.2.2.2.2 G M (va_up (va_up s 25 0) 23 (s 4)) (aDr a (s 4)) i (IS.asked (IS.th J (v := 0) (by first | decide | exact gTh_le _ _ _)) (v := (s 4)) (by omega)) (IA.aDr I (s 4)) (by omega)) (cwV 1 C.2.2.2.2.1 gX4_change_X4_isRing rfl rfl rfl (by decide +kernel) (by rw [hXR]; decide)) hM_obj rfl rfl rfl (Nat.le_of_ble_eq_true rfl) dX4_change_109 (pc' := 112) rfl (by rw [hXR]; exact Nat.zero_le _) (by rw [hXR]; exact Nat.zero_le _) (fun _ _ z => z.elim) ?_
                rintro r h' ⟨rfl, rfl⟩
                show jW X G 5 0 0 112 [(4, .int (nI 1)), (0, .ref mo), (1, .int (nI j)), (2, .int (nI i)), (3, .int v)] [.int (bI (mRing (va_up (va_up s 25 0) 23 (s 4)) (aDr a (s 4)) i))] ((hM G mo ad h0 (va_up (va_up s 25 0) 23 (s 4)) (mRingA (va_up (va_up s 25 0) 23 (s 4)) (aDr a (s 4)) i)))
                rcases hb_32 : (mRing (va_up (va_up s 25 0) 23 (s 4)) (aDr a (s 4)) i) with _ | _
                · show jW X G 5 0 0 112 [(4, .int (nI 1)), (0, .ref mo), (1, .int (nI j)), (2, .int (nI i)), (3, .int v)] [.int (nI 0)] ((hM G mo ad h0 (va_up (va_up s 25 0) 23 (s 4)) (mRingA (va_up (va_up s 25 0) 23 (s 4)) (aDr a (s 4)) i)))
                  refine j_if_eq C dX4_change_112 (tgt := 120) (by decide) (pc' := 115) rfl (fun _ => ?_) (fun c_33 => absurd (by decide) c_33)
                  refine j_aload_n C (i := 0) (x := mo) 1 rfl dX4_change_120 (pc' := 121) rfl ?_
                  refine j_iload_n C (i := 1) (x := nI j) 2 rfl dX4_change_121 (pc' := 122) rfl ?_
                  refine j_iload_n C (i := 2) (x := nI i) 3 rfl dX4_change_122 (pc' := 123) rfl ?_
                  refine j_iconst C (v := nI 1) rfl dX4_change_123 (pc' := 124) rfl ?_
                  refine j_iconst C (v := nI 0) rfl dX4_change_124 (pc' := 125) rfl ?_
                  refine j_callV C (As := [.int (nI j), .int (nI i), .int (nI 1), .int (nI 0)]) (rest := []) (m_makes X.2.1 C.2.2.2.2.2.2.2.2 G M (va_up (va_up s 25 0) 23 (s 4)) (mRingA (va_up (va_up s 25 0) 23 (s 4)) (aDr a (s 4)) i) j i 1 0 (IS.asked (IS.th J (v := 0) (by first | decide | exact gTh_le _ _ _)) (v := (s 4)) (by omega)) (IA.ring (s := (va_up (va_up s 25 0) 23 (s 4))) (IA.aDr I (s 4)) i) (by omega) (by omega) (by omega) (by omega)) (cwV 4 C.2.2.2.2.1 gX4_change_X4_makes rfl rfl rfl (by decide +kernel) (by rw [hXR]; decide)) hM_obj rfl rfl rfl (Nat.le_of_ble_eq_true rfl) dX4_change_125 (pc' := 128) rfl (by rw [hXR]; exact Nat.zero_le _) (by rw [hXR]; exact Nat.zero_le _) (fun _ _ z => z.elim) ?_
                  rintro r h' ⟨rfl, rfl⟩
                  rw [mRingA_9]
                  show jW X G 5 0 0 128 [(4, .int (nI 1)), (0, .ref mo), (1, .int (nI j)), (2, .int (nI i)), (3, .int v)] [.int (nI (a 9 i + 1))] ((hM G mo ad h0 (va_up (va_up (va_up s 25 0) 23 (s 4)) 10 (s 10 + 1)) (mkA (va_up (va_up s 25 0) 23 (s 4)) (mRingA (va_up (va_up s 25 0) 23 (s 4)) (aDr a (s 4)) i) j i 1 0)))
                  exact j_iret C E dX4_change_128 rfl (Nat.le_refl _) (Nat.le_refl _) (o_leaf (by unfold oChange; simp only [tn_nI (show j < 2 ^ 31 by omega), tn_nI (show i < 2 ^ 31 by omega)]; exact oif ⟨hb_1, hb_8⟩ (oel (show ¬ (a 7 i = 0) by omega) (oif hb_21 (oif hb_24 (oif c_28 (oel (bff hb_30) (oel (bff hb_32) (rfl)))))))))
                · show jW X G 5 0 0 112 [(4, .int (nI 1)), (0, .ref mo), (1, .int (nI j)), (2, .int (nI i)), (3, .int v)] [.int (nI 1)] ((hM G mo ad h0 (va_up (va_up s 25 0) 23 (s 4)) (mRingA (va_up (va_up s 25 0) 23 (s 4)) (aDr a (s 4)) i)))
                  refine j_if_eq C dX4_change_112 (tgt := 120) (by decide) (pc' := 115) rfl (fun c_34 => absurd c_34 (by decide)) (fun _ => ?_)
                  refine j_bipush C (v := (-4)) rfl dX4_change_115 (pc' := 117) rfl ?_
                  refine j_goto C dX4_change_117 (pc' := 128) (by decide) ?_
                  exact j_iret C E dX4_change_128 rfl (Nat.le_refl _) (Nat.le_refl _) (o_leaf (by unfold oChange; simp only [tn_nI (show i < 2 ^ 31 by omega)]; exact oif ⟨hb_1, hb_8⟩ (oel (show ¬ (a 7 i = 0) by omega) (oif hb_21 (oif hb_24 (oif c_28 (oel (bff hb_30) (oif hb_32 (rfl)))))))))
              · show jW X G 5 0 0 99 [(4, .int (nI 1)), (0, .ref mo), (1, .int (nI j)), (2, .int (nI i)), (3, .int v)] [.int (nI 1)] ((hM G mo ad h0 (va_up (va_up s 25 0) 23 (s 4)) (aDr a (s 4))))
                refine j_if_eq C dX4_change_99 (tgt := 107) (by decide) (pc' := 102) rfl (fun c_35 => absurd c_35 (by decide)) (fun _ => ?_)
                refine j_bipush C (v := (-3)) rfl dX4_change_102 (pc' := 104) rfl ?_
                refine j_goto C dX4_change_104 (pc' := 128) (by decide) ?_
                exact j_iret C E dX4_change_128 rfl (Nat.le_refl _) (Nat.le_refl _) (o_leaf (by unfold oChange; simp only [tn_nI (show i < 2 ^ 31 by omega)]; exact oif ⟨hb_1, hb_8⟩ (oel (show ¬ (a 7 i = 0) by omega) (oif hb_21 (oif hb_24 (oif c_28 (oif hb_30 (rfl))))))))
            · refine j_bipush C (v := (-2)) rfl dX4_change_84 (pc' := 86) rfl ?_
              refine j_goto C dX4_change_86 (pc' := 128) (by decide) ?_
              exact j_iret C E dX4_change_128 rfl (Nat.le_refl _) (Nat.le_refl _) (o_leaf (by unfold oChange; simp only [tn_nI (show i < 2 ^ 31 by omega)]; exact oif ⟨hb_1, hb_8⟩ (oel (show ¬ (a 7 i = 0) by omega) (oif hb_21 (oif hb_24 (oel c_28 (rfl)))))))
