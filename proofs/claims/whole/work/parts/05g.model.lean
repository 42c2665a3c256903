def oPoint (s : mS) (a : mA) (p x y : Int32) : mO := if inN p (s 2) = true then (if inR x 0 99 = true ∧ inR y 0 99 = true then (if mOpen s a p = true ∧ s 6 < 40 then
  (nI (s 6), va_up (va_up (va_up (va_up s 25 0) 23 0) 10 (s 10 + 1)) 6 (s 6 + 1), mkA (va_up (va_up s 25 0) 23 0) (va_up2 a 7 (s 6) 0) (tn p) (s 6) 1 (100 * tn x + tn y)) else oTh s a 3) else oTh s a 2) else oTh s a 1
def oMake (s : mS) (a : mA) (p w : Int32) : mO := if inN p (s 2) = true then (if inR w 1 2 = true then (if mOpen s a p = true ∧ s 6 < 40 then
  (if mUnl (va_up (va_up s 25 0) 23 (s 4)) (aDr a (s 4)) (tn w) = true then ((-3), va_up (va_up s 25 0) 23 (s 4), aDr a (s 4)) else
  (nI (s 6), va_up (va_up (va_up (va_up s 25 0) 23 (s 4)) 10 (s 10 + 1)) 6 (s 6 + 1), mkA (va_up (va_up s 25 0) 23 (s 4)) (va_up2 (aDr a (s 4)) 7 (s 6) (tn w)) (tn p) (s 6) 1 0)) else oTh s a 3) else oTh s a 2) else oTh s a 1
def oMove (s : mS) (a : mA) (p t v x y : Int32) : mO := if inN p (s 2) = true ∧ inN t (s 6) = true then (if a 7 (tn t) = 0 ∧ inR x 0 99 = true ∧ inR y 0 99 = true then (if mOpen s a p = true then
  (if mIs a (tn t) = true then (if v = nI (a 9 (tn t)) then (nI (a 9 (tn t) + 1), va_up (va_up (va_up s 25 0) 23 0) 10 (s 10 + 1), mkA (va_up (va_up s 25 0) 23 0) a (tn p) (tn t) 1 (100 * tn x + tn y)) else ((-2), va_up (va_up s 25 0) 23 0, a)) else ((-1), va_up (va_up s 25 0) 23 0, a)) else oTh s a 3) else oTh s a 2) else oTh s a 1
def oChange (s : mS) (a : mA) (p t v : Int32) : mO := if inN p (s 2) = true ∧ inN t (s 6) = true then (if a 7 (tn t) = 0 then oTh s a 2 else (if mOpen s a p = true then
  (if mIs a (tn t) = true then (if v = nI (a 9 (tn t)) then (if mUnl (va_up (va_up s 25 0) 23 (s 4)) (aDr a (s 4)) (a 7 (tn t)) = true then ((-3), va_up (va_up s 25 0) 23 (s 4), aDr a (s 4)) else
    (if mRing (va_up (va_up s 25 0) 23 (s 4)) (aDr a (s 4)) (tn t) = true then ((-4), va_up (va_up s 25 0) 23 (s 4), mRingA (va_up (va_up s 25 0) 23 (s 4)) (aDr a (s 4)) (tn t)) else
      (nI (a 9 (tn t) + 1), va_up (va_up (va_up s 25 0) 23 (s 4)) 10 (s 10 + 1), mkA (va_up (va_up s 25 0) 23 (s 4)) (mRingA (va_up (va_up s 25 0) 23 (s 4)) (aDr a (s 4)) (tn t)) (tn p) (tn t) 1 0)))
    else ((-2), va_up (va_up s 25 0) 23 (s 4), aDr a (s 4))) else ((-1), va_up (va_up s 25 0) 23 (s 4), aDr a (s 4))) else oTh s a 3)) else oTh s a 1
def oDelete (s : mS) (a : mA) (p t v : Int32) : mO := if inN p (s 2) = true ∧ inN t (s 6) = true then (if mOpen s a p = true then
  (if mIs a (tn t) = true then (if v = nI (a 9 (tn t)) then (if 0 < mUsers a (s 6) (tn t) then ((-5), va_up s 25 0, a) else (nI (a 9 (tn t) + 1), va_up (va_up s 25 0) 10 (s 10 + 1), mkA (va_up s 25 0) a (tn p) (tn t) 0 0)) else ((-2), va_up s 25 0, a)) else ((-1), va_up s 25 0, a)) else oTh s a 2) else oTh s a 1
theorem oif {c : Prop} [Decidable c] {x y z : mO} (h : c) (e : x = z) : (if c then x else y) = z := by rw [if_pos h]; exact e
theorem oel {c : Prop} [Decidable c] {x y z : mO} (h : ¬ c) (e : y = z) : (if c then x else y) = z := by rw [if_neg h]; exact e
theorem tnI_sub {j : Nat} (h : j < 2 ^ 31) : tn (nI j) = j := tn_nI h
theorem mRingA_k {s : mS} {a : mA} {t g : Nat} (h : g ≠ 21) : mRingA s a t g = a g := by
  unfold mRingA
  split
  · exact up_n h
  · rfl
theorem mRingA_9 {s : mS} {a : mA} {t n i : Nat} : mRingA s (aDr a n) t 9 i = a 9 i := by rw [mRingA_k (by decide)]; rfl
set_option maxRecDepth 100000 in
set_option maxHeartbeats 4000000 in
theorem m_point (l : Launch) (hlt : l.stackTraces = false) (G : jG) {mo : Nat} {ad : Nat → Nat} {h0 : jH} (M : mG mo ad) (s : mS) (a : mA) (p x y : Int32) (J : IS s) (I : IA a) : jM l G yX4_point wsX4_point 3 64 0 0 [.ref mo, .int p, .int x, .int y] (hM G mo ad h0 s a) (fun r h' => r = some (.int (oPoint s a p x y).1) ∧ h' = hM G mo ad h0 (oPoint s a p x y).2.1 (oPoint s a p x y).2.2) (fun _ _ => False) := by
  have h6 := J.2.1
  have h2 := J.2.2.1
  have h4 := J.2.2.2.1
  have h10 := J.2.2.2.2.1
  have hs0 := J.1 0
  have hs1 := J.1 1
  refine jM_of (cc := cX4_point) (maxL := 5) (ret := (some .int)) hlt (by decide +kernel) rfl (Nat.le_of_ble_eq_true rfl) ?_
  intro X C E hXl hXR hXn
  have hin : ∀ w ∈ u_ws RX4 TX4 26, w ∈ wsX4_point := by decide +kernel
  show jW X G 5 0 0 0 [(0, .ref mo), (1, .int p), (2, .int x), (3, .int y)] [] ((hM G mo ad h0 s a))
  refine j_aload_n C (i := 0) (x := mo) 0 rfl dX4_point_0 (pc' := 1) rfl ?_
  refine j_aload_n C (i := 0) (x := mo) 0 rfl dX4_point_1 (pc' := 2) rfl ?_
  refine j_iload_n C (i := 1) (x := p) 1 rfl dX4_point_2 (pc' := 3) rfl ?_
  refine j_callV C (As := [.int p]) (rest := [.ref mo]) (m_isSet X.2.1 C.2.2.2.2.2.2.2.2 G M s a p J) (cwV 1 C.2.2.2.2.1 gX4_point_X4_isSet rfl rfl rfl (by decide +kernel) (by rw [hXR]; decide)) hM_obj rfl rfl rfl (Nat.le_of_ble_eq_true rfl) dX4_point_3 (pc' := 6) rfl (by rw [hXR]; exact Nat.zero_le _) (by rw [hXR]; exact Nat.zero_le _) (fun _ _ z => z.elim) ?_
  rintro r h' ⟨rfl, rfl⟩
  show jW X G 5 0 0 6 [(0, .ref mo), (1, .int p), (2, .int x), (3, .int y)] [.int (bI (inN p (s 2))), .ref mo] ((hM G mo ad h0 s a))
  rcases hb_1 : (inN p (s 2)) with _ | _
  · show jW X G 5 0 0 6 [(0, .ref mo), (1, .int p), (2, .int x), (3, .int y)] [.int (nI 0), .ref mo] ((hM G mo ad h0 s a))
    refine j_iload_n C (i := 2) (x := x) 2 rfl dX4_point_6 (pc' := 7) rfl ?_
    refine j_iconst C (v := nI 0) rfl dX4_point_7 (pc' := 8) rfl ?_
    refine j_bipush C (v := nI 99) rfl dX4_point_8 (pc' := 10) rfl ?_
    refine j_callS C (As := [.int x, .int (nI 0), .int (nI 99)]) (rest := [.int (nI 0), .ref mo]) (m_in X.2.1 C.2.2.2.2.2.2.2.2 G x (nI 0) (nI 99)) (va_cwS 3 C.2.2.2.2.1 gX4_point_X4_in rfl rfl rfl (by decide +kernel) (by rw [hXR]; decide)) rfl rfl (Nat.le_of_ble_eq_true rfl) dX4_point_10 (pc' := 13) rfl (by rw [hXR]; exact Nat.zero_le _) (by rw [hXR]; exact Nat.zero_le _) (fun _ _ z => z.elim) ?_
    rintro r h' ⟨rfl, rfl⟩
    show jW X G 5 0 0 13 [(0, .ref mo), (1, .int p), (2, .int x), (3, .int y)] [.int (bI (decide (nI 0 ≤ x) && decide (x ≤ nI 99))), .int (nI 0), .ref mo] ((hM G mo ad h0 s a))
    rcases hb_2 : (decide (nI 0 ≤ x) && decide (x ≤ nI 99)) with _ | _
    · show jW X G 5 0 0 13 [(0, .ref mo), (1, .int p), (2, .int x), (3, .int y)] [.int (nI 0), .int (nI 0), .ref mo] ((hM G mo ad h0 s a))
      refine j_if_eq C dX4_point_13 (tgt := 30) (by decide) (pc' := 16) rfl (fun _ => ?_) (fun c_3 => absurd (by decide) c_3)
      refine j_iconst C (v := nI 0) rfl dX4_point_30 (pc' := 31) rfl ?_
      refine j_aload_n C (i := 0) (x := mo) 0 rfl dX4_point_31 (pc' := 32) rfl ?_
      refine j_iload_n C (i := 1) (x := p) 1 rfl dX4_point_32 (pc' := 33) rfl ?_
      refine j_callV C (As := [.int p]) (rest := [.int (nI 0), .int (nI 0), .ref mo]) (m_isOpen X.2.1 C.2.2.2.2.2.2.2.2 G M s a p J I) (cwV 1 C.2.2.2.2.1 gX4_point_X4_isOpen rfl rfl rfl (by decide +kernel) (by rw [hXR]; decide)) hM_obj rfl rfl rfl (Nat.le_of_ble_eq_true rfl) dX4_point_33 (pc' := 36) rfl (by rw [hXR]; exact Nat.zero_le _) (by rw [hXR]; exact Nat.zero_le _) (fun _ _ z => z.elim) ?_
      rintro r h' ⟨rfl, rfl⟩
      show jW X G 5 0 0 36 [(0, .ref mo), (1, .int p), (2, .int x), (3, .int y)] [.int (bI (mOpen s a p)), .int (nI 0), .int (nI 0), .ref mo] ((hM G mo ad h0 s a))
      rcases hb_4 : (mOpen s a p) with _ | _
      · show jW X G 5 0 0 36 [(0, .ref mo), (1, .int p), (2, .int x), (3, .int y)] [.int (nI 0), .int (nI 0), .int (nI 0), .ref mo] ((hM G mo ad h0 s a))
        refine j_if_eq C dX4_point_36 (tgt := 52) (by decide) (pc' := 39) rfl (fun _ => ?_) (fun c_5 => absurd (by decide) c_5)
        refine j_iconst C (v := nI 0) rfl dX4_point_52 (pc' := 53) rfl ?_
        refine j_callV C (As := [.int (nI 0), .int (nI 0), .int (nI 0)]) (rest := []) (m_goes X.2.1 C.2.2.2.2.2.2.2.2 G M s a false false false) (cwV 3 C.2.2.2.2.1 gX4_point_X4_goes rfl rfl rfl (by decide +kernel) (by rw [hXR]; decide)) hM_obj rfl rfl rfl (Nat.le_of_ble_eq_true rfl) dX4_point_53 (pc' := 56) rfl (by rw [hXR]; exact Nat.zero_le _) (by rw [hXR]; exact Nat.zero_le _) (fun _ _ z => z.elim) ?_
        rintro r h' ⟨rfl, rfl⟩
        show jW X G 5 0 0 56 [(0, .ref mo), (1, .int p), (2, .int x), (3, .int y)] [.int (nI 0)] ((hM G mo ad h0 (va_up s 25 1) a))
        refine j_if_ne C dX4_point_56 (tgt := 61) (by decide) (pc' := 59) rfl (fun c_6 => absurd (by decide) c_6) (fun _ => ?_)
        refine j_iconst C (v := nI 0) rfl dX4_point_59 (pc' := 60) rfl ?_
        exact j_iret C E dX4_point_60 rfl (Nat.le_refl _) (Nat.le_refl _) (o_leaf (by unfold oPoint; exact oel (bff hb_1) (rfl)))
      · show jW X G 5 0 0 36 [(0, .ref mo), (1, .int p), (2, .int x), (3, .int y)] [.int (nI 1), .int (nI 0), .int (nI 0), .ref mo] ((hM G mo ad h0 s a))
        refine j_if_eq C dX4_point_36 (tgt := 52) (by decide) (pc' := 39) rfl (fun c_7 => absurd c_7 (by decide)) (fun _ => ?_)
        refine j_aload_n C (i := 0) (x := mo) 0 rfl dX4_point_39 (pc' := 40) rfl ?_
        refine m_get C (f := 6) (idx := 69) hin (by decide) rfl (by decide +kernel) dX4_point_40 (pc' := 43) rfl ?_
        refine j_bipush C (v := nI 40) rfl dX4_point_43 (pc' := 45) rfl ?_
        refine j_icmp_ge C dX4_point_45 (tgt := 52) (by decide) (pc' := 48) rfl (fun c_8 => ?_) (fun c_8 => ?_)
        · have c_8 := (nI_leI (a := 40) (b := s 6) (by omega) (by omega)).mp c_8
          have c_8 : 40 ≤ (s 6) := c_8
          refine j_iconst C (v := nI 0) rfl dX4_point_52 (pc' := 53) rfl ?_
          refine j_callV C (As := [.int (nI 0), .int (nI 0), .int (nI 0)]) (rest := []) (m_goes X.2.1 C.2.2.2.2.2.2.2.2 G M s a false false false) (cwV 3 C.2.2.2.2.1 gX4_point_X4_goes rfl rfl rfl (by decide +kernel) (by rw [hXR]; decide)) hM_obj rfl rfl rfl (Nat.le_of_ble_eq_true rfl) dX4_point_53 (pc' := 56) rfl (by rw [hXR]; exact Nat.zero_le _) (by rw [hXR]; exact Nat.zero_le _) (fun _ _ z => z.elim) ?_
          rintro r h' ⟨rfl, rfl⟩
          show jW X G 5 0 0 56 [(0, .ref mo), (1, .int p), (2, .int x), (3, .int y)] [.int (nI 0)] ((hM G mo ad h0 (va_up s 25 1) a))
          refine j_if_ne C dX4_point_56 (tgt := 61) (by decide) (pc' := 59) rfl (fun c_9 => absurd (by decide) c_9) (fun _ => ?_)
          refine j_iconst C (v := nI 0) rfl dX4_point_59 (pc' := 60) rfl ?_
          exact j_iret C E dX4_point_60 rfl (Nat.le_refl _) (Nat.le_refl _) (o_leaf (by unfold oPoint; exact oel (bff hb_1) (rfl)))
        · have c_8 := fun zq => c_8 ((nI_leI (a := 40) (b := s 6) (by omega) (by omega)).mpr zq)
          have c_8 : ¬ 40 ≤ (s 6) := c_8
          refine j_iconst C (v := nI 1) rfl dX4_point_48 (pc' := 49) rfl ?_
          refine j_goto C dX4_point_49 (pc' := 53) (by decide) ?_
          refine j_callV C (As := [.int (nI 0), .int (nI 0), .int (nI 1)]) (rest := []) (m_goes X.2.1 C.2.2.2.2.2.2.2.2 G M s a false false true) (cwV 3 C.2.2.2.2.1 gX4_point_X4_goes rfl rfl rfl (by decide +kernel) (by rw [hXR]; decide)) hM_obj rfl rfl rfl (Nat.le_of_ble_eq_true rfl) dX4_point_53 (pc' := 56) rfl (by rw [hXR]; exact Nat.zero_le _) (by rw [hXR]; exact Nat.zero_le _) (fun _ _ z => z.elim) ?_
          rintro r h' ⟨rfl, rfl⟩
          show jW X G 5 0 0 56 [(0, .ref mo), (1, .int p), (2, .int x), (3, .int y)] [.int (nI 0)] ((hM G mo ad h0 (va_up s 25 1) a))
          refine j_if_ne C dX4_point_56 (tgt := 61) (by decide) (pc' := 59) rfl (fun c_10 => absurd (by decide) c_10) (fun _ => ?_)
          refine j_iconst C (v := nI 0) rfl dX4_point_59 (pc' := 60) rfl ?_
          exact j_iret C E dX4_point_60 rfl (Nat.le_refl _) (Nat.le_refl _) (o_leaf (by unfold oPoint; exact oel (bff hb_1) (rfl)))
    · show jW X G 5 0 0 13 [(0, .ref mo), (1, .int p), (2, .int x), (3, .int y)] [.int (nI 1), .int (nI 0), .ref mo] ((hM G mo ad h0 s a))
      obtain ⟨i, li, hi, rfl⟩ := inR_of (by omega) (by omega) (show inR _ 0 99 = true from hb_2)
      refine j_if_eq C dX4_point_13 (tgt := 30) (by decide) (pc' := 16) rfl (fun c_11 => absurd c_11 (by decide)) (fun _ => ?_)
      refine j_iload_n C (i := 3) (x := y) 3 rfl dX4_point_16 (pc' := 17) rfl ?_
      refine j_iconst C (v := nI 0) rfl dX4_point_17 (pc' := 18) rfl ?_
      refine j_bipush C (v := nI 99) rfl dX4_point_18 (pc' := 20) rfl ?_
      refine j_callS C (As := [.int y, .int (nI 0), .int (nI 99)]) (rest := [.int (nI 0), .ref mo]) (m_in X.2.1 C.2.2.2.2.2.2.2.2 G y (nI 0) (nI 99)) (va_cwS 3 C.2.2.2.2.1 gX4_point_X4_in rfl rfl rfl (by decide +kernel) (by rw [hXR]; decide)) rfl rfl (Nat.le_of_ble_eq_true rfl) dX4_point_20 (pc' := 23) rfl (by rw [hXR]; exact Nat.zero_le _) (by rw [hXR]; exact Nat.zero_le _) (fun _ _ z => z.elim) ?_
      rintro r h' ⟨rfl, rfl⟩
      show jW X G 5 0 0 23 [(0, .ref mo), (1, .int p), (2, .int (nI i)), (3, .int y)] [.int (bI (decide (nI 0 ≤ y) && decide (y ≤ nI 99))), .int (nI 0), .ref mo] ((hM G mo ad h0 s a))
      rcases hb_12 : (decide (nI 0 ≤ y) && decide (y ≤ nI 99)) with _ | _
      · show jW X G 5 0 0 23 [(0, .ref mo), (1, .int p), (2, .int (nI i)), (3, .int y)] [.int (nI 0), .int (nI 0), .ref mo] ((hM G mo ad h0 s a))
        refine j_if_eq C dX4_point_23 (tgt := 30) (by decide) (pc' := 26) rfl (fun _ => ?_) (fun c_13 => absurd (by decide) c_13)
        refine j_iconst C (v := nI 0) rfl dX4_point_30 (pc' := 31) rfl ?_
        refine j_aload_n C (i := 0) (x := mo) 0 rfl dX4_point_31 (pc' := 32) rfl ?_
        refine j_iload_n C (i := 1) (x := p) 1 rfl dX4_point_32 (pc' := 33) rfl ?_
        refine j_callV C (As := [.int p]) (rest := [.int (nI 0), .int (nI 0), .ref mo]) (m_isOpen X.2.1 C.2.2.2.2.2.2.2.2 G M s a p J I) (cwV 1 C.2.2.2.2.1 gX4_point_X4_isOpen rfl rfl rfl (by decide +kernel) (by rw [hXR]; decide)) hM_obj rfl rfl rfl (Nat.le_of_ble_eq_true rfl) dX4_point_33 (pc' := 36) rfl (by rw [hXR]; exact Nat.zero_le _) (by rw [hXR]; exact Nat.zero_le _) (fun _ _ z => z.elim) ?_
        rintro r h' ⟨rfl, rfl⟩
        show jW X G 5 0 0 36 [(0, .ref mo), (1, .int p), (2, .int (nI i)), (3, .int y)] [.int (bI (mOpen s a p)), .int (nI 0), .int (nI 0), .ref mo] ((hM G mo ad h0 s a))
        rcases hb_14 : (mOpen s a p) with _ | _
        · show jW X G 5 0 0 36 [(0, .ref mo), (1, .int p), (2, .int (nI i)), (3, .int y)] [.int (nI 0), .int (nI 0), .int (nI 0), .ref mo] ((hM G mo ad h0 s a))
          refine j_if_eq C dX4_point_36 (tgt := 52) (by decide) (pc' := 39) rfl (fun _ => ?_) (fun c_15 => absurd (by decide) c_15)
          refine j_iconst C (v := nI 0) rfl dX4_point_52 (pc' := 53) rfl ?_
          refine j_callV C (As := [.int (nI 0), .int (nI 0), .int (nI 0)]) (rest := []) (m_goes X.2.1 C.2.2.2.2.2.2.2.2 G M s a false false false) (cwV 3 C.2.2.2.2.1 gX4_point_X4_goes rfl rfl rfl (by decide +kernel) (by rw [hXR]; decide)) hM_obj rfl rfl rfl (Nat.le_of_ble_eq_true rfl) dX4_point_53 (pc' := 56) rfl (by rw [hXR]; exact Nat.zero_le _) (by rw [hXR]; exact Nat.zero_le _) (fun _ _ z => z.elim) ?_
          rintro r h' ⟨rfl, rfl⟩
          show jW X G 5 0 0 56 [(0, .ref mo), (1, .int p), (2, .int (nI i)), (3, .int y)] [.int (nI 0)] ((hM G mo ad h0 (va_up s 25 1) a))
          refine j_if_ne C dX4_point_56 (tgt := 61) (by decide) (pc' := 59) rfl (fun c_16 => absurd (by decide) c_16) (fun _ => ?_)
          refine j_iconst C (v := nI 0) rfl dX4_point_59 (pc' := 60) rfl ?_
          exact j_iret C E dX4_point_60 rfl (Nat.le_refl _) (Nat.le_refl _) (o_leaf (by unfold oPoint; exact oel (bff hb_1) (rfl)))
        · show jW X G 5 0 0 36 [(0, .ref mo), (1, .int p), (2, .int (nI i)), (3, .int y)] [.int (nI 1), .int (nI 0), .int (nI 0), .ref mo] ((hM G mo ad h0 s a))
          refine j_if_eq C dX4_point_36 (tgt := 52) (by decide) (pc' := 39) rfl (fun c_17 => absurd c_17 (by decide)) (fun _ => ?_)
          refine j_aload_n C (i := 0) (x := mo) 0 rfl dX4_point_39 (pc' := 40) rfl ?_
          refine m_get C (f := 6) (idx := 69) hin (by decide) rfl (by decide +kernel) dX4_point_40 (pc' := 43) rfl ?_
          refine j_bipush C (v := nI 40) rfl dX4_point_43 (pc' := 45) rfl ?_
          refine j_icmp_ge C dX4_point_45 (tgt := 52) (by decide) (pc' := 48) rfl (fun c_18 => ?_) (fun c_18 => ?_)
          · have c_18 := (nI_leI (a := 40) (b := s 6) (by omega) (by omega)).mp c_18
            have c_18 : 40 ≤ (s 6) := c_18
            refine j_iconst C (v := nI 0) rfl dX4_point_52 (pc' := 53) rfl ?_
            refine j_callV C (As := [.int (nI 0), .int (nI 0), .int (nI 0)]) (rest := []) (m_goes X.2.1 C.2.2.2.2.2.2.2.2 G M s a false false false) (cwV 3 C.2.2.2.2.1 gX4_point_X4_goes rfl rfl rfl (by decide +kernel) (by rw [hXR]; decide)) hM_obj rfl rfl rfl (Nat.le_of_ble_eq_true rfl) dX4_point_53 (pc' := 56) rfl (by rw [hXR]; exact Nat.zero_le _) (by rw [hXR]; exact Nat.zero_le _) (fun _ _ z => z.elim) ?_
            rintro r h' ⟨rfl, rfl⟩
            show jW X G 5 0 0 56 [(0, .ref mo), (1, .int p), (2, .int (nI i)), (3, .int y)] [.int (nI 0)] ((hM G mo ad h0 (va_up s 25 1) a))
            refine j_if_ne C dX4_point_56 (tgt := 61) (by decide) (pc' := 59) rfl (fun c_19 => absurd (by decide) c_19) (fun _ => ?_)
            refine j_iconst C (v := nI 0) rfl dX4_point_59 (pc' := 60) rfl ?_
            exact j_iret C E dX4_point_60 rfl (Nat.le_refl _) (Nat.le_refl _) (o_leaf (by unfold oPoint; exact oel (bff hb_1) (rfl)))
          · have c_18 := fun zq => c_18 ((nI_leI (a := 40) (b := s 6) (by omega) (by omega)).mpr zq)
            have c_18 : ¬ 40 ≤ (s 6) := c_18
            refine j_iconst C (v := nI 1) rfl dX4_point_48 (pc' := 49) rfl ?_
            refine j_goto C dX4_point_49 (pc' := 53) (by decide) ?_
            refine j_callV C (As := [.int (nI 0), .int (nI 0), .int (nI 1)]) (rest := []) (m_goes X.2.1 C.2.2.2.2.2.2.2.2 G M s a false false true) (cwV 3 C.2.2.2.2.1 gX4_point_X4_goes rfl rfl rfl (by decide +kernel) (by rw [hXR]; decide)) hM_obj rfl rfl rfl (Nat.le_of_ble_eq_true rfl) dX4_point_53 (pc' := 56) rfl (by rw [hXR]; exact Nat.zero_le _) (by rw [hXR]; exact Nat.zero_le _) (fun _ _ z => z.elim) ?_
            rintro r h' ⟨rfl, rfl⟩
            show jW X G 5 0 0 56 [(0, .ref mo), (1, .int p), (2, .int (nI i)), (3, .int y)] [.int (nI 0)] ((hM G mo ad h0 (va_up s 25 1) a))
            refine j_if_ne C dX4_point_56 (tgt := 61) (by decide) (pc' := 59) rfl (fun c_20 => absurd (by decide) c_20) (fun _ => ?_)
            refine j_iconst C (v := nI 0) rfl dX4_point_59 (pc' := 60) rfl ?_
            exact j_iret C E dX4_point_60 rfl (Nat.le_refl _) (Nat.le_refl _) (o_leaf (by unfold oPoint; exact oel (bff hb_1) (rfl)))
      · show jW X G 5 0 0 23 [(0, .ref mo), (1, .int p), (2, .int (nI i)), (3, .int y)] [.int (nI 1), .int (nI 0), .ref mo] ((hM G mo ad h0 s a))
        obtain ⟨k, lk, hk, rfl⟩ := inR_of (by omega) (by omega) (show inR _ 0 99 = true from hb_12)
        refine j_if_eq C dX4_point_23 (tgt := 30) (by decide) (pc' := 26) rfl (fun c_21 => absurd c_21 (by decide)) (fun _ => ?_)
        refine j_iconst C (v := nI 1) rfl dX4_point_26 (pc' := 27) rfl ?_
        refine j_goto C dX4_point_27 (pc' := 31) (by decide) ?_
        refine j_aload_n C (i := 0) (x := mo) 0 rfl dX4_point_31 (pc' := 32) rfl ?_
        refine j_iload_n C (i := 1) (x := p) 1 rfl dX4_point_32 (pc' := 33) rfl ?_
        refine j_callV C (As := [.int p]) (rest := [.int (nI 1), .int (nI 0), .ref mo]) (m_isOpen X.2.1 C.2.2.2.2.2.2.2.2 G M s a p J I) (cwV 1 C.2.2.2.2.1 gX4_point_X4_isOpen rfl rfl rfl (by decide +kernel) (by rw [hXR]; decide)) hM_obj rfl rfl rfl (Nat.le_of_ble_eq_true rfl) dX4_point_33 (pc' := 36) rfl (by rw [hXR]; exact Nat.zero_le _) (by rw [hXR]; exact Nat.zero_le _) (fun _ _ z => z.elim) ?_
        rintro r h' ⟨rfl, rfl⟩
        show jW X G 5 0 0 36 [(0, .ref mo), (1, .int p), (2, .int (nI i)), (3, .int (nI k))] [.int (bI (mOpen s a p)), .int (nI 1), .int (nI 0), .ref mo] ((hM G mo ad h0 s a))
        rcases hb_22 : (mOpen s a p) with _ | _
        · show jW X G 5 0 0 36 [(0, .ref mo), (1, .int p), (2, .int (nI i)), (3, .int (nI k))] [.int (nI 0), .int (nI 1), .int (nI 0), .ref mo] ((hM G mo ad h0 s a))
          refine j_if_eq C dX4_point_36 (tgt := 52) (by decide) (pc' := 39) rfl (fun _ => ?_) (fun c_23 => absurd (by decide) c_23)
          refine j_iconst C (v := nI 0) rfl dX4_point_52 (pc' := 53) rfl ?_
          refine j_callV C (As := [.int (nI 0), .int (nI 1), .int (nI 0)]) (rest := []) (m_goes X.2.1 C.2.2.2.2.2.2.2.2 G M s a false true false) (cwV 3 C.2.2.2.2.1 gX4_point_X4_goes rfl rfl rfl (by decide +kernel) (by rw [hXR]; decide)) hM_obj rfl rfl rfl (Nat.le_of_ble_eq_true rfl) dX4_point_53 (pc' := 56) rfl (by rw [hXR]; exact Nat.zero_le _) (by rw [hXR]; exact Nat.zero_le _) (fun _ _ z => z.elim) ?_
          rintro r h' ⟨rfl, rfl⟩
          show jW X G 5 0 0 56 [(0, .ref mo), (1, .int p), (2, .int (nI i)), (3, .int (nI k))] [.int (nI 0)] ((hM G mo ad h0 (va_up s 25 1) a))
          refine j_if_ne C dX4_point_56 (tgt := 61) (by decide) (pc' := 59) rfl (fun c_24 => absurd (by decide) c_24) (fun _ => ?_)
          refine j_iconst C (v := nI 0) rfl dX4_point_59 (pc' := 60) rfl ?_
          exact j_iret C E dX4_point_60 rfl (Nat.le_refl _) (Nat.le_refl _) (o_leaf (by unfold oPoint; exact oel (bff hb_1) (rfl)))
        · show jW X G 5 0 0 36 [(0, .ref mo), (1, .int p), (2, .int (nI i)), (3, .int (nI k))] [.int (nI 1), .int (nI 1), .int (nI 0), .ref mo] ((hM G mo ad h0 s a))
          refine j_if_eq C dX4_point_36 (tgt := 52) (by decide) (pc' := 39) rfl (fun c_25 => absurd c_25 (by decide)) (fun _ => ?_)
          refine j_aload_n C (i := 0) (x := mo) 0 rfl dX4_point_39 (pc' := 40) rfl ?_
          refine m_get C (f := 6) (idx := 69) hin (by decide) rfl (by decide +kernel) dX4_point_40 (pc' := 43) rfl ?_
          refine j_bipush C (v := nI 40) rfl dX4_point_43 (pc' := 45) rfl ?_
          refine j_icmp_ge C dX4_point_45 (tgt := 52) (by decide) (pc' := 48) rfl (fun c_26 => ?_) (fun c_26 => ?_)
          · have c_26 := (nI_leI (a := 40) (b := s 6) (by omega) (by omega)).mp c_26
            have c_26 : 40 ≤ (s 6) := c_26
            refine j_iconst C (v := nI 0) rfl dX4_point_52 (pc' := 53) rfl ?_
            refine j_callV C (As := [.int (nI 0), .int (nI 1), .int (nI 0)]) (rest := []) (m_goes X.2.1 C.2.2.2.2.2.2.2.2 G M s a false true false) (cwV 3 C.2.2.2.2.1 gX4_point_X4_goes rfl rfl rfl (by decide +kernel) (by rw [hXR]; decide)) hM_obj rfl rfl rfl (Nat.le_of_ble_eq_true rfl) dX4_point_53 (pc' := 56) rfl (by rw [hXR]; exact Nat.zero_le _) (by rw [hXR]; exact Nat.zero_le _) (fun _ _ z => z.elim) ?_
            rintro r h' ⟨rfl, rfl⟩
            show jW X G 5 0 0 56 [(0, .ref mo), (1, .int p), (2, .int (nI i)), (3, .int (nI k))] [.int (nI 0)] ((hM G mo ad h0 (va_up s 25 1) a))
            refine j_if_ne C dX4_point_56 (tgt := 61) (by decide) (pc' := 59) rfl (fun c_27 => absurd (by decide) c_27) (fun _ => ?_)
            refine j_iconst C (v := nI 0) rfl dX4_point_59 (pc' := 60) rfl ?_
            exact j_iret C E dX4_point_60 rfl (Nat.le_refl _) (Nat.le_refl _) (o_leaf (by unfold oPoint; exact oel (bff hb_1) (rfl)))
          · have c_26 := fun zq => c_26 ((nI_leI (a := 40) (b := s 6) (by omega) (by omega)).mpr zq)
            have c_26 : ¬ 40 ≤ (s 6) := c_26
            refine j_iconst C (v := nI 1) rfl dX4_point_48 (pc' := 49) rfl ?_
            refine j_goto C dX4_point_49 (pc' := 53) (by decide) ?_
            refine j_callV C (As := [.int (nI 0), .int (nI 1), .int (nI 1)]) (rest := []) (m_goes X.2.1 C.2.2.2.2.2.2.2.2 G M s a false true true) (cwV 3 C.2.2.2.2.1 gX4_point_X4_goes rfl rfl rfl (by decide +kernel) (by rw [hXR]; decide)) hM_obj rfl rfl rfl (Nat.le_of_ble_eq_true rfl) dX4_point_53 (pc' := 56) rfl (by rw [hXR]; exact Nat.zero_le _) (by rw [hXR]; exact Nat.zero_le _) (fun _ _ z => z.elim) ?_
            rintro r h' ⟨rfl, rfl⟩
            show jW X G 5 0 0 56 [(0, .ref mo), (1, .int p), (2, .int (nI i)), (3, .int (nI k))] [.int (nI 0)] ((hM G mo ad h0 (va_up s 25 1) a))
            refine j_if_ne C dX4_point_56 (tgt := 61) (by decide) (pc' := 59) rfl (fun c_28 => absurd (by decide) c_28) (fun _ => ?_)
            refine j_iconst C (v := nI 0) rfl dX4_point_59 (pc' := 60) rfl ?_
            exact j_iret C E dX4_point_60 rfl (Nat.le_refl _) (Nat.le_refl _) (o_leaf (by unfold oPoint; exact oel (bff hb_1) (rfl)))
  · show jW X G 5 0 0 6 [(0, .ref mo), (1, .int p), (2, .int x), (3, .int y)] [.int (nI 1), .ref mo] ((hM G mo ad h0 s a))
    obtain ⟨j, hj, rfl⟩ := inN_of hb_1
    refine j_iload_n C (i := 2) (x := x) 2 rfl dX4_point_6 (pc' := 7) rfl ?_
    refine j_iconst C (v := nI 0) rfl dX4_point_7 (pc' := 8) rfl ?_
    refine j_bipush C (v := nI 99) rfl dX4_point_8 (pc' := 10) rfl ?_
    refine j_callS C (As := [.int x, .int (nI 0), .int (nI 99)]) (rest := [.int (nI 1), .ref mo]) (m_in X.2.1 C.2.2.2.2.2.2.2.2 G x (nI 0) (nI 99)) (va_cwS 3 C.2.2.2.2.1 gX4_point_X4_in rfl rfl rfl (by decide +kernel) (by rw [hXR]; decide)) rfl rfl (Nat.le_of_ble_eq_true rfl) dX4_point_10 (pc' := 13) rfl (by rw [hXR]; exact Nat.zero_le _) (by rw [hXR]; exact Nat.zero_le _) (fun _ _ z => z.elim) ?_
    rintro r h' ⟨rfl, rfl⟩
    show jW X G 5 0 0 13 [(0, .ref mo), (1, .int (nI j)), (2, .int x), (3, .int y)] [.int (bI (decide (nI 0 ≤ x) && decide (x ≤ nI 99))), .int (nI 1), .ref mo] ((hM G mo ad h0 s a))
    rcases hb_29 : (decide (nI 0 ≤ x) && decide (x ≤ nI 99)) with _ | _
    · show jW X G 5 0 0 13 [(0, .ref mo), (1, .int (nI j)), (2, .int x), (3, .int y)] [.int (nI 0), .int (nI 1), .ref mo] ((hM G mo ad h0 s a))
      refine j_if_eq C dX4_point_13 (tgt := 30) (by decide) (pc' := 16) rfl (fun _ => ?_) (fun c_30 => absurd (by decide) c_30)
      refine j_iconst C (v := nI 0) rfl dX4_point_30 (pc' := 31) rfl ?_
      refine j_aload_n C (i := 0) (x := mo) 0 rfl dX4_point_31 (pc' := 32) rfl ?_
      refine j_iload_n C (i := 1) (x := nI j) 1 rfl dX4_point_32 (pc' := 33) rfl ?_
      refine j_callV C (As := [.int (nI j)]) (rest := [.int (nI 0), .int (nI 1), .ref mo]) (m_isOpen X.2.1 C.2.2.2.2.2.2.2.2 G M s a (nI j) J I) (cwV 1 C.2.2.2.2.1 gX4_point_X4_isOpen rfl rfl rfl (by decide +kernel) (by rw [hXR]; decide)) hM_obj rfl rfl rfl (Nat.le_of_ble_eq_true rfl) dX4_point_33 (pc' := 36) rfl (by rw [hXR]; exact Nat.zero_le _) (by rw [hXR]; exact Nat.zero_le _) (fun _ _ z => z.elim) ?_
      rintro r h' ⟨rfl, rfl⟩
      show jW X G 5 0 0 36 [(0, .ref mo), (1, .int (nI j)), (2, .int x), (3, .int y)] [.int (bI (mOpen s a (nI j))), .int (nI 0), .int (nI 1), .ref mo] ((hM G mo ad h0 s a))
      rcases hb_31 : (mOpen s a (nI j)) with _ | _
      · show jW X G 5 0 0 36 [(0, .ref mo), (1, .int (nI j)), (2, .int x), (3, .int y)] [.int (nI 0), .int (nI 0), .int (nI 1), .ref mo] ((hM G mo ad h0 s a))
        refine j_if_eq C dX4_point_36 (tgt := 52) (by decide) (pc' := 39) rfl (fun _ => ?_) (fun c_32 => absurd (by decide) c_32)
        refine j_iconst C (v := nI 0) rfl dX4_point_52 (pc' := 53) rfl ?_
        refine j_callV C (As := [.int (nI 1), .int (nI 0), .int (nI 0)]) (rest := []) (m_goes X.2.1 C.2.2.2.2.2.2.2.2 G M s a true false false) (cwV 3 C.2.2.2.2.1 gX4_point_X4_goes rfl rfl rfl (by decide +kernel) (by rw [hXR]; decide)) hM_obj rfl rfl rfl (Nat.le_of_ble_eq_true rfl) dX4_point_53 (pc' := 56) rfl (by rw [hXR]; exact Nat.zero_le _) (by rw [hXR]; exact Nat.zero_le _) (fun _ _ z => z.elim) ?_
        rintro r h' ⟨rfl, rfl⟩
        show jW X G 5 0 0 56 [(0, .ref mo), (1, .int (nI j)), (2, .int x), (3, .int y)] [.int (nI 0)] ((hM G mo ad h0 (va_up s 25 2) a))
        refine j_if_ne C dX4_point_56 (tgt := 61) (by decide) (pc' := 59) rfl (fun c_33 => absurd (by decide) c_33) (fun _ => ?_)
        refine j_iconst C (v := nI 0) rfl dX4_point_59 (pc' := 60) rfl ?_
        exact j_iret C E dX4_point_60 rfl (Nat.le_refl _) (Nat.le_refl _) (o_leaf (by unfold oPoint; exact oif hb_1 (oel (fun z => (bff hb_29) z.1) (rfl))))
      · show jW X G 5 0 0 36 [(0, .ref mo), (1, .int (nI j)), (2, .int x), (3, .int y)] [.int (nI 1), .int (nI 0), .int (nI 1), .ref mo] ((hM G mo ad h0 s a))
        refine j_if_eq C dX4_point_36 (tgt := 52) (by decide) (pc' := 39) rfl (fun c_34 => absurd c_34 (by decide)) (fun _ => ?_)
        refine j_aload_n C (i := 0) (x := mo) 0 rfl dX4_point_39 (pc' := 40) rfl ?_
        refine m_get C (f := 6) (idx := 69) hin (by decide) rfl (by decide +kernel) dX4_point_40 (pc' := 43) rfl ?_
        refine j_bipush C (v := nI 40) rfl dX4_point_43 (pc' := 45) rfl ?_
        refine j_icmp_ge C dX4_point_45 (tgt := 52) (by decide) (pc' := 48) rfl (fun c_35 => ?_) (fun c_35 => ?_)
        · have c_35 := (nI_leI (a := 40) (b := s 6) (by omega) (by omega)).mp c_35
          have c_35 : 40 ≤ (s 6) := c_35
          refine j_iconst C (v := nI 0) rfl dX4_point_52 (pc' := 53) rfl ?_
          refine j_callV C (As := [.int (nI 1), .int (nI 0), .int (nI 0)]) (rest := []) (m_goes X.2.1 C.2.2.2.2.2.2.2.2 G M s a true false false) (cwV 3 C.2.2.2.2.1 gX4_point_X4_goes rfl rfl rfl (by decide +kernel) (by rw [hXR]; decide)) hM_obj rfl rfl rfl (Nat.le_of_ble_eq_true rfl) dX4_point_53 (pc' := 56) rfl (by rw [hXR]; exact Nat.zero_le _) (by rw [hXR]; exact Nat.zero_le _) (fun _ _ z => z.elim) ?_
          rintro r h' ⟨rfl, rfl⟩
          show jW X G 5 0 0 56 [(0, .ref mo), (1, .int (nI j)), (2, .int x), (3, .int y)] [.int (nI 0)] ((hM G mo ad h0 (va_up s 25 2) a))
          refine j_if_ne C dX4_point_56 (tgt := 61) (by decide) (pc' := 59) rfl (fun c_36 => absurd (by decide) c_36) (fun _ => ?_)
          refine j_iconst C (v := nI 0) rfl dX4_point_59 (pc' := 60) rfl ?_
          exact j_iret C E dX4_point_60 rfl (Nat.le_refl _) (Nat.le_refl _) (o_leaf (by unfold oPoint; exact oif hb_1 (oel (fun z => (bff hb_29) z.1) (rfl))))
        · have c_35 := fun zq => c_35 ((nI_leI (a := 40) (b := s 6) (by omega) (by omega)).mpr zq)
          have c_35 : ¬ 40 ≤ (s 6) := c_35
          refine j_iconst C (v := nI 1) rfl dX4_point_48 (pc' := 49) rfl ?_
          refine j_goto C dX4_point_49 (pc' := 53) (by decide) ?_
          refine j_callV C (As := [.int (nI 1), .int (nI 0), .int (nI 1)]) (rest := []) (m_goes X.2.1 C.2.2.2.2.2.2.2.2 G M s a true false true) (cwV 3 C.2.2.2.2.1 gX4_point_X4_goes rfl rfl rfl (by decide +kernel) (by rw [hXR]; decide)) hM_obj rfl rfl rfl (Nat.le_of_ble_eq_true rfl) dX4_point_53 (pc' := 56) rfl (by rw [hXR]; exact Nat.zero_le _) (by rw [hXR]; exact Nat.zero_le _) (fun _ _ z => z.elim) ?_
          rintro r h' ⟨rfl, rfl⟩
          show jW X G 5 0 0 56 [(0, .ref mo), (1, .int (nI j)), (2, .int x), (3, .int y)] [.int (nI 0)] ((hM G mo ad h0 (va_up s 25 2) a))
          refine j_if_ne C dX4_point_56 (tgt := 61) (by decide) (pc' := 59) rfl (fun c_37 => absurd (by decide) c_37) (fun _ => ?_)
          refine j_iconst C (v := nI 0) rfl dX4_point_59 (pc' := 60) rfl ?_
          exact j_iret C E dX4_point_60 rfl (Nat.le_refl _) (Nat.le_refl _) (o_leaf (by unfold oPoint; exact oif hb_1 (oel (fun z => (bff hb_29) z.1) (rfl))))
    · show jW X G 5 0 0 13 [(0, .ref mo), (1, .int (nI j)), (2, .int x), (3, .int y)] [.int (nI 1), .int (nI 1), .ref mo] ((hM G mo ad h0 s a))
      obtain ⟨i, li, hi, rfl⟩ := inR_of (by omega) (by omega) (show inR _ 0 99 = true from hb_29)
      refine j_if_eq C dX4_point_13 (tgt := 30) (by decide) (pc' := 16) rfl (fun c_38 => absurd c_38 (by decide)) (fun _ => ?_)
      refine j_iload_n C (i := 3) (x := y) 3 rfl dX4_point_16 (pc' := 17) rfl ?_
      refine j_iconst C (v := nI 0) rfl dX4_point_17 (pc' := 18) rfl ?_
      refine j_bipush C (v := nI 99) rfl dX4_point_18 (pc' := 20) rfl ?_
      refine j_callS C (As := [.int y, .int (nI 0), .int (nI 99)]) (rest := [.int (nI 1), .ref mo]) (m_in X.2.1 C.2.2.2.2.2.2.2.2 G y (nI 0) (nI 99)) (va_cwS 3 C.2.2.2.2.1 gX4_point_X4_in rfl rfl rfl (by decide +kernel) (by rw [hXR]; decide)) rfl rfl (Nat.le_of_ble_eq_true rfl) dX4_point_20 (pc' := 23) rfl (by rw [hXR]; exact Nat.zero_le _) (by rw [hXR]; exact Nat.zero_le _) (fun _ _ z => z.elim) ?_
      rintro r h' ⟨rfl, rfl⟩
      show jW X G 5 0 0 23 [(0, .ref mo), (1, .int (nI j)), (2, .int (nI i)), (3, .int y)] [.int (bI (decide (nI 0 ≤ y) && decide (y ≤ nI 99))), .int (nI 1), .ref mo] ((hM G mo ad h0 s a))
      rcases hb_39 : (decide (nI 0 ≤ y) && decide (y ≤ nI 99)) with _ | _
      · show jW X G 5 0 0 23 [(0, .ref mo), (1, .int (nI j)), (2, .int (nI i)), (3, .int y)] [.int (nI 0), .int (nI 1), .ref mo] ((hM G mo ad h0 s a))
        refine j_if_eq C dX4_point_23 (tgt := 30) (by decide) (pc' := 26) rfl (fun _ => ?_) (fun c_40 => absurd (by decide) c_40)
        refine j_iconst C (v := nI 0) rfl dX4_point_30 (pc' := 31) rfl ?_
        refine j_aload_n C (i := 0) (x := mo) 0 rfl dX4_point_31 (pc' := 32) rfl ?_
        refine j_iload_n C (i := 1) (x := nI j) 1 rfl dX4_point_32 (pc' := 33) rfl ?_
        refine j_callV C (As := [.int (nI j)]) (rest := [.int (nI 0), .int (nI 1), .ref mo]) (m_isOpen X.2.1 C.2.2.2.2.2.2.2.2 G M s a (nI j) J I) (cwV 1 C.2.2.2.2.1 gX4_point_X4_isOpen rfl rfl rfl (by decide +kernel) (by rw [hXR]; decide)) hM_obj rfl rfl rfl (Nat.le_of_ble_eq_true rfl) dX4_point_33 (pc' := 36) rfl (by rw [hXR]; exact Nat.zero_le _) (by rw [hXR]; exact Nat.zero_le _) (fun _ _ z => z.elim) ?_
        rintro r h' ⟨rfl, rfl⟩
        show jW X G 5 0 0 36 [(0, .ref mo), (1, .int (nI j)), (2, .int (nI i)), (3, .int y)] [.int (bI (mOpen s a (nI j))), .int (nI 0), .int (nI 1), .ref mo] ((hM G mo ad h0 s a))
        rcases hb_41 : (mOpen s a (nI j)) with _ | _
        · show jW X G 5 0 0 36 [(0, .ref mo), (1, .int (nI j)), (2, .int (nI i)), (3, .int y)] [.int (nI 0), .int (nI 0), .int (nI 1), .ref mo] ((hM G mo ad h0 s a))
          refine j_if_eq C dX4_point_36 (tgt := 52) (by decide) (pc' := 39) rfl (fun _ => ?_) (fun c_42 => absurd (by decide) c_42)
          refine j_iconst C (v := nI 0) rfl dX4_point_52 (pc' := 53) rfl ?_
          refine j_callV C (As := [.int (nI 1), .int (nI 0), .int (nI 0)]) (rest := []) (m_goes X.2.1 C.2.2.2.2.2.2.2.2 G M s a true false false) (cwV 3 C.2.2.2.2.1 gX4_point_X4_goes rfl rfl rfl (by decide +kernel) (by rw [hXR]; decide)) hM_obj rfl rfl rfl (Nat.le_of_ble_eq_true rfl) dX4_point_53 (pc' := 56) rfl (by rw [hXR]; exact Nat.zero_le _) (by rw [hXR]; exact Nat.zero_le _) (fun _ _ z => z.elim) ?_
          rintro r h' ⟨rfl, rfl⟩
          show jW X G 5 0 0 56 [(0, .ref mo), (1, .int (nI j)), (2, .int (nI i)), (3, .int y)] [.int (nI 0)] ((hM G mo ad h0 (va_up s 25 2) a))
          refine j_if_ne C dX4_point_56 (tgt := 61) (by decide) (pc' := 59) rfl (fun c_43 => absurd (by decide) c_43) (fun _ => ?_)
          refine j_iconst C (v := nI 0) rfl dX4_point_59 (pc' := 60) rfl ?_
          exact j_iret C E dX4_point_60 rfl (Nat.le_refl _) (Nat.le_refl _) (o_leaf (by unfold oPoint; exact oif hb_1 (oel (fun z => (bff hb_39) z.2) (rfl))))
        · show jW X G 5 0 0 36 [(0, .ref mo), (1, .int (nI j)), (2, .int (nI i)), (3, .int y)] [.int (nI 1), .int (nI 0), .int (nI 1), .ref mo] ((hM G mo ad h0 s a))
          refine j_if_eq C dX4_point_36 (tgt := 52) (by decide) (pc' := 39) rfl (fun c_44 => absurd c_44 (by decide)) (fun _ => ?_)
          refine j_aload_n C (i := 0) (x := mo) 0 rfl dX4_point_39 (pc' := 40) rfl ?_
          refine m_get C (f := 6) (idx := 69) hin (by decide) rfl (by decide +kernel) dX4_point_40 (pc' := 43) rfl ?_
          refine j_bipush C (v := nI 40) rfl dX4_point_43 (pc' := 45) rfl ?_
          refine j_icmp_ge C dX4_point_45 (tgt := 52) (by decide) (pc' := 48) rfl (fun c_45 => ?_) (fun c_45 => ?_)
          · have c_45 := (nI_leI (a := 40) (b := s 6) (by omega) (by omega)).mp c_45
            have c_45 : 40 ≤ (s 6) := c_45
            refine j_iconst C (v := nI 0) rfl dX4_point_52 (pc' := 53) rfl ?_
            refine j_callV C (As := [.int (nI 1), .int (nI 0), .int (nI 0)]) (rest := []) (m_goes X.2.1 C.2.2.2.2.2.2.2.2 G M s a true false false) (cwV 3 C.2.2.2.2.1 gX4_point_X4_goes rfl rfl rfl (by decide +kernel) (by rw [hXR]; decide)) hM_obj rfl rfl rfl (Nat.le_of_ble_eq_true rfl) dX4_point_53 (pc' := 56) rfl (by rw [hXR]; exact Nat.zero_le _) (by rw [hXR]; exact Nat.zero_le _) (fun _ _ z => z.elim) ?_
            rintro r h' ⟨rfl, rfl⟩
            show jW X G 5 0 0 56 [(0, .ref mo), (1, .int (nI j)), (2, .int (nI i)), (3, .int y)] [.int (nI 0)] ((hM G mo ad h0 (va_up s 25 2) a))
            refine j_if_ne C dX4_point_56 (tgt := 61) (by decide) (pc' := 59) rfl (fun c_46 => absurd (by decide) c_46) (fun _ => ?_)
            refine j_iconst C (v := nI 0) rfl dX4_point_59 (pc' := 60) rfl ?_
            exact j_iret C E dX4_point_60 rfl (Nat.le_refl _) (Nat.le_refl _) (o_leaf (by unfold oPoint; exact oif hb_1 (oel (fun z => (bff hb_39) z.2) (rfl))))
          · have c_45 := fun zq => c_45 ((nI_leI (a := 40) (b := s 6) (by omega) (by omega)).mpr zq)
            have c_45 : ¬ 40 ≤ (s 6) := c_45
            refine j_iconst C (v := nI 1) rfl dX4_point_48 (pc' := 49) rfl ?_
            refine j_goto C dX4_point_49 (pc' := 53) (by decide) ?_
            refine j_callV C (As := [.int (nI 1), .int (nI 0), .int (nI 1)]) (rest := []) (m_goes X.2.1 C.2.2.2.2.2.2.2.2 G M s a true false true) (cwV 3 C.2.2.2.2.1 gX4_point_X4_goes rfl rfl rfl (by decide +kernel) (by rw [hXR]; decide)) hM_obj rfl rfl rfl (Nat.le_of_ble_eq_true rfl) dX4_point_53 (pc' := 56) rfl (by rw [hXR]; exact Nat.zero_le _) (by rw [hXR]; exact Nat.zero_le _) (fun _ _ z => z.elim) ?_
            rintro r h' ⟨rfl, rfl⟩
            show jW X G 5 0 0 56 [(0, .ref mo), (1, .int (nI j)), (2, .int (nI i)), (3, .int y)] [.int (nI 0)] ((hM G mo ad h0 (va_up s 25 2) a))
            refine j_if_ne C dX4_point_56 (tgt := 61) (by decide) (pc' := 59) rfl (fun c_47 => absurd (by decide) c_47) (fun _ => ?_)
            refine j_iconst C (v := nI 0) rfl dX4_point_59 (pc' := 60) rfl ?_
            exact j_iret C E dX4_point_60 rfl (Nat.le_refl _) (Nat.le_refl _) (o_leaf (by unfold oPoint; exact oif hb_1 (oel (fun z => (bff hb_39) z.2) (rfl))))
      · show jW X G 5 0 0 23 [(0, .ref mo), (1, .int (nI j)), (2, .int (nI i)), (3, .int y)] [.int (nI 1), .int (nI 1), .ref mo] ((hM G mo ad h0 s a))
        obtain ⟨k, lk, hk, rfl⟩ := inR_of (by omega) (by omega) (show inR _ 0 99 = true from hb_39)
        refine j_if_eq C dX4_point_23 (tgt := 30) (by decide) (pc' := 26) rfl (fun c_48 => absurd c_48 (by decide)) (fun _ => ?_)
        refine j_iconst C (v := nI 1) rfl dX4_point_26 (pc' := 27) rfl ?_
        refine j_goto C dX4_point_27 (pc' := 31) (by decide) ?_
        refine j_aload_n C (i := 0) (x := mo) 0 rfl dX4_point_31 (pc' := 32) rfl ?_
        refine j_iload_n C (i := 1) (x := nI j) 1 rfl dX4_point_32 (pc' := 33) rfl ?_
        refine j_callV C (As := [.int (nI j)]) (rest := [.int (nI 1), .int (nI 1), .ref mo]) (m_isOpen X.2.1 C.2.2.2.2.2.2.2.2 G M s a (nI j) J I) (cwV 1 C.2.2.2.2.1 gX4_point_X4_isOpen rfl rfl rfl (by decide +kernel) (by rw [hXR]; decide)) hM_obj rfl rfl rfl (Nat.le_of_ble_eq_true rfl) dX4_point_33 (pc' := 36) rfl (by rw [hXR]; exact Nat.zero_le _) (by rw [hXR]; exact Nat.zero_le _) (fun _ _ z => z.elim) ?_
        rintro r h' ⟨rfl, rfl⟩
        show jW X G 5 0 0 36 [(0, .ref mo), (1, .int (nI j)), (2, .int (nI i)), (3, .int (nI k))] [.int (bI (mOpen s a (nI j))), .int (nI 1), .int (nI 1), .ref mo] ((hM G mo ad h0 s a))
        rcases hb_49 : (mOpen s a (nI j)) with _ | _
        · show jW X G 5 0 0 36 [(0, .ref mo), (1, .int (nI j)), (2, .int (nI i)), (3, .int (nI k))] [.int (nI 0), .int (nI 1), .int (nI 1), .ref mo] ((hM G mo ad h0 s a))
          refine j_if_eq C dX4_point_36 (tgt := 52) (by decide) (pc' := 39) rfl (fun _ => ?_) (fun c_50 => absurd (by decide) c_50)
          refine j_iconst C (v := nI 0) rfl dX4_point_52 (pc' := 53) rfl ?_
          refine j_callV C (As := [.int (nI 1), .int (nI 1), .int (nI 0)]) (rest := []) (m_goes X.2.1 C.2.2.2.2.2.2.2.2 G M s a true true false) (cwV 3 C.2.2.2.2.1 gX4_point_X4_goes rfl rfl rfl (by decide +kernel) (by rw [hXR]; decide)) hM_obj rfl rfl rfl (Nat.le_of_ble_eq_true rfl) dX4_point_53 (pc' := 56) rfl (by rw [hXR]; exact Nat.zero_le _) (by rw [hXR]; exact Nat.zero_le _) (fun _ _ z => z.elim) ?_
          rintro r h' ⟨rfl, rfl⟩
          show jW X G 5 0 0 56 [(0, .ref mo), (1, .int (nI j)), (2, .int (nI i)), (3, .int (nI k))] [.int (nI 0)] ((hM G mo ad h0 (va_up s 25 3) a))
          refine j_if_ne C dX4_point_56 (tgt := 61) (by decide) (pc' := 59) rfl (fun c_51 => absurd (by decide) c_51) (fun _ => ?_)
          refine j_iconst C (v := nI 0) rfl dX4_point_59 (pc' := 60) rfl ?_
          exact j_iret C E dX4_point_60 rfl (Nat.le_refl _) (Nat.le_refl _) (o_leaf (by unfold oPoint; exact oif hb_1 (oif ⟨hb_29, hb_39⟩ (oel (fun z => (bff hb_49) z.1) (rfl)))))
        · show jW X G 5 0 0 36 [(0, .ref mo), (1, .int (nI j)), (2, .int (nI i)), (3, .int (nI k))] [.int (nI 1), .int (nI 1), .int (nI 1), .ref mo] ((hM G mo ad h0 s a))
          refine j_if_eq C dX4_point_36 (tgt := 52) (by decide) (pc' := 39) rfl (fun c_52 => absurd c_52 (by decide)) (fun _ => ?_)
          refine j_aload_n C (i := 0) (x := mo) 0 rfl dX4_point_39 (pc' := 40) rfl ?_
          refine m_get C (f := 6) (idx := 69) hin (by decide) rfl (by decide +kernel) dX4_point_40 (pc' := 43) rfl ?_
          refine j_bipush C (v := nI 40) rfl dX4_point_43 (pc' := 45) rfl ?_
          refine j_icmp_ge C dX4_point_45 (tgt := 52) (by decide) (pc' := 48) rfl (fun c_53 => ?_) (fun c_53 => ?_)
          · have c_53 := (nI_leI (a := 40) (b := s 6) (by omega) (by omega)).mp c_53
            have c_53 : 40 ≤ (s 6) := c_53
            refine j_iconst C (v := nI 0) rfl dX4_point_52 (pc' := 53) rfl ?_
            refine j_callV C (As := [.int (nI 1), .int (nI 1), .int (nI 0)]) (rest := []) (m_goes X.2.1 C.2.2.2.2.2.2.2.2 G M s a true true false) (cwV 3 C.2.2.2.2.1 gX4_point_X4_goes rfl rfl rfl (by decide +kernel) (by rw [hXR]; decide)) hM_obj rfl rfl rfl (Nat.le_of_ble_eq_true rfl) dX4_point_53 (pc' := 56) rfl (by rw [hXR]; exact Nat.zero_le _) (by rw [hXR]; exact Nat.zero_le _) (fun _ _ z => z.elim) ?_
            rintro r h' ⟨rfl, rfl⟩
            show jW X G 5 0 0 56 [(0, .ref mo), (1, .int (nI j)), (2, .int (nI i)), (3, .int (nI k))] [.int (nI 0)] ((hM G mo ad h0 (va_up s 25 3) a))
            refine j_if_ne C dX4_point_56 (tgt := 61) (by decide) (pc' := 59) rfl (fun c_54 => absurd (by decide) c_54) (fun _ => ?_)
            refine j_iconst C (v := nI 0) rfl dX4_point_59 (pc' := 60) rfl ?_
            exact j_iret C E dX4_point_60 rfl (Nat.le_refl _) (Nat.le_refl _) (o_leaf (by unfold oPoint; exact oif hb_1 (oif ⟨hb_29, hb_39⟩ (oel (fun z => (show ¬ (s 6 < 40) by omega) z.2) (rfl)))))
          · have c_53 := fun zq => c_53 ((nI_leI (a := 40) (b := s 6) (by omega) (by omega)).mpr zq)
            have c_53 : ¬ 40 ≤ (s 6) := c_53
            refine j_iconst C (v := nI 1) rfl dX4_point_48 (pc' := 49) rfl ?_
            refine j_goto C dX4_point_49 (pc' := 53) (by decide) ?_
            refine j_callV C (As := [.int (nI 1), .int (nI 1), .int (nI 1)]) (rest := []) (m_goes X.2.1 C.2.2.2.2.2.2.2.2 G M s a true true true) (cwV 3 C.2.2.2.2.1 gX4_point_X4_goes rfl rfl rfl (by decide +kernel) (by rw [hXR]; decide)) hM_obj rfl rfl rfl (Nat.le_of_ble_eq_true rfl) dX4_point_53 (pc' := 56) rfl (by rw [hXR]; exact Nat.zero_le _) (by rw [hXR]; exact Nat.zero_le _) (fun _ _ z => z.elim) ?_
            rintro r h' ⟨rfl, rfl⟩
            show jW X G 5 0 0 56 [(0, .ref mo), (1, .int (nI j)), (2, .int (nI i)), (3, .int (nI k))] [.int (nI 1)] ((hM G mo ad h0 (va_up s 25 0) a))
            refine j_if_ne C dX4_point_56 (tgt := 61) (by decide) (pc' := 59) rfl (fun _ => ?_) (fun c_55 => absurd c_55 (by decide))
            refine j_aload_n C (i := 0) (x := mo) 0 rfl dX4_point_61 (pc' := 62) rfl ?_
            refine m_geta C (f := 7) (idx := 17) hin (by decide) rfl (by decide +kernel) dX4_point_62 (pc' := 65) rfl ?_
            refine j_aload_n C (i := 0) (x := mo) 0 rfl dX4_point_65 (pc' := 66) rfl ?_
            refine m_get C (f := 6) (idx := 69) hin (by decide) rfl (by decide +kernel) dX4_point_66 (pc' := 69) rfl ?_
            show jW X G 5 0 0 69 [(0, .ref mo), (1, .int (nI j)), (2, .int (nI i)), (3, .int (nI k))] [.int (nI (s 6)), .ref (ad 7)] ((hM G mo ad h0 (va_up s 25 0) a))
            refine j_iconst C (v := nI 0) rfl dX4_point_69 (pc' := 70) rfl ?_
            refine m_ast C M (f := 7) (j := s 6) (v := 0) (by decide) rfl rfl rfl (show s 6 < 40 by omega) rfl dX4_point_70 (pc' := 71) rfl ?_
            refine j_aload_n C (i := 0) (x := mo) 0 rfl dX4_point_71 (pc' := 72) rfl ?_
            refine j_iconst C (v := nI 0) rfl dX4_point_72 (pc' := 73) rfl ?_
            refine m_put C (f := 23) (idx := 100) (v := 0) hin (by decide) rfl (by decide +kernel) dX4_point_73 (pc' := 76) rfl ?_
            refine j_aload_n C (i := 0) (x := mo) 0 rfl dX4_point_76 (pc' := 77) rfl ?_
            refine j_iload_n C (i := 1) (x := nI j) 1 rfl dX4_point_77 (pc' := 78) rfl ?_
            refine j_aload_n C (i := 0) (x := mo) 0 rfl dX4_point_78 (pc' := 79) rfl ?_
            refine m_get C (f := 6) (idx := 69) hin (by decide) rfl (by decide +kernel) dX4_point_79 (pc' := 82) rfl ?_
            show jW X G 5 0 0 82 [(0, .ref mo), (1, .int (nI j)), (2, .int (nI i)), (3, .int (nI k))] [.int (nI (s 6)), .int (nI j), .ref mo] ((hM G mo ad h0 (va_up (va_up s 25 0) 23 0) (va_up2 a 7 (s 6) 0)))
            refine j_iconst C (v := nI 1) rfl dX4_point_82 (pc' := 83) rfl ?_
            refine j_bipush C (v := nI 100) rfl dX4_point_83 (pc' := 85) rfl ?_
            refine j_iload_n C (i := 2) (x := nI i) 2 rfl dX4_point_85 (pc' := 86) rfl ?_
            refine j_imul C (x := nI 100) (y := nI i) dX4_point_86 (pc' := 87) rfl ?_
            refine jt_i (pk_mul _ _) ?_
            refine j_iload_n C (i := 3) (x := nI k) 3 rfl dX4_point_87 (pc' := 88) rfl ?_
            refine j_iadd C (x := nI (100 * i)) (y := nI k) dX4_point_88 (pc' := 89) rfl ?_
            refine jt_i (nI_add _ _) ?_
            refine j_callV C (As := [.int (nI j), .int (nI (s 6)), .int (nI 1), .int (nI (100 * i + k))]) (rest := []) (m_makes X.2.1 C.2.2.2.2.2.2.2.2 G M (va_up (va_up s 25 0) 23 0) (va_up2 a 7 (s 6) 0) j (s 6) 1 (100 * i + k) (IS.asked (IS.th J (v := 0) (by first | decide | exact gTh_le _ _ _)) (v := 0) (by omega)) (IA.up2c I (f := 7) (j := (s 6)) (v := 0) ⟨by omega, fun _ => by omega, fun _ => by omega, fun _ => by omega, fun _ => by omega, fun _ => by omega, fun _ => by omega, fun _ => by omega, fun _ => by omega, fun _ => by omega, fun _ => by omega, fun _ => by omega, fun _ => by omega, fun _ => by omega⟩) (by omega) (by omega) (by omega) (by omega)) (cwV 4 C.2.2.2.2.1 gX4_point_X4_makes rfl rfl rfl (by decide +kernel) (by rw [hXR]; decide)) hM_obj rfl rfl rfl (Nat.le_of_ble_eq_true rfl) dX4_point_89 (pc' := 92) rfl (by rw [hXR]; exact Nat.zero_le _) (by rw [hXR]; exact Nat.zero_le _) (fun _ _ z => z.elim) ?_
            rintro r h' ⟨rfl, rfl⟩
            show jW X G 5 0 0 92 [(0, .ref mo), (1, .int (nI j)), (2, .int (nI i)), (3, .int (nI k))] [.int (nI (a 9 ((s 6)) + 1))] ((hM G mo ad h0 (va_up (va_up (va_up s 25 0) 23 0) 10 (s 10 + 1)) (mkA (va_up (va_up s 25 0) 23 0) (va_up2 a 7 (s 6) 0) j (s 6) 1 (100 * i + k))))
            refine j_istore C (i := 4) (x := nI (a 9 ((s 6)) + 1)) (l' := [(4, .int (nI (a 9 ((s 6)) + 1))), (0, .ref mo), (1, .int (nI j)), (2, .int (nI i)), (3, .int (nI k))]) dX4_point_92 (pc' := 94) rfl (by decide) rfl ?_
            refine j_aload_n C (i := 0) (x := mo) 1 rfl dX4_point_94 (pc' := 95) rfl ?_
            refine j_dup C rfl dX4_point_95 (pc' := 96) rfl ?_
            refine m_get C (f := 6) (idx := 69) hin (by decide) rfl (by decide +kernel) dX4_point_96 (pc' := 99) rfl ?_
            show jW X G 5 0 0 99 [(4, .int (nI (a 9 ((s 6)) + 1))), (0, .ref mo), (1, .int (nI j)), (2, .int (nI i)), (3, .int (nI k))] [.int (nI (s 6)), .ref mo] ((hM G mo ad h0 (va_up (va_up (va_up s 25 0) 23 0) 10 (s 10 + 1)) (mkA (va_up (va_up s 25 0) 23 0) (va_up2 a 7 (s 6) 0) j (s 6) 1 (100 * i + k))))
            refine j_iconst C (v := nI 1) rfl dX4_point_99 (pc' := 100) rfl ?_
            refine j_iadd C (x := nI (s 6)) (y := nI 1) dX4_point_100 (pc' := 101) rfl ?_
            refine jt_i (nI_add _ _) ?_
            refine m_put C (f := 6) (idx := 69) (v := s 6 + 1) hin (by decide) rfl (by decide +kernel) dX4_point_101 (pc' := 104) rfl ?_
            refine j_aload_n C (i := 0) (x := mo) 1 rfl dX4_point_104 (pc' := 105) rfl ?_
            refine m_get C (f := 6) (idx := 69) hin (by decide) rfl (by decide +kernel) dX4_point_105 (pc' := 108) rfl ?_
            show jW X G 5 0 0 108 [(4, .int (nI (a 9 ((s 6)) + 1))), (0, .ref mo), (1, .int (nI j)), (2, .int (nI i)), (3, .int (nI k))] [.int (nI (s 6 + 1))] ((hM G mo ad h0 (va_up (va_up (va_up (va_up s 25 0) 23 0) 10 (s 10 + 1)) 6 (s 6 + 1)) (mkA (va_up (va_up s 25 0) 23 0) (va_up2 a 7 (s 6) 0) j (s 6) 1 (100 * i + k))))
            refine j_iconst C (v := nI 1) rfl dX4_point_108 (pc' := 109) rfl ?_
            refine j_isub C (x := nI (s 6 + 1)) (y := nI 1) dX4_point_109 (pc' := 110) rfl ?_
            refine jt_i (pk_sub (by omega)) ?_
            exact j_iret C E dX4_point_110 rfl (Nat.le_refl _) (Nat.le_refl _) (o_leaf (by unfold oPoint; simp only [tn_nI (show j < 2 ^ 31 by omega), tn_nI (show i < 2 ^ 31 by omega), tn_nI (show k < 2 ^ 31 by omega)]; exact oif hb_1 (oif ⟨hb_29, hb_39⟩ (oif ⟨hb_49, (show s 6 < 40 by omega)⟩ (rfl)))))
