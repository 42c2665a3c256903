theorem cnt_b {P : Nat → Bool} {n : Nat} {b : Bool} (h : P n = b) : cnt P n + b.toNat = cnt P (n + 1) := by rw [← h]; rfl
def mHasOf (s : mS) (a : mA) (t o : Nat) : Bool := anyN (fun k => decide (a 11 k = t) && decide (a 14 k = o)) (s 10)
def mOpen (s : mS) (a : mA) (p : Int32) : Bool := inN p (s 2) && decide (a 3 p.toInt.toNat = 0)
theorem mOpen_nI {s : mS} {a : mA} {j : Nat} (hj : j < s 2) (h2 : s 2 ≤ 20) : mOpen s a (nI j) = decide (a 3 j = 0) := by
  unfold mOpen
  rw [inN_nI (by omega), decide_eq_true hj, nI_toInt (by omega)]
  rfl
set_option maxRecDepth 100000 in
set_option maxHeartbeats 4000000 in
theorem m_hasOf (l : Launch) (hlt : l.stackTraces = false) (G : jG) {mo : Nat} {ad : Nat → Nat} {h0 : jH} (M : mG mo ad) (s : mS) (a : mA) (t o : Nat) (J : IS s) (I : IA a) (ht : t < 1048576) (ho : o < 1048576) : jM l G yX4_hasOf wsX4_hasOf 0 0 0 0 [.ref mo, .int (nI t), .int (nI o)] (hM G mo ad h0 s a) (fun r h' => r = some (.int (bI (mHasOf s a t o))) ∧ h' = hM G mo ad h0 s a) (fun _ _ => False) := by
  have h10 := J.2.2.2.2.1
  refine jM_of (cc := cX4_hasOf) (maxL := 5) (ret := (some .boolean)) hlt (by decide +kernel) rfl (Nat.le_of_ble_eq_true rfl) ?_
  intro X C E hXl hXR hXn
  have hin : ∀ w ∈ u_ws RX4 TX4 26, w ∈ wsX4_hasOf := by decide +kernel
  show jW X G 5 0 0 0 [(0, .ref mo), (1, .int (nI t)), (2, .int (nI o))] [] ((hM G mo ad h0 s a))
  refine j_iconst C (v := nI 0) rfl dX4_hasOf_0 (pc' := 1) rfl ?_
  refine j_istore_n C (i := 3) (x := nI 0) (l' := [(3, .int (nI 0)), (0, .ref mo), (1, .int (nI t)), (2, .int (nI o))]) dX4_hasOf_1 (pc' := 2) rfl (by decide) rfl ?_
  refine j_iconst C (v := nI 0) rfl dX4_hasOf_2 (pc' := 3) rfl ?_
  refine j_istore C (i := 4) (x := nI 0) (l' := [(4, .int (nI 0)), (3, .int (nI 0)), (0, .ref mo), (1, .int (nI t)), (2, .int (nI o))]) dX4_hasOf_3 (pc' := 5) rfl (by decide) rfl ?_
  have L_5 : ∀ (N_5 : Nat) (k : Nat), (s 10 - k) < N_5 → (k ≤ s 10) → jW X G 5 0 0 5 [(0, .ref mo), (1, .int (nI t)), (2, .int (nI o)), (3, .int (bI (anyN (fun k => decide (a 11 k = t) && decide (a 14 k = o)) k))), (4, .int (nI k))] [] ((hM G mo ad h0 s a)) := by
    intro N_5
    induction N_5 with
    | zero => intro k hm_5 hk; omega
    | succ N_5 ih_5 =>
      intro k hm_5 hk
      refine j_iload C (i := 4) (x := nI k) 4 rfl dX4_hasOf_5 (pc' := 7) rfl ?_
      refine j_aload_n C (i := 0) (x := mo) 0 rfl dX4_hasOf_7 (pc' := 8) rfl ?_
      refine m_get C (f := 10) (idx := 87) hin (by decide) rfl (by decide +kernel) dX4_hasOf_8 (pc' := 11) rfl ?_
      refine j_icmp_ge C dX4_hasOf_11 (tgt := 52) (by decide) (pc' := 14) rfl (fun c_1 => ?_) (fun c_1 => ?_)
      · have c_1 := (nI_leI (a := s 10) (b := k) (by omega) (by omega)).mp c_1
        have c_1 : (s 10) ≤ k := c_1
        refine j_iload_n C (i := 3) (x := bI (anyN (fun k => decide (a 11 k = t) && decide (a 14 k = o)) k)) 3 rfl dX4_hasOf_52 (pc' := 53) rfl ?_
        exact j_iret C E dX4_hasOf_53 (bI_nar _) (Nat.le_refl _) (Nat.le_refl _) ⟨by rw [show mHasOf s a t o = anyN (fun k => decide (a 11 k = t) && decide (a 14 k = o)) k from by unfold mHasOf; rw [show s 10 = k from by omega]], rfl⟩
      · have c_1 := fun zq => c_1 ((nI_leI (a := s 10) (b := k) (by omega) (by omega)).mpr zq)
        have c_1 : ¬ (s 10) ≤ k := c_1
        refine j_iload_n C (i := 3) (x := bI (anyN (fun k => decide (a 11 k = t) && decide (a 14 k = o)) k)) 3 rfl dX4_hasOf_14 (pc' := 15) rfl ?_
        rcases hb_2 : (anyN (fun k => decide (a 11 k = t) && decide (a 14 k = o)) k) with _ | _
        · show jW X G 5 0 0 15 [(0, .ref mo), (1, .int (nI t)), (2, .int (nI o)), (3, .int (nI 0)), (4, .int (nI k))] [.int (nI 0)] ((hM G mo ad h0 s a))
          refine j_if_ne C dX4_hasOf_15 (tgt := 40) (by decide) (pc' := 18) rfl (fun c_3 => absurd (by decide) c_3) (fun _ => ?_)
          refine j_aload_n C (i := 0) (x := mo) 0 rfl dX4_hasOf_18 (pc' := 19) rfl ?_
          refine m_geta C (f := 11) (idx := 26) hin (by decide) rfl (by decide +kernel) dX4_hasOf_19 (pc' := 22) rfl ?_
          refine j_iload C (i := 4) (x := nI k) 4 rfl dX4_hasOf_22 (pc' := 24) rfl ?_
          refine m_ald C M (f := 11) (j := k) (by decide) rfl rfl rfl (show k < 1400 by omega) dX4_hasOf_24 (pc' := 25) rfl ?_
          have B_4 := IA.of I k
          refine j_iload_n C (i := 1) (x := nI t) 1 rfl dX4_hasOf_25 (pc' := 26) rfl ?_
          refine j_icmp_ne C dX4_hasOf_26 (tgt := 44) (by decide) (pc' := 29) rfl (fun c_5 => ?_) (fun c_5 => ?_)
          · have c_5 := fun zq => c_5 ((nI_eq (a := a 11 k) (b := t) (by omega) (by omega)).mpr zq)
            have c_5 : ¬ (a 11 k) = t := c_5
            refine j_iconst C (v := nI 0) rfl dX4_hasOf_44 (pc' := 45) rfl ?_
            refine j_istore_n C (i := 3) (x := nI 0) (l' := [(3, .int (nI 0)), (0, .ref mo), (1, .int (nI t)), (2, .int (nI o)), (4, .int (nI k))]) dX4_hasOf_45 (pc' := 46) rfl (by decide) rfl ?_
            refine j_iinc C (i := 4) (q := 4) (x := nI k) (v := nI (k + 1)) (l' := [(4, .int (nI (k + 1))), (3, .int (nI 0)), (0, .ref mo), (1, .int (nI t)), (2, .int (nI o))]) dX4_hasOf_46 (pc' := 49) rfl rfl (nI_add _ _) (by decide) rfl ?_
            refine j_goto C dX4_hasOf_49 (pc' := 5) (by decide) ?_
            refine jt_loc (l' := [(4, .int (nI (k + 1))), (3, .int (bI (anyN (fun k => decide (a 11 k = t) && decide (a 14 k = o)) (k + 1)))), (0, .ref mo), (1, .int (nI t)), (2, .int (nI o))]) (by rw [← bI_0 (show anyN (fun k => decide (a 11 k = t) && decide (a 14 k = o)) (k + 1) = false by rw [anyN_s, hb_2]; show (decide (a 11 k = t) && _) = false; rw [decide_eq_false c_5]; rfl)]) ?_
            exact jW.locals [2, 3, 4, 1, 0] rfl (ih_5 (k + 1) (by omega) (by omega))
          · have c_5 := (nI_eq (a := a 11 k) (b := t) (by omega) (by omega)).mp c_5
            have c_5 : (a 11 k) = t := c_5
            refine j_aload_n C (i := 0) (x := mo) 0 rfl dX4_hasOf_29 (pc' := 30) rfl ?_
            refine m_geta C (f := 14) (idx := 35) hin (by decide) rfl (by decide +kernel) dX4_hasOf_30 (pc' := 33) rfl ?_
            refine j_iload C (i := 4) (x := nI k) 4 rfl dX4_hasOf_33 (pc' := 35) rfl ?_
            refine m_ald C M (f := 14) (j := k) (by decide) rfl rfl rfl (show k < 1400 by omega) dX4_hasOf_35 (pc' := 36) rfl ?_
            have B_6 := IA.big I 14 k
            refine j_iload_n C (i := 2) (x := nI o) 2 rfl dX4_hasOf_36 (pc' := 37) rfl ?_
            refine j_icmp_ne C dX4_hasOf_37 (tgt := 44) (by decide) (pc' := 40) rfl (fun c_7 => ?_) (fun c_7 => ?_)
            · have c_7 := fun zq => c_7 ((nI_eq (a := a 14 k) (b := o) (by omega) (by omega)).mpr zq)
              have c_7 : ¬ (a 14 k) = o := c_7
              refine j_iconst C (v := nI 0) rfl dX4_hasOf_44 (pc' := 45) rfl ?_
              refine j_istore_n C (i := 3) (x := nI 0) (l' := [(3, .int (nI 0)), (0, .ref mo), (1, .int (nI t)), (2, .int (nI o)), (4, .int (nI k))]) dX4_hasOf_45 (pc' := 46) rfl (by decide) rfl ?_
              refine j_iinc C (i := 4) (q := 4) (x := nI k) (v := nI (k + 1)) (l' := [(4, .int (nI (k + 1))), (3, .int (nI 0)), (0, .ref mo), (1, .int (nI t)), (2, .int (nI o))]) dX4_hasOf_46 (pc' := 49) rfl rfl (nI_add _ _) (by decide) rfl ?_
              refine j_goto C dX4_hasOf_49 (pc' := 5) (by decide) ?_
              refine jt_loc (l' := [(4, .int (nI (k + 1))), (3, .int (bI (anyN (fun k => decide (a 11 k = t) && decide (a 14 k = o)) (k + 1)))), (0, .ref mo), (1, .int (nI t)), (2, .int (nI o))]) (by rw [← bI_0 (show anyN (fun k => decide (a 11 k = t) && decide (a 14 k = o)) (k + 1) = false by rw [anyN_s, hb_2]; show (decide (a 11 k = t) && decide (a 14 k = o)) = false; rw [decide_eq_true c_5, decide_eq_false c_7]; rfl)]) ?_
              exact jW.locals [2, 3, 4, 1, 0] rfl (ih_5 (k + 1) (by omega) (by omega))
            · have c_7 := (nI_eq (a := a 14 k) (b := o) (by omega) (by omega)).mp c_7
              have c_7 : (a 14 k) = o := c_7
              refine j_iconst C (v := nI 1) rfl dX4_hasOf_40 (pc' := 41) rfl ?_
              refine j_goto C dX4_hasOf_41 (pc' := 45) (by decide) ?_
              refine j_istore_n C (i := 3) (x := nI 1) (l' := [(3, .int (nI 1)), (0, .ref mo), (1, .int (nI t)), (2, .int (nI o)), (4, .int (nI k))]) dX4_hasOf_45 (pc' := 46) rfl (by decide) rfl ?_
              refine j_iinc C (i := 4) (q := 4) (x := nI k) (v := nI (k + 1)) (l' := [(4, .int (nI (k + 1))), (3, .int (nI 1)), (0, .ref mo), (1, .int (nI t)), (2, .int (nI o))]) dX4_hasOf_46 (pc' := 49) rfl rfl (nI_add _ _) (by decide) rfl ?_
              refine j_goto C dX4_hasOf_49 (pc' := 5) (by decide) ?_
              refine jt_loc (l' := [(4, .int (nI (k + 1))), (3, .int (bI (anyN (fun k => decide (a 11 k = t) && decide (a 14 k = o)) (k + 1)))), (0, .ref mo), (1, .int (nI t)), (2, .int (nI o))]) (by rw [← bI_1 (show anyN (fun k => decide (a 11 k = t) && decide (a 14 k = o)) (k + 1) = true by rw [anyN_s, hb_2]; show (decide (a 11 k = t) && decide (a 14 k = o)) = true; rw [decide_eq_true c_5, decide_eq_true c_7]; rfl)]) ?_
              exact jW.locals [2, 3, 4, 1, 0] rfl (ih_5 (k + 1) (by omega) (by omega))
        · show jW X G 5 0 0 15 [(0, .ref mo), (1, .int (nI t)), (2, .int (nI o)), (3, .int (nI 1)), (4, .int (nI k))] [.int (nI 1)] ((hM G mo ad h0 s a))
          refine j_if_ne C dX4_hasOf_15 (tgt := 40) (by decide) (pc' := 18) rfl (fun _ => ?_) (fun c_8 => absurd c_8 (by decide))
          refine j_iconst C (v := nI 1) rfl dX4_hasOf_40 (pc' := 41) rfl ?_
          refine j_goto C dX4_hasOf_41 (pc' := 45) (by decide) ?_
          refine j_istore_n C (i := 3) (x := nI 1) (l' := [(3, .int (nI 1)), (0, .ref mo), (1, .int (nI t)), (2, .int (nI o)), (4, .int (nI k))]) dX4_hasOf_45 (pc' := 46) rfl (by decide) rfl ?_
          refine j_iinc C (i := 4) (q := 4) (x := nI k) (v := nI (k + 1)) (l' := [(4, .int (nI (k + 1))), (3, .int (nI 1)), (0, .ref mo), (1, .int (nI t)), (2, .int (nI o))]) dX4_hasOf_46 (pc' := 49) rfl rfl (nI_add _ _) (by decide) rfl ?_
          refine j_goto C dX4_hasOf_49 (pc' := 5) (by decide) ?_
          refine jt_loc (l' := [(4, .int (nI (k + 1))), (3, .int (bI (anyN (fun k => decide (a 11 k = t) && decide (a 14 k = o)) (k + 1)))), (0, .ref mo), (1, .int (nI t)), (2, .int (nI o))]) (by rw [← bI_1 (show anyN (fun k => decide (a 11 k = t) && decide (a 14 k = o)) (k + 1) = true by rw [anyN_s, hb_2]; rfl)]) ?_
          exact jW.locals [2, 3, 4, 1, 0] rfl (ih_5 (k + 1) (by omega) (by omega))
  exact jW.locals [2, 3, 4, 1, 0] rfl (L_5 ((s 10 - 0) + 1) 0 (by omega) (by omega))
set_option maxRecDepth 100000 in
set_option maxHeartbeats 4000000 in
theorem m_isOpen (l : Launch) (hlt : l.stackTraces = false) (G : jG) {mo : Nat} {ad : Nat → Nat} {h0 : jH} (M : mG mo ad) (s : mS) (a : mA) (p : Int32) (J : IS s) (I : IA a) : jM l G yX4_isOpen wsX4_isOpen 2 43 0 0 [.ref mo, .int p] (hM G mo ad h0 s a) (fun r h' => r = some (.int (bI (mOpen s a p))) ∧ h' = hM G mo ad h0 s a) (fun _ _ => False) := by
  have h2 := J.2.2.1
  refine jM_of (cc := cX4_isOpen) (maxL := 2) (ret := (some .boolean)) hlt (by decide +kernel) rfl (Nat.le_of_ble_eq_true rfl) ?_
  intro X C E hXl hXR hXn
  have hin : ∀ w ∈ u_ws RX4 TX4 26, w ∈ wsX4_isOpen := by decide +kernel
  show jW X G 2 0 0 0 [(0, .ref mo), (1, .int p)] [] ((hM G mo ad h0 s a))
  refine j_aload_n C (i := 0) (x := mo) 0 rfl dX4_isOpen_0 (pc' := 1) rfl ?_
  refine j_iload_n C (i := 1) (x := p) 1 rfl dX4_isOpen_1 (pc' := 2) rfl ?_
  refine j_callV C (As := [.int p]) (rest := []) (m_isSet X.2.1 C.2.2.2.2.2.2.2.2 G M s a p J) (cwV 1 C.2.2.2.2.1 gX4_isOpen_X4_isSet rfl rfl rfl (by decide +kernel) (by rw [hXR]; decide)) hM_obj rfl rfl rfl (Nat.le_of_ble_eq_true rfl) dX4_isOpen_2 (pc' := 5) rfl (by rw [hXR]; exact Nat.zero_le _) (by rw [hXR]; exact Nat.zero_le _) (fun _ _ z => z.elim) ?_
  rintro r h' ⟨rfl, rfl⟩
  show jW X G 2 0 0 5 [(0, .ref mo), (1, .int p)] [.int (bI (inN p (s 2)))] ((hM G mo ad h0 s a))
  rcases hb_1 : (inN p (s 2)) with _ | _
  · show jW X G 2 0 0 5 [(0, .ref mo), (1, .int p)] [.int (nI 0)] ((hM G mo ad h0 s a))
    refine j_if_eq C dX4_isOpen_5 (tgt := 21) (by decide) (pc' := 8) rfl (fun _ => ?_) (fun c_2 => absurd (by decide) c_2)
    refine j_iconst C (v := nI 0) rfl dX4_isOpen_21 (pc' := 22) rfl ?_
    exact j_iret C E dX4_isOpen_22 rfl (Nat.le_refl _) (Nat.le_refl _) ⟨bI0 (by unfold mOpen; rw [hb_1]; rfl), rfl⟩
  · show jW X G 2 0 0 5 [(0, .ref mo), (1, .int p)] [.int (nI 1)] ((hM G mo ad h0 s a))
    obtain ⟨j, hj, rfl⟩ := inN_of hb_1
    refine j_if_eq C dX4_isOpen_5 (tgt := 21) (by decide) (pc' := 8) rfl (fun c_3 => absurd c_3 (by decide)) (fun _ => ?_)
    refine j_aload_n C (i := 0) (x := mo) 0 rfl dX4_isOpen_8 (pc' := 9) rfl ?_
    refine m_geta C (f := 3) (idx := 7) hin (by decide) rfl (by decide +kernel) dX4_isOpen_9 (pc' := 12) rfl ?_
    refine j_iload_n C (i := 1) (x := nI j) 1 rfl dX4_isOpen_12 (pc' := 13) rfl ?_
    refine m_zld C M (f := 3) (j := j) (by decide) rfl rfl rfl (show j < 20 by omega) dX4_isOpen_13 (pc' := 14) rfl ?_
    have B_4 := IA.closed I j
    refine j_if_ne C dX4_isOpen_14 (tgt := 21) (by decide) (pc' := 17) rfl (fun c_5 => ?_) (fun c_5 => ?_)
    · have c_5 := fun zq => c_5 ((nI_eq (a := a 3 j) (b := 0) (by omega) (by omega)).mpr zq)
      have c_5 : ¬ (a 3 j) = 0 := c_5
      refine j_iconst C (v := nI 0) rfl dX4_isOpen_21 (pc' := 22) rfl ?_
      exact j_iret C E dX4_isOpen_22 rfl (Nat.le_refl _) (Nat.le_refl _) ⟨bI0 (by rw [mOpen_nI hj J.2.2.1]; exact decide_eq_false c_5), rfl⟩
    · have c_5 := (nI_eq (a := a 3 j) (b := 0) (by omega) (by omega)).mp c_5
      have c_5 : (a 3 j) = 0 := c_5
      refine j_iconst C (v := nI 1) rfl dX4_isOpen_17 (pc' := 18) rfl ?_
      refine j_goto C dX4_isOpen_18 (pc' := 22) (by decide) ?_
      exact j_iret C E dX4_isOpen_22 rfl (Nat.le_refl _) (Nat.le_refl _) ⟨bI1 (by rw [mOpen_nI hj J.2.2.1]; exact decide_eq_true c_5), rfl⟩
def mUsesD (s : mS) (a : mA) (t f o : Nat) : Bool := anyN (fun k => decide (a 22 k = 1) && (decide (a 7 k = f) || decide (a 7 k = o)) && mHas a t k) (s 6)
def mDrawn (s : mS) (a : mA) (w : Nat) : Nat := cnt (fun k => decide (a 22 k = 1) && decide (a 7 k = w)) (s 6)
set_option maxRecDepth 100000 in
set_option maxHeartbeats 4000000 in
theorem m_usesDrawn (l : Launch) (hlt : l.stackTraces = false) (G : jG) {mo : Nat} {ad : Nat → Nat} {h0 : jH} (M : mG mo ad) (s : mS) (a : mA) (t f o : Nat) (J : IS s) (I : IA a) (ht : t < 40) (hf : f ≤ 2) (ho : o ≤ 2) : jM l G yX4_usesDrawn wsX4_usesDrawn 2 45 0 0 [.ref mo, .int (nI t), .int (nI f), .int (nI o)] (hM G mo ad h0 s a) (fun r h' => r = some (.int (bI (mUsesD s a t f o))) ∧ h' = hM G mo ad h0 s a) (fun _ _ => False) := by
  have h6 := J.2.1
  refine jM_of (cc := cX4_usesDrawn) (maxL := 6) (ret := (some .boolean)) hlt (by decide +kernel) rfl (Nat.le_of_ble_eq_true rfl) ?_
  intro X C E hXl hXR hXn
  have hin : ∀ w ∈ u_ws RX4 TX4 26, w ∈ wsX4_usesDrawn := by decide +kernel
  show jW X G 6 0 0 0 [(0, .ref mo), (1, .int (nI t)), (2, .int (nI f)), (3, .int (nI o))] [] ((hM G mo ad h0 s a))
  refine j_iconst C (v := nI 0) rfl dX4_usesDrawn_0 (pc' := 1) rfl ?_
  refine j_istore C (i := 4) (x := nI 0) (l' := [(4, .int (nI 0)), (0, .ref mo), (1, .int (nI t)), (2, .int (nI f)), (3, .int (nI o))]) dX4_usesDrawn_1 (pc' := 3) rfl (by decide) rfl ?_
  refine j_iconst C (v := nI 0) rfl dX4_usesDrawn_3 (pc' := 4) rfl ?_
  refine j_istore C (i := 5) (x := nI 0) (l' := [(5, .int (nI 0)), (4, .int (nI 0)), (0, .ref mo), (1, .int (nI t)), (2, .int (nI f)), (3, .int (nI o))]) dX4_usesDrawn_4 (pc' := 6) rfl (by decide) rfl ?_
  have L_6 : ∀ (N_6 : Nat) (k : Nat), (s 6 - k) < N_6 → (k ≤ s 6) → jW X G 6 0 0 6 [(0, .ref mo), (1, .int (nI t)), (2, .int (nI f)), (3, .int (nI o)), (4, .int (bI (anyN (fun k => decide (a 22 k = 1) && (decide (a 7 k = f) || decide (a 7 k = o)) && mHas a t k) k))), (5, .int (nI k))] [] ((hM G mo ad h0 s a)) := by
    intro N_6
    induction N_6 with
    | zero => intro k hm_6 hk; omega
    | succ N_6 ih_6 =>
      intro k hm_6 hk
      refine j_iload C (i := 5) (x := nI k) 5 rfl dX4_usesDrawn_6 (pc' := 8) rfl ?_
      refine j_aload_n C (i := 0) (x := mo) 0 rfl dX4_usesDrawn_8 (pc' := 9) rfl ?_
      refine m_get C (f := 6) (idx := 69) hin (by decide) rfl (by decide +kernel) dX4_usesDrawn_9 (pc' := 12) rfl ?_
      refine j_icmp_ge C dX4_usesDrawn_12 (tgt := 75) (by decide) (pc' := 15) rfl (fun c_1 => ?_) (fun c_1 => ?_)
      · have c_1 := (nI_leI (a := s 6) (b := k) (by omega) (by omega)).mp c_1
        have c_1 : (s 6) ≤ k := c_1
        refine j_iload C (i := 4) (x := bI (anyN (fun k => decide (a 22 k = 1) && (decide (a 7 k = f) || decide (a 7 k = o)) && mHas a t k) k)) 4 rfl dX4_usesDrawn_75 (pc' := 77) rfl ?_
        exact j_iret C E dX4_usesDrawn_77 (bI_nar _) (Nat.le_refl _) (Nat.le_refl _) ⟨by rw [show mUsesD s a t f o = anyN (fun k => decide (a 22 k = 1) && (decide (a 7 k = f) || decide (a 7 k = o)) && mHas a t k) k from by unfold mUsesD; rw [show s 6 = k from by omega]], rfl⟩
      · have c_1 := fun zq => c_1 ((nI_leI (a := s 6) (b := k) (by omega) (by omega)).mpr zq)
        have c_1 : ¬ (s 6) ≤ k := c_1
        refine j_iload C (i := 4) (x := bI (anyN (fun k => decide (a 22 k = 1) && (decide (a 7 k = f) || decide (a 7 k = o)) && mHas a t k) k)) 4 rfl dX4_usesDrawn_15 (pc' := 17) rfl ?_
        rcases hb_2 : (anyN (fun k => decide (a 22 k = 1) && (decide (a 7 k = f) || decide (a 7 k = o)) && mHas a t k) k) with _ | _
        · show jW X G 6 0 0 17 [(0, .ref mo), (1, .int (nI t)), (2, .int (nI f)), (3, .int (nI o)), (4, .int (nI 0)), (5, .int (nI k))] [.int (nI 0)] ((hM G mo ad h0 s a))
          refine j_if_ne C dX4_usesDrawn_17 (tgt := 62) (by decide) (pc' := 20) rfl (fun c_3 => absurd (by decide) c_3) (fun _ => ?_)
          refine j_aload_n C (i := 0) (x := mo) 0 rfl dX4_usesDrawn_20 (pc' := 21) rfl ?_
          refine m_geta C (f := 22) (idx := 59) hin (by decide) rfl (by decide +kernel) dX4_usesDrawn_21 (pc' := 24) rfl ?_
          refine j_iload C (i := 5) (x := nI k) 5 rfl dX4_usesDrawn_24 (pc' := 26) rfl ?_
          refine m_zld C M (f := 22) (j := k) (by decide) rfl rfl rfl (show k < 40 by omega) dX4_usesDrawn_26 (pc' := 27) rfl ?_
          have B_4 := IA.drawn I k
          refine j_if_eq C dX4_usesDrawn_27 (tgt := 66) (by decide) (pc' := 30) rfl (fun c_5 => ?_) (fun c_5 => ?_)
          · have c_5 := (nI_eq (a := a 22 k) (b := 0) (by omega) (by omega)).mp c_5
            have c_5 : (a 22 k) = 0 := c_5
            refine j_iconst C (v := nI 0) rfl dX4_usesDrawn_66 (pc' := 67) rfl ?_
            refine j_istore C (i := 4) (x := nI 0) (l' := [(4, .int (nI 0)), (0, .ref mo), (1, .int (nI t)), (2, .int (nI f)), (3, .int (nI o)), (5, .int (nI k))]) dX4_usesDrawn_67 (pc' := 69) rfl (by decide) rfl ?_
            refine j_iinc C (i := 5) (q := 5) (x := nI k) (v := nI (k + 1)) (l' := [(5, .int (nI (k + 1))), (4, .int (nI 0)), (0, .ref mo), (1, .int (nI t)), (2, .int (nI f)), (3, .int (nI o))]) dX4_usesDrawn_69 (pc' := 72) rfl rfl (nI_add _ _) (by decide) rfl ?_
            refine j_goto C dX4_usesDrawn_72 (pc' := 6) (by decide) ?_
            refine jt_loc (l' := [(5, .int (nI (k + 1))), (4, .int (bI (anyN (fun k => decide (a 22 k = 1) && (decide (a 7 k = f) || decide (a 7 k = o)) && mHas a t k) (k + 1)))), (0, .ref mo), (1, .int (nI t)), (2, .int (nI f)), (3, .int (nI o))]) (by rw [← bI_0 (show anyN (fun k => decide (a 22 k = 1) && (decide (a 7 k = f) || decide (a 7 k = o)) && mHas a t k) (k + 1) = false by rw [anyN_s, hb_2]; show (decide (a 22 k = 1) && (decide (a 7 k = f) || decide (a 7 k = o)) && mHas a t k) = _; rw [decide_eq_false (show ¬ a 22 k = 1 by omega)]; rfl)]) ?_
            exact jW.locals [2, 3, 4, 5, 1, 0] rfl (ih_6 (k + 1) (by omega) (by omega))
          · have c_5 := fun zq => c_5 ((nI_eq (a := a 22 k) (b := 0) (by omega) (by omega)).mpr zq)
            have c_5 : ¬ (a 22 k) = 0 := c_5
            refine j_aload_n C (i := 0) (x := mo) 0 rfl dX4_usesDrawn_30 (pc' := 31) rfl ?_
            refine m_geta C (f := 7) (idx := 17) hin (by decide) rfl (by decide +kernel) dX4_usesDrawn_31 (pc' := 34) rfl ?_
            refine j_iload C (i := 5) (x := nI k) 5 rfl dX4_usesDrawn_34 (pc' := 36) rfl ?_
            refine m_ald C M (f := 7) (j := k) (by decide) rfl rfl rfl (show k < 40 by omega) dX4_usesDrawn_36 (pc' := 37) rfl ?_
            have B_6 := IA.kind I k
            refine j_iload_n C (i := 2) (x := nI f) 2 rfl dX4_usesDrawn_37 (pc' := 38) rfl ?_
            refine j_icmp_eq C dX4_usesDrawn_38 (tgt := 52) (by decide) (pc' := 41) rfl (fun c_7 => ?_) (fun c_7 => ?_)
            · have c_7 := (nI_eq (a := a 7 k) (b := f) (by omega) (by omega)).mp c_7
              have c_7 : (a 7 k) = f := c_7
              refine j_aload_n C (i := 0) (x := mo) 0 rfl dX4_usesDrawn_52 (pc' := 53) rfl ?_
              refine j_iload_n C (i := 1) (x := nI t) 1 rfl dX4_usesDrawn_53 (pc' := 54) rfl ?_
              refine j_iload C (i := 5) (x := nI k) 5 rfl dX4_usesDrawn_54 (pc' := 56) rfl ?_
              refine j_callV C (As := [.int (nI t), .int (nI k)]) (rest := []) (m_hasMember X.2.1 C.2.2.2.2.2.2.2.2 G M s a t k I (by omega) (by omega)) (cwV 2 C.2.2.2.2.1 gX4_usesDrawn_X4_hasMember rfl rfl rfl (by decide +kernel) (by rw [hXR]; decide)) hM_obj rfl rfl rfl (Nat.le_of_ble_eq_true rfl) dX4_usesDrawn_56 (pc' := 59) rfl (by rw [hXR]; exact Nat.zero_le _) (by rw [hXR]; exact Nat.zero_le _) (fun _ _ z => z.elim) ?_
              rintro r h' ⟨rfl, rfl⟩
              show jW X G 6 0 0 59 [(0, .ref mo), (1, .int (nI t)), (2, .int (nI f)), (3, .int (nI o)), (4, .int (nI 0)), (5, .int (nI k))] [.int (bI (mHas a t k))] ((hM G mo ad h0 s a))
              rcases hb_8 : (mHas a t k) with _ | _
              · show jW X G 6 0 0 59 [(0, .ref mo), (1, .int (nI t)), (2, .int (nI f)), (3, .int (nI o)), (4, .int (nI 0)), (5, .int (nI k))] [.int (nI 0)] ((hM G mo ad h0 s a))
                refine j_if_eq C dX4_usesDrawn_59 (tgt := 66) (by decide) (pc' := 62) rfl (fun _ => ?_) (fun c_9 => absurd (by decide) c_9)
                refine j_iconst C (v := nI 0) rfl dX4_usesDrawn_66 (pc' := 67) rfl ?_
                refine j_istore C (i := 4) (x := nI 0) (l' := [(4, .int (nI 0)), (0, .ref mo), (1, .int (nI t)), (2, .int (nI f)), (3, .int (nI o)), (5, .int (nI k))]) dX4_usesDrawn_67 (pc' := 69) rfl (by decide) rfl ?_
                refine j_iinc C (i := 5) (q := 5) (x := nI k) (v := nI (k + 1)) (l' := [(5, .int (nI (k + 1))), (4, .int (nI 0)), (0, .ref mo), (1, .int (nI t)), (2, .int (nI f)), (3, .int (nI o))]) dX4_usesDrawn_69 (pc' := 72) rfl rfl (nI_add _ _) (by decide) rfl ?_
                refine j_goto C dX4_usesDrawn_72 (pc' := 6) (by decide) ?_
                refine jt_loc (l' := [(5, .int (nI (k + 1))), (4, .int (bI (anyN (fun k => decide (a 22 k = 1) && (decide (a 7 k = f) || decide (a 7 k = o)) && mHas a t k) (k + 1)))), (0, .ref mo), (1, .int (nI t)), (2, .int (nI f)), (3, .int (nI o))]) (by rw [← bI_0 (show anyN (fun k => decide (a 22 k = 1) && (decide (a 7 k = f) || decide (a 7 k = o)) && mHas a t k) (k + 1) = false by rw [anyN_s, hb_2]; show (decide (a 22 k = 1) && (decide (a 7 k = f) || decide (a 7 k = o)) && mHas a t k) = _; rw [decide_eq_true (show a 22 k = 1 by omega), decide_eq_true c_7, hb_8]; rfl)]) ?_
                exact jW.locals [2, 3, 4, 5, 1, 0] rfl (ih_6 (k + 1) (by omega) (by omega))
              · show jW X G 6 0 0 59 [(0, .ref mo), (1, .int (nI t)), (2, .int (nI f)), (3, .int (nI o)), (4, .int (nI 0)), (5, .int (nI k))] [.int (nI 1)] ((hM G mo ad h0 s a))
                refine j_if_eq C dX4_usesDrawn_59 (tgt := 66) (by decide) (pc' := 62) rfl (fun c_10 => absurd c_10 (by decide)) (fun _ => ?_)
                refine j_iconst C (v := nI 1) rfl dX4_usesDrawn_62 (pc' := 63) rfl ?_
                refine j_goto C dX4_usesDrawn_63 (pc' := 67) (by decide) ?_
                refine j_istore C (i := 4) (x := nI 1) (l' := [(4, .int (nI 1)), (0, .ref mo), (1, .int (nI t)), (2, .int (nI f)), (3, .int (nI o)), (5, .int (nI k))]) dX4_usesDrawn_67 (pc' := 69) rfl (by decide) rfl ?_
                refine j_iinc C (i := 5) (q := 5) (x := nI k) (v := nI (k + 1)) (l' := [(5, .int (nI (k + 1))), (4, .int (nI 1)), (0, .ref mo), (1, .int (nI t)), (2, .int (nI f)), (3, .int (nI o))]) dX4_usesDrawn_69 (pc' := 72) rfl rfl (nI_add _ _) (by decide) rfl ?_
                refine j_goto C dX4_usesDrawn_72 (pc' := 6) (by decide) ?_
                refine jt_loc (l' := [(5, .int (nI (k + 1))), (4, .int (bI (anyN (fun k => decide (a 22 k = 1) && (decide (a 7 k = f) || decide (a 7 k = o)) && mHas a t k) (k + 1)))), (0, .ref mo), (1, .int (nI t)), (2, .int (nI f)), (3, .int (nI o))]) (by rw [← bI_1 (show anyN (fun k => decide (a 22 k = 1) && (decide (a 7 k = f) || decide (a 7 k = o)) && mHas a t k) (k + 1) = true by rw [anyN_s, hb_2]; show (decide (a 22 k = 1) && (decide (a 7 k = f) || decide (a 7 k = o)) && mHas a t k) = _; rw [decide_eq_true (show a 22 k = 1 by omega), decide_eq_true c_7, hb_8]; rfl)]) ?_
                exact jW.locals [2, 3, 4, 5, 1, 0] rfl (ih_6 (k + 1) (by omega) (by omega))
            · have c_7 := fun zq => c_7 ((nI_eq (a := a 7 k) (b := f) (by omega) (by omega)).mpr zq)
              have c_7 : ¬ (a 7 k) = f := c_7
              refine j_aload_n C (i := 0) (x := mo) 0 rfl dX4_usesDrawn_41 (pc' := 42) rfl ?_
              refine m_geta C (f := 7) (idx := 17) hin (by decide) rfl (by decide +kernel) dX4_usesDrawn_42 (pc' := 45) rfl ?_
              refine j_iload C (i := 5) (x := nI k) 5 rfl dX4_usesDrawn_45 (pc' := 47) rfl ?_
              refine m_ald C M (f := 7) (j := k) (by decide) rfl rfl rfl (show k < 40 by omega) dX4_usesDrawn_47 (pc' := 48) rfl ?_
              have B_11 := IA.kind I k
              refine j_iload_n C (i := 3) (x := nI o) 3 rfl dX4_usesDrawn_48 (pc' := 49) rfl ?_
              refine j_icmp_ne C dX4_usesDrawn_49 (tgt := 66) (by decide) (pc' := 52) rfl (fun c_12 => ?_) (fun c_12 => ?_)
              · have c_12 := fun zq => c_12 ((nI_eq (a := a 7 k) (b := o) (by omega) (by omega)).mpr zq)
                have c_12 : ¬ (a 7 k) = o := c_12
                refine j_iconst C (v := nI 0) rfl dX4_usesDrawn_66 (pc' := 67) rfl ?_
                refine j_istore C (i := 4) (x := nI 0) (l' := [(4, .int (nI 0)), (0, .ref mo), (1, .int (nI t)), (2, .int (nI f)), (3, .int (nI o)), (5, .int (nI k))]) dX4_usesDrawn_67 (pc' := 69) rfl (by decide) rfl ?_
                refine j_iinc C (i := 5) (q := 5) (x := nI k) (v := nI (k + 1)) (l' := [(5, .int (nI (k + 1))), (4, .int (nI 0)), (0, .ref mo), (1, .int (nI t)), (2, .int (nI f)), (3, .int (nI o))]) dX4_usesDrawn_69 (pc' := 72) rfl rfl (nI_add _ _) (by decide) rfl ?_
                refine j_goto C dX4_usesDrawn_72 (pc' := 6) (by decide) ?_
                refine jt_loc (l' := [(5, .int (nI (k + 1))), (4, .int (bI (anyN (fun k => decide (a 22 k = 1) && (decide (a 7 k = f) || decide (a 7 k = o)) && mHas a t k) (k + 1)))), (0, .ref mo), (1, .int (nI t)), (2, .int (nI f)), (3, .int (nI o))]) (by rw [← bI_0 (show anyN (fun k => decide (a 22 k = 1) && (decide (a 7 k = f) || decide (a 7 k = o)) && mHas a t k) (k + 1) = false by rw [anyN_s, hb_2]; show (decide (a 22 k = 1) && (decide (a 7 k = f) || decide (a 7 k = o)) && mHas a t k) = _; rw [decide_eq_true (show a 22 k = 1 by omega), decide_eq_false c_7, decide_eq_false c_12]; rfl)]) ?_
                exact jW.locals [2, 3, 4, 5, 1, 0] rfl (ih_6 (k + 1) (by omega) (by omega))
              · have c_12 := (nI_eq (a := a 7 k) (b := o) (by omega) (by omega)).mp c_12
                have c_12 : (a 7 k) = o := c_12
                refine j_aload_n C (i := 0) (x := mo) 0 rfl dX4_usesDrawn_52 (pc' := 53) rfl ?_
                refine j_iload_n C (i := 1) (x := nI t) 1 rfl dX4_usesDrawn_53 (pc' := 54) rfl ?_
                refine j_iload C (i := 5) (x := nI k) 5 rfl dX4_usesDrawn_54 (pc' := 56) rfl ?_
                refine j_callV C (As := [.int (nI t), .int (nI k)]) (rest := []) (m_hasMember X.2.1 C.2.2.2.2.2.2.2.2 G M s a t k I (by omega) (by omega)) (cwV 2 C.2.2.2.2.1 gX4_usesDrawn_X4_hasMember rfl rfl rfl (by decide +kernel) (by rw [hXR]; decide)) hM_obj rfl rfl rfl (Nat.le_of_ble_eq_true rfl) dX4_usesDrawn_56 (pc' := 59) rfl (by rw [hXR]; exact Nat.zero_le _) (by rw [hXR]; exact Nat.zero_le _) (fun _ _ z => z.elim) ?_
                rintro r h' ⟨rfl, rfl⟩
                show jW X G 6 0 0 59 [(0, .ref mo), (1, .int (nI t)), (2, .int (nI f)), (3, .int (nI o)), (4, .int (nI 0)), (5, .int (nI k))] [.int (bI (mHas a t k))] ((hM G mo ad h0 s a))
                rcases hb_13 : (mHas a t k) with _ | _
                · show jW X G 6 0 0 59 [(0, .ref mo), (1, .int (nI t)), (2, .int (nI f)), (3, .int (nI o)), (4, .int (nI 0)), (5, .int (nI k))] [.int (nI 0)] ((hM G mo ad h0 s a))
                  refine j_if_eq C dX4_usesDrawn_59 (tgt := 66) (by decide) (pc' := 62) rfl (fun _ => ?_) (fun c_14 => absurd (by decide) c_14)
                  refine j_iconst C (v := nI 0) rfl dX4_usesDrawn_66 (pc' := 67) rfl ?_
                  refine j_istore C (i := 4) (x := nI 0) (l' := [(4, .int (nI 0)), (0, .ref mo), (1, .int (nI t)), (2, .int (nI f)), (3, .int (nI o)), (5, .int (nI k))]) dX4_usesDrawn_67 (pc' := 69) rfl (by decide) rfl ?_
                  refine j_iinc C (i := 5) (q := 5) (x := nI k) (v := nI (k + 1)) (l' := [(5, .int (nI (k + 1))), (4, .int (nI 0)), (0, .ref mo), (1, .int (nI t)), (2, .int (nI f)), (3, .int (nI o))]) dX4_usesDrawn_69 (pc' := 72) rfl rfl (nI_add _ _) (by decide) rfl ?_
                  refine j_goto C dX4_usesDrawn_72 (pc' := 6) (by decide) ?_
                  refine jt_loc (l' := [(5, .int (nI (k + 1))), (4, .int (bI (anyN (fun k => decide (a 22 k = 1) && (decide (a 7 k = f) || decide (a 7 k = o)) && mHas a t k) (k + 1)))), (0, .ref mo), (1, .int (nI t)), (2, .int (nI f)), (3, .int (nI o))]) (by rw [← bI_0 (show anyN (fun k => decide (a 22 k = 1) && (decide (a 7 k = f) || decide (a 7 k = o)) && mHas a t k) (k + 1) = false by rw [anyN_s, hb_2]; show (decide (a 22 k = 1) && (decide (a 7 k = f) || decide (a 7 k = o)) && mHas a t k) = _; rw [decide_eq_true (show a 22 k = 1 by omega), decide_eq_false c_7, decide_eq_true c_12, hb_13]; rfl)]) ?_
                  exact jW.locals [2, 3, 4, 5, 1, 0] rfl (ih_6 (k + 1) (by omega) (by omega))
                · show jW X G 6 0 0 59 [(0, .ref mo), (1, .int (nI t)), (2, .int (nI f)), (3, .int (nI o)), (4, .int (nI 0)), (5, .int (nI k))] [.int (nI 1)] ((hM G mo ad h0 s a))
                  refine j_if_eq C dX4_usesDrawn_59 (tgt := 66) (by decide) (pc' := 62) rfl (fun c_15 => absurd c_15 (by decide)) (fun _ => ?_)
                  refine j_iconst C (v := nI 1) rfl dX4_usesDrawn_62 (pc' := 63) rfl ?_
                  refine j_goto C dX4_usesDrawn_63 (pc' := 67) (by decide) ?_
                  refine j_istore C (i := 4) (x := nI 1) (l' := [(4, .int (nI 1)), (0, .ref mo), (1, .int (nI t)), (2, .int (nI f)), (3, .int (nI o)), (5, .int (nI k))]) dX4_usesDrawn_67 (pc' := 69) rfl (by decide) rfl ?_
                  refine j_iinc C (i := 5) (q := 5) (x := nI k) (v := nI (k + 1)) (l' := [(5, .int (nI (k + 1))), (4, .int (nI 1)), (0, .ref mo), (1, .int (nI t)), (2, .int (nI f)), (3, .int (nI o))]) dX4_usesDrawn_69 (pc' := 72) rfl rfl (nI_add _ _) (by decide) rfl ?_
                  refine j_goto C dX4_usesDrawn_72 (pc' := 6) (by decide) ?_
                  refine jt_loc (l' := [(5, .int (nI (k + 1))), (4, .int (bI (anyN (fun k => decide (a 22 k = 1) && (decide (a 7 k = f) || decide (a 7 k = o)) && mHas a t k) (k + 1)))), (0, .ref mo), (1, .int (nI t)), (2, .int (nI f)), (3, .int (nI o))]) (by rw [← bI_1 (show anyN (fun k => decide (a 22 k = 1) && (decide (a 7 k = f) || decide (a 7 k = o)) && mHas a t k) (k + 1) = true by rw [anyN_s, hb_2]; show (decide (a 22 k = 1) && (decide (a 7 k = f) || decide (a 7 k = o)) && mHas a t k) = _; rw [decide_eq_true (show a 22 k = 1 by omega), decide_eq_false c_7, decide_eq_true c_12, hb_13]; rfl)]) ?_
                  exact jW.locals [2, 3, 4, 5, 1, 0] rfl (ih_6 (k + 1) (by omega) (by omega))
        · show jW X G 6 0 0 17 [(0, .ref mo), (1, .int (nI t)), (2, .int (nI f)), (3, .int (nI o)), (4, .int (nI 1)), (5, .int (nI k))] [.int (nI 1)] ((hM G mo ad h0 s a))
          refine j_if_ne C dX4_usesDrawn_17 (tgt := 62) (by decide) (pc' := 20) rfl (fun _ => ?_) (fun c_16 => absurd c_16 (by decide))
          refine j_iconst C (v := nI 1) rfl dX4_usesDrawn_62 (pc' := 63) rfl ?_
          refine j_goto C dX4_usesDrawn_63 (pc' := 67) (by decide) ?_
          refine j_istore C (i := 4) (x := nI 1) (l' := [(4, .int (nI 1)), (0, .ref mo), (1, .int (nI t)), (2, .int (nI f)), (3, .int (nI o)), (5, .int (nI k))]) dX4_usesDrawn_67 (pc' := 69) rfl (by decide) rfl ?_
          refine j_iinc C (i := 5) (q := 5) (x := nI k) (v := nI (k + 1)) (l' := [(5, .int (nI (k + 1))), (4, .int (nI 1)), (0, .ref mo), (1, .int (nI t)), (2, .int (nI f)), (3, .int (nI o))]) dX4_usesDrawn_69 (pc' := 72) rfl rfl (nI_add _ _) (by decide) rfl ?_
          refine j_goto C dX4_usesDrawn_72 (pc' := 6) (by decide) ?_
          refine jt_loc (l' := [(5, .int (nI (k + 1))), (4, .int (bI (anyN (fun k => decide (a 22 k = 1) && (decide (a 7 k = f) || decide (a 7 k = o)) && mHas a t k) (k + 1)))), (0, .ref mo), (1, .int (nI t)), (2, .int (nI f)), (3, .int (nI o))]) (by rw [← bI_1 (show anyN (fun k => decide (a 22 k = 1) && (decide (a 7 k = f) || decide (a 7 k = o)) && mHas a t k) (k + 1) = true by rw [anyN_s, hb_2]; rfl)]) ?_
          exact jW.locals [2, 3, 4, 5, 1, 0] rfl (ih_6 (k + 1) (by omega) (by omega))
  exact jW.locals [2, 3, 4, 5, 1, 0] rfl (L_6 ((s 6 - 0) + 1) 0 (by omega) (by omega))
set_option maxRecDepth 100000 in
set_option maxHeartbeats 4000000 in
theorem m_drawnOf (l : Launch) (hlt : l.stackTraces = false) (G : jG) {mo : Nat} {ad : Nat → Nat} {h0 : jH} (M : mG mo ad) (s : mS) (a : mA) (w : Nat) (J : IS s) (I : IA a) (hw : w ≤ 2) : jM l G yX4_drawnOf wsX4_drawnOf 0 0 0 0 [.ref mo, .int (nI w)] (hM G mo ad h0 s a) (fun r h' => r = some (.int (nI (mDrawn s a w))) ∧ h' = hM G mo ad h0 s a) (fun _ _ => False) := by
  have h6 := J.2.1
  refine jM_of (cc := cX4_drawnOf) (maxL := 4) (ret := (some .int)) hlt (by decide +kernel) rfl (Nat.le_of_ble_eq_true rfl) ?_
  intro X C E hXl hXR hXn
  have hin : ∀ w ∈ u_ws RX4 TX4 26, w ∈ wsX4_drawnOf := by decide +kernel
  show jW X G 4 0 0 0 [(0, .ref mo), (1, .int (nI w))] [] ((hM G mo ad h0 s a))
  refine j_iconst C (v := nI 0) rfl dX4_drawnOf_0 (pc' := 1) rfl ?_
  refine j_istore_n C (i := 2) (x := nI 0) (l' := [(2, .int (nI 0)), (0, .ref mo), (1, .int (nI w))]) dX4_drawnOf_1 (pc' := 2) rfl (by decide) rfl ?_
  refine j_iconst C (v := nI 0) rfl dX4_drawnOf_2 (pc' := 3) rfl ?_
  refine j_istore_n C (i := 3) (x := nI 0) (l' := [(3, .int (nI 0)), (2, .int (nI 0)), (0, .ref mo), (1, .int (nI w))]) dX4_drawnOf_3 (pc' := 4) rfl (by decide) rfl ?_
  have L_4 : ∀ (N_4 : Nat) (k : Nat), (s 6 - k) < N_4 → (k ≤ s 6) → jW X G 4 0 0 4 [(0, .ref mo), (1, .int (nI w)), (2, .int (nI (cnt (fun k => decide (a 22 k = 1) && decide (a 7 k = w)) k))), (3, .int (nI k))] [] ((hM G mo ad h0 s a)) := by
    intro N_4
    induction N_4 with
    | zero => intro k hm_4 hk; omega
    | succ N_4 ih_4 =>
      intro k hm_4 hk
      refine j_iload_n C (i := 3) (x := nI k) 3 rfl dX4_drawnOf_4 (pc' := 5) rfl ?_
      refine j_aload_n C (i := 0) (x := mo) 0 rfl dX4_drawnOf_5 (pc' := 6) rfl ?_
      refine m_get C (f := 6) (idx := 69) hin (by decide) rfl (by decide +kernel) dX4_drawnOf_6 (pc' := 9) rfl ?_
      refine j_icmp_ge C dX4_drawnOf_9 (tgt := 45) (by decide) (pc' := 12) rfl (fun c_1 => ?_) (fun c_1 => ?_)
      · have c_1 := (nI_leI (a := s 6) (b := k) (by omega) (by omega)).mp c_1
        have c_1 : (s 6) ≤ k := c_1
        refine j_iload_n C (i := 2) (x := nI (cnt (fun k => decide (a 22 k = 1) && decide (a 7 k = w)) k)) 2 rfl dX4_drawnOf_45 (pc' := 46) rfl ?_
        exact j_iret C E dX4_drawnOf_46 rfl (Nat.le_refl _) (Nat.le_refl _) ⟨by rw [show mDrawn s a w = cnt (fun k => decide (a 22 k = 1) && decide (a 7 k = w)) k from by unfold mDrawn; rw [show s 6 = k from by omega]], rfl⟩
      · have c_1 := fun zq => c_1 ((nI_leI (a := s 6) (b := k) (by omega) (by omega)).mpr zq)
        have c_1 : ¬ (s 6) ≤ k := c_1
        refine j_iload_n C (i := 2) (x := nI (cnt (fun k => decide (a 22 k = 1) && decide (a 7 k = w)) k)) 2 rfl dX4_drawnOf_12 (pc' := 13) rfl ?_
        refine j_aload_n C (i := 0) (x := mo) 0 rfl dX4_drawnOf_13 (pc' := 14) rfl ?_
        refine m_geta C (f := 22) (idx := 59) hin (by decide) rfl (by decide +kernel) dX4_drawnOf_14 (pc' := 17) rfl ?_
        refine j_iload_n C (i := 3) (x := nI k) 3 rfl dX4_drawnOf_17 (pc' := 18) rfl ?_
        refine m_zld C M (f := 22) (j := k) (by decide) rfl rfl rfl (show k < 40 by omega) dX4_drawnOf_18 (pc' := 19) rfl ?_
        have B_2 := IA.drawn I k
        refine j_if_eq C dX4_drawnOf_19 (tgt := 36) (by decide) (pc' := 22) rfl (fun c_3 => ?_) (fun c_3 => ?_)
        · have c_3 := (nI_eq (a := a 22 k) (b := 0) (by omega) (by omega)).mp c_3
          have c_3 : (a 22 k) = 0 := c_3
          refine j_iconst C (v := nI 0) rfl dX4_drawnOf_36 (pc' := 37) rfl ?_
          refine j_iadd C (x := nI (cnt (fun k => decide (a 22 k = 1) && decide (a 7 k = w)) k)) (y := nI 0) dX4_drawnOf_37 (pc' := 38) rfl ?_
          refine jt_i (nI_add _ _) ?_
          refine j_istore_n C (i := 2) (x := nI (cnt (fun k => decide (a 22 k = 1) && decide (a 7 k = w)) k + 0)) (l' := [(2, .int (nI (cnt (fun k => decide (a 22 k = 1) && decide (a 7 k = w)) k + 0))), (0, .ref mo), (1, .int (nI w)), (3, .int (nI k))]) dX4_drawnOf_38 (pc' := 39) rfl (by decide) rfl ?_
          refine j_iinc C (i := 3) (q := 3) (x := nI k) (v := nI (k + 1)) (l' := [(3, .int (nI (k + 1))), (2, .int (nI (cnt (fun k => decide (a 22 k = 1) && decide (a 7 k = w)) k + 0))), (0, .ref mo), (1, .int (nI w))]) dX4_drawnOf_39 (pc' := 42) rfl rfl (nI_add _ _) (by decide) rfl ?_
          refine j_goto C dX4_drawnOf_42 (pc' := 4) (by decide) ?_
          refine jt_loc (l' := [(3, .int (nI (k + 1))), (2, .int (nI (cnt (fun k => decide (a 22 k = 1) && decide (a 7 k = w)) (k + 1)))), (0, .ref mo), (1, .int (nI w))]) (by rw [← cnt_b (P := (fun k => decide (a 22 k = 1) && decide (a 7 k = w))) (n := k) (b := false) (by show (decide (a 22 k = 1) && decide (a 7 k = w)) = _; rw [decide_eq_false (show ¬ a 22 k = 1 by omega)]; rfl)]; rfl) ?_
          exact jW.locals [2, 3, 1, 0] rfl (ih_4 (k + 1) (by omega) (by omega))
        · have c_3 := fun zq => c_3 ((nI_eq (a := a 22 k) (b := 0) (by omega) (by omega)).mpr zq)
          have c_3 : ¬ (a 22 k) = 0 := c_3
          refine j_aload_n C (i := 0) (x := mo) 0 rfl dX4_drawnOf_22 (pc' := 23) rfl ?_
          refine m_geta C (f := 7) (idx := 17) hin (by decide) rfl (by decide +kernel) dX4_drawnOf_23 (pc' := 26) rfl ?_
          refine j_iload_n C (i := 3) (x := nI k) 3 rfl dX4_drawnOf_26 (pc' := 27) rfl ?_
          refine m_ald C M (f := 7) (j := k) (by decide) rfl rfl rfl (show k < 40 by omega) dX4_drawnOf_27 (pc' := 28) rfl ?_
          have B_4 := IA.kind I k
          refine j_iload_n C (i := 1) (x := nI w) 1 rfl dX4_drawnOf_28 (pc' := 29) rfl ?_
          refine j_icmp_ne C dX4_drawnOf_29 (tgt := 36) (by decide) (pc' := 32) rfl (fun c_5 => ?_) (fun c_5 => ?_)
          · have c_5 := fun zq => c_5 ((nI_eq (a := a 7 k) (b := w) (by omega) (by omega)).mpr zq)
            have c_5 : ¬ (a 7 k) = w := c_5
            refine j_iconst C (v := nI 0) rfl dX4_drawnOf_36 (pc' := 37) rfl ?_
            refine j_iadd C (x := nI (cnt (fun k => decide (a 22 k = 1) && decide (a 7 k = w)) k)) (y := nI 0) dX4_drawnOf_37 (pc' := 38) rfl ?_
            refine jt_i (nI_add _ _) ?_
            refine j_istore_n C (i := 2) (x := nI (cnt (fun k => decide (a 22 k = 1) && decide (a 7 k = w)) k + 0)) (l' := [(2, .int (nI (cnt (fun k => decide (a 22 k = 1) && decide (a 7 k = w)) k + 0))), (0, .ref mo), (1, .int (nI w)), (3, .int (nI k))]) dX4_drawnOf_38 (pc' := 39) rfl (by decide) rfl ?_
            refine j_iinc C (i := 3) (q := 3) (x := nI k) (v := nI (k + 1)) (l' := [(3, .int (nI (k + 1))), (2, .int (nI (cnt (fun k => decide (a 22 k = 1) && decide (a 7 k = w)) k + 0))), (0, .ref mo), (1, .int (nI w))]) dX4_drawnOf_39 (pc' := 42) rfl rfl (nI_add _ _) (by decide) rfl ?_
            refine j_goto C dX4_drawnOf_42 (pc' := 4) (by decide) ?_
            refine jt_loc (l' := [(3, .int (nI (k + 1))), (2, .int (nI (cnt (fun k => decide (a 22 k = 1) && decide (a 7 k = w)) (k + 1)))), (0, .ref mo), (1, .int (nI w))]) (by rw [← cnt_b (P := (fun k => decide (a 22 k = 1) && decide (a 7 k = w))) (n := k) (b := false) (by show (decide (a 22 k = 1) && decide (a 7 k = w)) = _; rw [decide_eq_true (show a 22 k = 1 by omega), decide_eq_false c_5]; rfl)]; rfl) ?_
            exact jW.locals [2, 3, 1, 0] rfl (ih_4 (k + 1) (by omega) (by omega))
          · have c_5 := (nI_eq (a := a 7 k) (b := w) (by omega) (by omega)).mp c_5
            have c_5 : (a 7 k) = w := c_5
            refine j_iconst C (v := nI 1) rfl dX4_drawnOf_32 (pc' := 33) rfl ?_
            refine j_goto C dX4_drawnOf_33 (pc' := 37) (by decide) ?_
            refine j_iadd C (x := nI (cnt (fun k => decide (a 22 k = 1) && decide (a 7 k = w)) k)) (y := nI 1) dX4_drawnOf_37 (pc' := 38) rfl ?_
            refine jt_i (nI_add _ _) ?_
            refine j_istore_n C (i := 2) (x := nI (cnt (fun k => decide (a 22 k = 1) && decide (a 7 k = w)) k + 1)) (l' := [(2, .int (nI (cnt (fun k => decide (a 22 k = 1) && decide (a 7 k = w)) k + 1))), (0, .ref mo), (1, .int (nI w)), (3, .int (nI k))]) dX4_drawnOf_38 (pc' := 39) rfl (by decide) rfl ?_
            refine j_iinc C (i := 3) (q := 3) (x := nI k) (v := nI (k + 1)) (l' := [(3, .int (nI (k + 1))), (2, .int (nI (cnt (fun k => decide (a 22 k = 1) && decide (a 7 k = w)) k + 1))), (0, .ref mo), (1, .int (nI w))]) dX4_drawnOf_39 (pc' := 42) rfl rfl (nI_add _ _) (by decide) rfl ?_
            refine j_goto C dX4_drawnOf_42 (pc' := 4) (by decide) ?_
            refine jt_loc (l' := [(3, .int (nI (k + 1))), (2, .int (nI (cnt (fun k => decide (a 22 k = 1) && decide (a 7 k = w)) (k + 1)))), (0, .ref mo), (1, .int (nI w))]) (by rw [← cnt_b (P := (fun k => decide (a 22 k = 1) && decide (a 7 k = w))) (n := k) (b := true) (by show (decide (a 22 k = 1) && decide (a 7 k = w)) = _; rw [decide_eq_true (show a 22 k = 1 by omega), decide_eq_true c_5]; rfl)]; rfl) ?_
            exact jW.locals [2, 3, 1, 0] rfl (ih_4 (k + 1) (by omega) (by omega))
  exact jW.locals [2, 3, 1, 0] rfl (L_4 ((s 6 - 0) + 1) 0 (by omega) (by omega))
def mP (b : Nat) : Int32 := nI b - 1
theorem mP_0 : mP 0 = (-1) := rfl
theorem mP_s (p : Nat) : mP (p + 1) = nI p := nI_pred p
def bkF (a : mA) (w : Nat) : Nat → Nat → Nat
  | 0, _ => 0
  | _ + 1, 0 => 0
  | f + 1, p + 1 => if w ≤ a 15 p then bkF a w f (a 13 p) else a 12 p
/-- the number of the latest version of a thing made ahead of a minute -/
def mBef (a : mA) (t w : Nat) : Nat := bkF a w 1400 (a 8 t + 1)
theorem bk_ge {a : mA} {w f p x : Nat} (h : x = bkF a w f (p + 1)) (hf : p + 1 ≤ f) (hc : w ≤ a 15 p) (hz : a 13 p ≤ p) : x = bkF a w (f - 1) (a 13 p) ∧ a 13 p ≤ f - 1 := by
  obtain ⟨g, rfl⟩ : ∃ g, f = g + 1 := ⟨f - 1, by omega⟩
  have e : bkF a w (g + 1) (p + 1) = if w ≤ a 15 p then bkF a w g (a 13 p) else a 12 p := rfl
  rw [e, if_pos hc] at h
  exact ⟨h, by show _ ≤ g + 1 - 1; omega⟩
theorem bk_lt {a : mA} {w f p x : Nat} (h : x = bkF a w f (p + 1)) (hf : p + 1 ≤ f) (hc : ¬ w ≤ a 15 p) : x = a 12 p := by
  obtain ⟨g, rfl⟩ : ∃ g, f = g + 1 := ⟨f - 1, by omega⟩
  have e : bkF a w (g + 1) (p + 1) = if w ≤ a 15 p then bkF a w g (a 13 p) else a 12 p := rfl
  rw [e, if_neg hc] at h
  exact h
theorem bk_0 {a : mA} {w f x : Nat} (h : x = bkF a w f 0) : x = 0 := by cases f <;> exact h
theorem nI_ne1 {n : Nat} (h : n < 2 ^ 31) : ¬ nI n = (-1) := by
  intro e
  have := congrArg Int32.toInt e
  rw [nI_toInt h, show ((-1 : Int32)).toInt = -1 from rfl] at this
  omega
set_option maxRecDepth 100000 in
set_option maxHeartbeats 4000000 in
theorem m_before (l : Launch) (hlt : l.stackTraces = false) (G : jG) {mo : Nat} {ad : Nat → Nat} {h0 : jH} (M : mG mo ad) (s : mS) (a : mA) (t w : Nat) (I : IA a) (Z : a 13 0 = 0) (ht : t < 40) (hw : w < 2097152) : jM l G yX4_before wsX4_before 0 0 0 0 [.ref mo, .int (nI t), .int (nI w)] (hM G mo ad h0 s a) (fun r h' => r = some (.int (nI (mBef a t w))) ∧ h' = hM G mo ad h0 s a) (fun _ _ => False) := by
  have hl := IA.last I t
  refine jM_of (cc := cX4_before) (maxL := 4) (ret := (some .int)) hlt (by decide +kernel) rfl (Nat.le_of_ble_eq_true rfl) ?_
  intro X C E hXl hXR hXn
  have hin : ∀ w ∈ u_ws RX4 TX4 26, w ∈ wsX4_before := by decide +kernel
  show jW X G 4 0 0 0 [(0, .ref mo), (1, .int (nI t)), (2, .int (nI w))] [] ((hM G mo ad h0 s a))
  refine j_aload_n C (i := 0) (x := mo) 0 rfl dX4_before_0 (pc' := 1) rfl ?_
  refine m_geta C (f := 8) (idx := 20) hin (by decide) rfl (by decide +kernel) dX4_before_1 (pc' := 4) rfl ?_
  refine j_iload_n C (i := 1) (x := nI t) 1 rfl dX4_before_4 (pc' := 5) rfl ?_
  refine m_ald C M (f := 8) (j := t) (by decide) rfl rfl rfl (show t < 40 by omega) dX4_before_5 (pc' := 6) rfl ?_
  have B_1 := IA.last I t
  refine j_istore_n C (i := 3) (x := nI (a 8 t)) (l' := [(3, .int (nI (a 8 t))), (0, .ref mo), (1, .int (nI t)), (2, .int (nI w))]) dX4_before_6 (pc' := 7) rfl (by decide) rfl ?_
  have L_7 : ∀ (N_7 : Nat) (f b : Nat), (b) < N_7 → (b ≤ f) → (f ≤ 1400) → (mBef a t w = bkF a w f b) → jW X G 4 0 0 7 [(0, .ref mo), (1, .int (nI t)), (2, .int (nI w)), (3, .int (mP b))] [] ((hM G mo ad h0 s a)) := by
    intro N_7
    induction N_7 with
    | zero => intro f b hm_7 hb hf hR; omega
    | succ N_7 ih_7 =>
      intro f b hm_7 hb hf hR
      rcases b with _ | p
      · refine jt_loc (l' := [(0, .ref mo), (1, .int (nI t)), (2, .int (nI w)), (3, .int ((-1)))]) (by rw [mP_0]) ?_
        refine j_iload_n C (i := 3) (x := (-1)) 3 rfl dX4_before_7 (pc' := 8) rfl ?_
        refine j_iconst C (v := (-1)) rfl dX4_before_8 (pc' := 9) rfl ?_
        refine j_icmp_eq C dX4_before_9 (tgt := 32) (by decide) (pc' := 12) rfl (fun _ => ?_) (fun c_2 => absurd rfl c_2)
        refine j_iload_n C (i := 3) (x := (-1)) 3 rfl dX4_before_32 (pc' := 33) rfl ?_
        refine j_iconst C (v := (-1)) rfl dX4_before_33 (pc' := 34) rfl ?_
        refine j_icmp_ne C dX4_before_34 (tgt := 41) (by decide) (pc' := 37) rfl (fun c_3 => absurd rfl c_3) (fun _ => ?_)
        refine j_iconst C (v := nI 0) rfl dX4_before_37 (pc' := 38) rfl ?_
        refine j_goto C dX4_before_38 (pc' := 47) (by decide) ?_
        exact j_iret C E dX4_before_47 rfl (Nat.le_refl _) (Nat.le_refl _) ⟨by rw [show mBef a t w = 0 from bk_0 hR], rfl⟩
      · refine jt_loc (l' := [(0, .ref mo), (1, .int (nI t)), (2, .int (nI w)), (3, .int (nI p))]) (by rw [mP_s]) ?_
        have hp9 : p < 1400 := by omega
        refine j_iload_n C (i := 3) (x := nI p) 3 rfl dX4_before_7 (pc' := 8) rfl ?_
        refine j_iconst C (v := (-1)) rfl dX4_before_8 (pc' := 9) rfl ?_
        refine j_icmp_eq C dX4_before_9 (tgt := 32) (by decide) (pc' := 12) rfl (fun c_4 => absurd c_4 (nI_ne1 (by omega))) (fun _ => ?_)
        refine j_aload_n C (i := 0) (x := mo) 0 rfl dX4_before_12 (pc' := 13) rfl ?_
        refine m_geta C (f := 15) (idx := 38) hin (by decide) rfl (by decide +kernel) dX4_before_13 (pc' := 16) rfl ?_
        refine j_iload_n C (i := 3) (x := nI p) 3 rfl dX4_before_16 (pc' := 17) rfl ?_
        refine m_ald C M (f := 15) (j := p) (by decide) rfl rfl rfl (show p < 1400 by omega) dX4_before_17 (pc' := 18) rfl ?_
        have B_5 := IA.big I 15 p
        refine j_iload_n C (i := 2) (x := nI w) 2 rfl dX4_before_18 (pc' := 19) rfl ?_
        refine j_icmp_lt C dX4_before_19 (tgt := 32) (by decide) (pc' := 22) rfl (fun c_6 => ?_) (fun c_6 => ?_)
        · have c_6 := (nI_ltI (a := a 15 p) (b := w) (by omega) (by omega)).mp c_6
          have c_6 : (a 15 p) < w := c_6
          refine j_iload_n C (i := 3) (x := nI p) 3 rfl dX4_before_32 (pc' := 33) rfl ?_
          refine j_iconst C (v := (-1)) rfl dX4_before_33 (pc' := 34) rfl ?_
          refine j_icmp_ne C dX4_before_34 (tgt := 41) (by decide) (pc' := 37) rfl (fun _ => ?_) (fun c_7 => absurd c_7 (nI_ne1 (by omega)))
          refine j_aload_n C (i := 0) (x := mo) 0 rfl dX4_before_41 (pc' := 42) rfl ?_
          refine m_geta C (f := 12) (idx := 29) hin (by decide) rfl (by decide +kernel) dX4_before_42 (pc' := 45) rfl ?_
          refine j_iload_n C (i := 3) (x := nI p) 3 rfl dX4_before_45 (pc' := 46) rfl ?_
          refine m_ald C M (f := 12) (j := p) (by decide) rfl rfl rfl (show p < 1400 by omega) dX4_before_46 (pc' := 47) rfl ?_
          have B_8 := IA.big I 12 p
          exact j_iret C E dX4_before_47 rfl (Nat.le_refl _) (Nat.le_refl _) ⟨by rw [show mBef a t w = a 12 p from bk_lt hR hb (by omega)]; rfl, rfl⟩
        · have c_6 := fun zq => c_6 ((nI_ltI (a := a 15 p) (b := w) (by omega) (by omega)).mpr zq)
          have c_6 : ¬ (a 15 p) < w := c_6
          refine j_aload_n C (i := 0) (x := mo) 0 rfl dX4_before_22 (pc' := 23) rfl ?_
          refine m_geta C (f := 13) (idx := 32) hin (by decide) rfl (by decide +kernel) dX4_before_23 (pc' := 26) rfl ?_
          refine j_iload_n C (i := 3) (x := nI p) 3 rfl dX4_before_26 (pc' := 27) rfl ?_
          refine m_ald C M (f := 13) (j := p) (by decide) rfl rfl rfl (show p < 1400 by omega) dX4_before_27 (pc' := 28) rfl ?_
          have B_9 := IA.ahead I Z p
          have B_10 := IA.big I 13 p
          refine j_istore_n C (i := 3) (x := mV 13 (a 13 p)) (l' := [(3, .int (mV 13 (a 13 p))), (0, .ref mo), (1, .int (nI t)), (2, .int (nI w))]) dX4_before_28 (pc' := 29) rfl (by decide) rfl ?_
          refine j_goto C dX4_before_29 (pc' := 7) (by decide) ?_
          refine jt_loc (l' := [(3, .int (mP (a 13 p))), (0, .ref mo), (1, .int (nI t)), (2, .int (nI w))]) (by rfl) ?_
          exact jW.locals [1, 2, 3, 0] rfl (ih_7 (f - 1) (a 13 p) (by omega) (bk_ge hR hb (by omega) (IA.ahead I Z p)).2 (by omega) (bk_ge hR hb (by omega) (IA.ahead I Z p)).1)
  refine jt_loc (l' := [(3, .int (mP (a 8 t + 1))), (0, .ref mo), (1, .int (nI t)), (2, .int (nI w))]) (by rw [← mP_s]) ?_
  exact jW.locals [1, 2, 3, 0] rfl (L_7 ((a 8 t + 1) + 1) 1400 (a 8 t + 1) (by omega) (by omega) (by omega) rfl)
