theorem IA.up2c {a : mA} (I : IA a) {f j v : Nat} (h : v < 1048576 ∧ (f = 8 → v < 1400) ∧ (f = 5 → v < 40) ∧ (f = 24 → v < 40) ∧ (f = 19 → v ≤ 6) ∧ (f = 20 → v < 40) ∧ (f = 11 → v < 40) ∧ (f = 13 → v ≤ j) ∧ (f = 3 → v ≤ 1) ∧ (f = 16 → v ≤ 1) ∧ (f = 17 → v ≤ 1) ∧ (f = 21 → v ≤ 1) ∧ (f = 22 → v ≤ 1) ∧ (f = 7 → v ≤ 2)) : IA (va_up2 a f j v) := by
  obtain ⟨h0, h1, h2, h3, h4, h5, h6, h7, h8, h9, h10, h11, h12, h13⟩ := h
  have key : ∀ (g : Nat) (P : Nat → Nat → Prop), (∀ i, P i (a g i)) → (f = g → P j v) → ∀ i, P i (va_up2 a f j v g i) := by
    intro g P p1 p2 i
    unfold va_up2
    by_cases hg : g = f
    · subst hg
      rw [up_s]
      by_cases hi : i = j
      · subst hi; rw [up_s]; exact p2 rfl
      · rw [up_n hi]; exact p1 i
    · rw [up_n hg]; exact p1 i
  exact ⟨fun g i => key g (fun _ x => x < 1048576) (fun i => I.1 g i) (fun _ => h0) i, key 8 (fun _ x => x < 1400) I.last h1, key 5 (fun _ x => x < 40) I.draft h2, key 24 (fun _ x => x < 40) I.asks h3, key 19 (fun _ x => x ≤ 6) I.size h4, key 20 (fun _ x => x < 40) I.member h5, key 11 (fun _ x => x < 40) I.of h6, key 13 (fun i x => i ≠ 0 → x ≤ i) I.ahead' (fun e _ => h7 e), key 3 (fun _ x => x ≤ 1) I.closed h8, key 16 (fun _ x => x ≤ 1) I.there h9, key 17 (fun _ x => x ≤ 1) I.hidden h10, key 21 (fun _ x => x ≤ 1) I.marked h11, key 22 (fun _ x => x ≤ 1) I.drawn h12, key 7 (fun _ x => x ≤ 2) I.kind h13⟩
def tn (x : Int32) : Nat := x.toInt.toNat
theorem tn_nI {j : Nat} (h : j < 2 ^ 31) : tn (nI j) = j := by unfold tn; rw [nI_toInt h]; rfl
abbrev inR (x : Int32) (lo hi : Nat) : Bool := decide (nI lo ≤ x) && decide (x ≤ nI hi)
theorem inR_of {v : Int32} {lo hi : Nat} (hlo : lo < 1048576) (hhi : hi < 1048576) (h : inR v lo hi = true) : ∃ j : Nat, lo ≤ j ∧ j ≤ hi ∧ v = nI j := by
  rw [Bool.and_eq_true, decide_eq_true_eq, decide_eq_true_eq, Int32.le_iff_toInt_le, Int32.le_iff_toInt_le, nI_toInt (by omega), nI_toInt (by omega)] at h
  refine ⟨v.toInt.toNat, by omega, by omega, ?_⟩
  apply Int32.toInt_inj.mp
  rw [nI_toInt (by omega)]
  omega
theorem bff {b : Bool} (h : b = false) : ¬ b = true := by rw [h]; decide
abbrev mO : Type := Int32 × mS × mA
theorem o_leaf {G : jG} {mo : Nat} {ad : Nat → Nat} {h0 : jH} {o : mO} {x : Int32} {s' : mS} {a' : mA} (h : o = (x, s', a')) : some (Value.int x) = some (Value.int o.1) ∧ hM G mo ad h0 s' a' = hM G mo ad h0 o.2.1 o.2.2 := by rw [h]; exact ⟨rfl, rfl⟩
def oTh (s : mS) (a : mA) (n : Nat) : mO := (nI 0, va_up s 25 n, a)
def oOpen (s : mS) (a : mA) : mO := if s 2 < 20 then (nI (s 2), va_up (va_up s 25 0) 2 (s 2 + 1), a) else oTh s a 1
def oClose (s : mS) (a : mA) (p : Int32) : mO := if inN p (s 2) = true then (if a 3 (tn p) = 0 then (nI (cnt (fun k => decide (a 14 k = tn p)) (s 10)), va_up s 25 0, va_up2 a 3 (tn p) 1) else oTh s a 2) else oTh s a 1
def oRefer (s : mS) (a : mA) (p : Int32) : mO := if inN p (s 6) = true then (if s 4 < 6 then (nI (s 4 + 1), va_up (va_up s 25 0) 4 (s 4 + 1), va_up2 a 5 (s 4) (tn p)) else oTh s a 2) else oTh s a 1
def oWipe (s : mS) (a : mA) : mO := (nI (s 4), va_up (va_up s 4 0) 25 0, a)
def oThings (s : mS) (a : mA) : mO := (nI (s 6), va_up s 25 0, a)
def oLatest (s : mS) (a : mA) (p : Int32) : mO := if inN p (s 6) = true then (nI (a 9 (tn p)), va_up s 25 0, a) else oTh s a 1
def oIsThere (s : mS) (a : mA) (p : Int32) : mO := if inN p (s 6) = true then (bI (mIs a (tn p)), va_up s 25 0, a) else oTh s a 1
def oWhereIs (s : mS) (a : mA) (p : Int32) : mO := if inN p (s 6) = true then (if a 7 (tn p) = 0 ∧ mIs a (tn p) = true then (nI (a 18 (a 8 (tn p))), va_up s 25 0, a) else oTh s a 2) else oTh s a 1
def oMembers (s : mS) (a : mA) (p : Int32) : mO := if inN p (s 6) = true then (nI (a 19 (a 8 (tn p))), va_up s 25 0, a) else oTh s a 1
def oUsedBy (s : mS) (a : mA) (p : Int32) : mO := if inN p (s 6) = true then (nI (mUsers a (s 6) (tn p)), va_up s 25 0, a) else oTh s a 1
def oVersionAt (s : mS) (a : mA) (p w : Int32) : mO := if inN p (s 6) = true then (if inR w 0 (s 0) = true then (nI (mBef a (tn p) (tn w + 1)), va_up s 25 0, a) else oTh s a 2) else oTh s a 1
def oInCopy (s : mS) (a : mA) (p : Int32) : mO := if inN p (s 6) = true then (nI (mBef a (tn p) (s 1)), va_up s 25 0, a) else oTh s a 1
def oPass (s : mS) (a : mA) (m : Int32) : mO := if inR m 1 100 = true then (if s 0 + tn m ≤ 5000 then (nI (s 0 + tn m), va_up (va_up s 25 0) 0 (s 0 + tn m), a) else oTh s a 2) else oTh s a 1
def oTakeN (s : mS) (m : Int32) : Nat := if s 1 + tn m < s 0 then s 1 + tn m else s 0
def oTake (s : mS) (a : mA) (m : Int32) : mO := if inR m 1 100 = true then (nI (cnt (fun k => decide (s 1 ≤ a 15 k) && decide (a 15 k < oTakeN s m)) (s 10)), va_up (va_up s 25 0) 1 (oTakeN s m), a) else oTh s a 1
def oIsTrue (s : mS) (a : mA) : mO := (bI (allN (fun k => decide (mBef a k (s 1) = a 9 k)) (s 6)), va_up s 25 0, a)
def oSetOf (s : mS) (a : mA) (p v : Int32) : mO := if mIsV s a p v = true then (if a 17 (mPl a (tn p) (tn v)) = 0 then (nI (a 14 (mPl a (tn p) (tn v))), va_up s 25 0, a) else oTh s a 2) else oTh s a 1
set_option maxRecDepth 100000 in
set_option maxHeartbeats 4000000 in
theorem m_open (l : Launch) (hlt : l.stackTraces = false) (G : jG) {mo : Nat} {ad : Nat → Nat} {h0 : jH} (M : mG mo ad) (s : mS) (a : mA)  (J : IS s) (I : IA a) : jM l G yX4_open wsX4_open 1 23 0 0 [.ref mo] (hM G mo ad h0 s a) (fun r h' => r = some (.int (oOpen s a).1) ∧ h' = hM G mo ad h0 (oOpen s a).2.1 (oOpen s a).2.2) (fun _ _ => False) := by
  have h6 := J.2.1
  have h2 := J.2.2.1
  have h4 := J.2.2.2.1
  have h10 := J.2.2.2.2.1
  have hs0 := J.1 0
  have hs1 := J.1 1
  refine jM_of (cc := cX4_open) (maxL := 1) (ret := (some .int)) hlt (by decide +kernel) rfl (Nat.le_of_ble_eq_true rfl) ?_
  intro X C E hXl hXR hXn
  have hin : ∀ w ∈ u_ws RX4 TX4 26, w ∈ wsX4_open := by decide +kernel
  show jW X G 1 0 0 0 [(0, .ref mo)] [] ((hM G mo ad h0 s a))
  refine j_aload_n C (i := 0) (x := mo) 0 rfl dX4_open_0 (pc' := 1) rfl ?_
  refine j_aload_n C (i := 0) (x := mo) 0 rfl dX4_open_1 (pc' := 2) rfl ?_
  refine m_get C (f := 2) (idx := 76) hin (by decide) rfl (by decide +kernel) dX4_open_2 (pc' := 5) rfl ?_
  refine j_bipush C (v := nI 20) rfl dX4_open_5 (pc' := 7) rfl ?_
  refine j_icmp_ge C dX4_open_7 (tgt := 14) (by decide) (pc' := 10) rfl (fun c_1 => ?_) (fun c_1 => ?_)
  · have c_1 := (nI_leI (a := 20) (b := s 2) (by omega) (by omega)).mp c_1
    have c_1 : 20 ≤ (s 2) := c_1
    refine j_iconst C (v := nI 0) rfl dX4_open_14 (pc' := 15) rfl ?_
    refine j_iconst C (v := nI 1) rfl dX4_open_15 (pc' := 16) rfl ?_
    refine j_iconst C (v := nI 1) rfl dX4_open_16 (pc' := 17) rfl ?_
    refine j_callV C (As := [.int (nI 0), .int (nI 1), .int (nI 1)]) (rest := []) (m_goes X.2.1 C.2.2.2.2.2.2.2.2 G M s a false true true) (cwV 3 C.2.2.2.2.1 gX4_open_X4_goes rfl rfl rfl (by decide +kernel) (by rw [hXR]; decide)) hM_obj rfl rfl rfl (Nat.le_of_ble_eq_true rfl) dX4_open_17 (pc' := 20) rfl (by rw [hXR]; exact Nat.zero_le _) (by rw [hXR]; exact Nat.zero_le _) (fun _ _ z => z.elim) ?_
    rintro r h' ⟨rfl, rfl⟩
    show jW X G 1 0 0 20 [(0, .ref mo)] [.int (nI 0)] ((hM G mo ad h0 (va_up s 25 1) a))
    refine j_if_ne C dX4_open_20 (tgt := 25) (by decide) (pc' := 23) rfl (fun c_2 => absurd (by decide) c_2) (fun _ => ?_)
    refine j_iconst C (v := nI 0) rfl dX4_open_23 (pc' := 24) rfl ?_
    exact j_iret C E dX4_open_24 rfl (Nat.le_refl _) (Nat.le_refl _) (o_leaf (by unfold oOpen; rw [if_neg (show ¬ (s 2 < 20) by omega)] <;> rfl))
  · have c_1 := fun zq => c_1 ((nI_leI (a := 20) (b := s 2) (by omega) (by omega)).mpr zq)
    have c_1 : ¬ 20 ≤ (s 2) := c_1
    refine j_iconst C (v := nI 1) rfl dX4_open_10 (pc' := 11) rfl ?_
    refine j_goto C dX4_open_11 (pc' := 15) (by decide) ?_
    refine j_iconst C (v := nI 1) rfl dX4_open_15 (pc' := 16) rfl ?_
    refine j_iconst C (v := nI 1) rfl dX4_open_16 (pc' := 17) rfl ?_
    refine j_callV C (As := [.int (nI 1), .int (nI 1), .int (nI 1)]) (rest := []) (m_goes X.2.1 C.2.2.2.2.2.2.2.2 G M s a true true true) (cwV 3 C.2.2.2.2.1 gX4_open_X4_goes rfl rfl rfl (by decide +kernel) (by rw [hXR]; decide)) hM_obj rfl rfl rfl (Nat.le_of_ble_eq_true rfl) dX4_open_17 (pc' := 20) rfl (by rw [hXR]; exact Nat.zero_le _) (by rw [hXR]; exact Nat.zero_le _) (fun _ _ z => z.elim) ?_
    rintro r h' ⟨rfl, rfl⟩
    show jW X G 1 0 0 20 [(0, .ref mo)] [.int (nI 1)] ((hM G mo ad h0 (va_up s 25 0) a))
    refine j_if_ne C dX4_open_20 (tgt := 25) (by decide) (pc' := 23) rfl (fun _ => ?_) (fun c_3 => absurd c_3 (by decide))
    refine j_aload_n C (i := 0) (x := mo) 0 rfl dX4_open_25 (pc' := 26) rfl ?_
    refine j_dup C rfl dX4_open_26 (pc' := 27) rfl ?_
    refine m_get C (f := 2) (idx := 76) hin (by decide) rfl (by decide +kernel) dX4_open_27 (pc' := 30) rfl ?_
    show jW X G 1 0 0 30 [(0, .ref mo)] [.int (nI (s 2)), .ref mo] ((hM G mo ad h0 (va_up s 25 0) a))
    refine j_iconst C (v := nI 1) rfl dX4_open_30 (pc' := 31) rfl ?_
    refine j_iadd C (x := nI (s 2)) (y := nI 1) dX4_open_31 (pc' := 32) rfl ?_
    refine jt_i (nI_add _ _) ?_
    refine m_put C (f := 2) (idx := 76) (v := s 2 + 1) hin (by decide) rfl (by decide +kernel) dX4_open_32 (pc' := 35) rfl ?_
    refine j_aload_n C (i := 0) (x := mo) 0 rfl dX4_open_35 (pc' := 36) rfl ?_
    refine m_get C (f := 2) (idx := 76) hin (by decide) rfl (by decide +kernel) dX4_open_36 (pc' := 39) rfl ?_
    show jW X G 1 0 0 39 [(0, .ref mo)] [.int (nI (s 2 + 1))] ((hM G mo ad h0 (va_up (va_up s 25 0) 2 (s 2 + 1)) a))
    refine j_iconst C (v := nI 1) rfl dX4_open_39 (pc' := 40) rfl ?_
    refine j_isub C (x := nI (s 2 + 1)) (y := nI 1) dX4_open_40 (pc' := 41) rfl ?_
    refine jt_i (pk_sub (by omega)) ?_
    exact j_iret C E dX4_open_41 rfl (Nat.le_refl _) (Nat.le_refl _) (o_leaf (by unfold oOpen; rw [if_pos (show s 2 < 20 by omega)] <;> rfl))
set_option maxRecDepth 100000 in
set_option maxHeartbeats 4000000 in
theorem m_refer (l : Launch) (hlt : l.stackTraces = false) (G : jG) {mo : Nat} {ad : Nat → Nat} {h0 : jH} (M : mG mo ad) (s : mS) (a : mA) (p : Int32) (J : IS s) (I : IA a) : jM l G yX4_refer wsX4_refer 2 43 0 0 [.ref mo, .int p] (hM G mo ad h0 s a) (fun r h' => r = some (.int (oRefer s a p).1) ∧ h' = hM G mo ad h0 (oRefer s a p).2.1 (oRefer s a p).2.2) (fun _ _ => False) := by
  have h6 := J.2.1
  have h2 := J.2.2.1
  have h4 := J.2.2.2.1
  have h10 := J.2.2.2.2.1
  have hs0 := J.1 0
  have hs1 := J.1 1
  refine jM_of (cc := cX4_refer) (maxL := 2) (ret := (some .int)) hlt (by decide +kernel) rfl (Nat.le_of_ble_eq_true rfl) ?_
  intro X C E hXl hXR hXn
  have hin : ∀ w ∈ u_ws RX4 TX4 26, w ∈ wsX4_refer := by decide +kernel
  show jW X G 2 0 0 0 [(0, .ref mo), (1, .int p)] [] ((hM G mo ad h0 s a))
  refine j_aload_n C (i := 0) (x := mo) 0 rfl dX4_refer_0 (pc' := 1) rfl ?_
  refine j_aload_n C (i := 0) (x := mo) 0 rfl dX4_refer_1 (pc' := 2) rfl ?_
  refine j_iload_n C (i := 1) (x := p) 1 rfl dX4_refer_2 (pc' := 3) rfl ?_
  refine j_callV C (As := [.int p]) (rest := [.ref mo]) (m_isThing X.2.1 C.2.2.2.2.2.2.2.2 G M s a p J) (cwV 1 C.2.2.2.2.1 gX4_refer_X4_isThing rfl rfl rfl (by decide +kernel) (by rw [hXR]; decide)) hM_obj rfl rfl rfl (Nat.le_of_ble_eq_true rfl) dX4_refer_3 (pc' := 6) rfl (by rw [hXR]; exact Nat.zero_le _) (by rw [hXR]; exact Nat.zero_le _) (fun _ _ z => z.elim) ?_
  rintro r h' ⟨rfl, rfl⟩
  show jW X G 2 0 0 6 [(0, .ref mo), (1, .int p)] [.int (bI (inN p (s 6))), .ref mo] ((hM G mo ad h0 s a))
  rcases hb_1 : (inN p (s 6)) with _ | _
  · show jW X G 2 0 0 6 [(0, .ref mo), (1, .int p)] [.int (nI 0), .ref mo] ((hM G mo ad h0 s a))
    refine j_aload_n C (i := 0) (x := mo) 0 rfl dX4_refer_6 (pc' := 7) rfl ?_
    refine m_get C (f := 4) (idx := 93) hin (by decide) rfl (by decide +kernel) dX4_refer_7 (pc' := 10) rfl ?_
    refine j_bipush C (v := nI 6) rfl dX4_refer_10 (pc' := 12) rfl ?_
    refine j_icmp_ge C dX4_refer_12 (tgt := 19) (by decide) (pc' := 15) rfl (fun c_2 => ?_) (fun c_2 => ?_)
    · have c_2 := (nI_leI (a := 6) (b := s 4) (by omega) (by omega)).mp c_2
      have c_2 : 6 ≤ (s 4) := c_2
      refine j_iconst C (v := nI 0) rfl dX4_refer_19 (pc' := 20) rfl ?_
      refine j_iconst C (v := nI 1) rfl dX4_refer_20 (pc' := 21) rfl ?_
      refine j_callV C (As := [.int (nI 0), .int (nI 0), .int (nI 1)]) (rest := []) (m_goes X.2.1 C.2.2.2.2.2.2.2.2 G M s a false false true) (cwV 3 C.2.2.2.2.1 gX4_refer_X4_goes rfl rfl rfl (by decide +kernel) (by rw [hXR]; decide)) hM_obj rfl rfl rfl (Nat.le_of_ble_eq_true rfl) dX4_refer_21 (pc' := 24) rfl (by rw [hXR]; exact Nat.zero_le _) (by rw [hXR]; exact Nat.zero_le _) (fun _ _ z => z.elim) ?_
      rintro r h' ⟨rfl, rfl⟩
      show jW X G 2 0 0 24 [(0, .ref mo), (1, .int p)] [.int (nI 0)] ((hM G mo ad h0 (va_up s 25 1) a))
      refine j_if_ne C dX4_refer_24 (tgt := 29) (by decide) (pc' := 27) rfl (fun c_3 => absurd (by decide) c_3) (fun _ => ?_)
      refine j_iconst C (v := nI 0) rfl dX4_refer_27 (pc' := 28) rfl ?_
      exact j_iret C E dX4_refer_28 rfl (Nat.le_refl _) (Nat.le_refl _) (o_leaf (by unfold oRefer; rw [if_neg (bff hb_1)] <;> rfl))
    · have c_2 := fun zq => c_2 ((nI_leI (a := 6) (b := s 4) (by omega) (by omega)).mpr zq)
      have c_2 : ¬ 6 ≤ (s 4) := c_2
      refine j_iconst C (v := nI 1) rfl dX4_refer_15 (pc' := 16) rfl ?_
      refine j_goto C dX4_refer_16 (pc' := 20) (by decide) ?_
      refine j_iconst C (v := nI 1) rfl dX4_refer_20 (pc' := 21) rfl ?_
      refine j_callV C (As := [.int (nI 0), .int (nI 1), .int (nI 1)]) (rest := []) (m_goes X.2.1 C.2.2.2.2.2.2.2.2 G M s a false true true) (cwV 3 C.2.2.2.2.1 gX4_refer_X4_goes rfl rfl rfl (by decide +kernel) (by rw [hXR]; decide)) hM_obj rfl rfl rfl (Nat.le_of_ble_eq_true rfl) dX4_refer_21 (pc' := 24) rfl (by rw [hXR]; exact Nat.zero_le _) (by rw [hXR]; exact Nat.zero_le _) (fun _ _ z => z.elim) ?_
      rintro r h' ⟨rfl, rfl⟩
      show jW X G 2 0 0 24 [(0, .ref mo), (1, .int p)] [.int (nI 0)] ((hM G mo ad h0 (va_up s 25 1) a))
      refine j_if_ne C dX4_refer_24 (tgt := 29) (by decide) (pc' := 27) rfl (fun c_4 => absurd (by decide) c_4) (fun _ => ?_)
      refine j_iconst C (v := nI 0) rfl dX4_refer_27 (pc' := 28) rfl ?_
      exact j_iret C E dX4_refer_28 rfl (Nat.le_refl _) (Nat.le_refl _) (o_leaf (by unfold oRefer; rw [if_neg (bff hb_1)] <;> rfl))
  · show jW X G 2 0 0 6 [(0, .ref mo), (1, .int p)] [.int (nI 1), .ref mo] ((hM G mo ad h0 s a))
    obtain ⟨j, hj, rfl⟩ := inN_of hb_1
    refine j_aload_n C (i := 0) (x := mo) 0 rfl dX4_refer_6 (pc' := 7) rfl ?_
    refine m_get C (f := 4) (idx := 93) hin (by decide) rfl (by decide +kernel) dX4_refer_7 (pc' := 10) rfl ?_
    refine j_bipush C (v := nI 6) rfl dX4_refer_10 (pc' := 12) rfl ?_
    refine j_icmp_ge C dX4_refer_12 (tgt := 19) (by decide) (pc' := 15) rfl (fun c_5 => ?_) (fun c_5 => ?_)
    · have c_5 := (nI_leI (a := 6) (b := s 4) (by omega) (by omega)).mp c_5
      have c_5 : 6 ≤ (s 4) := c_5
      refine j_iconst C (v := nI 0) rfl dX4_refer_19 (pc' := 20) rfl ?_
      refine j_iconst C (v := nI 1) rfl dX4_refer_20 (pc' := 21) rfl ?_
      refine j_callV C (As := [.int (nI 1), .int (nI 0), .int (nI 1)]) (rest := []) (m_goes X.2.1 C.2.2.2.2.2.2.2.2 G M s a true false true) (cwV 3 C.2.2.2.2.1 gX4_refer_X4_goes rfl rfl rfl (by decide +kernel) (by rw [hXR]; decide)) hM_obj rfl rfl rfl (Nat.le_of_ble_eq_true rfl) dX4_refer_21 (pc' := 24) rfl (by rw [hXR]; exact Nat.zero_le _) (by rw [hXR]; exact Nat.zero_le _) (fun _ _ z => z.elim) ?_
      rintro r h' ⟨rfl, rfl⟩
      show jW X G 2 0 0 24 [(0, .ref mo), (1, .int (nI j))] [.int (nI 0)] ((hM G mo ad h0 (va_up s 25 2) a))
      refine j_if_ne C dX4_refer_24 (tgt := 29) (by decide) (pc' := 27) rfl (fun c_6 => absurd (by decide) c_6) (fun _ => ?_)
      refine j_iconst C (v := nI 0) rfl dX4_refer_27 (pc' := 28) rfl ?_
      exact j_iret C E dX4_refer_28 rfl (Nat.le_refl _) (Nat.le_refl _) (o_leaf (by unfold oRefer; rw [if_pos hb_1, if_neg (show ¬ (s 4 < 6) by omega)] <;> rfl))
    · have c_5 := fun zq => c_5 ((nI_leI (a := 6) (b := s 4) (by omega) (by omega)).mpr zq)
      have c_5 : ¬ 6 ≤ (s 4) := c_5
      refine j_iconst C (v := nI 1) rfl dX4_refer_15 (pc' := 16) rfl ?_
      refine j_goto C dX4_refer_16 (pc' := 20) (by decide) ?_
      refine j_iconst C (v := nI 1) rfl dX4_refer_20 (pc' := 21) rfl ?_
      refine j_callV C (As := [.int (nI 1), .int (nI 1), .int (nI 1)]) (rest := []) (m_goes X.2.1 C.2.2.2.2.2.2.2.2 G M s a true true true) (cwV 3 C.2.2.2.2.1 gX4_refer_X4_goes rfl rfl rfl (by decide +kernel) (by rw [hXR]; decide)) hM_obj rfl rfl rfl (Nat.le_of_ble_eq_true rfl) dX4_refer_21 (pc' := 24) rfl (by rw [hXR]; exact Nat.zero_le _) (by rw [hXR]; exact Nat.zero_le _) (fun _ _ z => z.elim) ?_
      rintro r h' ⟨rfl, rfl⟩
      show jW X G 2 0 0 24 [(0, .ref mo), (1, .int (nI j))] [.int (nI 1)] ((hM G mo ad h0 (va_up s 25 0) a))
      refine j_if_ne C dX4_refer_24 (tgt := 29) (by decide) (pc' := 27) rfl (fun _ => ?_) (fun c_7 => absurd c_7 (by decide))
      refine j_aload_n C (i := 0) (x := mo) 0 rfl dX4_refer_29 (pc' := 30) rfl ?_
      refine m_geta C (f := 5) (idx := 13) hin (by decide) rfl (by decide +kernel) dX4_refer_30 (pc' := 33) rfl ?_
      refine j_aload_n C (i := 0) (x := mo) 0 rfl dX4_refer_33 (pc' := 34) rfl ?_
      refine m_get C (f := 4) (idx := 93) hin (by decide) rfl (by decide +kernel) dX4_refer_34 (pc' := 37) rfl ?_
      show jW X G 2 0 0 37 [(0, .ref mo), (1, .int (nI j))] [.int (nI (s 4)), .ref (ad 5)] ((hM G mo ad h0 (va_up s 25 0) a))
      refine j_iload_n C (i := 1) (x := nI j) 1 rfl dX4_refer_37 (pc' := 38) rfl ?_
      refine m_ast C M (f := 5) (j := s 4) (v := j) (by decide) rfl rfl rfl (show s 4 < 6 by omega) rfl dX4_refer_38 (pc' := 39) rfl ?_
      refine j_aload_n C (i := 0) (x := mo) 0 rfl dX4_refer_39 (pc' := 40) rfl ?_
      refine j_dup C rfl dX4_refer_40 (pc' := 41) rfl ?_
      refine m_get C (f := 4) (idx := 93) hin (by decide) rfl (by decide +kernel) dX4_refer_41 (pc' := 44) rfl ?_
      show jW X G 2 0 0 44 [(0, .ref mo), (1, .int (nI j))] [.int (nI (s 4)), .ref mo] ((hM G mo ad h0 (va_up s 25 0) (va_up2 a 5 (s 4) j)))
      refine j_iconst C (v := nI 1) rfl dX4_refer_44 (pc' := 45) rfl ?_
      refine j_iadd C (x := nI (s 4)) (y := nI 1) dX4_refer_45 (pc' := 46) rfl ?_
      refine jt_i (nI_add _ _) ?_
      refine m_put C (f := 4) (idx := 93) (v := s 4 + 1) hin (by decide) rfl (by decide +kernel) dX4_refer_46 (pc' := 49) rfl ?_
      refine j_aload_n C (i := 0) (x := mo) 0 rfl dX4_refer_49 (pc' := 50) rfl ?_
      refine m_get C (f := 4) (idx := 93) hin (by decide) rfl (by decide +kernel) dX4_refer_50 (pc' := 53) rfl ?_
      show jW X G 2 0 0 53 [(0, .ref mo), (1, .int (nI j))] [.int (nI (s 4 + 1))] ((hM G mo ad h0 (va_up (va_up s 25 0) 4 (s 4 + 1)) (va_up2 a 5 (s 4) j)))
      exact j_iret C E dX4_refer_53 rfl (Nat.le_refl _) (Nat.le_refl _) (o_leaf (by unfold oRefer; rw [if_pos hb_1, if_pos (show s 4 < 6 by omega), tn_nI (j := j) (by omega)] <;> rfl))
set_option maxRecDepth 100000 in
set_option maxHeartbeats 4000000 in
theorem m_wipe (l : Launch) (hlt : l.stackTraces = false) (G : jG) {mo : Nat} {ad : Nat → Nat} {h0 : jH} (M : mG mo ad) (s : mS) (a : mA)  (J : IS s) (I : IA a) : jM l G yX4_wipe wsX4_wipe 1 21 0 0 [.ref mo] (hM G mo ad h0 s a) (fun r h' => r = some (.int (oWipe s a).1) ∧ h' = hM G mo ad h0 (oWipe s a).2.1 (oWipe s a).2.2) (fun _ _ => False) := by
  have h6 := J.2.1
  have h2 := J.2.2.1
  have h4 := J.2.2.2.1
  have h10 := J.2.2.2.2.1
  have hs0 := J.1 0
  have hs1 := J.1 1
  refine jM_of (cc := cX4_wipe) (maxL := 2) (ret := (some .int)) hlt (by decide +kernel) rfl (Nat.le_of_ble_eq_true rfl) ?_
  intro X C E hXl hXR hXn
  have hin : ∀ w ∈ u_ws RX4 TX4 26, w ∈ wsX4_wipe := by decide +kernel
  show jW X G 2 0 0 0 [(0, .ref mo)] [] ((hM G mo ad h0 s a))
  refine j_aload_n C (i := 0) (x := mo) 0 rfl dX4_wipe_0 (pc' := 1) rfl ?_
  refine m_get C (f := 4) (idx := 93) hin (by decide) rfl (by decide +kernel) dX4_wipe_1 (pc' := 4) rfl ?_
  refine j_istore_n C (i := 1) (x := nI (s 4)) (l' := [(1, .int (nI (s 4))), (0, .ref mo)]) dX4_wipe_4 (pc' := 5) rfl (by decide) rfl ?_
  refine j_aload_n C (i := 0) (x := mo) 1 rfl dX4_wipe_5 (pc' := 6) rfl ?_
  refine j_iconst C (v := nI 0) rfl dX4_wipe_6 (pc' := 7) rfl ?_
  refine m_put C (f := 4) (idx := 93) (v := 0) hin (by decide) rfl (by decide +kernel) dX4_wipe_7 (pc' := 10) rfl ?_
  refine j_aload_n C (i := 0) (x := mo) 1 rfl dX4_wipe_10 (pc' := 11) rfl ?_
  refine j_iload_n C (i := 1) (x := nI (s 4)) 0 rfl dX4_wipe_11 (pc' := 12) rfl ?_
  refine j_callV C (As := [.int (nI (s 4))]) (rest := []) (m_told X.2.1 C.2.2.2.2.2.2.2.2 G M (va_up s 4 0) a (nI (s 4))) (cwV 1 C.2.2.2.2.1 gX4_wipe_X4_told rfl rfl rfl (by decide +kernel) (by rw [hXR]; decide)) hM_obj rfl rfl rfl (Nat.le_of_ble_eq_true rfl) dX4_wipe_12 (pc' := 15) rfl (by rw [hXR]; exact Nat.zero_le _) (by rw [hXR]; exact Nat.zero_le _) (fun _ _ z => z.elim) ?_
  rintro r h' ⟨rfl, rfl⟩
  show jW X G 2 0 0 15 [(1, .int (nI (s 4))), (0, .ref mo)] [.int (nI (s 4))] ((hM G mo ad h0 (va_up (va_up s 4 0) 25 0) a))
  exact j_iret C E dX4_wipe_15 rfl (Nat.le_refl _) (Nat.le_refl _) ⟨rfl, rfl⟩
set_option maxRecDepth 100000 in
set_option maxHeartbeats 4000000 in
theorem m_things (l : Launch) (hlt : l.stackTraces = false) (G : jG) {mo : Nat} {ad : Nat → Nat} {h0 : jH} (M : mG mo ad) (s : mS) (a : mA)  (J : IS s) (I : IA a) : jM l G yX4_things wsX4_things 1 21 0 0 [.ref mo] (hM G mo ad h0 s a) (fun r h' => r = some (.int (oThings s a).1) ∧ h' = hM G mo ad h0 (oThings s a).2.1 (oThings s a).2.2) (fun _ _ => False) := by
  have h6 := J.2.1
  have h2 := J.2.2.1
  have h4 := J.2.2.2.1
  have h10 := J.2.2.2.2.1
  have hs0 := J.1 0
  have hs1 := J.1 1
  refine jM_of (cc := cX4_things) (maxL := 1) (ret := (some .int)) hlt (by decide +kernel) rfl (Nat.le_of_ble_eq_true rfl) ?_
  intro X C E hXl hXR hXn
  have hin : ∀ w ∈ u_ws RX4 TX4 26, w ∈ wsX4_things := by decide +kernel
  show jW X G 1 0 0 0 [(0, .ref mo)] [] ((hM G mo ad h0 s a))
  refine j_aload_n C (i := 0) (x := mo) 0 rfl dX4_things_0 (pc' := 1) rfl ?_
  refine j_aload_n C (i := 0) (x := mo) 0 rfl dX4_things_1 (pc' := 2) rfl ?_
  refine m_get C (f := 6) (idx := 69) hin (by decide) rfl (by decide +kernel) dX4_things_2 (pc' := 5) rfl ?_
  refine j_callV C (As := [.int (nI (s 6))]) (rest := []) (m_told X.2.1 C.2.2.2.2.2.2.2.2 G M s a (nI (s 6))) (cwV 1 C.2.2.2.2.1 gX4_things_X4_told rfl rfl rfl (by decide +kernel) (by rw [hXR]; decide)) hM_obj rfl rfl rfl (Nat.le_of_ble_eq_true rfl) dX4_things_5 (pc' := 8) rfl (by rw [hXR]; exact Nat.zero_le _) (by rw [hXR]; exact Nat.zero_le _) (fun _ _ z => z.elim) ?_
  rintro r h' ⟨rfl, rfl⟩
  show jW X G 1 0 0 8 [(0, .ref mo)] [.int (nI (s 6))] ((hM G mo ad h0 (va_up s 25 0) a))
  exact j_iret C E dX4_things_8 rfl (Nat.le_refl _) (Nat.le_refl _) ⟨rfl, rfl⟩
set_option maxRecDepth 100000 in
set_option maxHeartbeats 4000000 in
theorem m_latest (l : Launch) (hlt : l.stackTraces = false) (G : jG) {mo : Nat} {ad : Nat → Nat} {h0 : jH} (M : mG mo ad) (s : mS) (a : mA) (p : Int32) (J : IS s) (I : IA a) : jM l G yX4_latest wsX4_latest 2 43 0 0 [.ref mo, .int p] (hM G mo ad h0 s a) (fun r h' => r = some (.int (oLatest s a p).1) ∧ h' = hM G mo ad h0 (oLatest s a p).2.1 (oLatest s a p).2.2) (fun _ _ => False) := by
  have h6 := J.2.1
  have h2 := J.2.2.1
  have h4 := J.2.2.2.1
  have h10 := J.2.2.2.2.1
  have hs0 := J.1 0
  have hs1 := J.1 1
  refine jM_of (cc := cX4_latest) (maxL := 2) (ret := (some .int)) hlt (by decide +kernel) rfl (Nat.le_of_ble_eq_true rfl) ?_
  intro X C E hXl hXR hXn
  have hin : ∀ w ∈ u_ws RX4 TX4 26, w ∈ wsX4_latest := by decide +kernel
  show jW X G 2 0 0 0 [(0, .ref mo), (1, .int p)] [] ((hM G mo ad h0 s a))
  refine j_aload_n C (i := 0) (x := mo) 0 rfl dX4_latest_0 (pc' := 1) rfl ?_
  refine j_aload_n C (i := 0) (x := mo) 0 rfl dX4_latest_1 (pc' := 2) rfl ?_
  refine j_iload_n C (i := 1) (x := p) 1 rfl dX4_latest_2 (pc' := 3) rfl ?_
  refine j_callV C (As := [.int p]) (rest := [.ref mo]) (m_isThing X.2.1 C.2.2.2.2.2.2.2.2 G M s a p J) (cwV 1 C.2.2.2.2.1 gX4_latest_X4_isThing rfl rfl rfl (by decide +kernel) (by rw [hXR]; decide)) hM_obj rfl rfl rfl (Nat.le_of_ble_eq_true rfl) dX4_latest_3 (pc' := 6) rfl (by rw [hXR]; exact Nat.zero_le _) (by rw [hXR]; exact Nat.zero_le _) (fun _ _ z => z.elim) ?_
  rintro r h' ⟨rfl, rfl⟩
  show jW X G 2 0 0 6 [(0, .ref mo), (1, .int p)] [.int (bI (inN p (s 6))), .ref mo] ((hM G mo ad h0 s a))
  rcases hb_1 : (inN p (s 6)) with _ | _
  · show jW X G 2 0 0 6 [(0, .ref mo), (1, .int p)] [.int (nI 0), .ref mo] ((hM G mo ad h0 s a))
    refine j_iconst C (v := nI 1) rfl dX4_latest_6 (pc' := 7) rfl ?_
    refine j_iconst C (v := nI 1) rfl dX4_latest_7 (pc' := 8) rfl ?_
    refine j_callV C (As := [.int (nI 0), .int (nI 1), .int (nI 1)]) (rest := []) (m_goes X.2.1 C.2.2.2.2.2.2.2.2 G M s a false true true) (cwV 3 C.2.2.2.2.1 gX4_latest_X4_goes rfl rfl rfl (by decide +kernel) (by rw [hXR]; decide)) hM_obj rfl rfl rfl (Nat.le_of_ble_eq_true rfl) dX4_latest_8 (pc' := 11) rfl (by rw [hXR]; exact Nat.zero_le _) (by rw [hXR]; exact Nat.zero_le _) (fun _ _ z => z.elim) ?_
    rintro r h' ⟨rfl, rfl⟩
    show jW X G 2 0 0 11 [(0, .ref mo), (1, .int p)] [.int (nI 0)] ((hM G mo ad h0 (va_up s 25 1) a))
    refine j_if_eq C dX4_latest_11 (tgt := 23) (by decide) (pc' := 14) rfl (fun _ => ?_) (fun c_2 => absurd (by decide) c_2)
    refine j_iconst C (v := nI 0) rfl dX4_latest_23 (pc' := 24) rfl ?_
    exact j_iret C E dX4_latest_24 rfl (Nat.le_refl _) (Nat.le_refl _) (o_leaf (by unfold oLatest; rw [if_neg (bff hb_1)] <;> rfl))
  · show jW X G 2 0 0 6 [(0, .ref mo), (1, .int p)] [.int (nI 1), .ref mo] ((hM G mo ad h0 s a))
    obtain ⟨j, hj, rfl⟩ := inN_of hb_1
    refine j_iconst C (v := nI 1) rfl dX4_latest_6 (pc' := 7) rfl ?_
    refine j_iconst C (v := nI 1) rfl dX4_latest_7 (pc' := 8) rfl ?_
    refine j_callV C (As := [.int (nI 1), .int (nI 1), .int (nI 1)]) (rest := []) (m_goes X.2.1 C.2.2.2.2.2.2.2.2 G M s a true true true) (cwV 3 C.2.2.2.2.1 gX4_latest_X4_goes rfl rfl rfl (by decide +kernel) (by rw [hXR]; decide)) hM_obj rfl rfl rfl (Nat.le_of_ble_eq_true rfl) dX4_latest_8 (pc' := 11) rfl (by rw [hXR]; exact Nat.zero_le _) (by rw [hXR]; exact Nat.zero_le _) (fun _ _ z => z.elim) ?_
    rintro r h' ⟨rfl, rfl⟩
    show jW X G 2 0 0 11 [(0, .ref mo), (1, .int (nI j))] [.int (nI 1)] ((hM G mo ad h0 (va_up s 25 0) a))
    refine j_if_eq C dX4_latest_11 (tgt := 23) (by decide) (pc' := 14) rfl (fun c_3 => absurd c_3 (by decide)) (fun _ => ?_)
    refine j_aload_n C (i := 0) (x := mo) 0 rfl dX4_latest_14 (pc' := 15) rfl ?_
    refine m_geta C (f := 9) (idx := 23) hin (by decide) rfl (by decide +kernel) dX4_latest_15 (pc' := 18) rfl ?_
    refine j_iload_n C (i := 1) (x := nI j) 1 rfl dX4_latest_18 (pc' := 19) rfl ?_
    refine m_ald C M (f := 9) (j := j) (by decide) rfl rfl rfl (show j < 40 by omega) dX4_latest_19 (pc' := 20) rfl ?_
    have B_4 := IA.big I 9 j
    refine j_goto C dX4_latest_20 (pc' := 24) (by decide) ?_
    exact j_iret C E dX4_latest_24 rfl (Nat.le_refl _) (Nat.le_refl _) (o_leaf (by unfold oLatest; rw [if_pos hb_1, tn_nI (j := j) (by omega)] <;> rfl))
theorem bI_tt {b : Bool} (h : b = true) : nI 1 = bI b := bI_1 h
theorem bI_ff {b : Bool} (h : b = false) : nI 0 = bI b := bI_0 h
set_option maxRecDepth 100000 in
set_option maxHeartbeats 4000000 in
theorem m_isThere (l : Launch) (hlt : l.stackTraces = false) (G : jG) {mo : Nat} {ad : Nat → Nat} {h0 : jH} (M : mG mo ad) (s : mS) (a : mA) (p : Int32) (J : IS s) (I : IA a) : jM l G yX4_isThere wsX4_isThere 2 43 0 0 [.ref mo, .int p] (hM G mo ad h0 s a) (fun r h' => r = some (.int (oIsThere s a p).1) ∧ h' = hM G mo ad h0 (oIsThere s a p).2.1 (oIsThere s a p).2.2) (fun _ _ => False) := by
  have h6 := J.2.1
  have h2 := J.2.2.1
  have h4 := J.2.2.2.1
  have h10 := J.2.2.2.2.1
  have hs0 := J.1 0
  have hs1 := J.1 1
  refine jM_of (cc := cX4_isThere) (maxL := 2) (ret := (some .boolean)) hlt (by decide +kernel) rfl (Nat.le_of_ble_eq_true rfl) ?_
  intro X C E hXl hXR hXn
  have hin : ∀ w ∈ u_ws RX4 TX4 26, w ∈ wsX4_isThere := by decide +kernel
  show jW X G 2 0 0 0 [(0, .ref mo), (1, .int p)] [] ((hM G mo ad h0 s a))
  refine j_aload_n C (i := 0) (x := mo) 0 rfl dX4_isThere_0 (pc' := 1) rfl ?_
  refine j_aload_n C (i := 0) (x := mo) 0 rfl dX4_isThere_1 (pc' := 2) rfl ?_
  refine j_iload_n C (i := 1) (x := p) 1 rfl dX4_isThere_2 (pc' := 3) rfl ?_
  refine j_callV C (As := [.int p]) (rest := [.ref mo]) (m_isThing X.2.1 C.2.2.2.2.2.2.2.2 G M s a p J) (cwV 1 C.2.2.2.2.1 gX4_isThere_X4_isThing rfl rfl rfl (by decide +kernel) (by rw [hXR]; decide)) hM_obj rfl rfl rfl (Nat.le_of_ble_eq_true rfl) dX4_isThere_3 (pc' := 6) rfl (by rw [hXR]; exact Nat.zero_le _) (by rw [hXR]; exact Nat.zero_le _) (fun _ _ z => z.elim) ?_
  rintro r h' ⟨rfl, rfl⟩
  show jW X G 2 0 0 6 [(0, .ref mo), (1, .int p)] [.int (bI (inN p (s 6))), .ref mo] ((hM G mo ad h0 s a))
  rcases hb_1 : (inN p (s 6)) with _ | _
  · show jW X G 2 0 0 6 [(0, .ref mo), (1, .int p)] [.int (nI 0), .ref mo] ((hM G mo ad h0 s a))
    refine j_iconst C (v := nI 1) rfl dX4_isThere_6 (pc' := 7) rfl ?_
    refine j_iconst C (v := nI 1) rfl dX4_isThere_7 (pc' := 8) rfl ?_
    refine j_callV C (As := [.int (nI 0), .int (nI 1), .int (nI 1)]) (rest := []) (m_goes X.2.1 C.2.2.2.2.2.2.2.2 G M s a false true true) (cwV 3 C.2.2.2.2.1 gX4_isThere_X4_goes rfl rfl rfl (by decide +kernel) (by rw [hXR]; decide)) hM_obj rfl rfl rfl (Nat.le_of_ble_eq_true rfl) dX4_isThere_8 (pc' := 11) rfl (by rw [hXR]; exact Nat.zero_le _) (by rw [hXR]; exact Nat.zero_le _) (fun _ _ z => z.elim) ?_
    rintro r h' ⟨rfl, rfl⟩
    show jW X G 2 0 0 11 [(0, .ref mo), (1, .int p)] [.int (nI 0)] ((hM G mo ad h0 (va_up s 25 1) a))
    refine j_if_eq C dX4_isThere_11 (tgt := 26) (by decide) (pc' := 14) rfl (fun _ => ?_) (fun c_2 => absurd (by decide) c_2)
    refine j_iconst C (v := nI 0) rfl dX4_isThere_26 (pc' := 27) rfl ?_
    exact j_iret C E dX4_isThere_27 rfl (Nat.le_refl _) (Nat.le_refl _) (o_leaf (by unfold oIsThere; rw [if_neg (bff hb_1)] <;> rfl))
  · show jW X G 2 0 0 6 [(0, .ref mo), (1, .int p)] [.int (nI 1), .ref mo] ((hM G mo ad h0 s a))
    obtain ⟨j, hj, rfl⟩ := inN_of hb_1
    refine j_iconst C (v := nI 1) rfl dX4_isThere_6 (pc' := 7) rfl ?_
    refine j_iconst C (v := nI 1) rfl dX4_isThere_7 (pc' := 8) rfl ?_
    refine j_callV C (As := [.int (nI 1), .int (nI 1), .int (nI 1)]) (rest := []) (m_goes X.2.1 C.2.2.2.2.2.2.2.2 G M s a true true true) (cwV 3 C.2.2.2.2.1 gX4_isThere_X4_goes rfl rfl rfl (by decide +kernel) (by rw [hXR]; decide)) hM_obj rfl rfl rfl (Nat.le_of_ble_eq_true rfl) dX4_isThere_8 (pc' := 11) rfl (by rw [hXR]; exact Nat.zero_le _) (by rw [hXR]; exact Nat.zero_le _) (fun _ _ z => z.elim) ?_
    rintro r h' ⟨rfl, rfl⟩
    show jW X G 2 0 0 11 [(0, .ref mo), (1, .int (nI j))] [.int (nI 1)] ((hM G mo ad h0 (va_up s 25 0) a))
    refine j_if_eq C dX4_isThere_11 (tgt := 26) (by decide) (pc' := 14) rfl (fun c_3 => absurd c_3 (by decide)) (fun _ => ?_)
    refine j_aload_n C (i := 0) (x := mo) 0 rfl dX4_isThere_14 (pc' := 15) rfl ?_
    refine j_iload_n C (i := 1) (x := nI j) 1 rfl dX4_isThere_15 (pc' := 16) rfl ?_
    refine j_callV C (As := [.int (nI j)]) (rest := []) (m_is X.2.1 C.2.2.2.2.2.2.2.2 G M (va_up s 25 0) a j I (by omega)) (cwV 1 C.2.2.2.2.1 gX4_isThere_X4_is rfl rfl rfl (by decide +kernel) (by rw [hXR]; decide)) hM_obj rfl rfl rfl (Nat.le_of_ble_eq_true rfl) dX4_isThere_16 (pc' := 19) rfl (by rw [hXR]; exact Nat.zero_le _) (by rw [hXR]; exact Nat.zero_le _) (fun _ _ z => z.elim) ?_
    rintro r h' ⟨rfl, rfl⟩
    show jW X G 2 0 0 19 [(0, .ref mo), (1, .int (nI j))] [.int (bI (mIs a j))] ((hM G mo ad h0 (va_up s 25 0) a))
    rcases hb_4 : (mIs a j) with _ | _
    · show jW X G 2 0 0 19 [(0, .ref mo), (1, .int (nI j))] [.int (nI 0)] ((hM G mo ad h0 (va_up s 25 0) a))
      refine j_if_eq C dX4_isThere_19 (tgt := 26) (by decide) (pc' := 22) rfl (fun _ => ?_) (fun c_5 => absurd (by decide) c_5)
      refine j_iconst C (v := nI 0) rfl dX4_isThere_26 (pc' := 27) rfl ?_
      exact j_iret C E dX4_isThere_27 rfl (Nat.le_refl _) (Nat.le_refl _) (o_leaf (by unfold oIsThere; rw [if_pos hb_1, tn_nI (j := j) (by omega), ← bI_0 hb_4] <;> rfl))
    · show jW X G 2 0 0 19 [(0, .ref mo), (1, .int (nI j))] [.int (nI 1)] ((hM G mo ad h0 (va_up s 25 0) a))
      refine j_if_eq C dX4_isThere_19 (tgt := 26) (by decide) (pc' := 22) rfl (fun c_6 => absurd c_6 (by decide)) (fun _ => ?_)
      refine j_iconst C (v := nI 1) rfl dX4_isThere_22 (pc' := 23) rfl ?_
      refine j_goto C dX4_isThere_23 (pc' := 27) (by decide) ?_
      exact j_iret C E dX4_isThere_27 rfl (Nat.le_refl _) (Nat.le_refl _) (o_leaf (by unfold oIsThere; rw [if_pos hb_1, tn_nI (j := j) (by omega), ← bI_1 hb_4] <;> rfl))
set_option maxRecDepth 100000 in
set_option maxHeartbeats 4000000 in
theorem m_members (l : Launch) (hlt : l.stackTraces = false) (G : jG) {mo : Nat} {ad : Nat → Nat} {h0 : jH} (M : mG mo ad) (s : mS) (a : mA) (p : Int32) (J : IS s) (I : IA a) : jM l G yX4_members wsX4_members 2 43 0 0 [.ref mo, .int p] (hM G mo ad h0 s a) (fun r h' => r = some (.int (oMembers s a p).1) ∧ h' = hM G mo ad h0 (oMembers s a p).2.1 (oMembers s a p).2.2) (fun _ _ => False) := by
  have h6 := J.2.1
  have h2 := J.2.2.1
  have h4 := J.2.2.2.1
  have h10 := J.2.2.2.2.1
  have hs0 := J.1 0
  have hs1 := J.1 1
  refine jM_of (cc := cX4_members) (maxL := 2) (ret := (some .int)) hlt (by decide +kernel) rfl (Nat.le_of_ble_eq_true rfl) ?_
  intro X C E hXl hXR hXn
  have hin : ∀ w ∈ u_ws RX4 TX4 26, w ∈ wsX4_members := by decide +kernel
  show jW X G 2 0 0 0 [(0, .ref mo), (1, .int p)] [] ((hM G mo ad h0 s a))
  refine j_aload_n C (i := 0) (x := mo) 0 rfl dX4_members_0 (pc' := 1) rfl ?_
  refine j_aload_n C (i := 0) (x := mo) 0 rfl dX4_members_1 (pc' := 2) rfl ?_
  refine j_iload_n C (i := 1) (x := p) 1 rfl dX4_members_2 (pc' := 3) rfl ?_
  refine j_callV C (As := [.int p]) (rest := [.ref mo]) (m_isThing X.2.1 C.2.2.2.2.2.2.2.2 G M s a p J) (cwV 1 C.2.2.2.2.1 gX4_members_X4_isThing rfl rfl rfl (by decide +kernel) (by rw [hXR]; decide)) hM_obj rfl rfl rfl (Nat.le_of_ble_eq_true rfl) dX4_members_3 (pc' := 6) rfl (by rw [hXR]; exact Nat.zero_le _) (by rw [hXR]; exact Nat.zero_le _) (fun _ _ z => z.elim) ?_
  rintro r h' ⟨rfl, rfl⟩
  show jW X G 2 0 0 6 [(0, .ref mo), (1, .int p)] [.int (bI (inN p (s 6))), .ref mo] ((hM G mo ad h0 s a))
  rcases hb_1 : (inN p (s 6)) with _ | _
  · show jW X G 2 0 0 6 [(0, .ref mo), (1, .int p)] [.int (nI 0), .ref mo] ((hM G mo ad h0 s a))
    refine j_iconst C (v := nI 1) rfl dX4_members_6 (pc' := 7) rfl ?_
    refine j_iconst C (v := nI 1) rfl dX4_members_7 (pc' := 8) rfl ?_
    refine j_callV C (As := [.int (nI 0), .int (nI 1), .int (nI 1)]) (rest := []) (m_goes X.2.1 C.2.2.2.2.2.2.2.2 G M s a false true true) (cwV 3 C.2.2.2.2.1 gX4_members_X4_goes rfl rfl rfl (by decide +kernel) (by rw [hXR]; decide)) hM_obj rfl rfl rfl (Nat.le_of_ble_eq_true rfl) dX4_members_8 (pc' := 11) rfl (by rw [hXR]; exact Nat.zero_le _) (by rw [hXR]; exact Nat.zero_le _) (fun _ _ z => z.elim) ?_
    rintro r h' ⟨rfl, rfl⟩
    show jW X G 2 0 0 11 [(0, .ref mo), (1, .int p)] [.int (nI 0)] ((hM G mo ad h0 (va_up s 25 1) a))
    refine j_if_eq C dX4_members_11 (tgt := 28) (by decide) (pc' := 14) rfl (fun _ => ?_) (fun c_2 => absurd (by decide) c_2)
    refine j_iconst C (v := nI 0) rfl dX4_members_28 (pc' := 29) rfl ?_
    exact j_iret C E dX4_members_29 rfl (Nat.le_refl _) (Nat.le_refl _) (o_leaf (by unfold oMembers; rw [if_neg (bff hb_1)] <;> rfl))
  · show jW X G 2 0 0 6 [(0, .ref mo), (1, .int p)] [.int (nI 1), .ref mo] ((hM G mo ad h0 s a))
    obtain ⟨j, hj, rfl⟩ := inN_of hb_1
    refine j_iconst C (v := nI 1) rfl dX4_members_6 (pc' := 7) rfl ?_
    refine j_iconst C (v := nI 1) rfl dX4_members_7 (pc' := 8) rfl ?_
    refine j_callV C (As := [.int (nI 1), .int (nI 1), .int (nI 1)]) (rest := []) (m_goes X.2.1 C.2.2.2.2.2.2.2.2 G M s a true true true) (cwV 3 C.2.2.2.2.1 gX4_members_X4_goes rfl rfl rfl (by decide +kernel) (by rw [hXR]; decide)) hM_obj rfl rfl rfl (Nat.le_of_ble_eq_true rfl) dX4_members_8 (pc' := 11) rfl (by rw [hXR]; exact Nat.zero_le _) (by rw [hXR]; exact Nat.zero_le _) (fun _ _ z => z.elim) ?_
    rintro r h' ⟨rfl, rfl⟩
    show jW X G 2 0 0 11 [(0, .ref mo), (1, .int (nI j))] [.int (nI 1)] ((hM G mo ad h0 (va_up s 25 0) a))
    refine j_if_eq C dX4_members_11 (tgt := 28) (by decide) (pc' := 14) rfl (fun c_3 => absurd c_3 (by decide)) (fun _ => ?_)
    refine j_aload_n C (i := 0) (x := mo) 0 rfl dX4_members_14 (pc' := 15) rfl ?_
    refine m_geta C (f := 19) (idx := 50) hin (by decide) rfl (by decide +kernel) dX4_members_15 (pc' := 18) rfl ?_
    refine j_aload_n C (i := 0) (x := mo) 0 rfl dX4_members_18 (pc' := 19) rfl ?_
    refine m_geta C (f := 8) (idx := 20) hin (by decide) rfl (by decide +kernel) dX4_members_19 (pc' := 22) rfl ?_
    refine j_iload_n C (i := 1) (x := nI j) 1 rfl dX4_members_22 (pc' := 23) rfl ?_
    refine m_ald C M (f := 8) (j := j) (by decide) rfl rfl rfl (show j < 40 by omega) dX4_members_23 (pc' := 24) rfl ?_
    have B_4 := IA.last I j
    refine m_ald C M (f := 19) (j := a 8 j) (by decide) rfl rfl rfl (show a 8 j < 1400 by omega) dX4_members_24 (pc' := 25) rfl ?_
    have B_5 := IA.size I (a 8 j)
    refine j_goto C dX4_members_25 (pc' := 29) (by decide) ?_
    exact j_iret C E dX4_members_29 rfl (Nat.le_refl _) (Nat.le_refl _) (o_leaf (by unfold oMembers; rw [if_pos hb_1, tn_nI (j := j) (by omega)] <;> rfl))
set_option maxRecDepth 100000 in
set_option maxHeartbeats 4000000 in
theorem m_usedBy (l : Launch) (hlt : l.stackTraces = false) (G : jG) {mo : Nat} {ad : Nat → Nat} {h0 : jH} (M : mG mo ad) (s : mS) (a : mA) (p : Int32) (J : IS s) (I : IA a) : jM l G yX4_usedBy wsX4_usedBy 3 68 0 0 [.ref mo, .int p] (hM G mo ad h0 s a) (fun r h' => r = some (.int (oUsedBy s a p).1) ∧ h' = hM G mo ad h0 (oUsedBy s a p).2.1 (oUsedBy s a p).2.2) (fun _ _ => False) := by
  have h6 := J.2.1
  have h2 := J.2.2.1
  have h4 := J.2.2.2.1
  have h10 := J.2.2.2.2.1
  have hs0 := J.1 0
  have hs1 := J.1 1
  refine jM_of (cc := cX4_usedBy) (maxL := 2) (ret := (some .int)) hlt (by decide +kernel) rfl (Nat.le_of_ble_eq_true rfl) ?_
  intro X C E hXl hXR hXn
  have hin : ∀ w ∈ u_ws RX4 TX4 26, w ∈ wsX4_usedBy := by decide +kernel
  show jW X G 2 0 0 0 [(0, .ref mo), (1, .int p)] [] ((hM G mo ad h0 s a))
  refine j_aload_n C (i := 0) (x := mo) 0 rfl dX4_usedBy_0 (pc' := 1) rfl ?_
  refine j_aload_n C (i := 0) (x := mo) 0 rfl dX4_usedBy_1 (pc' := 2) rfl ?_
  refine j_iload_n C (i := 1) (x := p) 1 rfl dX4_usedBy_2 (pc' := 3) rfl ?_
  refine j_callV C (As := [.int p]) (rest := [.ref mo]) (m_isThing X.2.1 C.2.2.2.2.2.2.2.2 G M s a p J) (cwV 1 C.2.2.2.2.1 gX4_usedBy_X4_isThing rfl rfl rfl (by decide +kernel) (by rw [hXR]; decide)) hM_obj rfl rfl rfl (Nat.le_of_ble_eq_true rfl) dX4_usedBy_3 (pc' := 6) rfl (by rw [hXR]; exact Nat.zero_le _) (by rw [hXR]; exact Nat.zero_le _) (fun _ _ z => z.elim) ?_
  rintro r h' ⟨rfl, rfl⟩
  show jW X G 2 0 0 6 [(0, .ref mo), (1, .int p)] [.int (bI (inN p (s 6))), .ref mo] ((hM G mo ad h0 s a))
  rcases hb_1 : (inN p (s 6)) with _ | _
  · show jW X G 2 0 0 6 [(0, .ref mo), (1, .int p)] [.int (nI 0), .ref mo] ((hM G mo ad h0 s a))
    refine j_iconst C (v := nI 1) rfl dX4_usedBy_6 (pc' := 7) rfl ?_
    refine j_iconst C (v := nI 1) rfl dX4_usedBy_7 (pc' := 8) rfl ?_
    refine j_callV C (As := [.int (nI 0), .int (nI 1), .int (nI 1)]) (rest := []) (m_goes X.2.1 C.2.2.2.2.2.2.2.2 G M s a false true true) (cwV 3 C.2.2.2.2.1 gX4_usedBy_X4_goes rfl rfl rfl (by decide +kernel) (by rw [hXR]; decide)) hM_obj rfl rfl rfl (Nat.le_of_ble_eq_true rfl) dX4_usedBy_8 (pc' := 11) rfl (by rw [hXR]; exact Nat.zero_le _) (by rw [hXR]; exact Nat.zero_le _) (fun _ _ z => z.elim) ?_
    rintro r h' ⟨rfl, rfl⟩
    show jW X G 2 0 0 11 [(0, .ref mo), (1, .int p)] [.int (nI 0)] ((hM G mo ad h0 (va_up s 25 1) a))
    refine j_if_eq C dX4_usedBy_11 (tgt := 22) (by decide) (pc' := 14) rfl (fun _ => ?_) (fun c_2 => absurd (by decide) c_2)
    refine j_iconst C (v := nI 0) rfl dX4_usedBy_22 (pc' := 23) rfl ?_
    exact j_iret C E dX4_usedBy_23 rfl (Nat.le_refl _) (Nat.le_refl _) (o_leaf (by unfold oUsedBy; rw [if_neg (bff hb_1)] <;> rfl))
  · show jW X G 2 0 0 6 [(0, .ref mo), (1, .int p)] [.int (nI 1), .ref mo] ((hM G mo ad h0 s a))
    obtain ⟨j, hj, rfl⟩ := inN_of hb_1
    refine j_iconst C (v := nI 1) rfl dX4_usedBy_6 (pc' := 7) rfl ?_
    refine j_iconst C (v := nI 1) rfl dX4_usedBy_7 (pc' := 8) rfl ?_
    refine j_callV C (As := [.int (nI 1), .int (nI 1), .int (nI 1)]) (rest := []) (m_goes X.2.1 C.2.2.2.2.2.2.2.2 G M s a true true true) (cwV 3 C.2.2.2.2.1 gX4_usedBy_X4_goes rfl rfl rfl (by decide +kernel) (by rw [hXR]; decide)) hM_obj rfl rfl rfl (Nat.le_of_ble_eq_true rfl) dX4_usedBy_8 (pc' := 11) rfl (by rw [hXR]; exact Nat.zero_le _) (by rw [hXR]; exact Nat.zero_le _) (fun _ _ z => z.elim) ?_
    rintro r h' ⟨rfl, rfl⟩
    show jW X G 2 0 0 11 [(0, .ref mo), (1, .int (nI j))] [.int (nI 1)] ((hM G mo ad h0 (va_up s 25 0) a))
    refine j_if_eq C dX4_usedBy_11 (tgt := 22) (by decide) (pc' := 14) rfl (fun c_3 => absurd c_3 (by decide)) (fun _ => ?_)
    refine j_aload_n C (i := 0) (x := mo) 0 rfl dX4_usedBy_14 (pc' := 15) rfl ?_
    refine j_iload_n C (i := 1) (x := nI j) 1 rfl dX4_usedBy_15 (pc' := 16) rfl ?_
    refine j_callV C (As := [.int (nI j)]) (rest := []) (m_users X.2.1 C.2.2.2.2.2.2.2.2 G M (va_up s 25 0) a j (IS.th J (v := 0) (by first | decide | exact gTh_le _ _ _)) I (by omega)) (cwV 1 C.2.2.2.2.1 gX4_usedBy_X4_users rfl rfl rfl (by decide +kernel) (by rw [hXR]; decide)) hM_obj rfl rfl rfl (Nat.le_of_ble_eq_true rfl) dX4_usedBy_16 (pc' := 19) rfl (by rw [hXR]; exact Nat.zero_le _) (by rw [hXR]; exact Nat.zero_le _) (fun _ _ z => z.elim) ?_
    rintro r h' ⟨rfl, rfl⟩
    show jW X G 2 0 0 19 [(0, .ref mo), (1, .int (nI j))] [.int (nI (mUsers a (s 6) j))] ((hM G mo ad h0 (va_up s 25 0) a))
    have B_4 := mUsers_le a (s 6) j
    refine j_goto C dX4_usedBy_19 (pc' := 23) (by decide) ?_
    exact j_iret C E dX4_usedBy_23 rfl (Nat.le_refl _) (Nat.le_refl _) (o_leaf (by unfold oUsedBy; rw [if_pos hb_1, tn_nI (j := j) (by omega)] <;> rfl))
set_option maxRecDepth 100000 in
set_option maxHeartbeats 4000000 in
theorem m_inCopy (l : Launch) (hlt : l.stackTraces = false) (G : jG) {mo : Nat} {ad : Nat → Nat} {h0 : jH} (M : mG mo ad) (s : mS) (a : mA) (p : Int32) (J : IS s) (I : IA a) (Z0 : 0 < s 6 → a 13 0 = 0) : jM l G yX4_inCopy wsX4_inCopy 2 43 0 0 [.ref mo, .int p] (hM G mo ad h0 s a) (fun r h' => r = some (.int (oInCopy s a p).1) ∧ h' = hM G mo ad h0 (oInCopy s a p).2.1 (oInCopy s a p).2.2) (fun _ _ => False) := by
  have h6 := J.2.1
  have h2 := J.2.2.1
  have h4 := J.2.2.2.1
  have h10 := J.2.2.2.2.1
  have hs0 := J.1 0
  have hs1 := J.1 1
  refine jM_of (cc := cX4_inCopy) (maxL := 2) (ret := (some .int)) hlt (by decide +kernel) rfl (Nat.le_of_ble_eq_true rfl) ?_
  intro X C E hXl hXR hXn
  have hin : ∀ w ∈ u_ws RX4 TX4 26, w ∈ wsX4_inCopy := by decide +kernel
  show jW X G 2 0 0 0 [(0, .ref mo), (1, .int p)] [] ((hM G mo ad h0 s a))
  refine j_aload_n C (i := 0) (x := mo) 0 rfl dX4_inCopy_0 (pc' := 1) rfl ?_
  refine j_aload_n C (i := 0) (x := mo) 0 rfl dX4_inCopy_1 (pc' := 2) rfl ?_
  refine j_iload_n C (i := 1) (x := p) 1 rfl dX4_inCopy_2 (pc' := 3) rfl ?_
  refine j_callV C (As := [.int p]) (rest := [.ref mo]) (m_isThing X.2.1 C.2.2.2.2.2.2.2.2 G M s a p J) (cwV 1 C.2.2.2.2.1 gX4_inCopy_X4_isThing rfl rfl rfl (by decide +kernel) (by rw [hXR]; decide)) hM_obj rfl rfl rfl (Nat.le_of_ble_eq_true rfl) dX4_inCopy_3 (pc' := 6) rfl (by rw [hXR]; exact Nat.zero_le _) (by rw [hXR]; exact Nat.zero_le _) (fun _ _ z => z.elim) ?_
  rintro r h' ⟨rfl, rfl⟩
  show jW X G 2 0 0 6 [(0, .ref mo), (1, .int p)] [.int (bI (inN p (s 6))), .ref mo] ((hM G mo ad h0 s a))
  rcases hb_1 : (inN p (s 6)) with _ | _
  · show jW X G 2 0 0 6 [(0, .ref mo), (1, .int p)] [.int (nI 0), .ref mo] ((hM G mo ad h0 s a))
    refine j_iconst C (v := nI 1) rfl dX4_inCopy_6 (pc' := 7) rfl ?_
    refine j_iconst C (v := nI 1) rfl dX4_inCopy_7 (pc' := 8) rfl ?_
    refine j_callV C (As := [.int (nI 0), .int (nI 1), .int (nI 1)]) (rest := []) (m_goes X.2.1 C.2.2.2.2.2.2.2.2 G M s a false true true) (cwV 3 C.2.2.2.2.1 gX4_inCopy_X4_goes rfl rfl rfl (by decide +kernel) (by rw [hXR]; decide)) hM_obj rfl rfl rfl (Nat.le_of_ble_eq_true rfl) dX4_inCopy_8 (pc' := 11) rfl (by rw [hXR]; exact Nat.zero_le _) (by rw [hXR]; exact Nat.zero_le _) (fun _ _ z => z.elim) ?_
    rintro r h' ⟨rfl, rfl⟩
    show jW X G 2 0 0 11 [(0, .ref mo), (1, .int p)] [.int (nI 0)] ((hM G mo ad h0 (va_up s 25 1) a))
    refine j_if_eq C dX4_inCopy_11 (tgt := 26) (by decide) (pc' := 14) rfl (fun _ => ?_) (fun c_2 => absurd (by decide) c_2)
    refine j_iconst C (v := nI 0) rfl dX4_inCopy_26 (pc' := 27) rfl ?_
    exact j_iret C E dX4_inCopy_27 rfl (Nat.le_refl _) (Nat.le_refl _) (o_leaf (by unfold oInCopy; rw [if_neg (bff hb_1)] <;> rfl))
  · show jW X G 2 0 0 6 [(0, .ref mo), (1, .int p)] [.int (nI 1), .ref mo] ((hM G mo ad h0 s a))
    obtain ⟨j, hj, rfl⟩ := inN_of hb_1
    refine j_iconst C (v := nI 1) rfl dX4_inCopy_6 (pc' := 7) rfl ?_
    refine j_iconst C (v := nI 1) rfl dX4_inCopy_7 (pc' := 8) rfl ?_
    refine j_callV C (As := [.int (nI 1), .int (nI 1), .int (nI 1)]) (rest := []) (m_goes X.2.1 C.2.2.2.2.2.2.2.2 G M s a true true true) (cwV 3 C.2.2.2.2.1 gX4_inCopy_X4_goes rfl rfl rfl (by decide +kernel) (by rw [hXR]; decide)) hM_obj rfl rfl rfl (Nat.le_of_ble_eq_true rfl) dX4_inCopy_8 (pc' := 11) rfl (by rw [hXR]; exact Nat.zero_le _) (by rw [hXR]; exact Nat.zero_le _) (fun _ _ z => z.elim) ?_
    rintro r h' ⟨rfl, rfl⟩
    show jW X G 2 0 0 11 [(0, .ref mo), (1, .int (nI j))] [.int (nI 1)] ((hM G mo ad h0 (va_up s 25 0) a))
    refine j_if_eq C dX4_inCopy_11 (tgt := 26) (by decide) (pc' := 14) rfl (fun c_3 => absurd c_3 (by decide)) (fun _ => ?_)
    refine j_aload_n C (i := 0) (x := mo) 0 rfl dX4_inCopy_14 (pc' := 15) rfl ?_
    refine j_iload_n C (i := 1) (x := nI j) 1 rfl dX4_inCopy_15 (pc' := 16) rfl ?_
    refine j_aload_n C (i := 0) (x := mo) 0 rfl dX4_inCopy_16 (pc' := 17) rfl ?_
    refine m_get C (f := 1) (idx := 158) hin (by decide) rfl (by decide +kernel) dX4_inCopy_17 (pc' := 20) rfl ?_
    show jW X G 2 0 0 20 [(0, .ref mo), (1, .int (nI j))] [.int (nI (s 1)), .int (nI j), .ref mo] ((hM G mo ad h0 (va_up s 25 0) a))
    refine j_callV C (As := [.int (nI j), .int (nI (s 1))]) (rest := []) (m_before X.2.1 C.2.2.2.2.2.2.2.2 G M (va_up s 25 0) a j (s 1) I (Z0 (by omega)) (by omega) (by omega)) (cwV 2 C.2.2.2.2.1 gX4_inCopy_X4_before rfl rfl rfl (by decide +kernel) (by rw [hXR]; decide)) hM_obj rfl rfl rfl (Nat.le_of_ble_eq_true rfl) dX4_inCopy_20 (pc' := 23) rfl (by rw [hXR]; exact Nat.zero_le _) (by rw [hXR]; exact Nat.zero_le _) (fun _ _ z => z.elim) ?_
    rintro r h' ⟨rfl, rfl⟩
    show jW X G 2 0 0 23 [(0, .ref mo), (1, .int (nI j))] [.int (nI (mBef a j (s 1)))] ((hM G mo ad h0 (va_up s 25 0) a))
    refine j_goto C dX4_inCopy_23 (pc' := 27) (by decide) ?_
    exact j_iret C E dX4_inCopy_27 rfl (Nat.le_refl _) (Nat.le_refl _) (o_leaf (by unfold oInCopy; rw [if_pos hb_1, tn_nI (j := j) (by omega)] <;> rfl))
set_option maxRecDepth 100000 in
set_option maxHeartbeats 4000000 in
theorem m_versionAt (l : Launch) (hlt : l.stackTraces = false) (G : jG) {mo : Nat} {ad : Nat → Nat} {h0 : jH} (M : mG mo ad) (s : mS) (a : mA) (p w : Int32) (J : IS s) (I : IA a) (Z0 : 0 < s 6 → a 13 0 = 0) : jM l G yX4_versionAt wsX4_versionAt 2 43 0 0 [.ref mo, .int p, .int w] (hM G mo ad h0 s a) (fun r h' => r = some (.int (oVersionAt s a p w).1) ∧ h' = hM G mo ad h0 (oVersionAt s a p w).2.1 (oVersionAt s a p w).2.2) (fun _ _ => False) := by
  have h6 := J.2.1
  have h2 := J.2.2.1
  have h4 := J.2.2.2.1
  have h10 := J.2.2.2.2.1
  have hs0 := J.1 0
  have hs1 := J.1 1
  refine jM_of (cc := cX4_versionAt) (maxL := 3) (ret := (some .int)) hlt (by decide +kernel) rfl (Nat.le_of_ble_eq_true rfl) ?_
  intro X C E hXl hXR hXn
  have hin : ∀ w ∈ u_ws RX4 TX4 26, w ∈ wsX4_versionAt := by decide +kernel
  show jW X G 3 0 0 0 [(0, .ref mo), (1, .int p), (2, .int w)] [] ((hM G mo ad h0 s a))
  refine j_aload_n C (i := 0) (x := mo) 0 rfl dX4_versionAt_0 (pc' := 1) rfl ?_
  refine j_aload_n C (i := 0) (x := mo) 0 rfl dX4_versionAt_1 (pc' := 2) rfl ?_
  refine j_iload_n C (i := 1) (x := p) 1 rfl dX4_versionAt_2 (pc' := 3) rfl ?_
  refine j_callV C (As := [.int p]) (rest := [.ref mo]) (m_isThing X.2.1 C.2.2.2.2.2.2.2.2 G M s a p J) (cwV 1 C.2.2.2.2.1 gX4_versionAt_X4_isThing rfl rfl rfl (by decide +kernel) (by rw [hXR]; decide)) hM_obj rfl rfl rfl (Nat.le_of_ble_eq_true rfl) dX4_versionAt_3 (pc' := 6) rfl (by rw [hXR]; exact Nat.zero_le _) (by rw [hXR]; exact Nat.zero_le _) (fun _ _ z => z.elim) ?_
  rintro r h' ⟨rfl, rfl⟩
  show jW X G 3 0 0 6 [(0, .ref mo), (1, .int p), (2, .int w)] [.int (bI (inN p (s 6))), .ref mo] ((hM G mo ad h0 s a))
  rcases hb_1 : (inN p (s 6)) with _ | _
  · show jW X G 3 0 0 6 [(0, .ref mo), (1, .int p), (2, .int w)] [.int (nI 0), .ref mo] ((hM G mo ad h0 s a))
    refine j_iload_n C (i := 2) (x := w) 2 rfl dX4_versionAt_6 (pc' := 7) rfl ?_
    refine j_iconst C (v := nI 0) rfl dX4_versionAt_7 (pc' := 8) rfl ?_
    refine j_aload_n C (i := 0) (x := mo) 0 rfl dX4_versionAt_8 (pc' := 9) rfl ?_
    refine m_get C (f := 0) (idx := 110) hin (by decide) rfl (by decide +kernel) dX4_versionAt_9 (pc' := 12) rfl ?_
    refine j_callS C (As := [.int w, .int (nI 0), .int (nI (s 0))]) (rest := [.int (nI 0), .ref mo]) (m_in X.2.1 C.2.2.2.2.2.2.2.2 G w (nI 0) (nI (s 0))) (va_cwS 3 C.2.2.2.2.1 gX4_versionAt_X4_in rfl rfl rfl (by decide +kernel) (by rw [hXR]; decide)) rfl rfl (Nat.le_of_ble_eq_true rfl) dX4_versionAt_12 (pc' := 15) rfl (by rw [hXR]; exact Nat.zero_le _) (by rw [hXR]; exact Nat.zero_le _) (fun _ _ z => z.elim) ?_
    rintro r h' ⟨rfl, rfl⟩
    show jW X G 3 0 0 15 [(0, .ref mo), (1, .int p), (2, .int w)] [.int (bI (decide (nI 0 ≤ w) && decide (w ≤ nI (s 0)))), .int (nI 0), .ref mo] ((hM G mo ad h0 s a))
    rcases hb_2 : (decide (nI 0 ≤ w) && decide (w ≤ nI (s 0))) with _ | _
    · show jW X G 3 0 0 15 [(0, .ref mo), (1, .int p), (2, .int w)] [.int (nI 0), .int (nI 0), .ref mo] ((hM G mo ad h0 s a))
      refine j_iconst C (v := nI 1) rfl dX4_versionAt_15 (pc' := 16) rfl ?_
      refine j_callV C (As := [.int (nI 0), .int (nI 0), .int (nI 1)]) (rest := []) (m_goes X.2.1 C.2.2.2.2.2.2.2.2 G M s a false false true) (cwV 3 C.2.2.2.2.1 gX4_versionAt_X4_goes rfl rfl rfl (by decide +kernel) (by rw [hXR]; decide)) hM_obj rfl rfl rfl (Nat.le_of_ble_eq_true rfl) dX4_versionAt_16 (pc' := 19) rfl (by rw [hXR]; exact Nat.zero_le _) (by rw [hXR]; exact Nat.zero_le _) (fun _ _ z => z.elim) ?_
      rintro r h' ⟨rfl, rfl⟩
      show jW X G 3 0 0 19 [(0, .ref mo), (1, .int p), (2, .int w)] [.int (nI 0)] ((hM G mo ad h0 (va_up s 25 1) a))
      refine j_if_eq C dX4_versionAt_19 (tgt := 33) (by decide) (pc' := 22) rfl (fun _ => ?_) (fun c_3 => absurd (by decide) c_3)
      refine j_iconst C (v := nI 0) rfl dX4_versionAt_33 (pc' := 34) rfl ?_
      exact j_iret C E dX4_versionAt_34 rfl (Nat.le_refl _) (Nat.le_refl _) (o_leaf (by unfold oVersionAt; rw [if_neg (bff hb_1)] <;> rfl))
    · show jW X G 3 0 0 15 [(0, .ref mo), (1, .int p), (2, .int w)] [.int (nI 1), .int (nI 0), .ref mo] ((hM G mo ad h0 s a))
      obtain ⟨i, li, hi, rfl⟩ := inR_of (by omega) (by omega) (show inR _ 0 (s 0) = true from hb_2)
      refine j_iconst C (v := nI 1) rfl dX4_versionAt_15 (pc' := 16) rfl ?_
      refine j_callV C (As := [.int (nI 0), .int (nI 1), .int (nI 1)]) (rest := []) (m_goes X.2.1 C.2.2.2.2.2.2.2.2 G M s a false true true) (cwV 3 C.2.2.2.2.1 gX4_versionAt_X4_goes rfl rfl rfl (by decide +kernel) (by rw [hXR]; decide)) hM_obj rfl rfl rfl (Nat.le_of_ble_eq_true rfl) dX4_versionAt_16 (pc' := 19) rfl (by rw [hXR]; exact Nat.zero_le _) (by rw [hXR]; exact Nat.zero_le _) (fun _ _ z => z.elim) ?_
      rintro r h' ⟨rfl, rfl⟩
      show jW X G 3 0 0 19 [(0, .ref mo), (1, .int p), (2, .int (nI i))] [.int (nI 0)] ((hM G mo ad h0 (va_up s 25 1) a))
      refine j_if_eq C dX4_versionAt_19 (tgt := 33) (by decide) (pc' := 22) rfl (fun _ => ?_) (fun c_4 => absurd (by decide) c_4)
      refine j_iconst C (v := nI 0) rfl dX4_versionAt_33 (pc' := 34) rfl ?_
      exact j_iret C E dX4_versionAt_34 rfl (Nat.le_refl _) (Nat.le_refl _) (o_leaf (by unfold oVersionAt; rw [if_neg (bff hb_1)] <;> rfl))
  · show jW X G 3 0 0 6 [(0, .ref mo), (1, .int p), (2, .int w)] [.int (nI 1), .ref mo] ((hM G mo ad h0 s a))
    obtain ⟨j, hj, rfl⟩ := inN_of hb_1
    refine j_iload_n C (i := 2) (x := w) 2 rfl dX4_versionAt_6 (pc' := 7) rfl ?_
    refine j_iconst C (v := nI 0) rfl dX4_versionAt_7 (pc' := 8) rfl ?_
    refine j_aload_n C (i := 0) (x := mo) 0 rfl dX4_versionAt_8 (pc' := 9) rfl ?_
    refine m_get C (f := 0) (idx := 110) hin (by decide) rfl (by decide +kernel) dX4_versionAt_9 (pc' := 12) rfl ?_
    refine j_callS C (As := [.int w, .int (nI 0), .int (nI (s 0))]) (rest := [.int (nI 1), .ref mo]) (m_in X.2.1 C.2.2.2.2.2.2.2.2 G w (nI 0) (nI (s 0))) (va_cwS 3 C.2.2.2.2.1 gX4_versionAt_X4_in rfl rfl rfl (by decide +kernel) (by rw [hXR]; decide)) rfl rfl (Nat.le_of_ble_eq_true rfl) dX4_versionAt_12 (pc' := 15) rfl (by rw [hXR]; exact Nat.zero_le _) (by rw [hXR]; exact Nat.zero_le _) (fun _ _ z => z.elim) ?_
    rintro r h' ⟨rfl, rfl⟩
    show jW X G 3 0 0 15 [(0, .ref mo), (1, .int (nI j)), (2, .int w)] [.int (bI (decide (nI 0 ≤ w) && decide (w ≤ nI (s 0)))), .int (nI 1), .ref mo] ((hM G mo ad h0 s a))
    rcases hb_5 : (decide (nI 0 ≤ w) && decide (w ≤ nI (s 0))) with _ | _
    · show jW X G 3 0 0 15 [(0, .ref mo), (1, .int (nI j)), (2, .int w)] [.int (nI 0), .int (nI 1), .ref mo] ((hM G mo ad h0 s a))
      refine j_iconst C (v := nI 1) rfl dX4_versionAt_15 (pc' := 16) rfl ?_
      refine j_callV C (As := [.int (nI 1), .int (nI 0), .int (nI 1)]) (rest := []) (m_goes X.2.1 C.2.2.2.2.2.2.2.2 G M s a true false true) (cwV 3 C.2.2.2.2.1 gX4_versionAt_X4_goes rfl rfl rfl (by decide +kernel) (by rw [hXR]; decide)) hM_obj rfl rfl rfl (Nat.le_of_ble_eq_true rfl) dX4_versionAt_16 (pc' := 19) rfl (by rw [hXR]; exact Nat.zero_le _) (by rw [hXR]; exact Nat.zero_le _) (fun _ _ z => z.elim) ?_
      rintro r h' ⟨rfl, rfl⟩
      show jW X G 3 0 0 19 [(0, .ref mo), (1, .int (nI j)), (2, .int w)] [.int (nI 0)] ((hM G mo ad h0 (va_up s 25 2) a))
      refine j_if_eq C dX4_versionAt_19 (tgt := 33) (by decide) (pc' := 22) rfl (fun _ => ?_) (fun c_6 => absurd (by decide) c_6)
      refine j_iconst C (v := nI 0) rfl dX4_versionAt_33 (pc' := 34) rfl ?_
      exact j_iret C E dX4_versionAt_34 rfl (Nat.le_refl _) (Nat.le_refl _) (o_leaf (by unfold oVersionAt; rw [if_pos hb_1, if_neg (bff hb_5)] <;> rfl))
    · show jW X G 3 0 0 15 [(0, .ref mo), (1, .int (nI j)), (2, .int w)] [.int (nI 1), .int (nI 1), .ref mo] ((hM G mo ad h0 s a))
      obtain ⟨i, li, hi, rfl⟩ := inR_of (by omega) (by omega) (show inR _ 0 (s 0) = true from hb_5)
      refine j_iconst C (v := nI 1) rfl dX4_versionAt_15 (pc' := 16) rfl ?_
      refine j_callV C (As := [.int (nI 1), .int (nI 1), .int (nI 1)]) (rest := []) (m_goes X.2.1 C.2.2.2.2.2.2.2.2 G M s a true true true) (cwV 3 C.2.2.2.2.1 gX4_versionAt_X4_goes rfl rfl rfl (by decide +kernel) (by rw [hXR]; decide)) hM_obj rfl rfl rfl (Nat.le_of_ble_eq_true rfl) dX4_versionAt_16 (pc' := 19) rfl (by rw [hXR]; exact Nat.zero_le _) (by rw [hXR]; exact Nat.zero_le _) (fun _ _ z => z.elim) ?_
      rintro r h' ⟨rfl, rfl⟩
      show jW X G 3 0 0 19 [(0, .ref mo), (1, .int (nI j)), (2, .int (nI i))] [.int (nI 1)] ((hM G mo ad h0 (va_up s 25 0) a))
      refine j_if_eq C dX4_versionAt_19 (tgt := 33) (by decide) (pc' := 22) rfl (fun c_7 => absurd c_7 (by decide)) (fun _ => ?_)
      refine j_aload_n C (i := 0) (x := mo) 0 rfl dX4_versionAt_22 (pc' := 23) rfl ?_
      refine j_iload_n C (i := 1) (x := nI j) 1 rfl dX4_versionAt_23 (pc' := 24) rfl ?_
      refine j_iload_n C (i := 2) (x := nI i) 2 rfl dX4_versionAt_24 (pc' := 25) rfl ?_
      refine j_iconst C (v := nI 1) rfl dX4_versionAt_25 (pc' := 26) rfl ?_
      refine j_iadd C (x := nI i) (y := nI 1) dX4_versionAt_26 (pc' := 27) rfl ?_
      refine jt_i (nI_add _ _) ?_
      refine j_callV C (As := [.int (nI j), .int (nI (i + 1))]) (rest := []) (m_before X.2.1 C.2.2.2.2.2.2.2.2 G M (va_up s 25 0) a j (i + 1) I (Z0 (by omega)) (by omega) (by omega)) (cwV 2 C.2.2.2.2.1 gX4_versionAt_X4_before rfl rfl rfl (by decide +kernel) (by rw [hXR]; decide)) hM_obj rfl rfl rfl (Nat.le_of_ble_eq_true rfl) dX4_versionAt_27 (pc' := 30) rfl (by rw [hXR]; exact Nat.zero_le _) (by rw [hXR]; exact Nat.zero_le _) (fun _ _ z => z.elim) ?_
      rintro r h' ⟨rfl, rfl⟩
      show jW X G 3 0 0 30 [(0, .ref mo), (1, .int (nI j)), (2, .int (nI i))] [.int (nI (mBef a j (i + 1)))] ((hM G mo ad h0 (va_up s 25 0) a))
      refine j_goto C dX4_versionAt_30 (pc' := 34) (by decide) ?_
      exact j_iret C E dX4_versionAt_34 rfl (Nat.le_refl _) (Nat.le_refl _) (o_leaf (by unfold oVersionAt; rw [if_pos hb_1, if_pos hb_5, tn_nI (j := j) (by omega), tn_nI (j := i) (by omega)] <;> rfl))
set_option maxRecDepth 100000 in
set_option maxHeartbeats 4000000 in
theorem m_whereIs (l : Launch) (hlt : l.stackTraces = false) (G : jG) {mo : Nat} {ad : Nat → Nat} {h0 : jH} (M : mG mo ad) (s : mS) (a : mA) (p : Int32) (J : IS s) (I : IA a) : jM l G yX4_whereIs wsX4_whereIs 2 43 0 0 [.ref mo, .int p] (hM G mo ad h0 s a) (fun r h' => r = some (.int (oWhereIs s a p).1) ∧ h' = hM G mo ad h0 (oWhereIs s a p).2.1 (oWhereIs s a p).2.2) (fun _ _ => False) := by
  have h6 := J.2.1
  have h2 := J.2.2.1
  have h4 := J.2.2.2.1
  have h10 := J.2.2.2.2.1
  have hs0 := J.1 0
  have hs1 := J.1 1
  refine jM_of (cc := cX4_whereIs) (maxL := 3) (ret := (some .int)) hlt (by decide +kernel) rfl (Nat.le_of_ble_eq_true rfl) ?_
  intro X C E hXl hXR hXn
  have hin : ∀ w ∈ u_ws RX4 TX4 26, w ∈ wsX4_whereIs := by decide +kernel
  show jW X G 3 0 0 0 [(0, .ref mo), (1, .int p)] [] ((hM G mo ad h0 s a))
  refine j_aload_n C (i := 0) (x := mo) 0 rfl dX4_whereIs_0 (pc' := 1) rfl ?_
  refine j_iload_n C (i := 1) (x := p) 1 rfl dX4_whereIs_1 (pc' := 2) rfl ?_
  refine j_callV C (As := [.int p]) (rest := []) (m_isThing X.2.1 C.2.2.2.2.2.2.2.2 G M s a p J) (cwV 1 C.2.2.2.2.1 gX4_whereIs_X4_isThing rfl rfl rfl (by decide +kernel) (by rw [hXR]; decide)) hM_obj rfl rfl rfl (Nat.le_of_ble_eq_true rfl) dX4_whereIs_2 (pc' := 5) rfl (by rw [hXR]; exact Nat.zero_le _) (by rw [hXR]; exact Nat.zero_le _) (fun _ _ z => z.elim) ?_
  rintro r h' ⟨rfl, rfl⟩
  show jW X G 3 0 0 5 [(0, .ref mo), (1, .int p)] [.int (bI (inN p (s 6)))] ((hM G mo ad h0 s a))
  rcases hb_1 : (inN p (s 6)) with _ | _
  · show jW X G 3 0 0 5 [(0, .ref mo), (1, .int p)] [.int (nI 0)] ((hM G mo ad h0 s a))
    refine j_istore_n C (i := 2) (x := nI 0) (l' := [(2, .int (nI 0)), (0, .ref mo), (1, .int p)]) dX4_whereIs_5 (pc' := 6) rfl (by decide) rfl ?_
    refine j_aload_n C (i := 0) (x := mo) 1 rfl dX4_whereIs_6 (pc' := 7) rfl ?_
    refine j_iload_n C (i := 2) (x := nI 0) 0 rfl dX4_whereIs_7 (pc' := 8) rfl ?_
    refine j_iload_n C (i := 2) (x := nI 0) 0 rfl dX4_whereIs_8 (pc' := 9) rfl ?_
    refine j_if_eq C dX4_whereIs_9 (tgt := 33) (by decide) (pc' := 12) rfl (fun _ => ?_) (fun c_2 => absurd (by decide) c_2)
    refine j_iconst C (v := nI 0) rfl dX4_whereIs_33 (pc' := 34) rfl ?_
    refine j_iconst C (v := nI 1) rfl dX4_whereIs_34 (pc' := 35) rfl ?_
    refine j_callV C (As := [.int (nI 0), .int (nI 0), .int (nI 1)]) (rest := []) (m_goes X.2.1 C.2.2.2.2.2.2.2.2 G M s a false false true) (cwV 3 C.2.2.2.2.1 gX4_whereIs_X4_goes rfl rfl rfl (by decide +kernel) (by rw [hXR]; decide)) hM_obj rfl rfl rfl (Nat.le_of_ble_eq_true rfl) dX4_whereIs_35 (pc' := 38) rfl (by rw [hXR]; exact Nat.zero_le _) (by rw [hXR]; exact Nat.zero_le _) (fun _ _ z => z.elim) ?_
    rintro r h' ⟨rfl, rfl⟩
    show jW X G 3 0 0 38 [(2, .int (nI 0)), (0, .ref mo), (1, .int p)] [.int (nI 0)] ((hM G mo ad h0 (va_up s 25 1) a))
    refine j_if_eq C dX4_whereIs_38 (tgt := 55) (by decide) (pc' := 41) rfl (fun _ => ?_) (fun c_3 => absurd (by decide) c_3)
    refine j_iconst C (v := nI 0) rfl dX4_whereIs_55 (pc' := 56) rfl ?_
    exact j_iret C E dX4_whereIs_56 rfl (Nat.le_refl _) (Nat.le_refl _) (o_leaf (by unfold oWhereIs; rw [if_neg (bff hb_1)] <;> rfl))
  · show jW X G 3 0 0 5 [(0, .ref mo), (1, .int p)] [.int (nI 1)] ((hM G mo ad h0 s a))
    obtain ⟨j, hj, rfl⟩ := inN_of hb_1
    refine j_istore_n C (i := 2) (x := nI 1) (l' := [(2, .int (nI 1)), (0, .ref mo), (1, .int (nI j))]) dX4_whereIs_5 (pc' := 6) rfl (by decide) rfl ?_
    refine j_aload_n C (i := 0) (x := mo) 1 rfl dX4_whereIs_6 (pc' := 7) rfl ?_
    refine j_iload_n C (i := 2) (x := nI 1) 0 rfl dX4_whereIs_7 (pc' := 8) rfl ?_
    refine j_iload_n C (i := 2) (x := nI 1) 0 rfl dX4_whereIs_8 (pc' := 9) rfl ?_
    refine j_if_eq C dX4_whereIs_9 (tgt := 33) (by decide) (pc' := 12) rfl (fun c_4 => absurd c_4 (by decide)) (fun _ => ?_)
    refine j_aload_n C (i := 0) (x := mo) 1 rfl dX4_whereIs_12 (pc' := 13) rfl ?_
    refine m_geta C (f := 7) (idx := 17) hin (by decide) rfl (by decide +kernel) dX4_whereIs_13 (pc' := 16) rfl ?_
    refine j_iload_n C (i := 1) (x := nI j) 2 rfl dX4_whereIs_16 (pc' := 17) rfl ?_
    refine m_ald C M (f := 7) (j := j) (by decide) rfl rfl rfl (show j < 40 by omega) dX4_whereIs_17 (pc' := 18) rfl ?_
    have B_5 := IA.kind I j
    refine j_if_ne C dX4_whereIs_18 (tgt := 33) (by decide) (pc' := 21) rfl (fun c_6 => ?_) (fun c_6 => ?_)
    · have c_6 := fun zq => c_6 ((nI_eq (a := a 7 j) (b := 0) (by omega) (by omega)).mpr zq)
      have c_6 : ¬ (a 7 j) = 0 := c_6
      refine j_iconst C (v := nI 0) rfl dX4_whereIs_33 (pc' := 34) rfl ?_
      refine j_iconst C (v := nI 1) rfl dX4_whereIs_34 (pc' := 35) rfl ?_
      refine j_callV C (As := [.int (nI 1), .int (nI 0), .int (nI 1)]) (rest := []) (m_goes X.2.1 C.2.2.2.2.2.2.2.2 G M s a true false true) (cwV 3 C.2.2.2.2.1 gX4_whereIs_X4_goes rfl rfl rfl (by decide +kernel) (by rw [hXR]; decide)) hM_obj rfl rfl rfl (Nat.le_of_ble_eq_true rfl) dX4_whereIs_35 (pc' := 38) rfl (by rw [hXR]; exact Nat.zero_le _) (by rw [hXR]; exact Nat.zero_le _) (fun _ _ z => z.elim) ?_
      rintro r h' ⟨rfl, rfl⟩
      show jW X G 3 0 0 38 [(2, .int (nI 1)), (0, .ref mo), (1, .int (nI j))] [.int (nI 0)] ((hM G mo ad h0 (va_up s 25 2) a))
      refine j_if_eq C dX4_whereIs_38 (tgt := 55) (by decide) (pc' := 41) rfl (fun _ => ?_) (fun c_7 => absurd (by decide) c_7)
      refine j_iconst C (v := nI 0) rfl dX4_whereIs_55 (pc' := 56) rfl ?_
      exact j_iret C E dX4_whereIs_56 rfl (Nat.le_refl _) (Nat.le_refl _) (o_leaf (by unfold oWhereIs; rw [if_pos hb_1, tn_nI (j := j) (by omega), if_neg (fun z => c_6 z.1)] <;> rfl))
    · have c_6 := (nI_eq (a := a 7 j) (b := 0) (by omega) (by omega)).mp c_6
      have c_6 : (a 7 j) = 0 := c_6
      refine j_aload_n C (i := 0) (x := mo) 1 rfl dX4_whereIs_21 (pc' := 22) rfl ?_
      refine j_iload_n C (i := 1) (x := nI j) 2 rfl dX4_whereIs_22 (pc' := 23) rfl ?_
      refine j_callV C (As := [.int (nI j)]) (rest := [.int (nI 1), .ref mo]) (m_is X.2.1 C.2.2.2.2.2.2.2.2 G M s a j I (by omega)) (cwV 1 C.2.2.2.2.1 gX4_whereIs_X4_is rfl rfl rfl (by decide +kernel) (by rw [hXR]; decide)) hM_obj rfl rfl rfl (Nat.le_of_ble_eq_true rfl) dX4_whereIs_23 (pc' := 26) rfl (by rw [hXR]; exact Nat.zero_le _) (by rw [hXR]; exact Nat.zero_le _) (fun _ _ z => z.elim) ?_
      rintro r h' ⟨rfl, rfl⟩
      show jW X G 3 0 0 26 [(2, .int (nI 1)), (0, .ref mo), (1, .int (nI j))] [.int (bI (mIs a j)), .int (nI 1), .ref mo] ((hM G mo ad h0 s a))
      rcases hb_8 : (mIs a j) with _ | _
      · show jW X G 3 0 0 26 [(2, .int (nI 1)), (0, .ref mo), (1, .int (nI j))] [.int (nI 0), .int (nI 1), .ref mo] ((hM G mo ad h0 s a))
        refine j_if_eq C dX4_whereIs_26 (tgt := 33) (by decide) (pc' := 29) rfl (fun _ => ?_) (fun c_9 => absurd (by decide) c_9)
        refine j_iconst C (v := nI 0) rfl dX4_whereIs_33 (pc' := 34) rfl ?_
        refine j_iconst C (v := nI 1) rfl dX4_whereIs_34 (pc' := 35) rfl ?_
        refine j_callV C (As := [.int (nI 1), .int (nI 0), .int (nI 1)]) (rest := []) (m_goes X.2.1 C.2.2.2.2.2.2.2.2 G M s a true false true) (cwV 3 C.2.2.2.2.1 gX4_whereIs_X4_goes rfl rfl rfl (by decide +kernel) (by rw [hXR]; decide)) hM_obj rfl rfl rfl (Nat.le_of_ble_eq_true rfl) dX4_whereIs_35 (pc' := 38) rfl (by rw [hXR]; exact Nat.zero_le _) (by rw [hXR]; exact Nat.zero_le _) (fun _ _ z => z.elim) ?_
        rintro r h' ⟨rfl, rfl⟩
        show jW X G 3 0 0 38 [(2, .int (nI 1)), (0, .ref mo), (1, .int (nI j))] [.int (nI 0)] ((hM G mo ad h0 (va_up s 25 2) a))
        refine j_if_eq C dX4_whereIs_38 (tgt := 55) (by decide) (pc' := 41) rfl (fun _ => ?_) (fun c_10 => absurd (by decide) c_10)
        refine j_iconst C (v := nI 0) rfl dX4_whereIs_55 (pc' := 56) rfl ?_
        exact j_iret C E dX4_whereIs_56 rfl (Nat.le_refl _) (Nat.le_refl _) (o_leaf (by unfold oWhereIs; rw [if_pos hb_1, tn_nI (j := j) (by omega), if_neg (fun z => bff hb_8 z.2)] <;> rfl))
      · show jW X G 3 0 0 26 [(2, .int (nI 1)), (0, .ref mo), (1, .int (nI j))] [.int (nI 1), .int (nI 1), .ref mo] ((hM G mo ad h0 s a))
        refine j_if_eq C dX4_whereIs_26 (tgt := 33) (by decide) (pc' := 29) rfl (fun c_11 => absurd c_11 (by decide)) (fun _ => ?_)
        refine j_iconst C (v := nI 1) rfl dX4_whereIs_29 (pc' := 30) rfl ?_
        refine j_goto C dX4_whereIs_30 (pc' := 34) (by decide) ?_
        refine j_iconst C (v := nI 1) rfl dX4_whereIs_34 (pc' := 35) rfl ?_
        refine j_callV C (As := [.int (nI 1), .int (nI 1), .int (nI 1)]) (rest := []) (m_goes X.2.1 C.2.2.2.2.2.2.2.2 G M s a true true true) (cwV 3 C.2.2.2.2.1 gX4_whereIs_X4_goes rfl rfl rfl (by decide +kernel) (by rw [hXR]; decide)) hM_obj rfl rfl rfl (Nat.le_of_ble_eq_true rfl) dX4_whereIs_35 (pc' := 38) rfl (by rw [hXR]; exact Nat.zero_le _) (by rw [hXR]; exact Nat.zero_le _) (fun _ _ z => z.elim) ?_
        rintro r h' ⟨rfl, rfl⟩
        show jW X G 3 0 0 38 [(2, .int (nI 1)), (0, .ref mo), (1, .int (nI j))] [.int (nI 1)] ((hM G mo ad h0 (va_up s 25 0) a))
        refine j_if_eq C dX4_whereIs_38 (tgt := 55) (by decide) (pc' := 41) rfl (fun c_12 => absurd c_12 (by decide)) (fun _ => ?_)
        refine j_aload_n C (i := 0) (x := mo) 1 rfl dX4_whereIs_41 (pc' := 42) rfl ?_
        refine m_geta C (f := 18) (idx := 47) hin (by decide) rfl (by decide +kernel) dX4_whereIs_42 (pc' := 45) rfl ?_
        refine j_aload_n C (i := 0) (x := mo) 1 rfl dX4_whereIs_45 (pc' := 46) rfl ?_
        refine m_geta C (f := 8) (idx := 20) hin (by decide) rfl (by decide +kernel) dX4_whereIs_46 (pc' := 49) rfl ?_
        refine j_iload_n C (i := 1) (x := nI j) 2 rfl dX4_whereIs_49 (pc' := 50) rfl ?_
        refine m_ald C M (f := 8) (j := j) (by decide) rfl rfl rfl (show j < 40 by omega) dX4_whereIs_50 (pc' := 51) rfl ?_
        have B_13 := IA.last I j
        refine m_ald C M (f := 18) (j := a 8 j) (by decide) rfl rfl rfl (show a 8 j < 1400 by omega) dX4_whereIs_51 (pc' := 52) rfl ?_
        have B_14 := IA.big I 18 (a 8 j)
        refine j_goto C dX4_whereIs_52 (pc' := 56) (by decide) ?_
        exact j_iret C E dX4_whereIs_56 rfl (Nat.le_refl _) (Nat.le_refl _) (o_leaf (by unfold oWhereIs; rw [if_pos hb_1, tn_nI (j := j) (by omega), if_pos ⟨c_6, hb_8⟩] <;> rfl))
set_option maxRecDepth 100000 in
set_option maxHeartbeats 4000000 in
theorem m_pass (l : Launch) (hlt : l.stackTraces = false) (G : jG) {mo : Nat} {ad : Nat → Nat} {h0 : jH} (M : mG mo ad) (s : mS) (a : mA) (m : Int32) (J : IS s) (I : IA a) : jM l G yX4_pass wsX4_pass 1 23 0 0 [.ref mo, .int m] (hM G mo ad h0 s a) (fun r h' => r = some (.int (oPass s a m).1) ∧ h' = hM G mo ad h0 (oPass s a m).2.1 (oPass s a m).2.2) (fun _ _ => False) := by
  have h6 := J.2.1
  have h2 := J.2.2.1
  have h4 := J.2.2.2.1
  have h10 := J.2.2.2.2.1
  have hs0 := J.1 0
  have hs1 := J.1 1
  refine jM_of (cc := cX4_pass) (maxL := 3) (ret := (some .int)) hlt (by decide +kernel) rfl (Nat.le_of_ble_eq_true rfl) ?_
  intro X C E hXl hXR hXn
  have hin : ∀ w ∈ u_ws RX4 TX4 26, w ∈ wsX4_pass := by decide +kernel
  show jW X G 3 0 0 0 [(0, .ref mo), (1, .int m)] [] ((hM G mo ad h0 s a))
  refine j_iload_n C (i := 1) (x := m) 1 rfl dX4_pass_0 (pc' := 1) rfl ?_
  refine j_iconst C (v := nI 1) rfl dX4_pass_1 (pc' := 2) rfl ?_
  refine j_bipush C (v := nI 100) rfl dX4_pass_2 (pc' := 4) rfl ?_
  refine j_callS C (As := [.int m, .int (nI 1), .int (nI 100)]) (rest := []) (m_in X.2.1 C.2.2.2.2.2.2.2.2 G m (nI 1) (nI 100)) (va_cwS 3 C.2.2.2.2.1 gX4_pass_X4_in rfl rfl rfl (by decide +kernel) (by rw [hXR]; decide)) rfl rfl (Nat.le_of_ble_eq_true rfl) dX4_pass_4 (pc' := 7) rfl (by rw [hXR]; exact Nat.zero_le _) (by rw [hXR]; exact Nat.zero_le _) (fun _ _ z => z.elim) ?_
  rintro r h' ⟨rfl, rfl⟩
  show jW X G 3 0 0 7 [(0, .ref mo), (1, .int m)] [.int (bI (decide (nI 1 ≤ m) && decide (m ≤ nI 100)))] ((hM G mo ad h0 s a))
  rcases hb_1 : (decide (nI 1 ≤ m) && decide (m ≤ nI 100)) with _ | _
  · show jW X G 3 0 0 7 [(0, .ref mo), (1, .int m)] [.int (nI 0)] ((hM G mo ad h0 s a))
    refine j_istore_n C (i := 2) (x := nI 0) (l' := [(2, .int (nI 0)), (0, .ref mo), (1, .int m)]) dX4_pass_7 (pc' := 8) rfl (by decide) rfl ?_
    refine j_aload_n C (i := 0) (x := mo) 1 rfl dX4_pass_8 (pc' := 9) rfl ?_
    refine j_iload_n C (i := 2) (x := nI 0) 0 rfl dX4_pass_9 (pc' := 10) rfl ?_
    refine j_iload_n C (i := 2) (x := nI 0) 0 rfl dX4_pass_10 (pc' := 11) rfl ?_
    refine j_if_eq C dX4_pass_11 (tgt := 30) (by decide) (pc' := 14) rfl (fun _ => ?_) (fun c_2 => absurd (by decide) c_2)
    refine j_iconst C (v := nI 0) rfl dX4_pass_30 (pc' := 31) rfl ?_
    refine j_iconst C (v := nI 1) rfl dX4_pass_31 (pc' := 32) rfl ?_
    refine j_callV C (As := [.int (nI 0), .int (nI 0), .int (nI 1)]) (rest := []) (m_goes X.2.1 C.2.2.2.2.2.2.2.2 G M s a false false true) (cwV 3 C.2.2.2.2.1 gX4_pass_X4_goes rfl rfl rfl (by decide +kernel) (by rw [hXR]; decide)) hM_obj rfl rfl rfl (Nat.le_of_ble_eq_true rfl) dX4_pass_32 (pc' := 35) rfl (by rw [hXR]; exact Nat.zero_le _) (by rw [hXR]; exact Nat.zero_le _) (fun _ _ z => z.elim) ?_
    rintro r h' ⟨rfl, rfl⟩
    show jW X G 3 0 0 35 [(2, .int (nI 0)), (0, .ref mo), (1, .int m)] [.int (nI 0)] ((hM G mo ad h0 (va_up s 25 1) a))
    refine j_if_ne C dX4_pass_35 (tgt := 40) (by decide) (pc' := 38) rfl (fun c_3 => absurd (by decide) c_3) (fun _ => ?_)
    refine j_iconst C (v := nI 0) rfl dX4_pass_38 (pc' := 39) rfl ?_
    exact j_iret C E dX4_pass_39 rfl (Nat.le_refl _) (Nat.le_refl _) (o_leaf (by unfold oPass; rw [if_neg (bff hb_1)] <;> rfl))
  · show jW X G 3 0 0 7 [(0, .ref mo), (1, .int m)] [.int (nI 1)] ((hM G mo ad h0 s a))
    obtain ⟨j, lj, hj, rfl⟩ := inR_of (by omega) (by omega) (show inR _ 1 100 = true from hb_1)
    refine j_istore_n C (i := 2) (x := nI 1) (l' := [(2, .int (nI 1)), (0, .ref mo), (1, .int (nI j))]) dX4_pass_7 (pc' := 8) rfl (by decide) rfl ?_
    refine j_aload_n C (i := 0) (x := mo) 1 rfl dX4_pass_8 (pc' := 9) rfl ?_
    refine j_iload_n C (i := 2) (x := nI 1) 0 rfl dX4_pass_9 (pc' := 10) rfl ?_
    refine j_iload_n C (i := 2) (x := nI 1) 0 rfl dX4_pass_10 (pc' := 11) rfl ?_
    refine j_if_eq C dX4_pass_11 (tgt := 30) (by decide) (pc' := 14) rfl (fun c_4 => absurd c_4 (by decide)) (fun _ => ?_)
    refine j_aload_n C (i := 0) (x := mo) 1 rfl dX4_pass_14 (pc' := 15) rfl ?_
    refine m_get C (f := 0) (idx := 110) hin (by decide) rfl (by decide +kernel) dX4_pass_15 (pc' := 18) rfl ?_
    refine j_iload_n C (i := 1) (x := nI j) 2 rfl dX4_pass_18 (pc' := 19) rfl ?_
    refine j_iadd C (x := nI (s 0)) (y := nI j) dX4_pass_19 (pc' := 20) rfl ?_
    refine jt_i (nI_add _ _) ?_
    refine j_sipush C (v := nI 5000) rfl dX4_pass_20 (pc' := 23) rfl ?_
    refine j_icmp_gt C dX4_pass_23 (tgt := 30) (by decide) (pc' := 26) rfl (fun c_5 => ?_) (fun c_5 => ?_)
    · have c_5 := (nI_ltI (a := 5000) (b := s 0 + j) (by omega) (by omega)).mp c_5
      have c_5 : 5000 < (s 0 + j) := c_5
      refine j_iconst C (v := nI 0) rfl dX4_pass_30 (pc' := 31) rfl ?_
      refine j_iconst C (v := nI 1) rfl dX4_pass_31 (pc' := 32) rfl ?_
      refine j_callV C (As := [.int (nI 1), .int (nI 0), .int (nI 1)]) (rest := []) (m_goes X.2.1 C.2.2.2.2.2.2.2.2 G M s a true false true) (cwV 3 C.2.2.2.2.1 gX4_pass_X4_goes rfl rfl rfl (by decide +kernel) (by rw [hXR]; decide)) hM_obj rfl rfl rfl (Nat.le_of_ble_eq_true rfl) dX4_pass_32 (pc' := 35) rfl (by rw [hXR]; exact Nat.zero_le _) (by rw [hXR]; exact Nat.zero_le _) (fun _ _ z => z.elim) ?_
      rintro r h' ⟨rfl, rfl⟩
      show jW X G 3 0 0 35 [(2, .int (nI 1)), (0, .ref mo), (1, .int (nI j))] [.int (nI 0)] ((hM G mo ad h0 (va_up s 25 2) a))
      refine j_if_ne C dX4_pass_35 (tgt := 40) (by decide) (pc' := 38) rfl (fun c_6 => absurd (by decide) c_6) (fun _ => ?_)
      refine j_iconst C (v := nI 0) rfl dX4_pass_38 (pc' := 39) rfl ?_
      exact j_iret C E dX4_pass_39 rfl (Nat.le_refl _) (Nat.le_refl _) (o_leaf (by unfold oPass; rw [if_pos hb_1, tn_nI (j := j) (by omega), if_neg (show ¬ (s 0 + j ≤ 5000) by omega)] <;> rfl))
    · have c_5 := fun zq => c_5 ((nI_ltI (a := 5000) (b := s 0 + j) (by omega) (by omega)).mpr zq)
      have c_5 : ¬ 5000 < (s 0 + j) := c_5
      refine j_iconst C (v := nI 1) rfl dX4_pass_26 (pc' := 27) rfl ?_
      refine j_goto C dX4_pass_27 (pc' := 31) (by decide) ?_
      refine j_iconst C (v := nI 1) rfl dX4_pass_31 (pc' := 32) rfl ?_
      refine j_callV C (As := [.int (nI 1), .int (nI 1), .int (nI 1)]) (rest := []) (m_goes X.2.1 C.2.2.2.2.2.2.2.2 G M s a true true true) (cwV 3 C.2.2.2.2.1 gX4_pass_X4_goes rfl rfl rfl (by decide +kernel) (by rw [hXR]; decide)) hM_obj rfl rfl rfl (Nat.le_of_ble_eq_true rfl) dX4_pass_32 (pc' := 35) rfl (by rw [hXR]; exact Nat.zero_le _) (by rw [hXR]; exact Nat.zero_le _) (fun _ _ z => z.elim) ?_
      rintro r h' ⟨rfl, rfl⟩
      show jW X G 3 0 0 35 [(2, .int (nI 1)), (0, .ref mo), (1, .int (nI j))] [.int (nI 1)] ((hM G mo ad h0 (va_up s 25 0) a))
      refine j_if_ne C dX4_pass_35 (tgt := 40) (by decide) (pc' := 38) rfl (fun _ => ?_) (fun c_7 => absurd c_7 (by decide))
      refine j_aload_n C (i := 0) (x := mo) 1 rfl dX4_pass_40 (pc' := 41) rfl ?_
      refine j_dup C rfl dX4_pass_41 (pc' := 42) rfl ?_
      refine m_get C (f := 0) (idx := 110) hin (by decide) rfl (by decide +kernel) dX4_pass_42 (pc' := 45) rfl ?_
      show jW X G 3 0 0 45 [(2, .int (nI 1)), (0, .ref mo), (1, .int (nI j))] [.int (nI (s 0)), .ref mo] ((hM G mo ad h0 (va_up s 25 0) a))
      refine j_iload_n C (i := 1) (x := nI j) 2 rfl dX4_pass_45 (pc' := 46) rfl ?_
      refine j_iadd C (x := nI (s 0)) (y := nI j) dX4_pass_46 (pc' := 47) rfl ?_
      refine jt_i (nI_add _ _) ?_
      refine m_put C (f := 0) (idx := 110) (v := s 0 + j) hin (by decide) rfl (by decide +kernel) dX4_pass_47 (pc' := 50) rfl ?_
      refine j_aload_n C (i := 0) (x := mo) 1 rfl dX4_pass_50 (pc' := 51) rfl ?_
      refine m_get C (f := 0) (idx := 110) hin (by decide) rfl (by decide +kernel) dX4_pass_51 (pc' := 54) rfl ?_
      show jW X G 3 0 0 54 [(2, .int (nI 1)), (0, .ref mo), (1, .int (nI j))] [.int (nI (s 0 + j))] ((hM G mo ad h0 (va_up (va_up s 25 0) 0 (s 0 + j)) a))
      exact j_iret C E dX4_pass_54 rfl (Nat.le_refl _) (Nat.le_refl _) (o_leaf (by unfold oPass; rw [if_pos hb_1, tn_nI (j := j) (by omega), if_pos (show s 0 + j ≤ 5000 by omega)] <;> rfl))
set_option maxRecDepth 100000 in
set_option maxHeartbeats 4000000 in
theorem m_close (l : Launch) (hlt : l.stackTraces = false) (G : jG) {mo : Nat} {ad : Nat → Nat} {h0 : jH} (M : mG mo ad) (s : mS) (a : mA) (p : Int32) (J : IS s) (I : IA a) : jM l G yX4_close wsX4_close 2 43 0 0 [.ref mo, .int p] (hM G mo ad h0 s a) (fun r h' => r = some (.int (oClose s a p).1) ∧ h' = hM G mo ad h0 (oClose s a p).2.1 (oClose s a p).2.2) (fun _ _ => False) := by
  have h6 := J.2.1
  have h2 := J.2.2.1
  have h4 := J.2.2.2.1
  have h10 := J.2.2.2.2.1
  have hs0 := J.1 0
  have hs1 := J.1 1
  refine jM_of (cc := cX4_close) (maxL := 5) (ret := (some .int)) hlt (by decide +kernel) rfl (Nat.le_of_ble_eq_true rfl) ?_
  intro X C E hXl hXR hXn
  have hin : ∀ w ∈ u_ws RX4 TX4 26, w ∈ wsX4_close := by decide +kernel
  show jW X G 5 0 0 0 [(0, .ref mo), (1, .int p)] [] ((hM G mo ad h0 s a))
  refine j_aload_n C (i := 0) (x := mo) 0 rfl dX4_close_0 (pc' := 1) rfl ?_
  refine j_iload_n C (i := 1) (x := p) 1 rfl dX4_close_1 (pc' := 2) rfl ?_
  refine j_callV C (As := [.int p]) (rest := []) (m_isSet X.2.1 C.2.2.2.2.2.2.2.2 G M s a p J) (cwV 1 C.2.2.2.2.1 gX4_close_X4_isSet rfl rfl rfl (by decide +kernel) (by rw [hXR]; decide)) hM_obj rfl rfl rfl (Nat.le_of_ble_eq_true rfl) dX4_close_2 (pc' := 5) rfl (by rw [hXR]; exact Nat.zero_le _) (by rw [hXR]; exact Nat.zero_le _) (fun _ _ z => z.elim) ?_
  rintro r h' ⟨rfl, rfl⟩
  show jW X G 5 0 0 5 [(0, .ref mo), (1, .int p)] [.int (bI (inN p (s 2)))] ((hM G mo ad h0 s a))
  rcases hb_1 : (inN p (s 2)) with _ | _
  · show jW X G 5 0 0 5 [(0, .ref mo), (1, .int p)] [.int (nI 0)] ((hM G mo ad h0 s a))
    refine j_istore_n C (i := 2) (x := nI 0) (l' := [(2, .int (nI 0)), (0, .ref mo), (1, .int p)]) dX4_close_5 (pc' := 6) rfl (by decide) rfl ?_
    refine j_aload_n C (i := 0) (x := mo) 1 rfl dX4_close_6 (pc' := 7) rfl ?_
    refine j_iload_n C (i := 2) (x := nI 0) 0 rfl dX4_close_7 (pc' := 8) rfl ?_
    refine j_iload_n C (i := 2) (x := nI 0) 0 rfl dX4_close_8 (pc' := 9) rfl ?_
    refine j_if_eq C dX4_close_9 (tgt := 25) (by decide) (pc' := 12) rfl (fun _ => ?_) (fun c_2 => absurd (by decide) c_2)
    refine j_iconst C (v := nI 0) rfl dX4_close_25 (pc' := 26) rfl ?_
    refine j_iconst C (v := nI 1) rfl dX4_close_26 (pc' := 27) rfl ?_
    refine j_callV C (As := [.int (nI 0), .int (nI 0), .int (nI 1)]) (rest := []) (m_goes X.2.1 C.2.2.2.2.2.2.2.2 G M s a false false true) (cwV 3 C.2.2.2.2.1 gX4_close_X4_goes rfl rfl rfl (by decide +kernel) (by rw [hXR]; decide)) hM_obj rfl rfl rfl (Nat.le_of_ble_eq_true rfl) dX4_close_27 (pc' := 30) rfl (by rw [hXR]; exact Nat.zero_le _) (by rw [hXR]; exact Nat.zero_le _) (fun _ _ z => z.elim) ?_
    rintro r h' ⟨rfl, rfl⟩
    show jW X G 5 0 0 30 [(2, .int (nI 0)), (0, .ref mo), (1, .int p)] [.int (nI 0)] ((hM G mo ad h0 (va_up s 25 1) a))
    refine j_if_ne C dX4_close_30 (tgt := 35) (by decide) (pc' := 33) rfl (fun c_3 => absurd (by decide) c_3) (fun _ => ?_)
    refine j_iconst C (v := nI 0) rfl dX4_close_33 (pc' := 34) rfl ?_
    exact j_iret C E dX4_close_34 rfl (Nat.le_refl _) (Nat.le_refl _) (o_leaf (by unfold oClose; rw [if_neg (bff hb_1)] <;> rfl))
  · show jW X G 5 0 0 5 [(0, .ref mo), (1, .int p)] [.int (nI 1)] ((hM G mo ad h0 s a))
    obtain ⟨j, hj, rfl⟩ := inN_of hb_1
    refine j_istore_n C (i := 2) (x := nI 1) (l' := [(2, .int (nI 1)), (0, .ref mo), (1, .int (nI j))]) dX4_close_5 (pc' := 6) rfl (by decide) rfl ?_
    refine j_aload_n C (i := 0) (x := mo) 1 rfl dX4_close_6 (pc' := 7) rfl ?_
    refine j_iload_n C (i := 2) (x := nI 1) 0 rfl dX4_close_7 (pc' := 8) rfl ?_
    refine j_iload_n C (i := 2) (x := nI 1) 0 rfl dX4_close_8 (pc' := 9) rfl ?_
    refine j_if_eq C dX4_close_9 (tgt := 25) (by decide) (pc' := 12) rfl (fun c_4 => absurd c_4 (by decide)) (fun _ => ?_)
    refine j_aload_n C (i := 0) (x := mo) 1 rfl dX4_close_12 (pc' := 13) rfl ?_
    refine m_geta C (f := 3) (idx := 7) hin (by decide) rfl (by decide +kernel) dX4_close_13 (pc' := 16) rfl ?_
    refine j_iload_n C (i := 1) (x := nI j) 2 rfl dX4_close_16 (pc' := 17) rfl ?_
    refine m_zld C M (f := 3) (j := j) (by decide) rfl rfl rfl (show j < 20 by omega) dX4_close_17 (pc' := 18) rfl ?_
    have B_5 := IA.closed I j
    refine j_if_ne C dX4_close_18 (tgt := 25) (by decide) (pc' := 21) rfl (fun c_6 => ?_) (fun c_6 => ?_)
    · have c_6 := fun zq => c_6 ((nI_eq (a := a 3 j) (b := 0) (by omega) (by omega)).mpr zq)
      have c_6 : ¬ (a 3 j) = 0 := c_6
      refine j_iconst C (v := nI 0) rfl dX4_close_25 (pc' := 26) rfl ?_
      refine j_iconst C (v := nI 1) rfl dX4_close_26 (pc' := 27) rfl ?_
      refine j_callV C (As := [.int (nI 1), .int (nI 0), .int (nI 1)]) (rest := []) (m_goes X.2.1 C.2.2.2.2.2.2.2.2 G M s a true false true) (cwV 3 C.2.2.2.2.1 gX4_close_X4_goes rfl rfl rfl (by decide +kernel) (by rw [hXR]; decide)) hM_obj rfl rfl rfl (Nat.le_of_ble_eq_true rfl) dX4_close_27 (pc' := 30) rfl (by rw [hXR]; exact Nat.zero_le _) (by rw [hXR]; exact Nat.zero_le _) (fun _ _ z => z.elim) ?_
      rintro r h' ⟨rfl, rfl⟩
      show jW X G 5 0 0 30 [(2, .int (nI 1)), (0, .ref mo), (1, .int (nI j))] [.int (nI 0)] ((hM G mo ad h0 (va_up s 25 2) a))
      refine j_if_ne C dX4_close_30 (tgt := 35) (by decide) (pc' := 33) rfl (fun c_7 => absurd (by decide) c_7) (fun _ => ?_)
      refine j_iconst C (v := nI 0) rfl dX4_close_33 (pc' := 34) rfl ?_
      exact j_iret C E dX4_close_34 rfl (Nat.le_refl _) (Nat.le_refl _) (o_leaf (by unfold oClose; rw [if_pos hb_1, tn_nI (j := j) (by omega), if_neg c_6] <;> rfl))
    · have c_6 := (nI_eq (a := a 3 j) (b := 0) (by omega) (by omega)).mp c_6
      have c_6 : (a 3 j) = 0 := c_6
      refine j_iconst C (v := nI 1) rfl dX4_close_21 (pc' := 22) rfl ?_
      refine j_goto C dX4_close_22 (pc' := 26) (by decide) ?_
      refine j_iconst C (v := nI 1) rfl dX4_close_26 (pc' := 27) rfl ?_
      refine j_callV C (As := [.int (nI 1), .int (nI 1), .int (nI 1)]) (rest := []) (m_goes X.2.1 C.2.2.2.2.2.2.2.2 G M s a true true true) (cwV 3 C.2.2.2.2.1 gX4_close_X4_goes rfl rfl rfl (by decide +kernel) (by rw [hXR]; decide)) hM_obj rfl rfl rfl (Nat.le_of_ble_eq_true rfl) dX4_close_27 (pc' := 30) rfl (by rw [hXR]; exact Nat.zero_le _) (by rw [hXR]; exact Nat.zero_le _) (fun _ _ z => z.elim) ?_
      rintro r h' ⟨rfl, rfl⟩
      show jW X G 5 0 0 30 [(2, .int (nI 1)), (0, .ref mo), (1, .int (nI j))] [.int (nI 1)] ((hM G mo ad h0 (va_up s 25 0) a))
      refine j_if_ne C dX4_close_30 (tgt := 35) (by decide) (pc' := 33) rfl (fun _ => ?_) (fun c_8 => absurd c_8 (by decide))
      refine j_aload_n C (i := 0) (x := mo) 1 rfl dX4_close_35 (pc' := 36) rfl ?_
      refine m_geta C (f := 3) (idx := 7) hin (by decide) rfl (by decide +kernel) dX4_close_36 (pc' := 39) rfl ?_
      refine j_iload_n C (i := 1) (x := nI j) 2 rfl dX4_close_39 (pc' := 40) rfl ?_
      refine j_iconst C (v := nI 1) rfl dX4_close_40 (pc' := 41) rfl ?_
      refine m_zst C M (f := 3) (j := j) (v := 1) (by decide) rfl rfl rfl (show j < 20 by omega) (by first | rfl | exact bI_vp _) dX4_close_41 (pc' := 42) rfl ?_
      refine j_iconst C (v := nI 0) rfl dX4_close_42 (pc' := 43) rfl ?_
      refine j_istore_n C (i := 3) (x := nI 0) (l' := [(3, .int (nI 0)), (2, .int (nI 1)), (0, .ref mo), (1, .int (nI j))]) dX4_close_43 (pc' := 44) rfl (by decide) rfl ?_
      refine j_iconst C (v := nI 0) rfl dX4_close_44 (pc' := 45) rfl ?_
      refine j_istore C (i := 4) (x := nI 0) (l' := [(4, .int (nI 0)), (3, .int (nI 0)), (2, .int (nI 1)), (0, .ref mo), (1, .int (nI j))]) dX4_close_45 (pc' := 47) rfl (by decide) rfl ?_
      have L_47 : ∀ (N_47 : Nat) (k : Nat), (s 10 - k) < N_47 → (k ≤ s 10) → jW X G 5 0 0 47 [(0, .ref mo), (1, .int (nI j)), (2, .int (nI 1)), (3, .int (nI (cnt (fun k => decide (a 14 k = j)) k))), (4, .int (nI k))] [] ((hM G mo ad h0 (va_up s 25 0) (va_up2 a 3 j 1))) := by
        intro N_47
        induction N_47 with
        | zero => intro k hm_47 hk; omega
        | succ N_47 ih_47 =>
          intro k hm_47 hk
          refine j_iload C (i := 4) (x := nI k) 4 rfl dX4_close_47 (pc' := 49) rfl ?_
          refine j_aload_n C (i := 0) (x := mo) 0 rfl dX4_close_49 (pc' := 50) rfl ?_
          refine m_get C (f := 10) (idx := 87) hin (by decide) rfl (by decide +kernel) dX4_close_50 (pc' := 53) rfl ?_
          show jW X G 5 0 0 53 [(0, .ref mo), (1, .int (nI j)), (2, .int (nI 1)), (3, .int (nI (cnt (fun k => decide (a 14 k = j)) k))), (4, .int (nI k))] [.int (nI (s 10)), .int (nI k)] ((hM G mo ad h0 (va_up s 25 0) (va_up2 a 3 j 1)))
          refine j_icmp_ge C dX4_close_53 (tgt := 81) (by decide) (pc' := 56) rfl (fun c_9 => ?_) (fun c_9 => ?_)
          · have c_9 := (nI_leI (a := s 10) (b := k) (by omega) (by omega)).mp c_9
            have c_9 : (s 10) ≤ k := c_9
            refine j_iload_n C (i := 3) (x := nI (cnt (fun k => decide (a 14 k = j)) k)) 3 rfl dX4_close_81 (pc' := 82) rfl ?_
            exact j_iret C E dX4_close_82 rfl (Nat.le_refl _) (Nat.le_refl _) (o_leaf (by unfold oClose; rw [if_pos hb_1, tn_nI (j := j) (by omega), if_pos (show a 3 j = 0 by omega), show s 10 = k from by omega] <;> rfl))
          · have c_9 := fun zq => c_9 ((nI_leI (a := s 10) (b := k) (by omega) (by omega)).mpr zq)
            have c_9 : ¬ (s 10) ≤ k := c_9
            refine j_iload_n C (i := 3) (x := nI (cnt (fun k => decide (a 14 k = j)) k)) 3 rfl dX4_close_56 (pc' := 57) rfl ?_
            refine j_aload_n C (i := 0) (x := mo) 0 rfl dX4_close_57 (pc' := 58) rfl ?_
            refine m_geta C (f := 14) (idx := 35) hin (by decide) rfl (by decide +kernel) dX4_close_58 (pc' := 61) rfl ?_
            refine j_iload C (i := 4) (x := nI k) 4 rfl dX4_close_61 (pc' := 63) rfl ?_
            refine m_ald C M (f := 14) (j := k) (by decide) rfl rfl rfl (show k < 1400 by omega) dX4_close_63 (pc' := 64) rfl ?_
            show jW X G 5 0 0 64 [(0, .ref mo), (1, .int (nI j)), (2, .int (nI 1)), (3, .int (nI (cnt (fun k => decide (a 14 k = j)) k))), (4, .int (nI k))] [.int (nI (a 14 k)), .int (nI (cnt (fun k => decide (a 14 k = j)) k))] ((hM G mo ad h0 (va_up s 25 0) (va_up2 a 3 j 1)))
            have B_10 := IA.big I 14 k
            refine j_iload_n C (i := 1) (x := nI j) 1 rfl dX4_close_64 (pc' := 65) rfl ?_
            refine j_icmp_ne C dX4_close_65 (tgt := 72) (by decide) (pc' := 68) rfl (fun c_11 => ?_) (fun c_11 => ?_)
            · have c_11 := fun zq => c_11 ((nI_eq (a := a 14 k) (b := j) (by omega) (by omega)).mpr zq)
              have c_11 : ¬ (a 14 k) = j := c_11
              refine j_iconst C (v := nI 0) rfl dX4_close_72 (pc' := 73) rfl ?_
              refine j_iadd C (x := nI (cnt (fun k => decide (a 14 k = j)) k)) (y := nI 0) dX4_close_73 (pc' := 74) rfl ?_
              refine jt_i (nI_add _ _) ?_
              refine j_istore_n C (i := 3) (x := nI (cnt (fun k => decide (a 14 k = j)) k + 0)) (l' := [(3, .int (nI (cnt (fun k => decide (a 14 k = j)) k + 0))), (0, .ref mo), (1, .int (nI j)), (2, .int (nI 1)), (4, .int (nI k))]) dX4_close_74 (pc' := 75) rfl (by decide) rfl ?_
              refine j_iinc C (i := 4) (q := 4) (x := nI k) (v := nI (k + 1)) (l' := [(4, .int (nI (k + 1))), (3, .int (nI (cnt (fun k => decide (a 14 k = j)) k + 0))), (0, .ref mo), (1, .int (nI j)), (2, .int (nI 1))]) dX4_close_75 (pc' := 78) rfl rfl (nI_add _ _) (by decide) rfl ?_
              refine j_goto C dX4_close_78 (pc' := 47) (by decide) ?_
              refine jt_loc (l' := [(4, .int (nI (k + 1))), (3, .int (nI (cnt (fun k => decide (a 14 k = j)) (k + 1)))), (0, .ref mo), (1, .int (nI j)), (2, .int (nI 1))]) (by rw [← cnt_b (P := (fun k => decide (a 14 k = j))) (n := k) (b := false) (decide_eq_false c_11)]; rfl) ?_
              exact jW.locals [2, 3, 4, 1, 0] rfl (ih_47 (k + 1) (by omega) (by omega))
            · have c_11 := (nI_eq (a := a 14 k) (b := j) (by omega) (by omega)).mp c_11
              have c_11 : (a 14 k) = j := c_11
              refine j_iconst C (v := nI 1) rfl dX4_close_68 (pc' := 69) rfl ?_
              refine j_goto C dX4_close_69 (pc' := 73) (by decide) ?_
              refine j_iadd C (x := nI (cnt (fun k => decide (a 14 k = j)) k)) (y := nI 1) dX4_close_73 (pc' := 74) rfl ?_
              refine jt_i (nI_add _ _) ?_
              refine j_istore_n C (i := 3) (x := nI (cnt (fun k => decide (a 14 k = j)) k + 1)) (l' := [(3, .int (nI (cnt (fun k => decide (a 14 k = j)) k + 1))), (0, .ref mo), (1, .int (nI j)), (2, .int (nI 1)), (4, .int (nI k))]) dX4_close_74 (pc' := 75) rfl (by decide) rfl ?_
              refine j_iinc C (i := 4) (q := 4) (x := nI k) (v := nI (k + 1)) (l' := [(4, .int (nI (k + 1))), (3, .int (nI (cnt (fun k => decide (a 14 k = j)) k + 1))), (0, .ref mo), (1, .int (nI j)), (2, .int (nI 1))]) dX4_close_75 (pc' := 78) rfl rfl (nI_add _ _) (by decide) rfl ?_
              refine j_goto C dX4_close_78 (pc' := 47) (by decide) ?_
              refine jt_loc (l' := [(4, .int (nI (k + 1))), (3, .int (nI (cnt (fun k => decide (a 14 k = j)) (k + 1)))), (0, .ref mo), (1, .int (nI j)), (2, .int (nI 1))]) (by rw [← cnt_b (P := (fun k => decide (a 14 k = j))) (n := k) (b := true) (decide_eq_true c_11)]; rfl) ?_
              exact jW.locals [2, 3, 4, 1, 0] rfl (ih_47 (k + 1) (by omega) (by omega))
      exact jW.locals [3, 4, 2, 1, 0] rfl (L_47 ((s 10 - 0) + 1) 0 (by omega) (by omega))
set_option maxRecDepth 100000 in
set_option maxHeartbeats 4000000 in
theorem m_take (l : Launch) (hlt : l.stackTraces = false) (G : jG) {mo : Nat} {ad : Nat → Nat} {h0 : jH} (M : mG mo ad) (s : mS) (a : mA) (m : Int32) (J : IS s) (I : IA a) : jM l G yX4_take wsX4_take 1 23 0 0 [.ref mo, .int m] (hM G mo ad h0 s a) (fun r h' => r = some (.int (oTake s a m).1) ∧ h' = hM G mo ad h0 (oTake s a m).2.1 (oTake s a m).2.2) (fun _ _ => False) := by
  have h6 := J.2.1
  have h2 := J.2.2.1
  have h4 := J.2.2.2.1
  have h10 := J.2.2.2.2.1
  have hs0 := J.1 0
  have hs1 := J.1 1
  refine jM_of (cc := cX4_take) (maxL := 5) (ret := (some .int)) hlt (by decide +kernel) rfl (Nat.le_of_ble_eq_true rfl) ?_
  intro X C E hXl hXR hXn
  have hin : ∀ w ∈ u_ws RX4 TX4 26, w ∈ wsX4_take := by decide +kernel
  show jW X G 5 0 0 0 [(0, .ref mo), (1, .int m)] [] ((hM G mo ad h0 s a))
  refine j_aload_n C (i := 0) (x := mo) 0 rfl dX4_take_0 (pc' := 1) rfl ?_
  refine j_iload_n C (i := 1) (x := m) 1 rfl dX4_take_1 (pc' := 2) rfl ?_
  refine j_iconst C (v := nI 1) rfl dX4_take_2 (pc' := 3) rfl ?_
  refine j_bipush C (v := nI 100) rfl dX4_take_3 (pc' := 5) rfl ?_
  refine j_callS C (As := [.int m, .int (nI 1), .int (nI 100)]) (rest := [.ref mo]) (m_in X.2.1 C.2.2.2.2.2.2.2.2 G m (nI 1) (nI 100)) (va_cwS 3 C.2.2.2.2.1 gX4_take_X4_in rfl rfl rfl (by decide +kernel) (by rw [hXR]; decide)) rfl rfl (Nat.le_of_ble_eq_true rfl) dX4_take_5 (pc' := 8) rfl (by rw [hXR]; exact Nat.zero_le _) (by rw [hXR]; exact Nat.zero_le _) (fun _ _ z => z.elim) ?_
  rintro r h' ⟨rfl, rfl⟩
  show jW X G 5 0 0 8 [(0, .ref mo), (1, .int m)] [.int (bI (decide (nI 1 ≤ m) && decide (m ≤ nI 100))), .ref mo] ((hM G mo ad h0 s a))
  rcases hb_1 : (decide (nI 1 ≤ m) && decide (m ≤ nI 100)) with _ | _
  · show jW X G 5 0 0 8 [(0, .ref mo), (1, .int m)] [.int (nI 0), .ref mo] ((hM G mo ad h0 s a))
    refine j_iconst C (v := nI 1) rfl dX4_take_8 (pc' := 9) rfl ?_
    refine j_iconst C (v := nI 1) rfl dX4_take_9 (pc' := 10) rfl ?_
    refine j_callV C (As := [.int (nI 0), .int (nI 1), .int (nI 1)]) (rest := []) (m_goes X.2.1 C.2.2.2.2.2.2.2.2 G M s a false true true) (cwV 3 C.2.2.2.2.1 gX4_take_X4_goes rfl rfl rfl (by decide +kernel) (by rw [hXR]; decide)) hM_obj rfl rfl rfl (Nat.le_of_ble_eq_true rfl) dX4_take_10 (pc' := 13) rfl (by rw [hXR]; exact Nat.zero_le _) (by rw [hXR]; exact Nat.zero_le _) (fun _ _ z => z.elim) ?_
    rintro r h' ⟨rfl, rfl⟩
    show jW X G 5 0 0 13 [(0, .ref mo), (1, .int m)] [.int (nI 0)] ((hM G mo ad h0 (va_up s 25 1) a))
    refine j_if_ne C dX4_take_13 (tgt := 18) (by decide) (pc' := 16) rfl (fun c_2 => absurd (by decide) c_2) (fun _ => ?_)
    refine j_iconst C (v := nI 0) rfl dX4_take_16 (pc' := 17) rfl ?_
    exact j_iret C E dX4_take_17 rfl (Nat.le_refl _) (Nat.le_refl _) (o_leaf (by unfold oTake; rw [if_neg (bff hb_1)] <;> rfl))
  · show jW X G 5 0 0 8 [(0, .ref mo), (1, .int m)] [.int (nI 1), .ref mo] ((hM G mo ad h0 s a))
    obtain ⟨j, lj, hj, rfl⟩ := inR_of (by omega) (by omega) (show inR _ 1 100 = true from hb_1)
    refine j_iconst C (v := nI 1) rfl dX4_take_8 (pc' := 9) rfl ?_
    refine j_iconst C (v := nI 1) rfl dX4_take_9 (pc' := 10) rfl ?_
    refine j_callV C (As := [.int (nI 1), .int (nI 1), .int (nI 1)]) (rest := []) (m_goes X.2.1 C.2.2.2.2.2.2.2.2 G M s a true true true) (cwV 3 C.2.2.2.2.1 gX4_take_X4_goes rfl rfl rfl (by decide +kernel) (by rw [hXR]; decide)) hM_obj rfl rfl rfl (Nat.le_of_ble_eq_true rfl) dX4_take_10 (pc' := 13) rfl (by rw [hXR]; exact Nat.zero_le _) (by rw [hXR]; exact Nat.zero_le _) (fun _ _ z => z.elim) ?_
    rintro r h' ⟨rfl, rfl⟩
    show jW X G 5 0 0 13 [(0, .ref mo), (1, .int (nI j))] [.int (nI 1)] ((hM G mo ad h0 (va_up s 25 0) a))
    refine j_if_ne C dX4_take_13 (tgt := 18) (by decide) (pc' := 16) rfl (fun _ => ?_) (fun c_3 => absurd c_3 (by decide))
    refine j_aload_n C (i := 0) (x := mo) 0 rfl dX4_take_18 (pc' := 19) rfl ?_
    refine m_get C (f := 1) (idx := 158) hin (by decide) rfl (by decide +kernel) dX4_take_19 (pc' := 22) rfl ?_
    show jW X G 5 0 0 22 [(0, .ref mo), (1, .int (nI j))] [.int (nI (s 1))] ((hM G mo ad h0 (va_up s 25 0) a))
    refine j_istore_n C (i := 2) (x := nI (s 1)) (l' := [(2, .int (nI (s 1))), (0, .ref mo), (1, .int (nI j))]) dX4_take_22 (pc' := 23) rfl (by decide) rfl ?_
    refine j_aload_n C (i := 0) (x := mo) 1 rfl dX4_take_23 (pc' := 24) rfl ?_
    refine j_aload_n C (i := 0) (x := mo) 1 rfl dX4_take_24 (pc' := 25) rfl ?_
    refine m_get C (f := 1) (idx := 158) hin (by decide) rfl (by decide +kernel) dX4_take_25 (pc' := 28) rfl ?_
    show jW X G 5 0 0 28 [(2, .int (nI (s 1))), (0, .ref mo), (1, .int (nI j))] [.int (nI (s 1)), .ref mo] ((hM G mo ad h0 (va_up s 25 0) a))
    refine j_iload_n C (i := 1) (x := nI j) 2 rfl dX4_take_28 (pc' := 29) rfl ?_
    refine j_iadd C (x := nI (s 1)) (y := nI j) dX4_take_29 (pc' := 30) rfl ?_
    refine jt_i (nI_add _ _) ?_
    refine j_aload_n C (i := 0) (x := mo) 1 rfl dX4_take_30 (pc' := 31) rfl ?_
    refine m_get C (f := 0) (idx := 110) hin (by decide) rfl (by decide +kernel) dX4_take_31 (pc' := 34) rfl ?_
    show jW X G 5 0 0 34 [(2, .int (nI (s 1))), (0, .ref mo), (1, .int (nI j))] [.int (nI (s 0)), .int (nI (s 1 + j)), .ref mo] ((hM G mo ad h0 (va_up s 25 0) a))
    refine j_icmp_ge C dX4_take_34 (tgt := 46) (by decide) (pc' := 37) rfl (fun c_4 => ?_) (fun c_4 => ?_)
    · have c_4 := (nI_leI (a := s 0) (b := s 1 + j) (by omega) (by omega)).mp c_4
      have c_4 : (s 0) ≤ (s 1 + j) := c_4
      refine j_aload_n C (i := 0) (x := mo) 1 rfl dX4_take_46 (pc' := 47) rfl ?_
      refine m_get C (f := 0) (idx := 110) hin (by decide) rfl (by decide +kernel) dX4_take_47 (pc' := 50) rfl ?_
      show jW X G 5 0 0 50 [(2, .int (nI (s 1))), (0, .ref mo), (1, .int (nI j))] [.int (nI (s 0)), .ref mo] ((hM G mo ad h0 (va_up s 25 0) a))
      refine m_put C (f := 1) (idx := 158) (v := s 0) hin (by decide) rfl (by decide +kernel) dX4_take_50 (pc' := 53) rfl ?_
      refine j_iconst C (v := nI 0) rfl dX4_take_53 (pc' := 54) rfl ?_
      refine j_istore_n C (i := 3) (x := nI 0) (l' := [(3, .int (nI 0)), (2, .int (nI (s 1))), (0, .ref mo), (1, .int (nI j))]) dX4_take_54 (pc' := 55) rfl (by decide) rfl ?_
      refine j_iconst C (v := nI 0) rfl dX4_take_55 (pc' := 56) rfl ?_
      refine j_istore C (i := 4) (x := nI 0) (l' := [(4, .int (nI 0)), (3, .int (nI 0)), (2, .int (nI (s 1))), (0, .ref mo), (1, .int (nI j))]) dX4_take_56 (pc' := 58) rfl (by decide) rfl ?_
      have L_58 : ∀ (N_58 : Nat) (k : Nat), (s 10 - k) < N_58 → (k ≤ s 10) → jW X G 5 0 0 58 [(0, .ref mo), (1, .int (nI j)), (2, .int (nI (s 1))), (3, .int (nI (cnt (fun k => decide (s 1 ≤ a 15 k) && decide (a 15 k < s 0)) k))), (4, .int (nI k))] [] ((hM G mo ad h0 (va_up (va_up s 25 0) 1 (s 0)) a)) := by
        intro N_58
        induction N_58 with
        | zero => intro k hm_58 hk; omega
        | succ N_58 ih_58 =>
          intro k hm_58 hk
          refine j_iload C (i := 4) (x := nI k) 4 rfl dX4_take_58 (pc' := 60) rfl ?_
          refine j_aload_n C (i := 0) (x := mo) 0 rfl dX4_take_60 (pc' := 61) rfl ?_
          refine m_get C (f := 10) (idx := 87) hin (by decide) rfl (by decide +kernel) dX4_take_61 (pc' := 64) rfl ?_
          show jW X G 5 0 0 64 [(0, .ref mo), (1, .int (nI j)), (2, .int (nI (s 1))), (3, .int (nI (cnt (fun k => decide (s 1 ≤ a 15 k) && decide (a 15 k < s 0)) k))), (4, .int (nI k))] [.int (nI (s 10)), .int (nI k)] ((hM G mo ad h0 (va_up (va_up s 25 0) 1 (s 0)) a))
          refine j_icmp_ge C dX4_take_64 (tgt := 106) (by decide) (pc' := 67) rfl (fun c_5 => ?_) (fun c_5 => ?_)
          · have c_5 := (nI_leI (a := s 10) (b := k) (by omega) (by omega)).mp c_5
            have c_5 : (s 10) ≤ k := c_5
            refine j_iload_n C (i := 3) (x := nI (cnt (fun k => decide (s 1 ≤ a 15 k) && decide (a 15 k < s 0)) k)) 3 rfl dX4_take_106 (pc' := 107) rfl ?_
            exact j_iret C E dX4_take_107 rfl (Nat.le_refl _) (Nat.le_refl _) (o_leaf (by unfold oTake oTakeN; rw [if_pos hb_1, tn_nI (j := j) (by omega), if_neg (show ¬ s 1 + j < s 0 by omega), show s 10 = k from by omega] <;> rfl))
          · have c_5 := fun zq => c_5 ((nI_leI (a := s 10) (b := k) (by omega) (by omega)).mpr zq)
            have c_5 : ¬ (s 10) ≤ k := c_5
            refine j_iload_n C (i := 3) (x := nI (cnt (fun k => decide (s 1 ≤ a 15 k) && decide (a 15 k < s 0)) k)) 3 rfl dX4_take_67 (pc' := 68) rfl ?_
            refine j_aload_n C (i := 0) (x := mo) 0 rfl dX4_take_68 (pc' := 69) rfl ?_
            refine m_geta C (f := 15) (idx := 38) hin (by decide) rfl (by decide +kernel) dX4_take_69 (pc' := 72) rfl ?_
            refine j_iload C (i := 4) (x := nI k) 4 rfl dX4_take_72 (pc' := 74) rfl ?_
            refine m_ald C M (f := 15) (j := k) (by decide) rfl rfl rfl (show k < 1400 by omega) dX4_take_74 (pc' := 75) rfl ?_
            have B_6 := IA.big I 15 k
            refine j_iload_n C (i := 2) (x := nI (s 1)) 2 rfl dX4_take_75 (pc' := 76) rfl ?_
            refine j_icmp_lt C dX4_take_76 (tgt := 97) (by decide) (pc' := 79) rfl (fun c_7 => ?_) (fun c_7 => ?_)
            · have c_7 := (nI_ltI (a := a 15 k) (b := s 1) (by omega) (by omega)).mp c_7
              have c_7 : (a 15 k) < (s 1) := c_7
              refine j_iconst C (v := nI 0) rfl dX4_take_97 (pc' := 98) rfl ?_
              refine j_iadd C (x := nI (cnt (fun k => decide (s 1 ≤ a 15 k) && decide (a 15 k < s 0)) k)) (y := nI 0) dX4_take_98 (pc' := 99) rfl ?_
              refine jt_i (nI_add _ _) ?_
              refine j_istore_n C (i := 3) (x := nI (cnt (fun k => decide (s 1 ≤ a 15 k) && decide (a 15 k < s 0)) k + 0)) (l' := [(3, .int (nI (cnt (fun k => decide (s 1 ≤ a 15 k) && decide (a 15 k < s 0)) k + 0))), (0, .ref mo), (1, .int (nI j)), (2, .int (nI (s 1))), (4, .int (nI k))]) dX4_take_99 (pc' := 100) rfl (by decide) rfl ?_
              refine j_iinc C (i := 4) (q := 4) (x := nI k) (v := nI (k + 1)) (l' := [(4, .int (nI (k + 1))), (3, .int (nI (cnt (fun k => decide (s 1 ≤ a 15 k) && decide (a 15 k < s 0)) k + 0))), (0, .ref mo), (1, .int (nI j)), (2, .int (nI (s 1)))]) dX4_take_100 (pc' := 103) rfl rfl (nI_add _ _) (by decide) rfl ?_
              refine j_goto C dX4_take_103 (pc' := 58) (by decide) ?_
              refine jt_loc (l' := [(4, .int (nI (k + 1))), (3, .int (nI (cnt (fun k => decide (s 1 ≤ a 15 k) && decide (a 15 k < s 0)) (k + 1)))), (0, .ref mo), (1, .int (nI j)), (2, .int (nI (s 1)))]) (by rw [← cnt_b (P := (fun k => decide (s 1 ≤ a 15 k) && decide (a 15 k < s 0))) (n := k) (b := false) (show (decide (s 1 ≤ a 15 k) && decide (a 15 k < s 0)) = _ by rw [decide_eq_false (show ¬ s 1 ≤ a 15 k by omega)]; rfl)]; rfl) ?_
              exact jW.locals [2, 3, 4, 1, 0] rfl (ih_58 (k + 1) (by omega) (by omega))
            · have c_7 := fun zq => c_7 ((nI_ltI (a := a 15 k) (b := s 1) (by omega) (by omega)).mpr zq)
              have c_7 : ¬ (a 15 k) < (s 1) := c_7
              refine j_aload_n C (i := 0) (x := mo) 0 rfl dX4_take_79 (pc' := 80) rfl ?_
              refine m_geta C (f := 15) (idx := 38) hin (by decide) rfl (by decide +kernel) dX4_take_80 (pc' := 83) rfl ?_
              refine j_iload C (i := 4) (x := nI k) 4 rfl dX4_take_83 (pc' := 85) rfl ?_
              refine m_ald C M (f := 15) (j := k) (by decide) rfl rfl rfl (show k < 1400 by omega) dX4_take_85 (pc' := 86) rfl ?_
              have B_8 := IA.big I 15 k
              refine j_aload_n C (i := 0) (x := mo) 0 rfl dX4_take_86 (pc' := 87) rfl ?_
              refine m_get C (f := 1) (idx := 158) hin (by decide) rfl (by decide +kernel) dX4_take_87 (pc' := 90) rfl ?_
              show jW X G 5 0 0 90 [(0, .ref mo), (1, .int (nI j)), (2, .int (nI (s 1))), (3, .int (nI (cnt (fun k => decide (s 1 ≤ a 15 k) && decide (a 15 k < s 0)) k))), (4, .int (nI k))] [.int (nI (s 0)), .int (nI (a 15 k)), .int (nI (cnt (fun k => decide (s 1 ≤ a 15 k) && decide (a 15 k < s 0)) k))] ((hM G mo ad h0 (va_up (va_up s 25 0) 1 (s 0)) a))
              refine j_icmp_ge C dX4_take_90 (tgt := 97) (by decide) (pc' := 93) rfl (fun c_9 => ?_) (fun c_9 => ?_)
              · have c_9 := (nI_leI (a := s 0) (b := a 15 k) (by omega) (by omega)).mp c_9
                have c_9 : (s 0) ≤ (a 15 k) := c_9
                refine j_iconst C (v := nI 0) rfl dX4_take_97 (pc' := 98) rfl ?_
                refine j_iadd C (x := nI (cnt (fun k => decide (s 1 ≤ a 15 k) && decide (a 15 k < s 0)) k)) (y := nI 0) dX4_take_98 (pc' := 99) rfl ?_
                refine jt_i (nI_add _ _) ?_
                refine j_istore_n C (i := 3) (x := nI (cnt (fun k => decide (s 1 ≤ a 15 k) && decide (a 15 k < s 0)) k + 0)) (l' := [(3, .int (nI (cnt (fun k => decide (s 1 ≤ a 15 k) && decide (a 15 k < s 0)) k + 0))), (0, .ref mo), (1, .int (nI j)), (2, .int (nI (s 1))), (4, .int (nI k))]) dX4_take_99 (pc' := 100) rfl (by decide) rfl ?_
                refine j_iinc C (i := 4) (q := 4) (x := nI k) (v := nI (k + 1)) (l' := [(4, .int (nI (k + 1))), (3, .int (nI (cnt (fun k => decide (s 1 ≤ a 15 k) && decide (a 15 k < s 0)) k + 0))), (0, .ref mo), (1, .int (nI j)), (2, .int (nI (s 1)))]) dX4_take_100 (pc' := 103) rfl rfl (nI_add _ _) (by decide) rfl ?_
                refine j_goto C dX4_take_103 (pc' := 58) (by decide) ?_
                refine jt_loc (l' := [(4, .int (nI (k + 1))), (3, .int (nI (cnt (fun k => decide (s 1 ≤ a 15 k) && decide (a 15 k < s 0)) (k + 1)))), (0, .ref mo), (1, .int (nI j)), (2, .int (nI (s 1)))]) (by rw [← cnt_b (P := (fun k => decide (s 1 ≤ a 15 k) && decide (a 15 k < s 0))) (n := k) (b := false) (show (decide (s 1 ≤ a 15 k) && decide (a 15 k < s 0)) = _ by rw [decide_eq_true (show s 1 ≤ a 15 k by omega), decide_eq_false (show ¬ a 15 k < s 0 by omega)]; rfl)]; rfl) ?_
                exact jW.locals [2, 3, 4, 1, 0] rfl (ih_58 (k + 1) (by omega) (by omega))
              · have c_9 := fun zq => c_9 ((nI_leI (a := s 0) (b := a 15 k) (by omega) (by omega)).mpr zq)
                have c_9 : ¬ (s 0) ≤ (a 15 k) := c_9
                refine j_iconst C (v := nI 1) rfl dX4_take_93 (pc' := 94) rfl ?_
                refine j_goto C dX4_take_94 (pc' := 98) (by decide) ?_
                refine j_iadd C (x := nI (cnt (fun k => decide (s 1 ≤ a 15 k) && decide (a 15 k < s 0)) k)) (y := nI 1) dX4_take_98 (pc' := 99) rfl ?_
                refine jt_i (nI_add _ _) ?_
                refine j_istore_n C (i := 3) (x := nI (cnt (fun k => decide (s 1 ≤ a 15 k) && decide (a 15 k < s 0)) k + 1)) (l' := [(3, .int (nI (cnt (fun k => decide (s 1 ≤ a 15 k) && decide (a 15 k < s 0)) k + 1))), (0, .ref mo), (1, .int (nI j)), (2, .int (nI (s 1))), (4, .int (nI k))]) dX4_take_99 (pc' := 100) rfl (by decide) rfl ?_
                refine j_iinc C (i := 4) (q := 4) (x := nI k) (v := nI (k + 1)) (l' := [(4, .int (nI (k + 1))), (3, .int (nI (cnt (fun k => decide (s 1 ≤ a 15 k) && decide (a 15 k < s 0)) k + 1))), (0, .ref mo), (1, .int (nI j)), (2, .int (nI (s 1)))]) dX4_take_100 (pc' := 103) rfl rfl (nI_add _ _) (by decide) rfl ?_
                refine j_goto C dX4_take_103 (pc' := 58) (by decide) ?_
                refine jt_loc (l' := [(4, .int (nI (k + 1))), (3, .int (nI (cnt (fun k => decide (s 1 ≤ a 15 k) && decide (a 15 k < s 0)) (k + 1)))), (0, .ref mo), (1, .int (nI j)), (2, .int (nI (s 1)))]) (by rw [← cnt_b (P := (fun k => decide (s 1 ≤ a 15 k) && decide (a 15 k < s 0))) (n := k) (b := true) (show (decide (s 1 ≤ a 15 k) && decide (a 15 k < s 0)) = _ by rw [decide_eq_true (show s 1 ≤ a 15 k by omega), decide_eq_true (show a 15 k < s 0 by omega)]; rfl)]; rfl) ?_
                exact jW.locals [2, 3, 4, 1, 0] rfl (ih_58 (k + 1) (by omega) (by omega))
      exact jW.locals [3, 4, 2, 1, 0] rfl (L_58 ((s 10 - 0) + 1) 0 (by omega) (by omega))
    · have c_4 := fun zq => c_4 ((nI_leI (a := s 0) (b := s 1 + j) (by omega) (by omega)).mpr zq)
      have c_4 : ¬ (s 0) ≤ (s 1 + j) := c_4
      refine j_aload_n C (i := 0) (x := mo) 1 rfl dX4_take_37 (pc' := 38) rfl ?_
      refine m_get C (f := 1) (idx := 158) hin (by decide) rfl (by decide +kernel) dX4_take_38 (pc' := 41) rfl ?_
      show jW X G 5 0 0 41 [(2, .int (nI (s 1))), (0, .ref mo), (1, .int (nI j))] [.int (nI (s 1)), .ref mo] ((hM G mo ad h0 (va_up s 25 0) a))
      refine j_iload_n C (i := 1) (x := nI j) 2 rfl dX4_take_41 (pc' := 42) rfl ?_
      refine j_iadd C (x := nI (s 1)) (y := nI j) dX4_take_42 (pc' := 43) rfl ?_
      refine jt_i (nI_add _ _) ?_
      refine j_goto C dX4_take_43 (pc' := 50) (by decide) ?_
      refine m_put C (f := 1) (idx := 158) (v := s 1 + j) hin (by decide) rfl (by decide +kernel) dX4_take_50 (pc' := 53) rfl ?_
      refine j_iconst C (v := nI 0) rfl dX4_take_53 (pc' := 54) rfl ?_
      refine j_istore_n C (i := 3) (x := nI 0) (l' := [(3, .int (nI 0)), (2, .int (nI (s 1))), (0, .ref mo), (1, .int (nI j))]) dX4_take_54 (pc' := 55) rfl (by decide) rfl ?_
      refine j_iconst C (v := nI 0) rfl dX4_take_55 (pc' := 56) rfl ?_
      refine j_istore C (i := 4) (x := nI 0) (l' := [(4, .int (nI 0)), (3, .int (nI 0)), (2, .int (nI (s 1))), (0, .ref mo), (1, .int (nI j))]) dX4_take_56 (pc' := 58) rfl (by decide) rfl ?_
      have L_58 : ∀ (N_58 : Nat) (k : Nat), (s 10 - k) < N_58 → (k ≤ s 10) → jW X G 5 0 0 58 [(0, .ref mo), (1, .int (nI j)), (2, .int (nI (s 1))), (3, .int (nI (cnt (fun k => decide (s 1 ≤ a 15 k) && decide (a 15 k < s 1 + j)) k))), (4, .int (nI k))] [] ((hM G mo ad h0 (va_up (va_up s 25 0) 1 (s 1 + j)) a)) := by
        intro N_58
        induction N_58 with
        | zero => intro k hm_58 hk; omega
        | succ N_58 ih_58 =>
          intro k hm_58 hk
          refine j_iload C (i := 4) (x := nI k) 4 rfl dX4_take_58 (pc' := 60) rfl ?_
          refine j_aload_n C (i := 0) (x := mo) 0 rfl dX4_take_60 (pc' := 61) rfl ?_
          refine m_get C (f := 10) (idx := 87) hin (by decide) rfl (by decide +kernel) dX4_take_61 (pc' := 64) rfl ?_
          show jW X G 5 0 0 64 [(0, .ref mo), (1, .int (nI j)), (2, .int (nI (s 1))), (3, .int (nI (cnt (fun k => decide (s 1 ≤ a 15 k) && decide (a 15 k < s 1 + j)) k))), (4, .int (nI k))] [.int (nI (s 10)), .int (nI k)] ((hM G mo ad h0 (va_up (va_up s 25 0) 1 (s 1 + j)) a))
          refine j_icmp_ge C dX4_take_64 (tgt := 106) (by decide) (pc' := 67) rfl (fun c_10 => ?_) (fun c_10 => ?_)
          · have c_10 := (nI_leI (a := s 10) (b := k) (by omega) (by omega)).mp c_10
            have c_10 : (s 10) ≤ k := c_10
            refine j_iload_n C (i := 3) (x := nI (cnt (fun k => decide (s 1 ≤ a 15 k) && decide (a 15 k < s 1 + j)) k)) 3 rfl dX4_take_106 (pc' := 107) rfl ?_
            exact j_iret C E dX4_take_107 rfl (Nat.le_refl _) (Nat.le_refl _) (o_leaf (by unfold oTake oTakeN; rw [if_pos hb_1, tn_nI (j := j) (by omega), if_pos (show s 1 + j < s 0 by omega), show s 10 = k from by omega] <;> rfl))
          · have c_10 := fun zq => c_10 ((nI_leI (a := s 10) (b := k) (by omega) (by omega)).mpr zq)
            have c_10 : ¬ (s 10) ≤ k := c_10
            refine j_iload_n C (i := 3) (x := nI (cnt (fun k => decide (s 1 ≤ a 15 k) && decide (a 15 k < s 1 + j)) k)) 3 rfl dX4_take_67 (pc' := 68) rfl ?_
            refine j_aload_n C (i := 0) (x := mo) 0 rfl dX4_take_68 (pc' := 69) rfl ?_
            refine m_geta C (f := 15) (idx := 38) hin (by decide) rfl (by decide +kernel) dX4_take_69 (pc' := 72) rfl ?_
            refine j_iload C (i := 4) (x := nI k) 4 rfl dX4_take_72 (pc' := 74) rfl ?_
            refine m_ald C M (f := 15) (j := k) (by decide) rfl rfl rfl (show k < 1400 by omega) dX4_take_74 (pc' := 75) rfl ?_
            have B_11 := IA.big I 15 k
            refine j_iload_n C (i := 2) (x := nI (s 1)) 2 rfl dX4_take_75 (pc' := 76) rfl ?_
            refine j_icmp_lt C dX4_take_76 (tgt := 97) (by decide) (pc' := 79) rfl (fun c_12 => ?_) (fun c_12 => ?_)
            · have c_12 := (nI_ltI (a := a 15 k) (b := s 1) (by omega) (by omega)).mp c_12
              have c_12 : (a 15 k) < (s 1) := c_12
              refine j_iconst C (v := nI 0) rfl dX4_take_97 (pc' := 98) rfl ?_
              refine j_iadd C (x := nI (cnt (fun k => decide (s 1 ≤ a 15 k) && decide (a 15 k < s 1 + j)) k)) (y := nI 0) dX4_take_98 (pc' := 99) rfl ?_
              refine jt_i (nI_add _ _) ?_
              refine j_istore_n C (i := 3) (x := nI (cnt (fun k => decide (s 1 ≤ a 15 k) && decide (a 15 k < s 1 + j)) k + 0)) (l' := [(3, .int (nI (cnt (fun k => decide (s 1 ≤ a 15 k) && decide (a 15 k < s 1 + j)) k + 0))), (0, .ref mo), (1, .int (nI j)), (2, .int (nI (s 1))), (4, .int (nI k))]) dX4_take_99 (pc' := 100) rfl (by decide) rfl ?_
              refine j_iinc C (i := 4) (q := 4) (x := nI k) (v := nI (k + 1)) (l' := [(4, .int (nI (k + 1))), (3, .int (nI (cnt (fun k => decide (s 1 ≤ a 15 k) && decide (a 15 k < s 1 + j)) k + 0))), (0, .ref mo), (1, .int (nI j)), (2, .int (nI (s 1)))]) dX4_take_100 (pc' := 103) rfl rfl (nI_add _ _) (by decide) rfl ?_
              refine j_goto C dX4_take_103 (pc' := 58) (by decide) ?_
              refine jt_loc (l' := [(4, .int (nI (k + 1))), (3, .int (nI (cnt (fun k => decide (s 1 ≤ a 15 k) && decide (a 15 k < s 1 + j)) (k + 1)))), (0, .ref mo), (1, .int (nI j)), (2, .int (nI (s 1)))]) (by rw [← cnt_b (P := (fun k => decide (s 1 ≤ a 15 k) && decide (a 15 k < s 1 + j))) (n := k) (b := false) (show (decide (s 1 ≤ a 15 k) && decide (a 15 k < s 1 + j)) = _ by rw [decide_eq_false (show ¬ s 1 ≤ a 15 k by omega)]; rfl)]; rfl) ?_
              exact jW.locals [2, 3, 4, 1, 0] rfl (ih_58 (k + 1) (by omega) (by omega))
            · have c_12 := fun zq => c_12 ((nI_ltI (a := a 15 k) (b := s 1) (by omega) (by omega)).mpr zq)
              have c_12 : ¬ (a 15 k) < (s 1) := c_12
              refine j_aload_n C (i := 0) (x := mo) 0 rfl dX4_take_79 (pc' := 80) rfl ?_
              refine m_geta C (f := 15) (idx := 38) hin (by decide) rfl (by decide +kernel) dX4_take_80 (pc' := 83) rfl ?_
              refine j_iload C (i := 4) (x := nI k) 4 rfl dX4_take_83 (pc' := 85) rfl ?_
              refine m_ald C M (f := 15) (j := k) (by decide) rfl rfl rfl (show k < 1400 by omega) dX4_take_85 (pc' := 86) rfl ?_
              have B_13 := IA.big I 15 k
              refine j_aload_n C (i := 0) (x := mo) 0 rfl dX4_take_86 (pc' := 87) rfl ?_
              refine m_get C (f := 1) (idx := 158) hin (by decide) rfl (by decide +kernel) dX4_take_87 (pc' := 90) rfl ?_
              show jW X G 5 0 0 90 [(0, .ref mo), (1, .int (nI j)), (2, .int (nI (s 1))), (3, .int (nI (cnt (fun k => decide (s 1 ≤ a 15 k) && decide (a 15 k < s 1 + j)) k))), (4, .int (nI k))] [.int (nI (s 1 + j)), .int (nI (a 15 k)), .int (nI (cnt (fun k => decide (s 1 ≤ a 15 k) && decide (a 15 k < s 1 + j)) k))] ((hM G mo ad h0 (va_up (va_up s 25 0) 1 (s 1 + j)) a))
              refine j_icmp_ge C dX4_take_90 (tgt := 97) (by decide) (pc' := 93) rfl (fun c_14 => ?_) (fun c_14 => ?_)
              · have c_14 := (nI_leI (a := s 1 + j) (b := a 15 k) (by omega) (by omega)).mp c_14
                have c_14 : (s 1 + j) ≤ (a 15 k) := c_14
                refine j_iconst C (v := nI 0) rfl dX4_take_97 (pc' := 98) rfl ?_
                refine j_iadd C (x := nI (cnt (fun k => decide (s 1 ≤ a 15 k) && decide (a 15 k < s 1 + j)) k)) (y := nI 0) dX4_take_98 (pc' := 99) rfl ?_
                refine jt_i (nI_add _ _) ?_
                refine j_istore_n C (i := 3) (x := nI (cnt (fun k => decide (s 1 ≤ a 15 k) && decide (a 15 k < s 1 + j)) k + 0)) (l' := [(3, .int (nI (cnt (fun k => decide (s 1 ≤ a 15 k) && decide (a 15 k < s 1 + j)) k + 0))), (0, .ref mo), (1, .int (nI j)), (2, .int (nI (s 1))), (4, .int (nI k))]) dX4_take_99 (pc' := 100) rfl (by decide) rfl ?_
                refine j_iinc C (i := 4) (q := 4) (x := nI k) (v := nI (k + 1)) (l' := [(4, .int (nI (k + 1))), (3, .int (nI (cnt (fun k => decide (s 1 ≤ a 15 k) && decide (a 15 k < s 1 + j)) k + 0))), (0, .ref mo), (1, .int (nI j)), (2, .int (nI (s 1)))]) dX4_take_100 (pc' := 103) rfl rfl (nI_add _ _) (by decide) rfl ?_
                refine j_goto C dX4_take_103 (pc' := 58) (by decide) ?_
                refine jt_loc (l' := [(4, .int (nI (k + 1))), (3, .int (nI (cnt (fun k => decide (s 1 ≤ a 15 k) && decide (a 15 k < s 1 + j)) (k + 1)))), (0, .ref mo), (1, .int (nI j)), (2, .int (nI (s 1)))]) (by rw [← cnt_b (P := (fun k => decide (s 1 ≤ a 15 k) && decide (a 15 k < s 1 + j))) (n := k) (b := false) (show (decide (s 1 ≤ a 15 k) && decide (a 15 k < s 1 + j)) = _ by rw [decide_eq_true (show s 1 ≤ a 15 k by omega), decide_eq_false (show ¬ a 15 k < s 1 + j by omega)]; rfl)]; rfl) ?_
                exact jW.locals [2, 3, 4, 1, 0] rfl (ih_58 (k + 1) (by omega) (by omega))
              · have c_14 := fun zq => c_14 ((nI_leI (a := s 1 + j) (b := a 15 k) (by omega) (by omega)).mpr zq)
                have c_14 : ¬ (s 1 + j) ≤ (a 15 k) := c_14
                refine j_iconst C (v := nI 1) rfl dX4_take_93 (pc' := 94) rfl ?_
                refine j_goto C dX4_take_94 (pc' := 98) (by decide) ?_
                refine j_iadd C (x := nI (cnt (fun k => decide (s 1 ≤ a 15 k) && decide (a 15 k < s 1 + j)) k)) (y := nI 1) dX4_take_98 (pc' := 99) rfl ?_
                refine jt_i (nI_add _ _) ?_
                refine j_istore_n C (i := 3) (x := nI (cnt (fun k => decide (s 1 ≤ a 15 k) && decide (a 15 k < s 1 + j)) k + 1)) (l' := [(3, .int (nI (cnt (fun k => decide (s 1 ≤ a 15 k) && decide (a 15 k < s 1 + j)) k + 1))), (0, .ref mo), (1, .int (nI j)), (2, .int (nI (s 1))), (4, .int (nI k))]) dX4_take_99 (pc' := 100) rfl (by decide) rfl ?_
                refine j_iinc C (i := 4) (q := 4) (x := nI k) (v := nI (k + 1)) (l' := [(4, .int (nI (k + 1))), (3, .int (nI (cnt (fun k => decide (s 1 ≤ a 15 k) && decide (a 15 k < s 1 + j)) k + 1))), (0, .ref mo), (1, .int (nI j)), (2, .int (nI (s 1)))]) dX4_take_100 (pc' := 103) rfl rfl (nI_add _ _) (by decide) rfl ?_
                refine j_goto C dX4_take_103 (pc' := 58) (by decide) ?_
                refine jt_loc (l' := [(4, .int (nI (k + 1))), (3, .int (nI (cnt (fun k => decide (s 1 ≤ a 15 k) && decide (a 15 k < s 1 + j)) (k + 1)))), (0, .ref mo), (1, .int (nI j)), (2, .int (nI (s 1)))]) (by rw [← cnt_b (P := (fun k => decide (s 1 ≤ a 15 k) && decide (a 15 k < s 1 + j))) (n := k) (b := true) (show (decide (s 1 ≤ a 15 k) && decide (a 15 k < s 1 + j)) = _ by rw [decide_eq_true (show s 1 ≤ a 15 k by omega), decide_eq_true (show a 15 k < s 1 + j by omega)]; rfl)]; rfl) ?_
                exact jW.locals [2, 3, 4, 1, 0] rfl (ih_58 (k + 1) (by omega) (by omega))
      exact jW.locals [3, 4, 2, 1, 0] rfl (L_58 ((s 10 - 0) + 1) 0 (by omega) (by omega))
theorem mBef_lt {a : mA} (I : IA a) (t w : Nat) : mBef a t w < 1048576 := by
  have key : ∀ f b, bkF a w f b < 1048576 := by
    intro f
    induction f with
    | zero => intro b; show 0 < _; omega
    | succ f ih =>
      intro b
      cases b with
      | zero => show 0 < _; omega
      | succ p =>
        show (if w ≤ a 15 p then bkF a w f (a 13 p) else a 12 p) < _
        split
        · exact ih _
        · exact I.1 12 p
  exact key _ _
set_option maxRecDepth 100000 in
set_option maxHeartbeats 4000000 in
theorem m_isTrue (l : Launch) (hlt : l.stackTraces = false) (G : jG) {mo : Nat} {ad : Nat → Nat} {h0 : jH} (M : mG mo ad) (s : mS) (a : mA)  (J : IS s) (I : IA a) (Z0 : 0 < s 6 → a 13 0 = 0) : jM l G yX4_isTrue wsX4_isTrue 1 23 0 0 [.ref mo] (hM G mo ad h0 s a) (fun r h' => r = some (.int (oIsTrue s a).1) ∧ h' = hM G mo ad h0 (oIsTrue s a).2.1 (oIsTrue s a).2.2) (fun _ _ => False) := by
  have h6 := J.2.1
  have h2 := J.2.2.1
  have h4 := J.2.2.2.1
  have h10 := J.2.2.2.2.1
  have hs0 := J.1 0
  have hs1 := J.1 1
  refine jM_of (cc := cX4_isTrue) (maxL := 3) (ret := (some .boolean)) hlt (by decide +kernel) rfl (Nat.le_of_ble_eq_true rfl) ?_
  intro X C E hXl hXR hXn
  have hin : ∀ w ∈ u_ws RX4 TX4 26, w ∈ wsX4_isTrue := by decide +kernel
  show jW X G 3 0 0 0 [(0, .ref mo)] [] ((hM G mo ad h0 s a))
  refine j_aload_n C (i := 0) (x := mo) 0 rfl dX4_isTrue_0 (pc' := 1) rfl ?_
  refine j_iconst C (v := nI 0) rfl dX4_isTrue_1 (pc' := 2) rfl ?_
  refine m_put C (f := 25) (idx := 65) (v := 0) hin (by decide) rfl (by decide +kernel) dX4_isTrue_2 (pc' := 5) rfl ?_
  refine j_iconst C (v := nI 1) rfl dX4_isTrue_5 (pc' := 6) rfl ?_
  refine j_istore_n C (i := 1) (x := nI 1) (l' := [(1, .int (nI 1)), (0, .ref mo)]) dX4_isTrue_6 (pc' := 7) rfl (by decide) rfl ?_
  refine j_iconst C (v := nI 0) rfl dX4_isTrue_7 (pc' := 8) rfl ?_
  refine j_istore_n C (i := 2) (x := nI 0) (l' := [(2, .int (nI 0)), (1, .int (nI 1)), (0, .ref mo)]) dX4_isTrue_8 (pc' := 9) rfl (by decide) rfl ?_
  have L_9 : ∀ (N_9 : Nat) (k : Nat), (s 6 - k) < N_9 → (k ≤ s 6) → jW X G 3 0 0 9 [(0, .ref mo), (1, .int (bI (allN (fun k => decide (mBef a k (s 1) = a 9 k)) k))), (2, .int (nI k))] [] ((hM G mo ad h0 (va_up s 25 0) a)) := by
    intro N_9
    induction N_9 with
    | zero => intro k hm_9 hk; omega
    | succ N_9 ih_9 =>
      intro k hm_9 hk
      refine j_iload_n C (i := 2) (x := nI k) 2 rfl dX4_isTrue_9 (pc' := 10) rfl ?_
      refine j_aload_n C (i := 0) (x := mo) 0 rfl dX4_isTrue_10 (pc' := 11) rfl ?_
      refine m_get C (f := 6) (idx := 69) hin (by decide) rfl (by decide +kernel) dX4_isTrue_11 (pc' := 14) rfl ?_
      show jW X G 3 0 0 14 [(0, .ref mo), (1, .int (bI (allN (fun k => decide (mBef a k (s 1) = a 9 k)) k))), (2, .int (nI k))] [.int (nI (s 6)), .int (nI k)] ((hM G mo ad h0 (va_up s 25 0) a))
      refine j_icmp_ge C dX4_isTrue_14 (tgt := 51) (by decide) (pc' := 17) rfl (fun c_1 => ?_) (fun c_1 => ?_)
      · have c_1 := (nI_leI (a := s 6) (b := k) (by omega) (by omega)).mp c_1
        have c_1 : (s 6) ≤ k := c_1
        refine j_iload_n C (i := 1) (x := bI (allN (fun k => decide (mBef a k (s 1) = a 9 k)) k)) 1 rfl dX4_isTrue_51 (pc' := 52) rfl ?_
        exact j_iret C E dX4_isTrue_52 (bI_nar _) (Nat.le_refl _) (Nat.le_refl _) (o_leaf (by unfold oIsTrue; rw [show s 6 = k from by omega] <;> rfl))
      · have c_1 := fun zq => c_1 ((nI_leI (a := s 6) (b := k) (by omega) (by omega)).mpr zq)
        have c_1 : ¬ (s 6) ≤ k := c_1
        refine j_iload_n C (i := 1) (x := bI (allN (fun k => decide (mBef a k (s 1) = a 9 k)) k)) 1 rfl dX4_isTrue_17 (pc' := 18) rfl ?_
        rcases hb_2 : (allN (fun k => decide (mBef a k (s 1) = a 9 k)) k) with _ | _
        · show jW X G 3 0 0 18 [(0, .ref mo), (1, .int (nI 0)), (2, .int (nI k))] [.int (nI 0)] ((hM G mo ad h0 (va_up s 25 0) a))
          refine j_if_eq C dX4_isTrue_18 (tgt := 43) (by decide) (pc' := 21) rfl (fun _ => ?_) (fun c_3 => absurd (by decide) c_3)
          refine j_iconst C (v := nI 0) rfl dX4_isTrue_43 (pc' := 44) rfl ?_
          refine j_istore_n C (i := 1) (x := nI 0) (l' := [(1, .int (nI 0)), (0, .ref mo), (2, .int (nI k))]) dX4_isTrue_44 (pc' := 45) rfl (by decide) rfl ?_
          refine j_iinc C (i := 2) (q := 2) (x := nI k) (v := nI (k + 1)) (l' := [(2, .int (nI (k + 1))), (1, .int (nI 0)), (0, .ref mo)]) dX4_isTrue_45 (pc' := 48) rfl rfl (nI_add _ _) (by decide) rfl ?_
          refine j_goto C dX4_isTrue_48 (pc' := 9) (by decide) ?_
          refine jt_loc (l' := [(2, .int (nI (k + 1))), (1, .int (bI (allN (fun k => decide (mBef a k (s 1) = a 9 k)) (k + 1)))), (0, .ref mo)]) (by rw [← bI_0 (show allN (fun k => decide (mBef a k (s 1) = a 9 k)) (k + 1) = false by rw [allN_s, hb_2]; rfl)]) ?_
          exact jW.locals [2, 1, 0] rfl (ih_9 (k + 1) (by omega) (by omega))
        · show jW X G 3 0 0 18 [(0, .ref mo), (1, .int (nI 1)), (2, .int (nI k))] [.int (nI 1)] ((hM G mo ad h0 (va_up s 25 0) a))
          refine j_if_eq C dX4_isTrue_18 (tgt := 43) (by decide) (pc' := 21) rfl (fun c_4 => absurd c_4 (by decide)) (fun _ => ?_)
          refine j_aload_n C (i := 0) (x := mo) 0 rfl dX4_isTrue_21 (pc' := 22) rfl ?_
          refine j_iload_n C (i := 2) (x := nI k) 2 rfl dX4_isTrue_22 (pc' := 23) rfl ?_
          refine j_aload_n C (i := 0) (x := mo) 0 rfl dX4_isTrue_23 (pc' := 24) rfl ?_
          refine m_get C (f := 1) (idx := 158) hin (by decide) rfl (by decide +kernel) dX4_isTrue_24 (pc' := 27) rfl ?_
          show jW X G 3 0 0 27 [(0, .ref mo), (1, .int (nI 1)), (2, .int (nI k))] [.int (nI (s 1)), .int (nI k), .ref mo] ((hM G mo ad h0 (va_up s 25 0) a))
          refine j_callV C (As := [.int (nI k), .int (nI (s 1))]) (rest := []) (m_before X.2.1 C.2.2.2.2.2.2.2.2 G M (va_up s 25 0) a k (s 1) I (Z0 (by omega)) (by omega) (by omega)) (cwV 2 C.2.2.2.2.1 gX4_isTrue_X4_before rfl rfl rfl (by decide +kernel) (by rw [hXR]; decide)) hM_obj rfl rfl rfl (Nat.le_of_ble_eq_true rfl) dX4_isTrue_27 (pc' := 30) rfl (by rw [hXR]; exact Nat.zero_le _) (by rw [hXR]; exact Nat.zero_le _) (fun _ _ z => z.elim) ?_
          rintro r h' ⟨rfl, rfl⟩
          show jW X G 3 0 0 30 [(0, .ref mo), (1, .int (nI 1)), (2, .int (nI k))] [.int (nI (mBef a k (s 1)))] ((hM G mo ad h0 (va_up s 25 0) a))
          have B_5 := mBef_lt I k (s 1)
          refine j_aload_n C (i := 0) (x := mo) 0 rfl dX4_isTrue_30 (pc' := 31) rfl ?_
          refine m_geta C (f := 9) (idx := 23) hin (by decide) rfl (by decide +kernel) dX4_isTrue_31 (pc' := 34) rfl ?_
          refine j_iload_n C (i := 2) (x := nI k) 2 rfl dX4_isTrue_34 (pc' := 35) rfl ?_
          refine m_ald C M (f := 9) (j := k) (by decide) rfl rfl rfl (show k < 40 by omega) dX4_isTrue_35 (pc' := 36) rfl ?_
          have B_6 := IA.big I 9 k
          refine j_icmp_ne C dX4_isTrue_36 (tgt := 43) (by decide) (pc' := 39) rfl (fun c_7 => ?_) (fun c_7 => ?_)
          · have c_7 := fun zq => c_7 ((nI_eq (a := mBef a k (s 1)) (b := a 9 k) (by omega) (by omega)).mpr zq)
            have c_7 : ¬ (mBef a k (s 1)) = (a 9 k) := c_7
            refine j_iconst C (v := nI 0) rfl dX4_isTrue_43 (pc' := 44) rfl ?_
            refine j_istore_n C (i := 1) (x := nI 0) (l' := [(1, .int (nI 0)), (0, .ref mo), (2, .int (nI k))]) dX4_isTrue_44 (pc' := 45) rfl (by decide) rfl ?_
            refine j_iinc C (i := 2) (q := 2) (x := nI k) (v := nI (k + 1)) (l' := [(2, .int (nI (k + 1))), (1, .int (nI 0)), (0, .ref mo)]) dX4_isTrue_45 (pc' := 48) rfl rfl (nI_add _ _) (by decide) rfl ?_
            refine j_goto C dX4_isTrue_48 (pc' := 9) (by decide) ?_
            refine jt_loc (l' := [(2, .int (nI (k + 1))), (1, .int (bI (allN (fun k => decide (mBef a k (s 1) = a 9 k)) (k + 1)))), (0, .ref mo)]) (by rw [← bI_0 (show allN (fun k => decide (mBef a k (s 1) = a 9 k)) (k + 1) = false by rw [allN_s, hb_2]; exact decide_eq_false c_7)]) ?_
            exact jW.locals [2, 1, 0] rfl (ih_9 (k + 1) (by omega) (by omega))
          · have c_7 := (nI_eq (a := mBef a k (s 1)) (b := a 9 k) (by omega) (by omega)).mp c_7
            have c_7 : (mBef a k (s 1)) = (a 9 k) := c_7
            refine j_iconst C (v := nI 1) rfl dX4_isTrue_39 (pc' := 40) rfl ?_
            refine j_goto C dX4_isTrue_40 (pc' := 44) (by decide) ?_
            refine j_istore_n C (i := 1) (x := nI 1) (l' := [(1, .int (nI 1)), (0, .ref mo), (2, .int (nI k))]) dX4_isTrue_44 (pc' := 45) rfl (by decide) rfl ?_
            refine j_iinc C (i := 2) (q := 2) (x := nI k) (v := nI (k + 1)) (l' := [(2, .int (nI (k + 1))), (1, .int (nI 1)), (0, .ref mo)]) dX4_isTrue_45 (pc' := 48) rfl rfl (nI_add _ _) (by decide) rfl ?_
            refine j_goto C dX4_isTrue_48 (pc' := 9) (by decide) ?_
            refine jt_loc (l' := [(2, .int (nI (k + 1))), (1, .int (bI (allN (fun k => decide (mBef a k (s 1) = a 9 k)) (k + 1)))), (0, .ref mo)]) (by rw [← bI_1 (show allN (fun k => decide (mBef a k (s 1) = a 9 k)) (k + 1) = true by rw [allN_s, hb_2]; exact decide_eq_true c_7)]) ?_
            exact jW.locals [2, 1, 0] rfl (ih_9 (k + 1) (by omega) (by omega))
  refine jt_loc (l' := [(2, .int (nI 0)), (1, .int (bI (allN (fun k => decide (mBef a k (s 1) = a 9 k)) 0))), (0, .ref mo)]) (by rw [← bI_1 (show allN (fun k => decide (mBef a k (s 1) = a 9 k)) 0 = true from rfl)]) ?_
  exact jW.locals [2, 1, 0] rfl (L_9 ((s 6 - 0) + 1) 0 (by omega) (by omega))
