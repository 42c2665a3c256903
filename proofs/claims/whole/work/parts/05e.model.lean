/-- the rows of versions hang together: numbers count the versions ahead -/
def mCh (s : mS) (a : mA) : Prop := (∀ p, p < s 10 → (a 13 p = 0 ∧ a 12 p = 1) ∨ (1 ≤ a 13 p ∧ a 12 p = a 12 (a 13 p - 1) + 1)) ∧ ∀ t, t < s 6 → a 8 t < s 10 ∧ a 12 (a 8 t) = a 9 t
def plF (a : mA) (v : Nat) : Nat → Nat → Nat
  | 0, p => p
  | f + 1, p => if v < a 12 p then plF a v f (a 13 p - 1) else p
/-- the place of a version -/
def mPl (a : mA) (t v : Nat) : Nat := plF a v 1400 (a 8 t)
theorem pl_gt {a : mA} {v f p x : Nat} (h : x = plF a v f p) (hf : p < f) (hc : v < a 12 p) : x = plF a v (f - 1) (a 13 p - 1) := by
  obtain ⟨g, rfl⟩ : ∃ g, f = g + 1 := ⟨f - 1, by omega⟩
  have e : plF a v (g + 1) p = if v < a 12 p then plF a v g (a 13 p - 1) else p := rfl
  rw [e, if_pos hc] at h
  exact h
theorem pl_le {a : mA} {v f p x : Nat} (h : x = plF a v f p) (hf : p < f) (hc : ¬ v < a 12 p) : x = p := by
  obtain ⟨g, rfl⟩ : ∃ g, f = g + 1 := ⟨f - 1, by omega⟩
  have e : plF a v (g + 1) p = if v < a 12 p then plF a v g (a 13 p - 1) else p := rfl
  rw [e, if_neg hc] at h
  exact h
theorem nP_sub {n : Nat} (h : 1 ≤ n) : mV 13 n = nI (n - 1) := by
  obtain ⟨m, rfl⟩ : ∃ m, n = m + 1 := ⟨n - 1, by omega⟩
  exact nI_pred m
theorem pl_ok {s : mS} {a : mA} (I : IA a) (Z : a 13 0 = 0) (K : mCh s a) {v : Nat} (hv : 1 ≤ v) : ∀ f p, p < f → p < s 10 → v ≤ a 12 p → a 12 (plF a v f p) = v ∧ plF a v f p ≤ p
  | 0, p, h, _, _ => absurd h (Nat.not_lt_zero p)
  | f + 1, p, h, hp, hn => by
    have e : plF a v (f + 1) p = if v < a 12 p then plF a v f (a 13 p - 1) else p := rfl
    rw [e]
    by_cases hc : v < a 12 p
    · rw [if_pos hc]
      have hz := IA.ahead I Z p
      rcases K.1 p hp with ⟨h1, h2⟩ | ⟨h1, h2⟩
      · omega
      · have := pl_ok I Z K hv f (a 13 p - 1) (by omega) (by omega) (by omega)
        exact ⟨this.1, by omega⟩
    · rw [if_neg hc]
      exact ⟨by omega, Nat.le_refl p⟩
theorem mPl_ok {s : mS} {a : mA} (J : IS s) (I : IA a) (Z : a 13 0 = 0) (K : mCh s a) {t v : Nat} (ht : t < s 6) (hv : 1 ≤ v) (hm : v ≤ a 9 t) : a 12 (mPl a t v) = v ∧ mPl a t v ≤ a 8 t := by
  have h := K.2 t ht
  have h10 := J.2.2.2.2.1
  exact pl_ok I Z K hv 1400 (a 8 t) (by omega) h.1 (by omega)
set_option maxRecDepth 100000 in
set_option maxHeartbeats 4000000 in
theorem m_placeOf (l : Launch) (hlt : l.stackTraces = false) (G : jG) {mo : Nat} {ad : Nat → Nat} {h0 : jH} (M : mG mo ad) (s : mS) (a : mA) (t v : Nat) (J : IS s) (I : IA a) (Z : a 13 0 = 0) (K : mCh s a) (ht : t < s 6) (hv : 1 ≤ v) (hm : v ≤ a 9 t) : jM l G yX4_placeOf wsX4_placeOf 0 0 0 0 [.ref mo, .int (nI t), .int (nI v)] (hM G mo ad h0 s a) (fun r h' => r = some (.int (nI (mPl a t v))) ∧ h' = hM G mo ad h0 s a) (fun _ _ => False) := by
  have hl := K.2 t ht
  have h6 := J.2.1
  have h10 := J.2.2.2.2.1
  have h9 := IA.big I 9 t
  refine jM_of (cc := cX4_placeOf) (maxL := 4) (ret := (some .int)) hlt (by decide +kernel) rfl (Nat.le_of_ble_eq_true rfl) ?_
  intro X C E hXl hXR hXn
  have hin : ∀ w ∈ u_ws RX4 TX4 26, w ∈ wsX4_placeOf := by decide +kernel
  show jW X G 4 0 0 0 [(0, .ref mo), (1, .int (nI t)), (2, .int (nI v))] [] ((hM G mo ad h0 s a))
  refine j_aload_n C (i := 0) (x := mo) 0 rfl dX4_placeOf_0 (pc' := 1) rfl ?_
  refine m_geta C (f := 8) (idx := 20) hin (by decide) rfl (by decide +kernel) dX4_placeOf_1 (pc' := 4) rfl ?_
  refine j_iload_n C (i := 1) (x := nI t) 1 rfl dX4_placeOf_4 (pc' := 5) rfl ?_
  refine m_ald C M (f := 8) (j := t) (by decide) rfl rfl rfl (show t < 40 by omega) dX4_placeOf_5 (pc' := 6) rfl ?_
  have B_1 := IA.last I t
  refine j_istore_n C (i := 3) (x := nI (a 8 t)) (l' := [(3, .int (nI (a 8 t))), (0, .ref mo), (1, .int (nI t)), (2, .int (nI v))]) dX4_placeOf_6 (pc' := 7) rfl (by decide) rfl ?_
  have L_7 : ∀ (N_7 : Nat) (f p : Nat), (p) < N_7 → (p < f) → (f ≤ 1400) → (p < s 10) → (v ≤ a 12 p) → (mPl a t v = plF a v f p) → jW X G 4 0 0 7 [(0, .ref mo), (1, .int (nI t)), (2, .int (nI v)), (3, .int (nI p))] [] ((hM G mo ad h0 s a)) := by
    intro N_7
    induction N_7 with
    | zero => intro f p hm_7 hpf hf hp hn hR; omega
    | succ N_7 ih_7 =>
      intro f p hm_7 hpf hf hp hn hR
      refine j_aload_n C (i := 0) (x := mo) 0 rfl dX4_placeOf_7 (pc' := 8) rfl ?_
      refine m_geta C (f := 12) (idx := 29) hin (by decide) rfl (by decide +kernel) dX4_placeOf_8 (pc' := 11) rfl ?_
      refine j_iload_n C (i := 3) (x := nI p) 3 rfl dX4_placeOf_11 (pc' := 12) rfl ?_
      refine m_ald C M (f := 12) (j := p) (by decide) rfl rfl rfl (show p < 1400 by omega) dX4_placeOf_12 (pc' := 13) rfl ?_
      have B_2 := IA.big I 12 p
      refine j_iload_n C (i := 2) (x := nI v) 2 rfl dX4_placeOf_13 (pc' := 14) rfl ?_
      refine j_icmp_le C dX4_placeOf_14 (tgt := 27) (by decide) (pc' := 17) rfl (fun c_3 => ?_) (fun c_3 => ?_)
      · have c_3 := (nI_leI (a := a 12 p) (b := v) (by omega) (by omega)).mp c_3
        have c_3 : (a 12 p) ≤ v := c_3
        refine j_iload_n C (i := 3) (x := nI p) 3 rfl dX4_placeOf_27 (pc' := 28) rfl ?_
        exact j_iret C E dX4_placeOf_28 rfl (Nat.le_refl _) (Nat.le_refl _) ⟨by rw [pl_le hR hpf (by omega)], rfl⟩
      · have c_3 := fun zq => c_3 ((nI_leI (a := a 12 p) (b := v) (by omega) (by omega)).mpr zq)
        have c_3 : ¬ (a 12 p) ≤ v := c_3
        refine j_aload_n C (i := 0) (x := mo) 0 rfl dX4_placeOf_17 (pc' := 18) rfl ?_
        refine m_geta C (f := 13) (idx := 32) hin (by decide) rfl (by decide +kernel) dX4_placeOf_18 (pc' := 21) rfl ?_
        refine j_iload_n C (i := 3) (x := nI p) 3 rfl dX4_placeOf_21 (pc' := 22) rfl ?_
        refine m_ald C M (f := 13) (j := p) (by decide) rfl rfl rfl (show p < 1400 by omega) dX4_placeOf_22 (pc' := 23) rfl ?_
        have B_4 := IA.ahead I Z p
        have B_5 := IA.big I 13 p
        have hg9 := K.1 p hp
        have hz9 := IA.ahead I Z p
        refine jt_i (nP_sub (by omega)) ?_
        refine j_istore_n C (i := 3) (x := nI (a 13 p - 1)) (l' := [(3, .int (nI (a 13 p - 1))), (0, .ref mo), (1, .int (nI t)), (2, .int (nI v))]) dX4_placeOf_23 (pc' := 24) rfl (by decide) rfl ?_
        refine j_goto C dX4_placeOf_24 (pc' := 7) (by decide) ?_
        exact jW.locals [1, 2, 3, 0] rfl (ih_7 (f - 1) (a 13 p - 1) (by omega) (by omega) (by omega) (by omega) (by omega) (pl_gt hR hpf (by omega)))
  exact jW.locals [1, 2, 3, 0] rfl (L_7 ((a 8 t) + 1) 1400 (a 8 t) (by omega) (by omega) (by omega) (by omega) (by omega) rfl)
def mIsV (s : mS) (a : mA) (p v : Int32) : Bool := inN p (s 6) && (decide (nI 1 ≤ v) && decide (v ≤ nI (a 9 p.toInt.toNat)))
theorem mIsV_nI {s : mS} {a : mA} {j : Nat} {v : Int32} (hj : j < s 6) (h6 : s 6 ≤ 40) : mIsV s a (nI j) v = (decide (nI 1 ≤ v) && decide (v ≤ nI (a 9 j))) := by
  unfold mIsV
  rw [inN_nI (by omega), decide_eq_true hj, nI_toInt (by omega)]
  rfl
theorem inV_of {v : Int32} {n : Nat} (hn : n < 1048576) (h : (decide (nI 1 ≤ v) && decide (v ≤ nI n)) = true) : ∃ j : Nat, 1 ≤ j ∧ j ≤ n ∧ v = nI j := by
  rw [Bool.and_eq_true, decide_eq_true_eq, decide_eq_true_eq, Int32.le_iff_toInt_le, Int32.le_iff_toInt_le, nI_toInt (by omega), nI_toInt (by omega)] at h
  refine ⟨v.toInt.toNat, by omega, by omega, ?_⟩
  apply Int32.toInt_inj.mp
  rw [nI_toInt (by omega)]
  omega
set_option maxRecDepth 100000 in
set_option maxHeartbeats 4000000 in
theorem m_isVersion (l : Launch) (hlt : l.stackTraces = false) (G : jG) {mo : Nat} {ad : Nat → Nat} {h0 : jH} (M : mG mo ad) (s : mS) (a : mA) (p v : Int32) (J : IS s) (I : IA a) : jM l G yX4_isVersion wsX4_isVersion 2 43 0 0 [.ref mo, .int p, .int v] (hM G mo ad h0 s a) (fun r h' => r = some (.int (bI (mIsV s a p v))) ∧ h' = hM G mo ad h0 s a) (fun _ _ => False) := by
  have h6 := J.2.1
  refine jM_of (cc := cX4_isVersion) (maxL := 3) (ret := (some .boolean)) hlt (by decide +kernel) rfl (Nat.le_of_ble_eq_true rfl) ?_
  intro X C E hXl hXR hXn
  have hin : ∀ w ∈ u_ws RX4 TX4 26, w ∈ wsX4_isVersion := by decide +kernel
  show jW X G 3 0 0 0 [(0, .ref mo), (1, .int p), (2, .int v)] [] ((hM G mo ad h0 s a))
  refine j_aload_n C (i := 0) (x := mo) 0 rfl dX4_isVersion_0 (pc' := 1) rfl ?_
  refine j_iload_n C (i := 1) (x := p) 1 rfl dX4_isVersion_1 (pc' := 2) rfl ?_
  refine j_callV C (As := [.int p]) (rest := []) (m_isThing X.2.1 C.2.2.2.2.2.2.2.2 G M s a p J) (cwV 1 C.2.2.2.2.1 gX4_isVersion_X4_isThing rfl rfl rfl (by decide +kernel) (by rw [hXR]; decide)) hM_obj rfl rfl rfl (Nat.le_of_ble_eq_true rfl) dX4_isVersion_2 (pc' := 5) rfl (by rw [hXR]; exact Nat.zero_le _) (by rw [hXR]; exact Nat.zero_le _) (fun _ _ z => z.elim) ?_
  rintro r h' ⟨rfl, rfl⟩
  show jW X G 3 0 0 5 [(0, .ref mo), (1, .int p), (2, .int v)] [.int (bI (inN p (s 6)))] ((hM G mo ad h0 s a))
  rcases hb_1 : (inN p (s 6)) with _ | _
  · show jW X G 3 0 0 5 [(0, .ref mo), (1, .int p), (2, .int v)] [.int (nI 0)] ((hM G mo ad h0 s a))
    refine j_if_eq C dX4_isVersion_5 (tgt := 26) (by decide) (pc' := 8) rfl (fun _ => ?_) (fun c_2 => absurd (by decide) c_2)
    refine j_iconst C (v := nI 0) rfl dX4_isVersion_26 (pc' := 27) rfl ?_
    exact j_iret C E dX4_isVersion_27 rfl (Nat.le_refl _) (Nat.le_refl _) ⟨bI0 (by unfold mIsV; rw [hb_1]; rfl), rfl⟩
  · show jW X G 3 0 0 5 [(0, .ref mo), (1, .int p), (2, .int v)] [.int (nI 1)] ((hM G mo ad h0 s a))
    obtain ⟨j, hj, rfl⟩ := inN_of hb_1
    refine j_if_eq C dX4_isVersion_5 (tgt := 26) (by decide) (pc' := 8) rfl (fun c_3 => absurd c_3 (by decide)) (fun _ => ?_)
    refine j_iload_n C (i := 2) (x := v) 2 rfl dX4_isVersion_8 (pc' := 9) rfl ?_
    refine j_iconst C (v := nI 1) rfl dX4_isVersion_9 (pc' := 10) rfl ?_
    refine j_aload_n C (i := 0) (x := mo) 0 rfl dX4_isVersion_10 (pc' := 11) rfl ?_
    refine m_geta C (f := 9) (idx := 23) hin (by decide) rfl (by decide +kernel) dX4_isVersion_11 (pc' := 14) rfl ?_
    refine j_iload_n C (i := 1) (x := nI j) 1 rfl dX4_isVersion_14 (pc' := 15) rfl ?_
    refine m_ald C M (f := 9) (j := j) (by decide) rfl rfl rfl (show j < 40 by omega) dX4_isVersion_15 (pc' := 16) rfl ?_
    have B_4 := IA.big I 9 j
    refine j_callS C (As := [.int v, .int (nI 1), .int (nI (a 9 j))]) (rest := []) (m_in X.2.1 C.2.2.2.2.2.2.2.2 G v (nI 1) (nI (a 9 j))) (va_cwS 3 C.2.2.2.2.1 gX4_isVersion_X4_in rfl rfl rfl (by decide +kernel) (by rw [hXR]; decide)) rfl rfl (Nat.le_of_ble_eq_true rfl) dX4_isVersion_16 (pc' := 19) rfl (by rw [hXR]; exact Nat.zero_le _) (by rw [hXR]; exact Nat.zero_le _) (fun _ _ z => z.elim) ?_
    rintro r h' ⟨rfl, rfl⟩
    show jW X G 3 0 0 19 [(0, .ref mo), (1, .int (nI j)), (2, .int v)] [.int (bI (decide (nI 1 ≤ v) && decide (v ≤ nI (a 9 j))))] ((hM G mo ad h0 s a))
    rcases hb_5 : (decide (nI 1 ≤ v) && decide (v ≤ nI (a 9 j))) with _ | _
    · show jW X G 3 0 0 19 [(0, .ref mo), (1, .int (nI j)), (2, .int v)] [.int (nI 0)] ((hM G mo ad h0 s a))
      refine j_if_eq C dX4_isVersion_19 (tgt := 26) (by decide) (pc' := 22) rfl (fun _ => ?_) (fun c_6 => absurd (by decide) c_6)
      refine j_iconst C (v := nI 0) rfl dX4_isVersion_26 (pc' := 27) rfl ?_
      exact j_iret C E dX4_isVersion_27 rfl (Nat.le_refl _) (Nat.le_refl _) ⟨bI0 (by rw [mIsV_nI hj J.2.1]; exact hb_5), rfl⟩
    · show jW X G 3 0 0 19 [(0, .ref mo), (1, .int (nI j)), (2, .int v)] [.int (nI 1)] ((hM G mo ad h0 s a))
      refine j_if_eq C dX4_isVersion_19 (tgt := 26) (by decide) (pc' := 22) rfl (fun c_7 => absurd c_7 (by decide)) (fun _ => ?_)
      refine j_iconst C (v := nI 1) rfl dX4_isVersion_22 (pc' := 23) rfl ?_
      refine j_goto C dX4_isVersion_23 (pc' := 27) (by decide) ?_
      exact j_iret C E dX4_isVersion_27 rfl (Nat.le_refl _) (Nat.le_refl _) ⟨bI1 (by rw [mIsV_nI hj J.2.1]; exact hb_5), rfl⟩
def mk10 (s : mS) (a : mA) (by_ its th at_ x13 x19 : Nat) : mA :=
  va_up2 (va_up2 (va_up2 (va_up2 (va_up2 (va_up2 (va_up2 (va_up2 (va_up2 (va_up2 a 11 (s 10) its) 13 (s 10) x13) 9 its (a 9 its + 1)) 12 (s 10) (a 9 its + 1)) 14 (s 10) by_) 15 (s 10) (s 0)) 16 (s 10) th) 17 (s 10) 0) 18 (s 10) at_) 19 (s 10) x19
def mkM (a : mA) (v n : Nat) : Nat → Nat := fun j => if 6 * v ≤ j ∧ j < 6 * v + n then a 24 (j - 6 * v) else a 20 j
theorem mkM_0 (a : mA) (v : Nat) : mkM a v 0 = a 20 := by
  funext j
  unfold mkM
  rw [if_neg (by omega)]
theorem mkM_s (a : mA) (v n : Nat) : va_up (mkM a v n) (6 * v + n) (a 24 n) = mkM a v (n + 1) := by
  funext j
  by_cases h : j = 6 * v + n
  · subst h; unfold mkM; rw [up_s, if_pos (by omega), show 6 * v + n - 6 * v = n from by omega]
  · rw [up_n h]
    unfold mkM
    by_cases h2 : 6 * v ≤ j ∧ j < 6 * v + n
    · rw [if_pos h2, if_pos (by omega)]
    · rw [if_neg h2, if_neg (by omega)]
/-- the arrays behind makes -/
def mkA (s : mS) (a : mA) (by_ its th at_ : Nat) : mA :=
  va_up2 (va_up (mk10 s a by_ its th at_ (if a 9 its = 0 then 0 else a 8 its + 1) (if th = 0 then 0 else s 23)) 20 (mkM a (s 10) (if th = 0 then 0 else s 23))) 8 its (s 10)
theorem mk10_20 (s : mS) (a : mA) (b i t x y z : Nat) : mk10 s a b i t x y z 20 = a 20 := rfl
theorem mk10_9 (s : mS) (a : mA) (b i t x y z : Nat) : mk10 s a b i t x y z 9 i = a 9 i + 1 := by
  show va_up2 (va_up2 (va_up2 a 11 (s 10) i) 13 (s 10) y) 9 i (a 9 i + 1) 9 i = _
  unfold va_up2
  rw [up_s, up_s]
set_option maxRecDepth 100000 in
set_option maxHeartbeats 4000000 in
theorem m_makes (l : Launch) (hlt : l.stackTraces = false) (G : jG) {mo : Nat} {ad : Nat → Nat} {h0 : jH} (M : mG mo ad) (s : mS) (a : mA) (by_ its th at_ : Nat) (J : IS s) (I : IA a) (hb : by_ < 1048576) (hi : its < 40) (ht : th ≤ 1) (hat : at_ < 1048576) : jM l G yX4_makes wsX4_makes 0 0 0 0 [.ref mo, .int (nI by_), .int (nI its), .int (nI th), .int (nI at_)] (hM G mo ad h0 s a) (fun r h' => r = some (.int (nI (a 9 its + 1))) ∧ h' = hM G mo ad h0 (va_up s 10 (s 10 + 1)) (mkA s a by_ its th at_)) (fun _ _ => False) := by
  have h10 := J.2.2.2.2.1
  have h23 := J.2.2.2.2.2
  have hs0 := J.1 0
  refine jM_of (cc := cX4_makes) (maxL := 6) (ret := (some .int)) hlt (by decide +kernel) rfl (Nat.le_of_ble_eq_true rfl) ?_
  intro X C E hXl hXR hXn
  have hin : ∀ w ∈ u_ws RX4 TX4 26, w ∈ wsX4_makes := by decide +kernel
  show jW X G 6 0 0 0 [(0, .ref mo), (1, .int (nI by_)), (2, .int (nI its)), (3, .int (nI th)), (4, .int (nI at_))] [] ((hM G mo ad h0 s a))
  refine j_aload_n C (i := 0) (x := mo) 0 rfl dX4_makes_0 (pc' := 1) rfl ?_
  refine m_geta C (f := 11) (idx := 26) hin (by decide) rfl (by decide +kernel) dX4_makes_1 (pc' := 4) rfl ?_
  refine j_aload_n C (i := 0) (x := mo) 0 rfl dX4_makes_4 (pc' := 5) rfl ?_
  refine m_get C (f := 10) (idx := 87) hin (by decide) rfl (by decide +kernel) dX4_makes_5 (pc' := 8) rfl ?_
  refine j_iload_n C (i := 2) (x := nI its) 2 rfl dX4_makes_8 (pc' := 9) rfl ?_
  refine m_ast C M (f := 11) (j := s 10) (v := its) (by decide) rfl rfl rfl (show s 10 < 1400 by omega) rfl dX4_makes_9 (pc' := 10) rfl ?_
  refine j_aload_n C (i := 0) (x := mo) 0 rfl dX4_makes_10 (pc' := 11) rfl ?_
  refine m_geta C (f := 13) (idx := 32) hin (by decide) rfl (by decide +kernel) dX4_makes_11 (pc' := 14) rfl ?_
  refine j_aload_n C (i := 0) (x := mo) 0 rfl dX4_makes_14 (pc' := 15) rfl ?_
  refine m_get C (f := 10) (idx := 87) hin (by decide) rfl (by decide +kernel) dX4_makes_15 (pc' := 18) rfl ?_
  refine j_aload_n C (i := 0) (x := mo) 0 rfl dX4_makes_18 (pc' := 19) rfl ?_
  refine m_geta C (f := 9) (idx := 23) hin (by decide) rfl (by decide +kernel) dX4_makes_19 (pc' := 22) rfl ?_
  refine j_iload_n C (i := 2) (x := nI its) 2 rfl dX4_makes_22 (pc' := 23) rfl ?_
  refine m_ald C M (f := 9) (j := its) (by decide) rfl rfl rfl (show its < 40 by omega) dX4_makes_23 (pc' := 24) rfl ?_
  show jW X G 6 0 0 24 [(0, .ref mo), (1, .int (nI by_)), (2, .int (nI its)), (3, .int (nI th)), (4, .int (nI at_))] [.int (nI (a 9 its)), .int (nI (s 10)), .ref (ad 13)] ((hM G mo ad h0 s (va_up2 a 11 (s 10) its)))
  have B_1 := IA.big I 9 its
  refine j_if_ne C dX4_makes_24 (tgt := 31) (by decide) (pc' := 27) rfl (fun c_2 => ?_) (fun c_2 => ?_)
  · have c_2 := fun zq => c_2 ((nI_eq (a := a 9 its) (b := 0) (by omega) (by omega)).mpr zq)
    have c_2 : ¬ (a 9 its) = 0 := c_2
    refine j_aload_n C (i := 0) (x := mo) 0 rfl dX4_makes_31 (pc' := 32) rfl ?_
    refine m_geta C (f := 8) (idx := 20) hin (by decide) rfl (by decide +kernel) dX4_makes_32 (pc' := 35) rfl ?_
    refine j_iload_n C (i := 2) (x := nI its) 2 rfl dX4_makes_35 (pc' := 36) rfl ?_
    refine m_ald C M (f := 8) (j := its) (by decide) rfl rfl rfl (show its < 40 by omega) dX4_makes_36 (pc' := 37) rfl ?_
    show jW X G 6 0 0 37 [(0, .ref mo), (1, .int (nI by_)), (2, .int (nI its)), (3, .int (nI th)), (4, .int (nI at_))] [.int (nI (a 8 its)), .int (nI (s 10)), .ref (ad 13)] ((hM G mo ad h0 s (va_up2 a 11 (s 10) its)))
    have B_3 := IA.last I its
    refine m_ast C M (f := 13) (j := s 10) (v := a 8 its + 1) (by decide) rfl rfl rfl (show s 10 < 1400 by omega) (nI_pred _).symm dX4_makes_37 (pc' := 38) rfl ?_
    refine j_aload_n C (i := 0) (x := mo) 0 rfl dX4_makes_38 (pc' := 39) rfl ?_
    refine m_geta C (f := 9) (idx := 23) hin (by decide) rfl (by decide +kernel) dX4_makes_39 (pc' := 42) rfl ?_
    refine j_iload_n C (i := 2) (x := nI its) 2 rfl dX4_makes_42 (pc' := 43) rfl ?_
    refine j_dup2 C rfl rfl dX4_makes_43 (pc' := 44) rfl ?_
    refine m_ald C M (f := 9) (j := its) (by decide) rfl rfl rfl (show its < 40 by omega) dX4_makes_44 (pc' := 45) rfl ?_
    show jW X G 6 0 0 45 [(0, .ref mo), (1, .int (nI by_)), (2, .int (nI its)), (3, .int (nI th)), (4, .int (nI at_))] [.int (nI (a 9 its)), .int (nI its), .ref (ad 9)] ((hM G mo ad h0 s (va_up2 (va_up2 a 11 (s 10) its) 13 (s 10) (a 8 its + 1))))
    have B_4 := IA.big I 9 its
    refine j_iconst C (v := nI 1) rfl dX4_makes_45 (pc' := 46) rfl ?_
    refine j_iadd C (x := nI (a 9 its)) (y := nI 1) dX4_makes_46 (pc' := 47) rfl ?_
    refine jt_i (nI_add _ _) ?_
    refine m_ast C M (f := 9) (j := its) (v := a 9 its + 1) (by decide) rfl rfl rfl (show its < 40 by omega) rfl dX4_makes_47 (pc' := 48) rfl ?_
    refine j_aload_n C (i := 0) (x := mo) 0 rfl dX4_makes_48 (pc' := 49) rfl ?_
    refine m_geta C (f := 12) (idx := 29) hin (by decide) rfl (by decide +kernel) dX4_makes_49 (pc' := 52) rfl ?_
    refine j_aload_n C (i := 0) (x := mo) 0 rfl dX4_makes_52 (pc' := 53) rfl ?_
    refine m_get C (f := 10) (idx := 87) hin (by decide) rfl (by decide +kernel) dX4_makes_53 (pc' := 56) rfl ?_
    refine j_aload_n C (i := 0) (x := mo) 0 rfl dX4_makes_56 (pc' := 57) rfl ?_
    refine m_geta C (f := 9) (idx := 23) hin (by decide) rfl (by decide +kernel) dX4_makes_57 (pc' := 60) rfl ?_
    refine j_iload_n C (i := 2) (x := nI its) 2 rfl dX4_makes_60 (pc' := 61) rfl ?_
    refine m_ald C M (f := 9) (j := its) (by decide) rfl rfl rfl (show its < 40 by omega) dX4_makes_61 (pc' := 62) rfl ?_
    refine jt_i (show nI ((va_up2 (va_up2 (va_up2 a 11 (s 10) its) 13 (s 10) (a 8 its + 1)) 9 its (a 9 its + 1)) 9 its) = nI (a 9 its + 1) from by simp only [va_up2]; simp [va_up]) ?_
    refine m_ast C M (f := 12) (j := s 10) (v := a 9 its + 1) (by decide) rfl rfl rfl (show s 10 < 1400 by omega) rfl dX4_makes_62 (pc' := 63) rfl ?_
    refine j_aload_n C (i := 0) (x := mo) 0 rfl dX4_makes_63 (pc' := 64) rfl ?_
    refine m_geta C (f := 14) (idx := 35) hin (by decide) rfl (by decide +kernel) dX4_makes_64 (pc' := 67) rfl ?_
    refine j_aload_n C (i := 0) (x := mo) 0 rfl dX4_makes_67 (pc' := 68) rfl ?_
    refine m_get C (f := 10) (idx := 87) hin (by decide) rfl (by decide +kernel) dX4_makes_68 (pc' := 71) rfl ?_
    refine j_iload_n C (i := 1) (x := nI by_) 1 rfl dX4_makes_71 (pc' := 72) rfl ?_
    refine m_ast C M (f := 14) (j := s 10) (v := by_) (by decide) rfl rfl rfl (show s 10 < 1400 by omega) rfl dX4_makes_72 (pc' := 73) rfl ?_
    refine j_aload_n C (i := 0) (x := mo) 0 rfl dX4_makes_73 (pc' := 74) rfl ?_
    refine m_geta C (f := 15) (idx := 38) hin (by decide) rfl (by decide +kernel) dX4_makes_74 (pc' := 77) rfl ?_
    refine j_aload_n C (i := 0) (x := mo) 0 rfl dX4_makes_77 (pc' := 78) rfl ?_
    refine m_get C (f := 10) (idx := 87) hin (by decide) rfl (by decide +kernel) dX4_makes_78 (pc' := 81) rfl ?_
    refine j_aload_n C (i := 0) (x := mo) 0 rfl dX4_makes_81 (pc' := 82) rfl ?_
    refine m_get C (f := 0) (idx := 110) hin (by decide) rfl (by decide +kernel) dX4_makes_82 (pc' := 85) rfl ?_
    refine m_ast C M (f := 15) (j := s 10) (v := s 0) (by decide) rfl rfl rfl (show s 10 < 1400 by omega) rfl dX4_makes_85 (pc' := 86) rfl ?_
    refine j_aload_n C (i := 0) (x := mo) 0 rfl dX4_makes_86 (pc' := 87) rfl ?_
    refine m_geta C (f := 16) (idx := 41) hin (by decide) rfl (by decide +kernel) dX4_makes_87 (pc' := 90) rfl ?_
    refine j_aload_n C (i := 0) (x := mo) 0 rfl dX4_makes_90 (pc' := 91) rfl ?_
    refine m_get C (f := 10) (idx := 87) hin (by decide) rfl (by decide +kernel) dX4_makes_91 (pc' := 94) rfl ?_
    refine j_iload_n C (i := 3) (x := nI th) 3 rfl dX4_makes_94 (pc' := 95) rfl ?_
    refine m_zst C M (f := 16) (j := s 10) (v := th) (by decide) rfl rfl rfl (show s 10 < 1400 by omega) (show vp_nar .boolean (nI th) = nI th by rcases Nat.le_one_iff_eq_zero_or_eq_one.mp ht with rfl | rfl <;> rfl) dX4_makes_95 (pc' := 96) rfl ?_
    refine j_aload_n C (i := 0) (x := mo) 0 rfl dX4_makes_96 (pc' := 97) rfl ?_
    refine m_geta C (f := 17) (idx := 44) hin (by decide) rfl (by decide +kernel) dX4_makes_97 (pc' := 100) rfl ?_
    refine j_aload_n C (i := 0) (x := mo) 0 rfl dX4_makes_100 (pc' := 101) rfl ?_
    refine m_get C (f := 10) (idx := 87) hin (by decide) rfl (by decide +kernel) dX4_makes_101 (pc' := 104) rfl ?_
    refine j_iconst C (v := nI 0) rfl dX4_makes_104 (pc' := 105) rfl ?_
    refine m_zst C M (f := 17) (j := s 10) (v := 0) (by decide) rfl rfl rfl (show s 10 < 1400 by omega) (by first | rfl | exact bI_vp _) dX4_makes_105 (pc' := 106) rfl ?_
    refine j_aload_n C (i := 0) (x := mo) 0 rfl dX4_makes_106 (pc' := 107) rfl ?_
    refine m_geta C (f := 18) (idx := 47) hin (by decide) rfl (by decide +kernel) dX4_makes_107 (pc' := 110) rfl ?_
    refine j_aload_n C (i := 0) (x := mo) 0 rfl dX4_makes_110 (pc' := 111) rfl ?_
    refine m_get C (f := 10) (idx := 87) hin (by decide) rfl (by decide +kernel) dX4_makes_111 (pc' := 114) rfl ?_
    refine j_iload C (i := 4) (x := nI at_) 4 rfl dX4_makes_114 (pc' := 116) rfl ?_
    refine m_ast C M (f := 18) (j := s 10) (v := at_) (by decide) rfl rfl rfl (show s 10 < 1400 by omega) rfl dX4_makes_116 (pc' := 117) rfl ?_
    refine j_aload_n C (i := 0) (x := mo) 0 rfl dX4_makes_117 (pc' := 118) rfl ?_
    refine m_geta C (f := 19) (idx := 50) hin (by decide) rfl (by decide +kernel) dX4_makes_118 (pc' := 121) rfl ?_
    refine j_aload_n C (i := 0) (x := mo) 0 rfl dX4_makes_121 (pc' := 122) rfl ?_
    refine m_get C (f := 10) (idx := 87) hin (by decide) rfl (by decide +kernel) dX4_makes_122 (pc' := 125) rfl ?_
    refine j_iload_n C (i := 3) (x := nI th) 3 rfl dX4_makes_125 (pc' := 126) rfl ?_
    refine j_if_eq C dX4_makes_126 (tgt := 136) (by decide) (pc' := 129) rfl (fun c_5 => ?_) (fun c_5 => ?_)
    · have c_5 := (nI_eq (a := th) (b := 0) (by omega) (by omega)).mp c_5
      have c_5 : th = 0 := c_5
      refine j_iconst C (v := nI 0) rfl dX4_makes_136 (pc' := 137) rfl ?_
      refine m_ast C M (f := 19) (j := s 10) (v := 0) (by decide) rfl rfl rfl (show s 10 < 1400 by omega) rfl dX4_makes_137 (pc' := 138) rfl ?_
      refine j_iconst C (v := nI 0) rfl dX4_makes_138 (pc' := 139) rfl ?_
      refine j_istore C (i := 5) (x := nI 0) (l' := [(5, .int (nI 0)), (0, .ref mo), (1, .int (nI by_)), (2, .int (nI its)), (3, .int (nI th)), (4, .int (nI at_))]) dX4_makes_139 (pc' := 141) rfl (by decide) rfl ?_
      have L_141 : ∀ (N_141 : Nat) (k : Nat), (s 23 - k) < N_141 → (k ≤ s 23) → (th = 0 → k = 0) → jW X G 6 0 0 141 [(0, .ref mo), (1, .int (nI by_)), (2, .int (nI its)), (3, .int (nI th)), (4, .int (nI at_)), (5, .int (nI k))] [] ((hM G mo ad h0 s (va_up (mk10 s a by_ its th at_ (a 8 its + 1) 0) 20 (mkM a (s 10) k)))) := by
        intro N_141
        induction N_141 with
        | zero => intro k hm_141 hk hth; omega
        | succ N_141 ih_141 =>
          intro k hm_141 hk hth
          refine j_iload C (i := 5) (x := nI k) 5 rfl dX4_makes_141 (pc' := 143) rfl ?_
          refine j_aload_n C (i := 0) (x := mo) 0 rfl dX4_makes_143 (pc' := 144) rfl ?_
          refine m_get C (f := 23) (idx := 100) hin (by decide) rfl (by decide +kernel) dX4_makes_144 (pc' := 147) rfl ?_
          refine j_icmp_ge C dX4_makes_147 (tgt := 182) (by decide) (pc' := 150) rfl (fun c_6 => ?_) (fun c_6 => ?_)
          · have c_6 := (nI_leI (a := s 23) (b := k) (by omega) (by omega)).mp c_6
            have c_6 : (s 23) ≤ k := c_6
            refine j_aload_n C (i := 0) (x := mo) 0 rfl dX4_makes_182 (pc' := 183) rfl ?_
            refine m_geta C (f := 8) (idx := 20) hin (by decide) rfl (by decide +kernel) dX4_makes_183 (pc' := 186) rfl ?_
            refine j_iload_n C (i := 2) (x := nI its) 2 rfl dX4_makes_186 (pc' := 187) rfl ?_
            refine j_aload_n C (i := 0) (x := mo) 0 rfl dX4_makes_187 (pc' := 188) rfl ?_
            refine m_get C (f := 10) (idx := 87) hin (by decide) rfl (by decide +kernel) dX4_makes_188 (pc' := 191) rfl ?_
            refine m_ast C M (f := 8) (j := its) (v := s 10) (by decide) rfl rfl rfl (show its < 40 by omega) rfl dX4_makes_191 (pc' := 192) rfl ?_
            refine j_aload_n C (i := 0) (x := mo) 0 rfl dX4_makes_192 (pc' := 193) rfl ?_
            refine j_dup C rfl dX4_makes_193 (pc' := 194) rfl ?_
            refine m_get C (f := 10) (idx := 87) hin (by decide) rfl (by decide +kernel) dX4_makes_194 (pc' := 197) rfl ?_
            refine j_iconst C (v := nI 1) rfl dX4_makes_197 (pc' := 198) rfl ?_
            refine j_iadd C (x := nI (s 10)) (y := nI 1) dX4_makes_198 (pc' := 199) rfl ?_
            refine jt_i (nI_add _ _) ?_
            refine m_put C (f := 10) (idx := 87) (v := s 10 + 1) hin (by decide) rfl (by decide +kernel) dX4_makes_199 (pc' := 202) rfl ?_
            refine j_aload_n C (i := 0) (x := mo) 0 rfl dX4_makes_202 (pc' := 203) rfl ?_
            refine m_geta C (f := 9) (idx := 23) hin (by decide) rfl (by decide +kernel) dX4_makes_203 (pc' := 206) rfl ?_
            refine j_iload_n C (i := 2) (x := nI its) 2 rfl dX4_makes_206 (pc' := 207) rfl ?_
            refine m_ald C M (f := 9) (j := its) (by decide) rfl rfl rfl (show its < 40 by omega) dX4_makes_207 (pc' := 208) rfl ?_
            refine jt_i (show _ = nI (a 9 its + 1) from congrArg nI (mk10_9 s a by_ its th at_ (a 8 its + 1) 0)) ?_
            exact j_iret C E dX4_makes_208 rfl (Nat.le_refl _) (Nat.le_refl _) ⟨rfl, by show _ = hM G mo ad h0 (va_up s 10 (s 10 + 1)) (mkA s a by_ its th at_); unfold mkA; rw [if_neg c_2, if_pos c_5, show 0 = k from by omega]⟩
          · have c_6 := fun zq => c_6 ((nI_leI (a := s 23) (b := k) (by omega) (by omega)).mpr zq)
            have c_6 : ¬ (s 23) ≤ k := c_6
            refine j_iload_n C (i := 3) (x := nI th) 3 rfl dX4_makes_150 (pc' := 151) rfl ?_
            refine j_if_eq C dX4_makes_151 (tgt := 182) (by decide) (pc' := 154) rfl (fun c_7 => ?_) (fun c_7 => ?_)
            · have c_7 := (nI_eq (a := th) (b := 0) (by omega) (by omega)).mp c_7
              have c_7 : th = 0 := c_7
              refine j_aload_n C (i := 0) (x := mo) 0 rfl dX4_makes_182 (pc' := 183) rfl ?_
              refine m_geta C (f := 8) (idx := 20) hin (by decide) rfl (by decide +kernel) dX4_makes_183 (pc' := 186) rfl ?_
              refine j_iload_n C (i := 2) (x := nI its) 2 rfl dX4_makes_186 (pc' := 187) rfl ?_
              refine j_aload_n C (i := 0) (x := mo) 0 rfl dX4_makes_187 (pc' := 188) rfl ?_
              refine m_get C (f := 10) (idx := 87) hin (by decide) rfl (by decide +kernel) dX4_makes_188 (pc' := 191) rfl ?_
              refine m_ast C M (f := 8) (j := its) (v := s 10) (by decide) rfl rfl rfl (show its < 40 by omega) rfl dX4_makes_191 (pc' := 192) rfl ?_
              refine j_aload_n C (i := 0) (x := mo) 0 rfl dX4_makes_192 (pc' := 193) rfl ?_
              refine j_dup C rfl dX4_makes_193 (pc' := 194) rfl ?_
              refine m_get C (f := 10) (idx := 87) hin (by decide) rfl (by decide +kernel) dX4_makes_194 (pc' := 197) rfl ?_
              refine j_iconst C (v := nI 1) rfl dX4_makes_197 (pc' := 198) rfl ?_
              refine j_iadd C (x := nI (s 10)) (y := nI 1) dX4_makes_198 (pc' := 199) rfl ?_
              refine jt_i (nI_add _ _) ?_
              refine m_put C (f := 10) (idx := 87) (v := s 10 + 1) hin (by decide) rfl (by decide +kernel) dX4_makes_199 (pc' := 202) rfl ?_
              refine j_aload_n C (i := 0) (x := mo) 0 rfl dX4_makes_202 (pc' := 203) rfl ?_
              refine m_geta C (f := 9) (idx := 23) hin (by decide) rfl (by decide +kernel) dX4_makes_203 (pc' := 206) rfl ?_
              refine j_iload_n C (i := 2) (x := nI its) 2 rfl dX4_makes_206 (pc' := 207) rfl ?_
              refine m_ald C M (f := 9) (j := its) (by decide) rfl rfl rfl (show its < 40 by omega) dX4_makes_207 (pc' := 208) rfl ?_
              refine jt_i (show _ = nI (a 9 its + 1) from congrArg nI (mk10_9 s a by_ its th at_ (a 8 its + 1) 0)) ?_
              exact j_iret C E dX4_makes_208 rfl (Nat.le_refl _) (Nat.le_refl _) ⟨rfl, by show _ = hM G mo ad h0 (va_up s 10 (s 10 + 1)) (mkA s a by_ its th at_); unfold mkA; rw [if_neg c_2, if_pos c_5, show 0 = k from by omega]⟩
            · have c_7 := fun zq => c_7 ((nI_eq (a := th) (b := 0) (by omega) (by omega)).mpr zq)
              have c_7 : ¬ th = 0 := c_7
              refine j_aload_n C (i := 0) (x := mo) 0 rfl dX4_makes_154 (pc' := 155) rfl ?_
              refine m_geta C (f := 20) (idx := 53) hin (by decide) rfl (by decide +kernel) dX4_makes_155 (pc' := 158) rfl ?_
              refine j_bipush C (v := nI 6) rfl dX4_makes_158 (pc' := 160) rfl ?_
              refine j_aload_n C (i := 0) (x := mo) 0 rfl dX4_makes_160 (pc' := 161) rfl ?_
              refine m_get C (f := 10) (idx := 87) hin (by decide) rfl (by decide +kernel) dX4_makes_161 (pc' := 164) rfl ?_
              refine j_imul C (x := nI 6) (y := nI (s 10)) dX4_makes_164 (pc' := 165) rfl ?_
              refine jt_i (pk_mul _ _) ?_
              refine j_iload C (i := 5) (x := nI k) 5 rfl dX4_makes_165 (pc' := 167) rfl ?_
              refine j_iadd C (x := nI (6 * (s 10))) (y := nI k) dX4_makes_167 (pc' := 168) rfl ?_
              refine jt_i (nI_add _ _) ?_
              refine j_aload_n C (i := 0) (x := mo) 0 rfl dX4_makes_168 (pc' := 169) rfl ?_
              refine m_geta C (f := 24) (idx := 62) hin (by decide) rfl (by decide +kernel) dX4_makes_169 (pc' := 172) rfl ?_
              refine j_iload C (i := 5) (x := nI k) 5 rfl dX4_makes_172 (pc' := 174) rfl ?_
              refine m_ald C M (f := 24) (j := k) (by decide) rfl rfl rfl (show k < 6 by omega) dX4_makes_174 (pc' := 175) rfl ?_
              show jW X G 6 0 0 175 [(0, .ref mo), (1, .int (nI by_)), (2, .int (nI its)), (3, .int (nI th)), (4, .int (nI at_)), (5, .int (nI k))] [.int (nI (a 24 k)), .int (nI (6 * (s 10) + k)), .ref (ad 20)] ((hM G mo ad h0 s (va_up (mk10 s a by_ its th at_ (a 8 its + 1) 0) 20 (mkM a (s 10) k))))
              have B_8 := IA.asks I k
              refine m_ast C M (f := 20) (j := 6 * (s 10) + k) (v := a 24 k) (by decide) rfl rfl rfl (show 6 * (s 10) + k < 8400 by omega) rfl dX4_makes_175 (pc' := 176) rfl ?_
              refine j_iinc C (i := 5) (q := 5) (x := nI k) (v := nI (k + 1)) (l' := [(5, .int (nI (k + 1))), (0, .ref mo), (1, .int (nI by_)), (2, .int (nI its)), (3, .int (nI th)), (4, .int (nI at_))]) dX4_makes_176 (pc' := 179) rfl rfl (nI_add _ _) (by decide) rfl ?_
              refine j_goto C dX4_makes_179 (pc' := 141) (by decide) ?_
              refine jt_h (h' := hM G mo ad h0 s (va_up (mk10 s a by_ its th at_ (a 8 its + 1) 0) 20 (mkM a (s 10) (k + 1)))) (by rw [up2_in, mkM_s]) ?_
              exact jW.locals [1, 2, 3, 4, 5, 0] rfl (ih_141 (k + 1) (by omega) (by omega) (by omega))
      refine jt_h (h' := hM G mo ad h0 s (va_up (mk10 s a by_ its th at_ (a 8 its + 1) 0) 20 (mkM a (s 10) 0))) (by rw [mkM_0, ← mk10_20 s a by_ its th at_ (a 8 its + 1) 0, up_same]; rfl) ?_
      exact jW.locals [1, 2, 3, 4, 5, 0] rfl (L_141 ((s 23 - 0) + 1) 0 (by omega) (by omega) (fun _ => rfl))
    · have c_5 := fun zq => c_5 ((nI_eq (a := th) (b := 0) (by omega) (by omega)).mpr zq)
      have c_5 : ¬ th = 0 := c_5
      refine j_aload_n C (i := 0) (x := mo) 0 rfl dX4_makes_129 (pc' := 130) rfl ?_
      refine m_get C (f := 23) (idx := 100) hin (by decide) rfl (by decide +kernel) dX4_makes_130 (pc' := 133) rfl ?_
      refine j_goto C dX4_makes_133 (pc' := 137) (by decide) ?_
      refine m_ast C M (f := 19) (j := s 10) (v := s 23) (by decide) rfl rfl rfl (show s 10 < 1400 by omega) rfl dX4_makes_137 (pc' := 138) rfl ?_
      refine j_iconst C (v := nI 0) rfl dX4_makes_138 (pc' := 139) rfl ?_
      refine j_istore C (i := 5) (x := nI 0) (l' := [(5, .int (nI 0)), (0, .ref mo), (1, .int (nI by_)), (2, .int (nI its)), (3, .int (nI th)), (4, .int (nI at_))]) dX4_makes_139 (pc' := 141) rfl (by decide) rfl ?_
      have L_141 : ∀ (N_141 : Nat) (k : Nat), (s 23 - k) < N_141 → (k ≤ s 23) → (th = 0 → k = 0) → jW X G 6 0 0 141 [(0, .ref mo), (1, .int (nI by_)), (2, .int (nI its)), (3, .int (nI th)), (4, .int (nI at_)), (5, .int (nI k))] [] ((hM G mo ad h0 s (va_up (mk10 s a by_ its th at_ (a 8 its + 1) (s 23)) 20 (mkM a (s 10) k)))) := by
        intro N_141
        induction N_141 with
        | zero => intro k hm_141 hk hth; omega
        | succ N_141 ih_141 =>
          intro k hm_141 hk hth
          refine j_iload C (i := 5) (x := nI k) 5 rfl dX4_makes_141 (pc' := 143) rfl ?_
          refine j_aload_n C (i := 0) (x := mo) 0 rfl dX4_makes_143 (pc' := 144) rfl ?_
          refine m_get C (f := 23) (idx := 100) hin (by decide) rfl (by decide +kernel) dX4_makes_144 (pc' := 147) rfl ?_
          refine j_icmp_ge C dX4_makes_147 (tgt := 182) (by decide) (pc' := 150) rfl (fun c_9 => ?_) (fun c_9 => ?_)
          · have c_9 := (nI_leI (a := s 23) (b := k) (by omega) (by omega)).mp c_9
            have c_9 : (s 23) ≤ k := c_9
            refine j_aload_n C (i := 0) (x := mo) 0 rfl dX4_makes_182 (pc' := 183) rfl ?_
            refine m_geta C (f := 8) (idx := 20) hin (by decide) rfl (by decide +kernel) dX4_makes_183 (pc' := 186) rfl ?_
            refine j_iload_n C (i := 2) (x := nI its) 2 rfl dX4_makes_186 (pc' := 187) rfl ?_
            refine j_aload_n C (i := 0) (x := mo) 0 rfl dX4_makes_187 (pc' := 188) rfl ?_
            refine m_get C (f := 10) (idx := 87) hin (by decide) rfl (by decide +kernel) dX4_makes_188 (pc' := 191) rfl ?_
            refine m_ast C M (f := 8) (j := its) (v := s 10) (by decide) rfl rfl rfl (show its < 40 by omega) rfl dX4_makes_191 (pc' := 192) rfl ?_
            refine j_aload_n C (i := 0) (x := mo) 0 rfl dX4_makes_192 (pc' := 193) rfl ?_
            refine j_dup C rfl dX4_makes_193 (pc' := 194) rfl ?_
            refine m_get C (f := 10) (idx := 87) hin (by decide) rfl (by decide +kernel) dX4_makes_194 (pc' := 197) rfl ?_
            refine j_iconst C (v := nI 1) rfl dX4_makes_197 (pc' := 198) rfl ?_
            refine j_iadd C (x := nI (s 10)) (y := nI 1) dX4_makes_198 (pc' := 199) rfl ?_
            refine jt_i (nI_add _ _) ?_
            refine m_put C (f := 10) (idx := 87) (v := s 10 + 1) hin (by decide) rfl (by decide +kernel) dX4_makes_199 (pc' := 202) rfl ?_
            refine j_aload_n C (i := 0) (x := mo) 0 rfl dX4_makes_202 (pc' := 203) rfl ?_
            refine m_geta C (f := 9) (idx := 23) hin (by decide) rfl (by decide +kernel) dX4_makes_203 (pc' := 206) rfl ?_
            refine j_iload_n C (i := 2) (x := nI its) 2 rfl dX4_makes_206 (pc' := 207) rfl ?_
            refine m_ald C M (f := 9) (j := its) (by decide) rfl rfl rfl (show its < 40 by omega) dX4_makes_207 (pc' := 208) rfl ?_
            refine jt_i (show _ = nI (a 9 its + 1) from congrArg nI (mk10_9 s a by_ its th at_ (a 8 its + 1) (s 23))) ?_
            exact j_iret C E dX4_makes_208 rfl (Nat.le_refl _) (Nat.le_refl _) ⟨rfl, by show _ = hM G mo ad h0 (va_up s 10 (s 10 + 1)) (mkA s a by_ its th at_); unfold mkA; rw [if_neg c_2, if_neg c_5, show s 23 = k from by omega]⟩
          · have c_9 := fun zq => c_9 ((nI_leI (a := s 23) (b := k) (by omega) (by omega)).mpr zq)
            have c_9 : ¬ (s 23) ≤ k := c_9
            refine j_iload_n C (i := 3) (x := nI th) 3 rfl dX4_makes_150 (pc' := 151) rfl ?_
            refine j_if_eq C dX4_makes_151 (tgt := 182) (by decide) (pc' := 154) rfl (fun c_10 => ?_) (fun c_10 => ?_)
            · have c_10 := (nI_eq (a := th) (b := 0) (by omega) (by omega)).mp c_10
              have c_10 : th = 0 := c_10
              refine j_aload_n C (i := 0) (x := mo) 0 rfl dX4_makes_182 (pc' := 183) rfl ?_
              refine m_geta C (f := 8) (idx := 20) hin (by decide) rfl (by decide +kernel) dX4_makes_183 (pc' := 186) rfl ?_
              refine j_iload_n C (i := 2) (x := nI its) 2 rfl dX4_makes_186 (pc' := 187) rfl ?_
              refine j_aload_n C (i := 0) (x := mo) 0 rfl dX4_makes_187 (pc' := 188) rfl ?_
              refine m_get C (f := 10) (idx := 87) hin (by decide) rfl (by decide +kernel) dX4_makes_188 (pc' := 191) rfl ?_
              refine m_ast C M (f := 8) (j := its) (v := s 10) (by decide) rfl rfl rfl (show its < 40 by omega) rfl dX4_makes_191 (pc' := 192) rfl ?_
              refine j_aload_n C (i := 0) (x := mo) 0 rfl dX4_makes_192 (pc' := 193) rfl ?_
              refine j_dup C rfl dX4_makes_193 (pc' := 194) rfl ?_
              refine m_get C (f := 10) (idx := 87) hin (by decide) rfl (by decide +kernel) dX4_makes_194 (pc' := 197) rfl ?_
              refine j_iconst C (v := nI 1) rfl dX4_makes_197 (pc' := 198) rfl ?_
              refine j_iadd C (x := nI (s 10)) (y := nI 1) dX4_makes_198 (pc' := 199) rfl ?_
              refine jt_i (nI_add _ _) ?_
              refine m_put C (f := 10) (idx := 87) (v := s 10 + 1) hin (by decide) rfl (by decide +kernel) dX4_makes_199 (pc' := 202) rfl ?_
              refine j_aload_n C (i := 0) (x := mo) 0 rfl dX4_makes_202 (pc' := 203) rfl ?_
              refine m_geta C (f := 9) (idx := 23) hin (by decide) rfl (by decide +kernel) dX4_makes_203 (pc' := 206) rfl ?_
              refine j_iload_n C (i := 2) (x := nI its) 2 rfl dX4_makes_206 (pc' := 207) rfl ?_
              refine m_ald C M (f := 9) (j := its) (by decide) rfl rfl rfl (show its < 40 by omega) dX4_makes_207 (pc' := 208) rfl ?_
              refine jt_i (show _ = nI (a 9 its + 1) from congrArg nI (mk10_9 s a by_ its th at_ (a 8 its + 1) (s 23))) ?_
              exact j_iret C E dX4_makes_208 rfl (Nat.le_refl _) (Nat.le_refl _) ⟨rfl, by show _ = hM G mo ad h0 (va_up s 10 (s 10 + 1)) (mkA s a by_ its th at_); unfold mkA; rw [if_neg c_2, if_neg c_5, show s 23 = k from by omega]⟩
            · have c_10 := fun zq => c_10 ((nI_eq (a := th) (b := 0) (by omega) (by omega)).mpr zq)
              have c_10 : ¬ th = 0 := c_10
              refine j_aload_n C (i := 0) (x := mo) 0 rfl dX4_makes_154 (pc' := 155) rfl ?_
              refine m_geta C (f := 20) (idx := 53) hin (by decide) rfl (by decide +kernel) dX4_makes_155 (pc' := 158) rfl ?_
              refine j_bipush C (v := nI 6) rfl dX4_makes_158 (pc' := 160) rfl ?_
              refine j_aload_n C (i := 0) (x := mo) 0 rfl dX4_makes_160 (pc' := 161) rfl ?_
              refine m_get C (f := 10) (idx := 87) hin (by decide) rfl (by decide +kernel) dX4_makes_161 (pc' := 164) rfl ?_
              refine j_imul C (x := nI 6) (y := nI (s 10)) dX4_makes_164 (pc' := 165) rfl ?_
              refine jt_i (pk_mul _ _) ?_
              refine j_iload C (i := 5) (x := nI k) 5 rfl dX4_makes_165 (pc' := 167) rfl ?_
              refine j_iadd C (x := nI (6 * (s 10))) (y := nI k) dX4_makes_167 (pc' := 168) rfl ?_
              refine jt_i (nI_add _ _) ?_
              refine j_aload_n C (i := 0) (x := mo) 0 rfl dX4_makes_168 (pc' := 169) rfl ?_
              refine m_geta C (f := 24) (idx := 62) hin (by decide) rfl (by decide +kernel) dX4_makes_169 (pc' := 172) rfl ?_
              refine j_iload C (i := 5) (x := nI k) 5 rfl dX4_makes_172 (pc' := 174) rfl ?_
              refine m_ald C M (f := 24) (j := k) (by decide) rfl rfl rfl (show k < 6 by omega) dX4_makes_174 (pc' := 175) rfl ?_
              show jW X G 6 0 0 175 [(0, .ref mo), (1, .int (nI by_)), (2, .int (nI its)), (3, .int (nI th)), (4, .int (nI at_)), (5, .int (nI k))] [.int (nI (a 24 k)), .int (nI (6 * (s 10) + k)), .ref (ad 20)] ((hM G mo ad h0 s (va_up (mk10 s a by_ its th at_ (a 8 its + 1) (s 23)) 20 (mkM a (s 10) k))))
              have B_11 := IA.asks I k
              refine m_ast C M (f := 20) (j := 6 * (s 10) + k) (v := a 24 k) (by decide) rfl rfl rfl (show 6 * (s 10) + k < 8400 by omega) rfl dX4_makes_175 (pc' := 176) rfl ?_
              refine j_iinc C (i := 5) (q := 5) (x := nI k) (v := nI (k + 1)) (l' := [(5, .int (nI (k + 1))), (0, .ref mo), (1, .int (nI by_)), (2, .int (nI its)), (3, .int (nI th)), (4, .int (nI at_))]) dX4_makes_176 (pc' := 179) rfl rfl (nI_add _ _) (by decide) rfl ?_
              refine j_goto C dX4_makes_179 (pc' := 141) (by decide) ?_
              refine jt_h (h' := hM G mo ad h0 s (va_up (mk10 s a by_ its th at_ (a 8 its + 1) (s 23)) 20 (mkM a (s 10) (k + 1)))) (by rw [up2_in, mkM_s]) ?_
              exact jW.locals [1, 2, 3, 4, 5, 0] rfl (ih_141 (k + 1) (by omega) (by omega) (by omega))
      refine jt_h (h' := hM G mo ad h0 s (va_up (mk10 s a by_ its th at_ (a 8 its + 1) (s 23)) 20 (mkM a (s 10) 0))) (by rw [mkM_0, ← mk10_20 s a by_ its th at_ (a 8 its + 1) (s 23), up_same]; rfl) ?_
      exact jW.locals [1, 2, 3, 4, 5, 0] rfl (L_141 ((s 23 - 0) + 1) 0 (by omega) (by omega) (fun _ => rfl))
  · have c_2 := (nI_eq (a := a 9 its) (b := 0) (by omega) (by omega)).mp c_2
    have c_2 : (a 9 its) = 0 := c_2
    refine j_iconst C (v := (-1)) rfl dX4_makes_27 (pc' := 28) rfl ?_
    refine j_goto C dX4_makes_28 (pc' := 37) (by decide) ?_
    refine m_ast C M (f := 13) (j := s 10) (v := 0) (by decide) rfl rfl rfl (show s 10 < 1400 by omega) rfl dX4_makes_37 (pc' := 38) rfl ?_
    refine j_aload_n C (i := 0) (x := mo) 0 rfl dX4_makes_38 (pc' := 39) rfl ?_
    refine m_geta C (f := 9) (idx := 23) hin (by decide) rfl (by decide +kernel) dX4_makes_39 (pc' := 42) rfl ?_
    refine j_iload_n C (i := 2) (x := nI its) 2 rfl dX4_makes_42 (pc' := 43) rfl ?_
    refine j_dup2 C rfl rfl dX4_makes_43 (pc' := 44) rfl ?_
    refine m_ald C M (f := 9) (j := its) (by decide) rfl rfl rfl (show its < 40 by omega) dX4_makes_44 (pc' := 45) rfl ?_
    show jW X G 6 0 0 45 [(0, .ref mo), (1, .int (nI by_)), (2, .int (nI its)), (3, .int (nI th)), (4, .int (nI at_))] [.int (nI (a 9 its)), .int (nI its), .ref (ad 9)] ((hM G mo ad h0 s (va_up2 (va_up2 a 11 (s 10) its) 13 (s 10) 0)))
    have B_12 := IA.big I 9 its
    refine j_iconst C (v := nI 1) rfl dX4_makes_45 (pc' := 46) rfl ?_
    refine j_iadd C (x := nI (a 9 its)) (y := nI 1) dX4_makes_46 (pc' := 47) rfl ?_
    refine jt_i (nI_add _ _) ?_
    refine m_ast C M (f := 9) (j := its) (v := a 9 its + 1) (by decide) rfl rfl rfl (show its < 40 by omega) rfl dX4_makes_47 (pc' := 48) rfl ?_
    refine j_aload_n C (i := 0) (x := mo) 0 rfl dX4_makes_48 (pc' := 49) rfl ?_
    refine m_geta C (f := 12) (idx := 29) hin (by decide) rfl (by decide +kernel) dX4_makes_49 (pc' := 52) rfl ?_
    refine j_aload_n C (i := 0) (x := mo) 0 rfl dX4_makes_52 (pc' := 53) rfl ?_
    refine m_get C (f := 10) (idx := 87) hin (by decide) rfl (by decide +kernel) dX4_makes_53 (pc' := 56) rfl ?_
    refine j_aload_n C (i := 0) (x := mo) 0 rfl dX4_makes_56 (pc' := 57) rfl ?_
    refine m_geta C (f := 9) (idx := 23) hin (by decide) rfl (by decide +kernel) dX4_makes_57 (pc' := 60) rfl ?_
    refine j_iload_n C (i := 2) (x := nI its) 2 rfl dX4_makes_60 (pc' := 61) rfl ?_
    refine m_ald C M (f := 9) (j := its) (by decide) rfl rfl rfl (show its < 40 by omega) dX4_makes_61 (pc' := 62) rfl ?_
    refine jt_i (show nI ((va_up2 (va_up2 (va_up2 a 11 (s 10) its) 13 (s 10) 0) 9 its (a 9 its + 1)) 9 its) = nI (a 9 its + 1) from by simp only [va_up2]; simp [va_up]) ?_
    refine m_ast C M (f := 12) (j := s 10) (v := a 9 its + 1) (by decide) rfl rfl rfl (show s 10 < 1400 by omega) rfl dX4_makes_62 (pc' := 63) rfl ?_
    refine j_aload_n C (i := 0) (x := mo) 0 rfl dX4_makes_63 (pc' := 64) rfl ?_
    refine m_geta C (f := 14) (idx := 35) hin (by decide) rfl (by decide +kernel) dX4_makes_64 (pc' := 67) rfl ?_
    refine j_aload_n C (i := 0) (x := mo) 0 rfl dX4_makes_67 (pc' := 68) rfl ?_
    refine m_get C (f := 10) (idx := 87) hin (by decide) rfl (by decide +kernel) dX4_makes_68 (pc' := 71) rfl ?_
    refine j_iload_n C (i := 1) (x := nI by_) 1 rfl dX4_makes_71 (pc' := 72) rfl ?_
    refine m_ast C M (f := 14) (j := s 10) (v := by_) (by decide) rfl rfl rfl (show s 10 < 1400 by omega) rfl dX4_makes_72 (pc' := 73) rfl ?_
    refine j_aload_n C (i := 0) (x := mo) 0 rfl dX4_makes_73 (pc' := 74) rfl ?_
    refine m_geta C (f := 15) (idx := 38) hin (by decide) rfl (by decide +kernel) dX4_makes_74 (pc' := 77) rfl ?_
    refine j_aload_n C (i := 0) (x := mo) 0 rfl dX4_makes_77 (pc' := 78) rfl ?_
    refine m_get C (f := 10) (idx := 87) hin (by decide) rfl (by decide +kernel) dX4_makes_78 (pc' := 81) rfl ?_
    refine j_aload_n C (i := 0) (x := mo) 0 rfl dX4_makes_81 (pc' := 82) rfl ?_
    refine m_get C (f := 0) (idx := 110) hin (by decide) rfl (by decide +kernel) dX4_makes_82 (pc' := 85) rfl ?_
    refine m_ast C M (f := 15) (j := s 10) (v := s 0) (by decide) rfl rfl rfl (show s 10 < 1400 by omega) rfl dX4_makes_85 (pc' := 86) rfl ?_
    refine j_aload_n C (i := 0) (x := mo) 0 rfl dX4_makes_86 (pc' := 87) rfl ?_
    refine m_geta C (f := 16) (idx := 41) hin (by decide) rfl (by decide +kernel) dX4_makes_87 (pc' := 90) rfl ?_
    refine j_aload_n C (i := 0) (x := mo) 0 rfl dX4_makes_90 (pc' := 91) rfl ?_
    refine m_get C (f := 10) (idx := 87) hin (by decide) rfl (by decide +kernel) dX4_makes_91 (pc' := 94) rfl ?_
    refine j_iload_n C (i := 3) (x := nI th) 3 rfl dX4_makes_94 (pc' := 95) rfl ?_
    refine m_zst C M (f := 16) (j := s 10) (v := th) (by decide) rfl rfl rfl (show s 10 < 1400 by omega) (show vp_nar .boolean (nI th) = nI th by rcases Nat.le_one_iff_eq_zero_or_eq_one.mp ht with rfl | rfl <;> rfl) dX4_makes_95 (pc' := 96) rfl ?_
    refine j_aload_n C (i := 0) (x := mo) 0 rfl dX4_makes_96 (pc' := 97) rfl ?_
    refine m_geta C (f := 17) (idx := 44) hin (by decide) rfl (by decide +kernel) dX4_makes_97 (pc' := 100) rfl ?_
    refine j_aload_n C (i := 0) (x := mo) 0 rfl dX4_makes_100 (pc' := 101) rfl ?_
    refine m_get C (f := 10) (idx := 87) hin (by decide) rfl (by decide +kernel) dX4_makes_101 (pc' := 104) rfl ?_
    refine j_iconst C (v := nI 0) rfl dX4_makes_104 (pc' := 105) rfl ?_
    refine m_zst C M (f := 17) (j := s 10) (v := 0) (by decide) rfl rfl rfl (show s 10 < 1400 by omega) (by first | rfl | exact bI_vp _) dX4_makes_105 (pc' := 106) rfl ?_
    refine j_aload_n C (i := 0) (x := mo) 0 rfl dX4_makes_106 (pc' := 107) rfl ?_
    refine m_geta C (f := 18) (idx := 47) hin (by decide) rfl (by decide +kernel) dX4_makes_107 (pc' := 110) rfl ?_
    refine j_aload_n C (i := 0) (x := mo) 0 rfl dX4_makes_110 (pc' := 111) rfl ?_
    refine m_get C (f := 10) (idx := 87) hin (by decide) rfl (by decide +kernel) dX4_makes_111 (pc' := 114) rfl ?_
    refine j_iload C (i := 4) (x := nI at_) 4 rfl dX4_makes_114 (pc' := 116) rfl ?_
    refine m_ast C M (f := 18) (j := s 10) (v := at_) (by decide) rfl rfl rfl (show s 10 < 1400 by omega) rfl dX4_makes_116 (pc' := 117) rfl ?_
    refine j_aload_n C (i := 0) (x := mo) 0 rfl dX4_makes_117 (pc' := 118) rfl ?_
    refine m_geta C (f := 19) (idx := 50) hin (by decide) rfl (by decide +kernel) dX4_makes_118 (pc' := 121) rfl ?_
    refine j_aload_n C (i := 0) (x := mo) 0 rfl dX4_makes_121 (pc' := 122) rfl ?_
    refine m_get C (f := 10) (idx := 87) hin (by decide) rfl (by decide +kernel) dX4_makes_122 (pc' := 125) rfl ?_
    refine j_iload_n C (i := 3) (x := nI th) 3 rfl dX4_makes_125 (pc' := 126) rfl ?_
    refine j_if_eq C dX4_makes_126 (tgt := 136) (by decide) (pc' := 129) rfl (fun c_13 => ?_) (fun c_13 => ?_)
    · have c_13 := (nI_eq (a := th) (b := 0) (by omega) (by omega)).mp c_13
      have c_13 : th = 0 := c_13
      refine j_iconst C (v := nI 0) rfl dX4_makes_136 (pc' := 137) rfl ?_
      refine m_ast C M (f := 19) (j := s 10) (v := 0) (by decide) rfl rfl rfl (show s 10 < 1400 by omega) rfl dX4_makes_137 (pc' := 138) rfl ?_
      refine j_iconst C (v := nI 0) rfl dX4_makes_138 (pc' := 139) rfl ?_
      refine j_istore C (i := 5) (x := nI 0) (l' := [(5, .int (nI 0)), (0, .ref mo), (1, .int (nI by_)), (2, .int (nI its)), (3, .int (nI th)), (4, .int (nI at_))]) dX4_makes_139 (pc' := 141) rfl (by decide) rfl ?_
      have L_141 : ∀ (N_141 : Nat) (k : Nat), (s 23 - k) < N_141 → (k ≤ s 23) → (th = 0 → k = 0) → jW X G 6 0 0 141 [(0, .ref mo), (1, .int (nI by_)), (2, .int (nI its)), (3, .int (nI th)), (4, .int (nI at_)), (5, .int (nI k))] [] ((hM G mo ad h0 s (va_up (mk10 s a by_ its th at_ 0 0) 20 (mkM a (s 10) k)))) := by
        intro N_141
        induction N_141 with
        | zero => intro k hm_141 hk hth; omega
        | succ N_141 ih_141 =>
          intro k hm_141 hk hth
          refine j_iload C (i := 5) (x := nI k) 5 rfl dX4_makes_141 (pc' := 143) rfl ?_
          refine j_aload_n C (i := 0) (x := mo) 0 rfl dX4_makes_143 (pc' := 144) rfl ?_
          refine m_get C (f := 23) (idx := 100) hin (by decide) rfl (by decide +kernel) dX4_makes_144 (pc' := 147) rfl ?_
          refine j_icmp_ge C dX4_makes_147 (tgt := 182) (by decide) (pc' := 150) rfl (fun c_14 => ?_) (fun c_14 => ?_)
          · have c_14 := (nI_leI (a := s 23) (b := k) (by omega) (by omega)).mp c_14
            have c_14 : (s 23) ≤ k := c_14
            refine j_aload_n C (i := 0) (x := mo) 0 rfl dX4_makes_182 (pc' := 183) rfl ?_
            refine m_geta C (f := 8) (idx := 20) hin (by decide) rfl (by decide +kernel) dX4_makes_183 (pc' := 186) rfl ?_
            refine j_iload_n C (i := 2) (x := nI its) 2 rfl dX4_makes_186 (pc' := 187) rfl ?_
            refine j_aload_n C (i := 0) (x := mo) 0 rfl dX4_makes_187 (pc' := 188) rfl ?_
            refine m_get C (f := 10) (idx := 87) hin (by decide) rfl (by decide +kernel) dX4_makes_188 (pc' := 191) rfl ?_
            refine m_ast C M (f := 8) (j := its) (v := s 10) (by decide) rfl rfl rfl (show its < 40 by omega) rfl dX4_makes_191 (pc' := 192) rfl ?_
            refine j_aload_n C (i := 0) (x := mo) 0 rfl dX4_makes_192 (pc' := 193) rfl ?_
            refine j_dup C rfl dX4_makes_193 (pc' := 194) rfl ?_
            refine m_get C (f := 10) (idx := 87) hin (by decide) rfl (by decide +kernel) dX4_makes_194 (pc' := 197) rfl ?_
            refine j_iconst C (v := nI 1) rfl dX4_makes_197 (pc' := 198) rfl ?_
            refine j_iadd C (x := nI (s 10)) (y := nI 1) dX4_makes_198 (pc' := 199) rfl ?_
            refine jt_i (nI_add _ _) ?_
            refine m_put C (f := 10) (idx := 87) (v := s 10 + 1) hin (by decide) rfl (by decide +kernel) dX4_makes_199 (pc' := 202) rfl ?_
            refine j_aload_n C (i := 0) (x := mo) 0 rfl dX4_makes_202 (pc' := 203) rfl ?_
            refine m_geta C (f := 9) (idx := 23) hin (by decide) rfl (by decide +kernel) dX4_makes_203 (pc' := 206) rfl ?_
            refine j_iload_n C (i := 2) (x := nI its) 2 rfl dX4_makes_206 (pc' := 207) rfl ?_
            refine m_ald C M (f := 9) (j := its) (by decide) rfl rfl rfl (show its < 40 by omega) dX4_makes_207 (pc' := 208) rfl ?_
            refine jt_i (show _ = nI (a 9 its + 1) from congrArg nI (mk10_9 s a by_ its th at_ 0 0)) ?_
            exact j_iret C E dX4_makes_208 rfl (Nat.le_refl _) (Nat.le_refl _) ⟨rfl, by show _ = hM G mo ad h0 (va_up s 10 (s 10 + 1)) (mkA s a by_ its th at_); unfold mkA; rw [if_pos c_2, if_pos c_13, show 0 = k from by omega]⟩
          · have c_14 := fun zq => c_14 ((nI_leI (a := s 23) (b := k) (by omega) (by omega)).mpr zq)
            have c_14 : ¬ (s 23) ≤ k := c_14
            refine j_iload_n C (i := 3) (x := nI th) 3 rfl dX4_makes_150 (pc' := 151) rfl ?_
            refine j_if_eq C dX4_makes_151 (tgt := 182) (by decide) (pc' := 154) rfl (fun c_15 => ?_) (fun c_15 => ?_)
            · have c_15 := (nI_eq (a := th) (b := 0) (by omega) (by omega)).mp c_15
              have c_15 : th = 0 := c_15
              refine j_aload_n C (i := 0) (x := mo) 0 rfl dX4_makes_182 (pc' := 183) rfl ?_
              refine m_geta C (f := 8) (idx := 20) hin (by decide) rfl (by decide +kernel) dX4_makes_183 (pc' := 186) rfl ?_
              refine j_iload_n C (i := 2) (x := nI its) 2 rfl dX4_makes_186 (pc' := 187) rfl ?_
              refine j_aload_n C (i := 0) (x := mo) 0 rfl dX4_makes_187 (pc' := 188) rfl ?_
              refine m_get C (f := 10) (idx := 87) hin (by decide) rfl (by decide +kernel) dX4_makes_188 (pc' := 191) rfl ?_
              refine m_ast C M (f := 8) (j := its) (v := s 10) (by decide) rfl rfl rfl (show its < 40 by omega) rfl dX4_makes_191 (pc' := 192) rfl ?_
              refine j_aload_n C (i := 0) (x := mo) 0 rfl dX4_makes_192 (pc' := 193) rfl ?_
              refine j_dup C rfl dX4_makes_193 (pc' := 194) rfl ?_
              refine m_get C (f := 10) (idx := 87) hin (by decide) rfl (by decide +kernel) dX4_makes_194 (pc' := 197) rfl ?_
              refine j_iconst C (v := nI 1) rfl dX4_makes_197 (pc' := 198) rfl ?_
              refine j_iadd C (x := nI (s 10)) (y := nI 1) dX4_makes_198 (pc' := 199) rfl ?_
              refine jt_i (nI_add _ _) ?_
              refine m_put C (f := 10) (idx := 87) (v := s 10 + 1) hin (by decide) rfl (by decide +kernel) dX4_makes_199 (pc' := 202) rfl ?_
              refine j_aload_n C (i := 0) (x := mo) 0 rfl dX4_makes_202 (pc' := 203) rfl ?_
              refine m_geta C (f := 9) (idx := 23) hin (by decide) rfl (by decide +kernel) dX4_makes_203 (pc' := 206) rfl ?_
              refine j_iload_n C (i := 2) (x := nI its) 2 rfl dX4_makes_206 (pc' := 207) rfl ?_
              refine m_ald C M (f := 9) (j := its) (by decide) rfl rfl rfl (show its < 40 by omega) dX4_makes_207 (pc' := 208) rfl ?_
              refine jt_i (show _ = nI (a 9 its + 1) from congrArg nI (mk10_9 s a by_ its th at_ 0 0)) ?_
              exact j_iret C E dX4_makes_208 rfl (Nat.le_refl _) (Nat.le_refl _) ⟨rfl, by show _ = hM G mo ad h0 (va_up s 10 (s 10 + 1)) (mkA s a by_ its th at_); unfold mkA; rw [if_pos c_2, if_pos c_13, show 0 = k from by omega]⟩
            · have c_15 := fun zq => c_15 ((nI_eq (a := th) (b := 0) (by omega) (by omega)).mpr zq)
              have c_15 : ¬ th = 0 := c_15
              refine j_aload_n C (i := 0) (x := mo) 0 rfl dX4_makes_154 (pc' := 155) rfl ?_
              refine m_geta C (f := 20) (idx := 53) hin (by decide) rfl (by decide +kernel) dX4_makes_155 (pc' := 158) rfl ?_
              refine j_bipush C (v := nI 6) rfl dX4_makes_158 (pc' := 160) rfl ?_
              refine j_aload_n C (i := 0) (x := mo) 0 rfl dX4_makes_160 (pc' := 161) rfl ?_
              refine m_get C (f := 10) (idx := 87) hin (by decide) rfl (by decide +kernel) dX4_makes_161 (pc' := 164) rfl ?_
              refine j_imul C (x := nI 6) (y := nI (s 10)) dX4_makes_164 (pc' := 165) rfl ?_
              refine jt_i (pk_mul _ _) ?_
              refine j_iload C (i := 5) (x := nI k) 5 rfl dX4_makes_165 (pc' := 167) rfl ?_
              refine j_iadd C (x := nI (6 * (s 10))) (y := nI k) dX4_makes_167 (pc' := 168) rfl ?_
              refine jt_i (nI_add _ _) ?_
              refine j_aload_n C (i := 0) (x := mo) 0 rfl dX4_makes_168 (pc' := 169) rfl ?_
              refine m_geta C (f := 24) (idx := 62) hin (by decide) rfl (by decide +kernel) dX4_makes_169 (pc' := 172) rfl ?_
              refine j_iload C (i := 5) (x := nI k) 5 rfl dX4_makes_172 (pc' := 174) rfl ?_
              refine m_ald C M (f := 24) (j := k) (by decide) rfl rfl rfl (show k < 6 by omega) dX4_makes_174 (pc' := 175) rfl ?_
              show jW X G 6 0 0 175 [(0, .ref mo), (1, .int (nI by_)), (2, .int (nI its)), (3, .int (nI th)), (4, .int (nI at_)), (5, .int (nI k))] [.int (nI (a 24 k)), .int (nI (6 * (s 10) + k)), .ref (ad 20)] ((hM G mo ad h0 s (va_up (mk10 s a by_ its th at_ 0 0) 20 (mkM a (s 10) k))))
              have B_16 := IA.asks I k
              refine m_ast C M (f := 20) (j := 6 * (s 10) + k) (v := a 24 k) (by decide) rfl rfl rfl (show 6 * (s 10) + k < 8400 by omega) rfl dX4_makes_175 (pc' := 176) rfl ?_
              refine j_iinc C (i := 5) (q := 5) (x := nI k) (v := nI (k + 1)) (l' := [(5, .int (nI (k + 1))), (0, .ref mo), (1, .int (nI by_)), (2, .int (nI its)), (3, .int (nI th)), (4, .int (nI at_))]) dX4_makes_176 (pc' := 179) rfl rfl (nI_add _ _) (by decide) rfl ?_
              refine j_goto C dX4_makes_179 (pc' := 141) (by decide) ?_
              refine jt_h (h' := hM G mo ad h0 s (va_up (mk10 s a by_ its th at_ 0 0) 20 (mkM a (s 10) (k + 1)))) (by rw [up2_in, mkM_s]) ?_
              exact jW.locals [1, 2, 3, 4, 5, 0] rfl (ih_141 (k + 1) (by omega) (by omega) (by omega))
      refine jt_h (h' := hM G mo ad h0 s (va_up (mk10 s a by_ its th at_ 0 0) 20 (mkM a (s 10) 0))) (by rw [mkM_0, ← mk10_20 s a by_ its th at_ 0 0, up_same]; rfl) ?_
      exact jW.locals [1, 2, 3, 4, 5, 0] rfl (L_141 ((s 23 - 0) + 1) 0 (by omega) (by omega) (fun _ => rfl))
    · have c_13 := fun zq => c_13 ((nI_eq (a := th) (b := 0) (by omega) (by omega)).mpr zq)
      have c_13 : ¬ th = 0 := c_13
      refine j_aload_n C (i := 0) (x := mo) 0 rfl dX4_makes_129 (pc' := 130) rfl ?_
      refine m_get C (f := 23) (idx := 100) hin (by decide) rfl (by decide +kernel) dX4_makes_130 (pc' := 133) rfl ?_
      refine j_goto C dX4_makes_133 (pc' := 137) (by decide) ?_
      refine m_ast C M (f := 19) (j := s 10) (v := s 23) (by decide) rfl rfl rfl (show s 10 < 1400 by omega) rfl dX4_makes_137 (pc' := 138) rfl ?_
      refine j_iconst C (v := nI 0) rfl dX4_makes_138 (pc' := 139) rfl ?_
      refine j_istore C (i := 5) (x := nI 0) (l' := [(5, .int (nI 0)), (0, .ref mo), (1, .int (nI by_)), (2, .int (nI its)), (3, .int (nI th)), (4, .int (nI at_))]) dX4_makes_139 (pc' := 141) rfl (by decide) rfl ?_
      have L_141 : ∀ (N_141 : Nat) (k : Nat), (s 23 - k) < N_141 → (k ≤ s 23) → (th = 0 → k = 0) → jW X G 6 0 0 141 [(0, .ref mo), (1, .int (nI by_)), (2, .int (nI its)), (3, .int (nI th)), (4, .int (nI at_)), (5, .int (nI k))] [] ((hM G mo ad h0 s (va_up (mk10 s a by_ its th at_ 0 (s 23)) 20 (mkM a (s 10) k)))) := by
        intro N_141
        induction N_141 with
        | zero => intro k hm_141 hk hth; omega
        | succ N_141 ih_141 =>
          intro k hm_141 hk hth
          refine j_iload C (i := 5) (x := nI k) 5 rfl dX4_makes_141 (pc' := 143) rfl ?_
          refine j_aload_n C (i := 0) (x := mo) 0 rfl dX4_makes_143 (pc' := 144) rfl ?_
          refine m_get C (f := 23) (idx := 100) hin (by decide) rfl (by decide +kernel) dX4_makes_144 (pc' := 147) rfl ?_
          refine j_icmp_ge C dX4_makes_147 (tgt := 182) (by decide) (pc' := 150) rfl (fun c_17 => ?_) (fun c_17 => ?_)
          · have c_17 := (nI_leI (a := s 23) (b := k) (by omega) (by omega)).mp c_17
            have c_17 : (s 23) ≤ k := c_17
            refine j_aload_n C (i := 0) (x := mo) 0 rfl dX4_makes_182 (pc' := 183) rfl ?_
            refine m_geta C (f := 8) (idx := 20) hin (by decide) rfl (by decide +kernel) dX4_makes_183 (pc' := 186) rfl ?_
            refine j_iload_n C (i := 2) (x := nI its) 2 rfl dX4_makes_186 (pc' := 187) rfl ?_
            refine j_aload_n C (i := 0) (x := mo) 0 rfl dX4_makes_187 (pc' := 188) rfl ?_
            refine m_get C (f := 10) (idx := 87) hin (by decide) rfl (by decide +kernel) dX4_makes_188 (pc' := 191) rfl ?_
            refine m_ast C M (f := 8) (j := its) (v := s 10) (by decide) rfl rfl rfl (show its < 40 by omega) rfl dX4_makes_191 (pc' := 192) rfl ?_
            refine j_aload_n C (i := 0) (x := mo) 0 rfl dX4_makes_192 (pc' := 193) rfl ?_
            refine j_dup C rfl dX4_makes_193 (pc' := 194) rfl ?_
            refine m_get C (f := 10) (idx := 87) hin (by decide) rfl (by decide +kernel) dX4_makes_194 (pc' := 197) rfl ?_
            refine j_iconst C (v := nI 1) rfl dX4_makes_197 (pc' := 198) rfl ?_
            refine j_iadd C (x := nI (s 10)) (y := nI 1) dX4_makes_198 (pc' := 199) rfl ?_
            refine jt_i (nI_add _ _) ?_
            refine m_put C (f := 10) (idx := 87) (v := s 10 + 1) hin (by decide) rfl (by decide +kernel) dX4_makes_199 (pc' := 202) rfl ?_
            refine j_aload_n C (i := 0) (x := mo) 0 rfl dX4_makes_202 (pc' := 203) rfl ?_
            refine m_geta C (f := 9) (idx := 23) hin (by decide) rfl (by decide +kernel) dX4_makes_203 (pc' := 206) rfl ?_
            refine j_iload_n C (i := 2) (x := nI its) 2 rfl dX4_makes_206 (pc' := 207) rfl ?_
            refine m_ald C M (f := 9) (j := its) (by decide) rfl rfl rfl (show its < 40 by omega) dX4_makes_207 (pc' := 208) rfl ?_
            refine jt_i (show _ = nI (a 9 its + 1) from congrArg nI (mk10_9 s a by_ its th at_ 0 (s 23))) ?_
            exact j_iret C E dX4_makes_208 rfl (Nat.le_refl _) (Nat.le_refl _) ⟨rfl, by show _ = hM G mo ad h0 (va_up s 10 (s 10 + 1)) (mkA s a by_ its th at_); unfold mkA; rw [if_pos c_2, if_neg c_13, show s 23 = k from by omega]⟩
          · have c_17 := fun zq => c_17 ((nI_leI (a := s 23) (b := k) (by omega) (by omega)).mpr zq)
            have c_17 : ¬ (s 23) ≤ k := c_17
            refine j_iload_n C (i := 3) (x := nI th) 3 rfl dX4_makes_150 (pc' := 151) rfl ?_
            refine j_if_eq C dX4_makes_151 (tgt := 182) (by decide) (pc' := 154) rfl (fun c_18 => ?_) (fun c_18 => ?_)
            · have c_18 := (nI_eq (a := th) (b := 0) (by omega) (by omega)).mp c_18
              have c_18 : th = 0 := c_18
              refine j_aload_n C (i := 0) (x := mo) 0 rfl dX4_makes_182 (pc' := 183) rfl ?_
              refine m_geta C (f := 8) (idx := 20) hin (by decide) rfl (by decide +kernel) dX4_makes_183 (pc' := 186) rfl ?_
              refine j_iload_n C (i := 2) (x := nI its) 2 rfl dX4_makes_186 (pc' := 187) rfl ?_
              refine j_aload_n C (i := 0) (x := mo) 0 rfl dX4_makes_187 (pc' := 188) rfl ?_
              refine m_get C (f := 10) (idx := 87) hin (by decide) rfl (by decide +kernel) dX4_makes_188 (pc' := 191) rfl ?_
              refine m_ast C M (f := 8) (j := its) (v := s 10) (by decide) rfl rfl rfl (show its < 40 by omega) rfl dX4_makes_191 (pc' := 192) rfl ?_
              refine j_aload_n C (i := 0) (x := mo) 0 rfl dX4_makes_192 (pc' := 193) rfl ?_
              refine j_dup C rfl dX4_makes_193 (pc' := 194) rfl ?_
              refine m_get C (f := 10) (idx := 87) hin (by decide) rfl (by decide +kernel) dX4_makes_194 (pc' := 197) rfl ?_
              refine j_iconst C (v := nI 1) rfl dX4_makes_197 (pc' := 198) rfl ?_
              refine j_iadd C (x := nI (s 10)) (y := nI 1) dX4_makes_198 (pc' := 199) rfl ?_
              refine jt_i (nI_add _ _) ?_
              refine m_put C (f := 10) (idx := 87) (v := s 10 + 1) hin (by decide) rfl (by decide +kernel) dX4_makes_199 (pc' := 202) rfl ?_
              refine j_aload_n C (i := 0) (x := mo) 0 rfl dX4_makes_202 (pc' := 203) rfl ?_
              refine m_geta C (f := 9) (idx := 23) hin (by decide) rfl (by decide +kernel) dX4_makes_203 (pc' := 206) rfl ?_
              refine j_iload_n C (i := 2) (x := nI its) 2 rfl dX4_makes_206 (pc' := 207) rfl ?_
              refine m_ald C M (f := 9) (j := its) (by decide) rfl rfl rfl (show its < 40 by omega) dX4_makes_207 (pc' := 208) rfl ?_
              refine jt_i (show _ = nI (a 9 its + 1) from congrArg nI (mk10_9 s a by_ its th at_ 0 (s 23))) ?_
              exact j_iret C E dX4_makes_208 rfl (Nat.le_refl _) (Nat.le_refl _) ⟨rfl, by show _ = hM G mo ad h0 (va_up s 10 (s 10 + 1)) (mkA s a by_ its th at_); unfold mkA; rw [if_pos c_2, if_neg c_13, show s 23 = k from by omega]⟩
            · have c_18 := fun zq => c_18 ((nI_eq (a := th) (b := 0) (by omega) (by omega)).mpr zq)
              have c_18 : ¬ th = 0 := c_18
              refine j_aload_n C (i := 0) (x := mo) 0 rfl dX4_makes_154 (pc' := 155) rfl ?_
              refine m_geta C (f := 20) (idx := 53) hin (by decide) rfl (by decide +kernel) dX4_makes_155 (pc' := 158) rfl ?_
              refine j_bipush C (v := nI 6) rfl dX4_makes_158 (pc' := 160) rfl ?_
              refine j_aload_n C (i := 0) (x := mo) 0 rfl dX4_makes_160 (pc' := 161) rfl ?_
              refine m_get C (f := 10) (idx := 87) hin (by decide) rfl (by decide +kernel) dX4_makes_161 (pc' := 164) rfl ?_
              refine j_imul C (x := nI 6) (y := nI (s 10)) dX4_makes_164 (pc' := 165) rfl ?_
              refine jt_i (pk_mul _ _) ?_
              refine j_iload C (i := 5) (x := nI k) 5 rfl dX4_makes_165 (pc' := 167) rfl ?_
              refine j_iadd C (x := nI (6 * (s 10))) (y := nI k) dX4_makes_167 (pc' := 168) rfl ?_
              refine jt_i (nI_add _ _) ?_
              refine j_aload_n C (i := 0) (x := mo) 0 rfl dX4_makes_168 (pc' := 169) rfl ?_
              refine m_geta C (f := 24) (idx := 62) hin (by decide) rfl (by decide +kernel) dX4_makes_169 (pc' := 172) rfl ?_
              refine j_iload C (i := 5) (x := nI k) 5 rfl dX4_makes_172 (pc' := 174) rfl ?_
              refine m_ald C M (f := 24) (j := k) (by decide) rfl rfl rfl (show k < 6 by omega) dX4_makes_174 (pc' := 175) rfl ?_
              show jW X G 6 0 0 175 [(0, .ref mo), (1, .int (nI by_)), (2, .int (nI its)), (3, .int (nI th)), (4, .int (nI at_)), (5, .int (nI k))] [.int (nI (a 24 k)), .int (nI (6 * (s 10) + k)), .ref (ad 20)] ((hM G mo ad h0 s (va_up (mk10 s a by_ its th at_ 0 (s 23)) 20 (mkM a (s 10) k))))
              have B_19 := IA.asks I k
              refine m_ast C M (f := 20) (j := 6 * (s 10) + k) (v := a 24 k) (by decide) rfl rfl rfl (show 6 * (s 10) + k < 8400 by omega) rfl dX4_makes_175 (pc' := 176) rfl ?_
              refine j_iinc C (i := 5) (q := 5) (x := nI k) (v := nI (k + 1)) (l' := [(5, .int (nI (k + 1))), (0, .ref mo), (1, .int (nI by_)), (2, .int (nI its)), (3, .int (nI th)), (4, .int (nI at_))]) dX4_makes_176 (pc' := 179) rfl rfl (nI_add _ _) (by decide) rfl ?_
              refine j_goto C dX4_makes_179 (pc' := 141) (by decide) ?_
              refine jt_h (h' := hM G mo ad h0 s (va_up (mk10 s a by_ its th at_ 0 (s 23)) 20 (mkM a (s 10) (k + 1)))) (by rw [up2_in, mkM_s]) ?_
              exact jW.locals [1, 2, 3, 4, 5, 0] rfl (ih_141 (k + 1) (by omega) (by omega) (by omega))
      refine jt_h (h' := hM G mo ad h0 s (va_up (mk10 s a by_ its th at_ 0 (s 23)) 20 (mkM a (s 10) 0))) (by rw [mkM_0, ← mk10_20 s a by_ its th at_ 0 (s 23), up_same]; rfl) ?_
      exact jW.locals [1, 2, 3, 4, 5, 0] rfl (L_141 ((s 23 - 0) + 1) 0 (by omega) (by omega) (fun _ => rfl))
