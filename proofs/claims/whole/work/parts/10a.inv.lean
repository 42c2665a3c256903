/-! What holds of the store between calls, and that a made version keeps it. -/
/-- of each version -/
def WV (s : mS) (a : mA) : Prop := ∀ v, v < s 10 → a 13 v ≤ v ∧ a 14 v < s 2 ∧ a 15 v ≤ s 0 ∧ (a 16 v = 0 → a 18 v = 0 ∧ a 19 v = 0) ∧ (a 7 (a 11 v) = 0 → a 19 v = 0) ∧ ∀ j, j < a 19 v → a 20 (6 * v + j) < s 6 ∧ (a 7 (a 11 v) = 1 → a 7 (a 20 (6 * v + j)) = 0)
/-- of the store as a whole -/
def WT (s : mS) (a : mA) : Prop := s 1 ≤ s 0 ∧ s 0 ≤ 5000 ∧ (∀ t, s 6 ≤ t → a 9 t = 0) ∧ ∀ j, j < s 4 → a 5 j < s 6
def WI (s : mS) (a : mA) : Prop := IS s ∧ IA a ∧ mCh s a ∧ mN s a ∧ WV s a ∧ WT s a
section INV
variable {s s' s1 : mS} {a a' a1 : mA}
theorem WI.J (W : WI s a) : IS s := W.1
theorem WI.I (W : WI s a) : IA a := W.2.1
theorem WI.K (W : WI s a) : mCh s a := W.2.2.1
theorem WI.N (W : WI s a) : mN s a := W.2.2.2.1
theorem WI.V (W : WI s a) : WV s a := W.2.2.2.2.1
theorem WI.T (W : WI s a) : WT s a := W.2.2.2.2.2
theorem WI.A (W : WI s a) : ∀ v, v < s 10 → a 13 v ≤ v := fun v hv => (W.V v hv).1
theorem WI.Z0 (W : WI s a) (h : 0 < s 6) : a 13 0 = 0 := by
  have h8 := (W.K.2 0 h).1
  have := (W.V 0 (by omega)).1
  omega
theorem WI.M (W : WI s a) : M9 s a := by
  intro t
  by_cases ht : t < s 6
  · refine ⟨?_, Or.inr (W.K.2 t ht).1⟩
    rw [(W.N.2.1 t ht).2]
    exact cnt_le _ _
  · have := W.T.2.2.1 t (by omega)
    exact ⟨by omega, Or.inl this⟩
/-- no version is made: the things and the versions stay -/
theorem WI.keep (W : WI s a) (J' : IS s') (I' : IA a') (e6 : s' 6 = s 6) (e10 : s' 10 = s 10) (e2 : s 2 ≤ s' 2) (e0 : s 0 ≤ s' 0) (e1 : s' 1 ≤ s' 0) (e5 : s' 0 ≤ 5000) (h5 : ∀ j, j < s' 4 → a' 5 j < s 6) (ha : ∀ f, f = 7 ∨ f = 8 ∨ f = 9 ∨ f = 11 ∨ f = 12 ∨ f = 13 ∨ f = 14 ∨ f = 15 ∨ f = 16 ∨ f = 18 ∨ f = 19 ∨ f = 20 → a' f = a f) : WI s' a' := by
  have e7 := ha 7 (by decide)
  have e8 := ha 8 (by decide)
  have e9 := ha 9 (by decide)
  have e11 := ha 11 (by decide)
  have e12 := ha 12 (by decide)
  have e13 := ha 13 (by decide)
  have e14 := ha 14 (by decide)
  have e15 := ha 15 (by decide)
  have e16 := ha 16 (by decide)
  have e18 := ha 18 (by decide)
  have e19 := ha 19 (by decide)
  have e20 := ha 20 (by decide)
  refine ⟨J', I', ?_, ?_, ?_, e1, e5, ?_, ?_⟩
  · unfold mCh; rw [e6, e10, e8, e9, e12, e13]; exact W.K
  · unfold mN; rw [e6, e10, e8, e9, e11, e12, e13, e15]; exact W.N
  · intro v hv
    rw [e10] at hv
    rw [e6, e7, e11, e13, e14, e15, e16, e18, e19, e20]
    obtain ⟨v1, v2, v3, v4, v5, v6⟩ := W.V v hv
    exact ⟨v1, by omega, by omega, v4, v5, v6⟩
  · rw [e6, e9]; exact W.T.2.2.1
  · rw [e6]; exact h5
theorem cnt_ue {f : Nat → Nat} {n x v t : Nat} (h : n ≤ x) : cnt (fun k => decide (va_up f x v k = t)) n = cnt (fun k => decide (f k = t)) n := cnt_congr (fun k hk => by rw [up_n (show k ≠ x by omega)])
/-- a version is made: of a thing that is there, or of the next one -/
theorem WI.make (W : WI s a) {b i th at_ : Nat} (e10 : s1 10 = s 10) (e0 : s1 0 = s 0) (e23 : s1 23 ≤ 6) (f10 : s' 10 = s 10 + 1) (f0 : s' 0 = s 0) (f1 : s' 1 = s 1) (f2 : s' 2 = s 2) (f4 : s' 4 = s 4) (f6 : (s' 6 = s 6 ∧ i < s 6) ∨ (s' 6 = s 6 + 1 ∧ i = s 6)) (J1 : IS s1) (J' : IS s') (I1 : IA a1)
    (ha : ∀ f, f ≠ 24 → f ≠ 21 → f ≠ 7 → a1 f = a f) (h7 : ∀ t, t < s 6 → a1 7 t = a 7 t) (hb : b < s 2) (hth : th ≤ 1) (hat : at_ < 1048576) (h0 : th = 0 → at_ = 0) (hi : i < 40)
    (hm : th ≠ 0 → ∀ j, j < s1 23 → a1 24 j < s 6 ∧ (a1 7 i = 1 → a1 7 (a1 24 j) = 0)) (hk : th ≠ 0 → a1 7 i = 0 → s1 23 = 0) : WI s' (mkA s1 a1 b i th at_) := by
  have hi6 : i ≤ s 6 := by rcases f6 with h | h <;> omega
  have h66 : s 6 ≤ s' 6 := by rcases f6 with h | h <;> omega
  have hi6' : i < s' 6 := by rcases f6 with h | h <;> omega
  have hnew : ∀ t, t < s' 6 → t ≠ i → t < s 6 := by intro t ht hne; rcases f6 with h | h <;> omega
  have M1 : M9 s1 a1 := by
    intro t
    rw [e10, ha 9 (by decide) (by decide) (by decide), ha 8 (by decide) (by decide) (by decide)]
    exact W.M t
  have h2 := W.J.2.2.1
  have h9i : a 9 i = cnt (fun k => decide (a 11 k = i)) (s 10) := by
    rcases f6 with ⟨-, h⟩ | ⟨-, h⟩
    · exact (W.N.2.1 i h).2
    · rw [W.T.2.2.1 i (by omega)]
      exact (cnt_f (fun k hk => decide_eq_false (by have := (W.N.1 k hk).1; omega))).symm
  have h98 : a 9 i ≠ 0 → i < s 6 := by
    intro h
    rcases f6 with ⟨-, h'⟩ | ⟨-, h'⟩
    · exact h'
    · exact absurd (W.T.2.2.1 i (by omega)) h
  have g8 : mkA s1 a1 b i th at_ 8 = va_up (a 8) i (s 10) := by rw [mkA_r8, e10, ha 8 (by decide) (by decide) (by decide)]
  have g9 : mkA s1 a1 b i th at_ 9 = va_up (a 9) i (a 9 i + 1) := by rw [mkA_r9, ha 9 (by decide) (by decide) (by decide)]
  have g11 : mkA s1 a1 b i th at_ 11 = va_up (a 11) (s 10) i := by rw [mkA_11, e10, ha 11 (by decide) (by decide) (by decide)]
  have g12 : mkA s1 a1 b i th at_ 12 = va_up (a 12) (s 10) (a 9 i + 1) := by rw [mkA_12, e10, ha 9 (by decide) (by decide) (by decide), ha 12 (by decide) (by decide) (by decide)]
  have g13 : mkA s1 a1 b i th at_ 13 = va_up (a 13) (s 10) (if a 9 i = 0 then 0 else a 8 i + 1) := by rw [mkA_13, e10, ha 9 (by decide) (by decide) (by decide), ha 8 (by decide) (by decide) (by decide), ha 13 (by decide) (by decide) (by decide)]
  have g14 : mkA s1 a1 b i th at_ 14 = va_up (a 14) (s 10) b := by rw [mkA_14, e10, ha 14 (by decide) (by decide) (by decide)]
  have g15 : mkA s1 a1 b i th at_ 15 = va_up (a 15) (s 10) (s 0) := by rw [mkA_15, e10, e0, ha 15 (by decide) (by decide) (by decide)]
  have g16 : mkA s1 a1 b i th at_ 16 = va_up (a 16) (s 10) th := by rw [mkA_16, e10, ha 16 (by decide) (by decide) (by decide)]
  have g18 : mkA s1 a1 b i th at_ 18 = va_up (a 18) (s 10) at_ := by rw [mkA_18, e10, ha 18 (by decide) (by decide) (by decide)]
  have g19 : mkA s1 a1 b i th at_ 19 = va_up (a 19) (s 10) (if th = 0 then 0 else s1 23) := by rw [mkA_19, e10, ha 19 (by decide) (by decide) (by decide)]
  have g5 : mkA s1 a1 b i th at_ 5 = a 5 := by rw [mkA_5, ha 5 (by decide) (by decide) (by decide)]
  refine ⟨J', IA.mkA J1 I1 M1 (by omega) hi hth hat, ?_, ?_, ?_, ?_⟩
  · refine ⟨fun p hp => ?_, fun t ht => ?_⟩
    · rw [g12, g13]
      rw [f10] at hp
      by_cases e : p = s 10
      · subst e
        rw [up_s, up_s]
        by_cases z : a 9 i = 0
        · rw [if_pos z, z]; exact Or.inl ⟨rfl, rfl⟩
        · rw [if_neg z]
          have hi' := h98 z
          have := (W.K.2 i hi')
          refine Or.inr ⟨by omega, ?_⟩
          rw [Nat.add_sub_cancel, up_n (by omega), this.2]
      · rw [up_n e, up_n e]
        rcases W.K.1 p (by omega) with h | ⟨h1, h3⟩
        · exact Or.inl h
        · refine Or.inr ⟨h1, ?_⟩
          rw [up_n (by have := W.A p (by omega); omega)]
          exact h3
    · rw [f10, g8, g9, g12]
      by_cases e : t = i
      · subst e
        rw [up_s, up_s, up_s]
        exact ⟨by omega, rfl⟩
      · have ht' := hnew t ht e
        have := W.K.2 t ht'
        rw [up_n e, up_n e, up_n (by omega)]
        exact ⟨by omega, this.2⟩
  · refine ⟨fun p hp => ?_, fun t ht => ?_, fun p q hpq hq => ?_⟩
    · rw [g11, g12, g13]
      rw [f10] at hp
      by_cases e : p = s 10
      · subst e
        rw [up_s, up_s, up_s]
        refine ⟨hi6', ?_, ?_⟩
        · rw [cnt_s, up_s, decide_eq_true rfl, h9i, cnt_ue (Nat.le_refl _)]
          rfl
        · intro hx
          have z : a 9 i ≠ 0 := fun z => by rw [if_pos z] at hx; omega
          rw [if_neg z, Nat.add_sub_cancel]
          have hi' := h98 z
          have := (W.K.2 i hi').1
          rw [up_n (by omega)]
          exact (W.N.2.1 i hi').1
      · have hp' : p < s 10 := by omega
        rw [up_n e, up_n e, up_n e]
        obtain ⟨n1, n2, n3⟩ := W.N.1 p hp'
        refine ⟨by omega, ?_, ?_⟩
        · rw [n2]
          exact (cnt_ue (by omega)).symm
        · intro hx
          rw [up_n (by have := W.A p hp'; omega)]
          exact n3 hx
    · rw [g8, g9, g11, f10, cnt_s]
      by_cases e : t = i
      · subst e
        rw [up_s, up_s, up_s, decide_eq_true rfl, h9i, cnt_ue (Nat.le_refl _)]
        exact ⟨rfl, rfl⟩
      · have ht' := hnew t ht e
        have h8 := (W.K.2 t ht').1
        rw [up_n e, up_n e, up_n (by omega), up_s, decide_eq_false (fun z => e z.symm), cnt_ue (Nat.le_refl _)]
        exact W.N.2.1 t ht'
    · rw [g15]
      rw [f10] at hq
      by_cases eq : q = s 10
      · subst eq
        rw [up_s]
        by_cases ep : p = s 10
        · rw [ep, up_s]; exact Nat.le_refl _
        · rw [up_n ep]; exact (W.V p (by omega)).2.2.1
      · rw [up_n eq, up_n (by omega)]
        exact W.N.2.2 p q hpq (by omega)
  · intro v hv
    rw [f10] at hv
    rw [mkA_7, mkA_20, g11, g13, g14, g15, g16, g18, g19]
    by_cases e : v = s 10
    · subst e
      rw [up_s, up_s, up_s, up_s, up_s, up_s, up_s]
      refine ⟨?_, by omega, by omega, ?_, ?_, ?_⟩
      · by_cases z : a 9 i = 0
        · rw [if_pos z]; exact Nat.zero_le _
        · rw [if_neg z]; exact (W.K.2 i (h98 z)).1
      · intro z; exact ⟨h0 z, if_pos z⟩
      · intro z
        by_cases zt : th = 0
        · exact if_pos zt
        · rw [if_neg zt]; exact hk zt z
      · intro j hj
        have zt : th ≠ 0 := fun z => by rw [if_pos z] at hj; omega
        rw [if_neg zt] at hj
        have hmj := hm zt j hj
        have e2 : mkM a1 (s1 10) (if th = 0 then 0 else s1 23) (6 * s 10 + j) = a1 24 j := by
          unfold mkM
          rw [if_neg zt, e10, if_pos ⟨by omega, by omega⟩, show 6 * s 10 + j - 6 * s 10 = j by omega]
        rw [e2]
        exact ⟨by omega, hmj.2⟩
    · have hv' : v < s 10 := by omega
      rw [up_n e, up_n e, up_n e, up_n e, up_n e, up_n e, up_n e]
      obtain ⟨v1, v2, v3, v4, v5, v6⟩ := W.V v hv'
      have ho := (W.N.1 v hv').1
      rw [h7 _ ho]
      refine ⟨v1, by omega, by omega, v4, v5, ?_⟩
      intro j hj
      have hs := W.I.size v
      have e2 : mkM a1 (s1 10) (if th = 0 then 0 else s1 23) (6 * v + j) = a 20 (6 * v + j) := by
        unfold mkM
        rw [if_neg (by rw [e10]; omega), ha 20 (by decide) (by decide) (by decide)]
      rw [e2]
      have h6 := v6 j hj
      exact ⟨by omega, fun z => by rw [h7 _ h6.1]; exact h6.2 z⟩
  · refine ⟨by rw [f1, f0]; exact W.T.1, by rw [f0]; exact W.T.2.1, fun t ht => ?_, fun j hj => ?_⟩
    · rw [g9, up_n (by omega)]
      exact W.T.2.2.1 t (by omega)
    · rw [g5]
      have := W.T.2.2.2 j (by rw [f4] at hj; exact hj)
      omega
end INV
