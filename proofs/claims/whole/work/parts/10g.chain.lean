/-! The chain of a thing's versions is all of them; what an undoing goes back to. -/
section CHAIN
variable {s : mS} {a : mA}
theorem gap (W : WI s a) {p k : Nat} (hp : p < s 10) (h1 : a 13 p ≤ k) (h2 : k < p) : ¬ a 11 k = a 11 p := by
  intro hk
  have n1 := (W.N.1 p hp).2.1
  have e1 : cnt (fun j => decide (a 11 j = a 11 p)) (p + 1) = cnt (fun j => decide (a 11 j = a 11 p)) p + 1 := by
    rw [cnt_s, decide_eq_true rfl]; rfl
  have e2 : cnt (fun j => decide (a 11 j = a 11 p)) (k + 1) = cnt (fun j => decide (a 11 j = a 11 p)) k + 1 := by
    rw [cnt_s, decide_eq_true hk]; rfl
  have e3 : cnt (fun j => decide (a 11 j = a 11 p)) (k + 1) ≤ cnt (fun j => decide (a 11 j = a 11 p)) p := cnt_mono _ (by omega)
  have e4 : cnt (fun j => decide (a 11 j = a 11 p)) (a 13 p) ≤ cnt (fun j => decide (a 11 j = a 11 p)) k := cnt_mono _ h1
  rcases W.K.1 p hp with ⟨z1, z2⟩ | ⟨z1, z2⟩
  · omega
  · have hq : a 13 p - 1 < s 10 := by omega
    have n2 := (W.N.1 (a 13 p - 1) hq).2.1
    rw [(W.N.1 p hp).2.2 z1, show a 13 p - 1 + 1 = a 13 p by omega] at n2
    omega
theorem any_skip {P : Nat → Bool} {n m : Nat} (h : n ≤ m) (hz : ∀ k, n ≤ k → k < m → P k = false) : anyN P m = anyN P n := by
  induction m with
  | zero => rw [show n = 0 by omega]
  | succ m ih =>
    by_cases e : n = m + 1
    · rw [e]
    · rw [anyN_s, hz m (by omega) (by omega), Bool.or_false]
      exact ih (by omega) (fun k h1 h2 => hz k h1 (by omega))
theorem ch_any (W : WI s a) {t o : Nat} : ∀ f p, p + 1 ≤ f → p < s 10 → a 11 p = t → chF a o f (p + 1) = anyN (fun k => decide (a 11 k = t) && decide (a 14 k = o)) (p + 1)
  | 0, p, hf, _, _ => absurd hf (by omega)
  | f + 1, p, hf, hp, ht => by
    have e : chF a o (f + 1) (p + 1) = if a 14 p = o then true else chF a o f (a 13 p) := rfl
    rw [e, anyN_s, decide_eq_true ht, Bool.true_and]
    by_cases c : a 14 p = o
    · rw [if_pos c, decide_eq_true c, Bool.or_true]
    · rw [if_neg c, decide_eq_false c, Bool.or_false]
      have h13 := W.A p hp
      rw [any_skip h13 (fun k h1 h2 => by rw [decide_eq_false (fun z => gap W hp h1 h2 (z.trans ht.symm))]; rfl)]
      by_cases z : a 13 p = 0
      · rw [z]
        cases f <;> rfl
      · obtain ⟨q, hq⟩ : ∃ q, a 13 p = q + 1 := ⟨a 13 p - 1, by omega⟩
        have h11 := (W.N.1 p hp).2.2 (by omega)
        rw [hq, Nat.add_sub_cancel] at h11
        rw [hq]
        exact ch_any W f q (by omega) (by omega) (h11.trans ht)
theorem has_of (W : WI s a) {t o : Nat} (ht : t < s 6) : mChH a t o = mHasOf s a t o := by
  have h8 := (W.K.2 t ht).1
  have h10 := W.J.2.2.2.2.1
  have ho := (W.N.2.1 t ht).1
  unfold mChH mHasOf
  rw [ch_any W 1400 (a 8 t) (by omega) h8 ho]
  refine (any_skip (by omega) (fun k h1 h2 => ?_)).symm
  have : ¬ a 11 k = t := by
    intro hk
    have n1 := (W.N.1 (a 8 t) h8).2.1
    have n2 := (W.N.2.1 t ht).2
    have n3 := (W.K.2 t ht).2
    rw [ho] at n1
    have e2 : cnt (fun j => decide (a 11 j = t)) (k + 1) = cnt (fun j => decide (a 11 j = t)) k + 1 := by
      rw [cnt_s, decide_eq_true hk]; rfl
    have e3 : cnt (fun j => decide (a 11 j = t)) (k + 1) ≤ cnt (fun j => decide (a 11 j = t)) (s 10) := cnt_mono _ (by omega)
    have e4 : cnt (fun j => decide (a 11 j = t)) (a 8 t + 1) ≤ cnt (fun j => decide (a 11 j = t)) k := cnt_mono _ h1
    omega
  rw [decide_eq_false this]; rfl
theorem ca_bu (o : Nat) : ∀ f p, caF a o f p = buF a o f p
  | 0, _ => rfl
  | _ + 1, 0 => rfl
  | f + 1, p + 1 => by
    show (if a 14 p = o then caF a o f (a 13 p) else p + 1) = if a 14 p = o then buF a o f (a 13 p) else p + 1
    rw [ca_bu o f]
theorem bu_fuel (A : ∀ v, v < s 10 → a 13 v ≤ v) (o : Nat) : ∀ f f' p, p ≤ f → p ≤ f' → p ≤ s 10 → buF a o f p = buF a o f' p
  | 0, f', p, h, _, _ => by
    rw [show p = 0 by omega]
    cases f' <;> rfl
  | f + 1, 0, p, _, h, _ => by
    rw [show p = 0 by omega]; rfl
  | f + 1, f' + 1, 0, _, _, _ => rfl
  | f + 1, f' + 1, p + 1, h1, h2, h3 => by
    show (if a 14 p = o then buF a o f (a 13 p) else p + 1) = if a 14 p = o then buF a o f' (a 13 p) else p + 1
    have := A p (by omega)
    rw [bu_fuel A o f f' (a 13 p) (by omega) (by omega) (by omega)]
theorem bu_ca (W : WI s a) {t o : Nat} (ht : t < s 6) (hl : a 14 (a 8 t) = o) : mBU a t o = caF a o 1400 (a 13 (a 8 t)) := by
  have h8 := (W.K.2 t ht).1
  have h10 := W.J.2.2.2.2.1
  have h13 := W.A _ h8
  unfold mBU
  have e : buF a o 1400 (a 8 t + 1) = if a 14 (a 8 t) = o then buF a o 1399 (a 13 (a 8 t)) else a 8 t + 1 := rfl
  rw [e, if_pos hl, ca_bu]
  exact bu_fuel W.A o _ _ _ (by omega) (by omega) (by omega)
end CHAIN
