/-! How many versions there can be: one for each call, and one for each thing and closed set. -/
theorem sumN_s (f : Nat → Nat) (n : Nat) : sumN f (n + 1) = sumN f n + f n := rfl
theorem sumN_mono {f g : Nat → Nat} {n : Nat} (h : ∀ k, k < n → f k ≤ g k) : sumN f n ≤ sumN g n := by
  induction n with
  | zero => exact Nat.le_refl 0
  | succ n ih =>
    have h1 := ih (fun k hk => h k (by omega))
    have h2 := h n (by omega)
    rw [sumN_s, sumN_s]; omega
theorem sumN_lt {f g : Nat → Nat} {n k : Nat} (h : ∀ k, k < n → f k ≤ g k) (hk : k < n) (hs : f k < g k) : sumN f n < sumN g n := by
  induction n with
  | zero => omega
  | succ n ih =>
    have h2 := h n (by omega)
    rw [sumN_s, sumN_s]
    by_cases e : k = n
    · subst e
      have h1 := sumN_mono (f := f) (g := g) (n := k) (fun j hj => h j (by omega))
      omega
    · have h1 := ih (fun j hj => h j (by omega)) (by omega)
      omega
theorem sumN_le {f : Nat → Nat} {n b : Nat} (h : ∀ k, k < n → f k ≤ b) : sumN f n ≤ n * b := by
  induction n with
  | zero => exact Nat.zero_le _
  | succ n ih =>
    have h1 := ih (fun k hk => h k (by omega))
    have h2 := h n (by omega)
    rw [sumN_s, Nat.succ_mul]; omega
theorem cnt_imp {P R : Nat → Bool} {n : Nat} (h : ∀ k, k < n → P k = true → R k = true) : cnt P n ≤ cnt R n := by
  induction n with
  | zero => exact Nat.le_refl 0
  | succ n ih =>
    have h1 := ih (fun k hk => h k (by omega))
    have h2 := h n (by omega)
    rw [cnt_s, cnt_s]
    cases hp : P n with
    | false => exact Nat.le_trans h1 (Nat.le_add_right _ _)
    | true => rw [h2 hp]; omega
theorem cnt_imp_lt {P R : Nat → Bool} {n k : Nat} (h : ∀ k, k < n → P k = true → R k = true) (hk : k < n) (hp : P k = false) (hr : R k = true) : cnt P n < cnt R n := by
  induction n with
  | zero => omega
  | succ n ih =>
    have h2 := h n (by omega)
    rw [cnt_s, cnt_s]
    by_cases e : k = n
    · subst e
      have h1 := cnt_imp (P := P) (R := R) (n := k) (fun j hj => h j (by omega))
      rw [hp, hr]
      show cnt P k + 0 < cnt R k + 1
      omega
    · have h1 := ih (fun j hj => h j (by omega)) (by omega)
      cases hq : P n with
      | false => exact Nat.lt_of_lt_of_le h1 (Nat.le_add_right _ _)
      | true => rw [h2 hq]; omega
/-- a closed set, and a thing whose last version another set made -/
def uPair (s : mS) (a : mA) (t o : Nat) : Bool := decide (a 3 o = 1) && (decide (t < s 6) && !decide (a 14 (a 8 t) = o))
def mUsed (s : mS) (a : mA) : Nat := sumN (fun t => cnt (fun o => uPair s a t o) 20) 40
theorem mUsed_le (s : mS) (a : mA) : mUsed s a ≤ 800 := sumN_le (n := 40) (b := 20) (fun _ _ => cnt_le _ _)
theorem uPair_iff {s : mS} {a : mA} {t o : Nat} : uPair s a t o = true ↔ a 3 o = 1 ∧ t < s 6 ∧ ¬ a 14 (a 8 t) = o := by
  unfold uPair
  rw [Bool.and_eq_true, Bool.and_eq_true, decide_eq_true_iff, decide_eq_true_iff, Bool.not_eq_true', decide_eq_false_iff_not]
theorem mUsed_mono {s s' : mS} {a a' : mA} (h : ∀ t o, a 3 o = 1 → t < s 6 → ¬ a 14 (a 8 t) = o → a' 3 o = 1 ∧ t < s' 6 ∧ ¬ a' 14 (a' 8 t) = o) : mUsed s a ≤ mUsed s' a' :=
  sumN_mono (fun t _ => cnt_imp (fun o _ hp => by
    obtain ⟨h1, h2, h3⟩ := uPair_iff.mp hp
    exact uPair_iff.mpr (h t o h1 h2 h3)))
theorem mUsed_lt {s s' : mS} {a a' : mA} {t o : Nat} (h : ∀ t o, a 3 o = 1 → t < s 6 → ¬ a 14 (a 8 t) = o → a' 3 o = 1 ∧ t < s' 6 ∧ ¬ a' 14 (a' 8 t) = o) (ht : t < 40) (ho : o < 20) (h0 : a 14 (a 8 t) = o) (h1 : a' 3 o = 1 ∧ t < s' 6 ∧ ¬ a' 14 (a' 8 t) = o) : mUsed s a < mUsed s' a' := by
  have key : ∀ u p, p < 20 → uPair s a u p = true → uPair s' a' u p = true := fun u p _ hp => by
    obtain ⟨g1, g2, g3⟩ := uPair_iff.mp hp
    exact uPair_iff.mpr (h u p g1 g2 g3)
  refine sumN_lt (fun u _ => cnt_imp (key u)) ht (cnt_imp_lt (k := o) (key t) ho ?_ (uPair_iff.mpr h1))
  cases e : uPair s a t o with
  | false => rfl
  | true => exact absurd h0 (uPair_iff.mp e).2.2
/-- after n calls -/
def WB (n : Nat) (s : mS) (a : mA) : Prop := s 10 ≤ n + mUsed s a
theorem WB.le {n : Nat} {s : mS} {a : mA} (B : WB n s a) : s 10 ≤ n + 800 := Nat.le_trans B (Nat.add_le_add_left (mUsed_le s a) n)
theorem WB.more {n m : Nat} {s : mS} {a : mA} (B : WB n s a) (h : n ≤ m) : WB m s a := by unfold WB at B ⊢; omega
theorem WB.keep {n : Nat} {s s' : mS} {a a' : mA} (B : WB n s a) (e10 : s' 10 = s 10) (e6 : s' 6 = s 6) (e8 : a' 8 = a 8) (e14 : a' 14 = a 14) (h3 : ∀ o, a 3 o = 1 → a' 3 o = 1) : WB n s' a' := by
  have := mUsed_mono (s := s) (s' := s') (a := a) (a' := a') (fun t o h1 h2 h4 => ⟨h3 o h1, by omega, by rw [e8, e14]; exact h4⟩)
  unfold WB at B ⊢
  omega
theorem WB.make {n i b : Nat} {s s' : mS} {a a' : mA} (B : WB n s a) (W8 : ∀ t, t < s 6 → a 8 t < s 10) (e10 : s' 10 = s 10 + 1) (e6 : s 6 ≤ s' 6) (e3 : a' 3 = a 3) (e8 : a' 8 = va_up (a 8) i (s 10)) (e14 : a' 14 = va_up (a 14) (s 10) b) (hb : a 3 b = 0) : WB (n + 1) s' a' := by
  have := mUsed_mono (s := s) (s' := s') (a := a) (a' := a') (fun t o h1 h2 h4 => ⟨by rw [e3]; exact h1, by omega, by
    rw [e8, e14]
    by_cases e : t = i
    · rw [e, up_s, up_s]; exact fun z => by rw [← z, hb] at h1; omega
    · have := W8 t h2
      rw [up_n e, up_n (by omega)]; exact h4⟩)
  unfold WB at B ⊢
  omega
theorem WB.undo {n i b o : Nat} {s s' : mS} {a a' : mA} (B : WB n s a) (W8 : ∀ t, t < s 6 → a 8 t < s 10) (e10 : s' 10 = s 10 + 1) (e6 : s 6 = s' 6) (e3 : a' 3 = a 3) (e8 : a' 8 = va_up (a 8) i (s 10)) (e14 : a' 14 = va_up (a 14) (s 10) b) (hb : a 3 b = 0) (hi : i < s 6) (hi4 : i < 40) (ho : a 3 o = 1) (ho2 : o < 20) (hl : a 14 (a 8 i) = o) : WB n s' a' := by
  have := mUsed_lt (s := s) (s' := s') (a := a) (a' := a') (t := i) (o := o) (fun t o h1 h2 h4 => ⟨by rw [e3]; exact h1, by omega, by
    rw [e8, e14]
    by_cases e : t = i
    · rw [e, up_s, up_s]; exact fun z => by rw [← z, hb] at h1; omega
    · have := W8 t h2
      rw [up_n e, up_n (by omega)]; exact h4⟩) hi4 ho2 hl ⟨by rw [e3]; exact ho, by omega, by rw [e8, e14, up_s, up_s]; exact fun z => by rw [← z, hb] at ho; omega⟩
  unfold WB at B ⊢
  omega
