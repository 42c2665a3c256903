/-! What the copy takes: the numbers of versions against counts over all of them. -/
def mN (s : mS) (a : mA) : Prop := (∀ p, p < s 10 → a 11 p < s 6 ∧ a 12 p = cnt (fun k => decide (a 11 k = a 11 p)) (p + 1) ∧ (1 ≤ a 13 p → a 11 (a 13 p - 1) = a 11 p)) ∧ (∀ t, t < s 6 → a 11 (a 8 t) = t ∧ a 9 t = cnt (fun k => decide (a 11 k = t)) (s 10)) ∧ ∀ p q, p ≤ q → q < s 10 → a 15 p ≤ a 15 q
theorem cnt_mono (P : Nat → Bool) {m n : Nat} (h : m ≤ n) : cnt P m ≤ cnt P n := by
  induction n with
  | zero => rw [show m = 0 by omega]; exact Nat.le_refl _
  | succ n ih =>
    by_cases e : m = n + 1
    · rw [e]; exact Nat.le_refl _
    · have := ih (by omega)
      rw [cnt_s]; omega
theorem cnt_flat (P R : Nat → Bool) {m n : Nat} (h : m ≤ n) (he : cnt P m = cnt P n) : cnt (fun k => P k && R k) m = cnt (fun k => P k && R k) n := by
  induction n with
  | zero => rw [show m = 0 by omega]
  | succ n ih =>
    by_cases e : m = n + 1
    · rw [e]
    · have h1 := cnt_mono P (show m ≤ n by omega)
      have h2 := cnt_s P n
      rw [cnt_s, ih (by omega) (by omega)]
      have h3 : (P n).toNat = 0 := by omega
      have h4 : P n = false := by
        cases hp : P n with
        | true => rw [hp] at h3; exact absurd h3 (by decide)
        | false => rfl
      rw [show (P n && R n) = false by rw [h4]; rfl]; rfl
theorem cnt_congr {P R : Nat → Bool} {n : Nat} (h : ∀ k, k < n → P k = R k) : cnt P n = cnt R n := by
  induction n with
  | zero => rfl
  | succ n ih => rw [cnt_s, cnt_s, ih (fun k hk => h k (by omega)), h n (by omega)]
theorem cnt_f {P : Nat → Bool} {n : Nat} (h : ∀ k, k < n → P k = false) : cnt P n = 0 := by
  induction n with
  | zero => rfl
  | succ n ih => rw [cnt_s, ih (fun k hk => h k (by omega)), h n (by omega)]; rfl
theorem cnt_add {P R S : Nat → Bool} {n : Nat} (h : ∀ k, k < n → (P k).toNat = (R k).toNat + (S k).toNat) : cnt P n = cnt R n + cnt S n := by
  induction n with
  | zero => rfl
  | succ n ih => rw [cnt_s, cnt_s, cnt_s, ih (fun k hk => h k (by omega)), h n (by omega)]; omega
theorem bk_cnt {s : mS} {a : mA} (A : ∀ v, v < s 10 → a 13 v ≤ v) (K : mCh s a) (N : mN s a) {t w : Nat} : ∀ f p, p + 1 ≤ f → p < s 10 → a 11 p = t → bkF a w f (p + 1) = cnt (fun k => decide (a 11 k = t) && decide (a 15 k < w)) (p + 1)
  | 0, p, h, _, _ => absurd h (Nat.not_succ_le_zero p)
  | f + 1, p, h, hp, ht => by
    have e1 : bkF a w (f + 1) (p + 1) = if w ≤ a 15 p then bkF a w f (a 13 p) else a 12 p := rfl
    obtain ⟨n1, n2, n3⟩ := N.1 p hp
    rw [e1]
    by_cases hc : w ≤ a 15 p
    · rw [if_pos hc, cnt_s, show (decide (a 11 p = t) && decide (a 15 p < w)) = false by rw [decide_eq_false (show ¬ a 15 p < w by omega), Bool.and_false]]
      show _ = _ + 0
      have hz := A p hp
      have hs := cnt_s (fun k => decide (a 11 k = a 11 p)) p
      have h1 : (decide (a 11 p = a 11 p)).toNat = 1 := by rw [decide_eq_true rfl]; rfl
      rcases K.1 p hp with ⟨k1, k2⟩ | ⟨k1, k2⟩
      · have h0 : cnt (fun k => decide (a 11 k = a 11 p)) 0 = cnt (fun k => decide (a 11 k = a 11 p)) p := by
          show 0 = _
          omega
        have h2 := cnt_flat (fun k => decide (a 11 k = a 11 p)) (fun k => decide (a 15 k < w)) (Nat.zero_le p) h0
        rw [k1, Nat.add_zero, ← ht, ← h2]
        cases f <;> rfl
      · obtain ⟨m, hm⟩ : ∃ m, a 13 p = m + 1 := ⟨a 13 p - 1, by omega⟩
        have n4 := n3 k1
        rw [hm] at k2 hz n4 ⊢
        rw [Nat.add_sub_cancel] at k2 n4
        obtain ⟨-, m2, -⟩ := N.1 m (by omega)
        rw [n4] at m2
        rw [bk_cnt A K N f m (by omega) (by omega) (n4.trans ht), Nat.add_zero, ← ht]
        exact cnt_flat _ _ (by omega) (by omega)
    · rw [if_neg hc, n2, ht]
      refine cnt_congr (fun k hk => ?_)
      have := N.2.2 k p (by omega) hp
      rw [decide_eq_true (show a 15 k < w by omega), Bool.and_true]
theorem bef_cnt {s : mS} {a : mA} (J : IS s) (A : ∀ v, v < s 10 → a 13 v ≤ v) (K : mCh s a) (N : mN s a) {t w : Nat} (ht : t < s 6) : mBef a t w = cnt (fun k => decide (a 11 k = t) && decide (a 15 k < w)) (s 10) := by
  have h10 := J.2.2.2.2.1
  obtain ⟨l1, l2⟩ := K.2 t ht
  obtain ⟨n1, n2⟩ := N.2.1 t ht
  obtain ⟨-, p2, -⟩ := N.1 (a 8 t) l1
  rw [n1] at p2
  show bkF a w 1400 (a 8 t + 1) = _
  rw [bk_cnt A K N 1400 (a 8 t) (by omega) l1 n1]
  exact cnt_flat _ _ (by omega) (by omega)
theorem sum_cnt (o : Nat → Nat) (R : Nat → Bool) (n : Nat) : ∀ m, sumN (fun t => cnt (fun k => decide (o k = t) && R k) n) m = cnt (fun k => decide (o k < m) && R k) n
  | 0 => (cnt_f (fun k _ => by rw [decide_eq_false (Nat.not_lt_zero _)]; rfl)).symm
  | m + 1 => by
    show sumN _ m + cnt _ n = _
    rw [sum_cnt o R n m]
    refine (cnt_add (fun k _ => ?_)).symm
    by_cases h1 : o k < m
    · rw [decide_eq_true h1, decide_eq_true (show o k < m + 1 by omega), decide_eq_false (show ¬ o k = m by omega)]; cases R k <;> rfl
    · by_cases h2 : o k = m
      · rw [decide_eq_false h1, decide_eq_true (show o k < m + 1 by omega), decide_eq_true h2]; cases R k <;> rfl
      · rw [decide_eq_false h1, decide_eq_false (show ¬ o k < m + 1 by omega), decide_eq_false h2]; cases R k <;> rfl
theorem sumN_congr {f g : Nat → Nat} {n : Nat} (h : ∀ k, k < n → f k = g k) : sumN f n = sumN g n := by
  induction n with
  | zero => rfl
  | succ n ih => show sumN f n + f n = sumN g n + g n; rw [ih (fun k hk => h k (by omega)), h n (by omega)]
theorem bef_split {s : mS} {a : mA} (J : IS s) (A : ∀ v, v < s 10 → a 13 v ≤ v) (K : mCh s a) (N : mN s a) {t c u : Nat} (ht : t < s 6) (hcu : c ≤ u) : mBef a t u = mBef a t c + cnt (fun k => decide (a 11 k = t) && (decide (c ≤ a 15 k) && decide (a 15 k < u))) (s 10) := by
  rw [bef_cnt J A K N ht, bef_cnt J A K N ht]
  refine cnt_add (fun k _ => ?_)
  by_cases h1 : a 15 k < c
  · rw [decide_eq_true h1, decide_eq_true (show a 15 k < u by omega), decide_eq_false (show ¬ c ≤ a 15 k by omega)]; cases decide (a 11 k = t) <;> rfl
  · rw [decide_eq_false h1, decide_eq_true (show c ≤ a 15 k by omega)]; cases decide (a 11 k = t) <;> cases decide (a 15 k < u) <;> rfl
theorem take_sum {s : mS} {a : mA} (J : IS s) (A : ∀ v, v < s 10 → a 13 v ≤ v) (K : mCh s a) (N : mN s a) {c u : Nat} (hcu : c ≤ u) : sumN (fun t => mBef a t u - mBef a t c) (s 6) = cnt (fun k => decide (c ≤ a 15 k) && decide (a 15 k < u)) (s 10) := by
  rw [sumN_congr (g := fun t => cnt (fun k => decide (a 11 k = t) && (decide (c ≤ a 15 k) && decide (a 15 k < u))) (s 10)) (fun t ht => by have := bef_split J A K N ht hcu; show mBef a t u - mBef a t c = _; omega)]
  rw [sum_cnt (a 11) (fun k => decide (c ≤ a 15 k) && decide (a 15 k < u)) (s 10) (s 6)]
  exact cnt_congr (fun k hk => by rw [decide_eq_true (N.1 k hk).1]; rfl)
theorem true_all {s : mS} {a : mA} (J : IS s) (A : ∀ v, v < s 10 → a 13 v ≤ v) (K : mCh s a) (N : mN s a) {t w : Nat} (ht : t < s 6) : decide (a 15 (a 8 t) < w) = decide (mBef a t w = a 9 t) := by
  have h10 := J.2.2.2.2.1
  obtain ⟨l1, l2⟩ := K.2 t ht
  obtain ⟨n1, n2⟩ := N.2.1 t ht
  obtain ⟨-, p2, -⟩ := N.1 (a 8 t) l1
  rw [n1] at p2
  have e1 : mBef a t w = if w ≤ a 15 (a 8 t) then bkF a w 1399 (a 13 (a 8 t)) else a 12 (a 8 t) := rfl
  by_cases hc : w ≤ a 15 (a 8 t)
  · rw [decide_eq_false (show ¬ a 15 (a 8 t) < w by omega)]
    refine (decide_eq_false ?_).symm
    have h3 : mBef a t w = cnt (fun k => decide (a 11 k = t) && decide (a 15 k < w)) (a 8 t + 1) := bk_cnt A K N 1400 (a 8 t) (by omega) l1 n1
    rw [cnt_s, show (decide (a 11 (a 8 t) = t) && decide (a 15 (a 8 t) < w)) = false by rw [decide_eq_false (show ¬ a 15 (a 8 t) < w by omega), Bool.and_false]] at h3
    have h4 := cnt_s (fun k => decide (a 11 k = t)) (a 8 t)
    have h5 : (decide (a 11 (a 8 t) = t)).toNat = 1 := by rw [n1, decide_eq_true rfl]; rfl
    have h6 : cnt (fun k => decide (a 11 k = t)) (a 8 t) = cnt (fun k => decide (a 11 k = t) && decide (a 15 k < w)) (a 8 t) + cnt (fun k => decide (a 11 k = t) && !decide (a 15 k < w)) (a 8 t) := cnt_add (fun k _ => by cases decide (a 11 k = t) <;> cases decide (a 15 k < w) <;> rfl)
    have h7 : (false : Bool).toNat = 0 := rfl
    omega
  · rw [e1, if_neg hc, decide_eq_true (show a 15 (a 8 t) < w by omega)]
    exact (decide_eq_true l2).symm
