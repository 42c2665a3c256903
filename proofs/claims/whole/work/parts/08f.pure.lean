/-! Masks against counts. -/
def pop (m : Nat) : Nat := cnt (fun i => m.testBit i) 40
theorem if_bit (b : Bool) (n i : Nat) : (if b = true then 2 ^ n else 0 : Nat).testBit i = (b && decide (n = i)) := by
  cases b with
  | true => rw [if_pos rfl, Nat.testBit_two_pow]; rfl
  | false => rw [if_neg (by decide), Nat.zero_testBit]; rfl
theorem sel_bit (P : Nat → Bool) (i : Nat) : ∀ n, (orN (fun t => if P t = true then 2 ^ t else 0) n).testBit i = (decide (i < n) && P i)
  | 0 => by rw [decide_eq_false (Nat.not_lt_zero i)]; exact Nat.zero_testBit i
  | n + 1 => by
    rw [orN_s, Nat.testBit_or, sel_bit P i n, if_bit]
    by_cases e : n = i
    · subst e
      rw [decide_eq_false (Nat.lt_irrefl n), decide_eq_true rfl, decide_eq_true (Nat.lt_succ_self n)]
      cases P n <;> rfl
    · rw [decide_eq_false e]
      by_cases h : i < n
      · rw [decide_eq_true h, decide_eq_true (show i < n + 1 by omega)]; cases P i <;> cases P n <;> rfl
      · rw [decide_eq_false h, decide_eq_false (show ¬ i < n + 1 by omega)]; cases P i <;> cases P n <;> rfl
theorem cnt_lt (P : Nat → Bool) {n m : Nat} (h : n ≤ m) : cnt (fun i => decide (i < n) && P i) m = cnt P n := by
  induction m with
  | zero => rw [show n = 0 by omega]; rfl
  | succ m ih =>
    by_cases e : n = m + 1
    · rw [e]
      exact cnt_congr (fun k hk => by rw [decide_eq_true hk]; rfl)
    · rw [cnt_s, ih (by omega), decide_eq_false (show ¬ m < n by omega)]; rfl
theorem pop_sel (P : Nat → Bool) {n : Nat} (h : n ≤ 40) : pop (orN (fun t => if P t = true then 2 ^ t else 0) n) = cnt P n := by
  unfold pop
  rw [cnt_congr (R := fun i => decide (i < n) && P i) (fun k _ => sel_bit P k n)]
  exact cnt_lt P h
theorem mBits_bit (a : mA) (t o : Nat) : (mBits a t).testBit o = anyN (fun j => decide (a 20 (6 * a 8 t + j) = o)) (a 19 (a 8 t)) := by
  unfold mBits
  rw [orN_bit]
  congr 1
  funext j
  rw [Nat.testBit_two_pow]
theorem orN_congr {F K : Nat → Nat} {n : Nat} (h : ∀ k, k < n → F k = K k) : orN F n = orN K n := by
  induction n with
  | zero => rfl
  | succ n ih => rw [orN_s, orN_s, ih (fun k hk => h k (by omega)), h n (by omega)]
theorem has_bit {a : mA} {t : Nat} (Z : mIs a t = false → a 19 (a 8 t) = 0) (o : Nat) : mHas a t o = (mBits a t).testBit o := by
  rw [mBits_bit]
  unfold mHas
  cases hi : mIs a t with
  | true => rfl
  | false => rw [Z hi]; rfl
theorem use_bit (a : mA) (t o : Nat) : fUse a (2 ^ o) t = if (mBits a t).testBit o = true then 2 ^ t else 0 := by
  unfold fUse
  cases h : (mBits a t).testBit o with
  | true => rw [if_neg (fun z => by rw [(tb_and _ _).mp z] at h; exact Bool.noConfusion h), if_pos rfl]
  | false => rw [if_pos ((tb_and _ _).mpr h), if_neg (by decide)]
theorem use_users {a : mA} {n : Nat} (Z : ∀ t, t < n → mIs a t = false → a 19 (a 8 t) = 0) (hn : n ≤ 40) (o : Nat) : pop (orN (fUse a (2 ^ o)) n) = mUsers a n o := by
  rw [orN_congr (K := fun t => if (mBits a t).testBit o = true then 2 ^ t else 0) (fun t _ => use_bit a t o), pop_sel (fun t => (mBits a t).testBit o) hn]
  exact cnt_congr (fun t ht => (has_bit (Z t ht) o).symm)
theorem use_sel (a : mA) (u n i : Nat) : (orN (fUse a u) n).testBit i = (decide (i < n) && !decide (mBits a i &&& u = 0)) := by
  rw [orN_congr (K := fun t => if (!decide (mBits a t &&& u = 0)) = true then 2 ^ t else 0) (fun t _ => ?_)]
  · exact sel_bit (fun t => !decide (mBits a t &&& u = 0)) i n
  · unfold fUse
    by_cases e : mBits a t &&& u = 0
    · rw [if_pos e, decide_eq_true e]; rfl
    · rw [if_neg e, decide_eq_false e]; rfl
theorem kind_sel (a : mA) (d n i : Nat) : (orN (fKind a d) n).testBit i = (decide (i < n) && decide (a 7 i = d)) := by
  rw [orN_congr (K := fun t => if decide (a 7 t = d) = true then 2 ^ t else 0) (fun t _ => ?_)]
  · exact sel_bit (fun t => decide (a 7 t = d)) i n
  · unfold fKind
    by_cases e : a 7 t = d
    · rw [if_pos e, decide_eq_true e, if_pos rfl]
    · rw [if_neg e, decide_eq_false e, if_neg (by decide)]
