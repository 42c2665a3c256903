/-! Masks against counts. -/
def pop (m : Nat) : Nat := cnt (fun i => m.testBit i) 40
theorem if_bit (b : Bool) (n i : Nat) : (if b = true then 2 ^ n else 0 : Nat).testBit i = (b && decide (n = i)) := by
  cases b with
  | true => rw [if_pos rfl, Nat.testBit_two_pow]; rfl
  | false => rw [if_neg (by decide), Nat.zero_testBit]; rfl
theorem sel_bit (P : Nat → Bool) (i : Nat) : ∀ n, (orN (fun t => if P t = true then 2 ^ t else 0) n).testBit i = (decide (i < n) && P i)
  | 0 => by rw [decide_eq_false (Nat.not_lt_zero i)]; exact Nat.zero_testBit i
  | n + 1 => by
    rw [orN_s, Nat.testBit_or, sel_bit P i n, if_bit]
    by_cases e : n = i
    · subst e
      rw [decide_eq_false (Nat.lt_irrefl n), decide_eq_true rfl, decide_eq_true (Nat.lt_succ_self n)]
      cases P n <;> rfl
    · rw [decide_eq_false e]
      by_cases h : i < n
      · rw [decide_eq_true h, decide_eq_true (show i < n + 1 by omega)]; cases P i <;> cases P n <;> rfl
      · rw [decide_eq_false h, decide_eq_false (show ¬ i < n + 1 by omega)]; cases P i <;> cases P n <;> rfl
theorem cnt_lt (P : Nat → Bool) {n m : Nat} (h : n ≤ m) : cnt (fun i => decide (i < n) && P i) m = cnt P n := by
  induction m with
  | zero => rw [show n = 0 by omega]; rfl
  | succ m ih =>
    by_cases e : n = m + 1
    · rw [e]
      exact cnt_congr (fun k hk => by rw [decide_eq_true hk]; rfl)
    · rw [cnt_s, ih (by omega), decide_eq_false (show ¬ m < n by omega)]; rfl
theorem pop_sel (P : Nat → Bool) {n : Nat} (h : n ≤ 40) : pop (orN (fun t => if P t = true then 2 ^ t else 0) n) = cnt P n := by
  unfold pop
  rw [cnt_congr (R := fun i => decide (i < n) && P i) (fun k _ => sel_bit P k n)]
  exact cnt_lt P h
theorem mBits_bit (a : mA) (t o : Nat) : (mBits a t).testBit o = anyN (fun j => decide (a 20 (6 * a 8 t + j) = o)) (a 19 (a 8 t)) := by
  unfold mBits
  rw [orN_bit]
  congr 1
  funext j
  rw [Nat.testBit_two_pow]
