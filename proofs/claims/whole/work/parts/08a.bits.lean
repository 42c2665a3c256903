/-! lN n to 2^64: pasted from the laws of bits; below, masks of things as numbers (own rows). -/
theorem wb_tb (n : Nat) : (lN n).toBitVec = BitVec.ofNat 64 n := rfl
theorem wb_inj {a b : Int64} (h : a.toBitVec = b.toBitVec) : a = b := Int64.toBitVec_inj.mp h
theorem wb_tn {n : Nat} (h : n < 2 ^ 64) : (lN n).toBitVec.toNat = n := by rw [wb_tb, BitVec.toNat_ofNat, Nat.mod_eq_of_lt h]
theorem wb_c : ∀ k, k < 64 → ((nI k).toInt64 &&& 63) = lN k := by decide +kernel
theorem wb_cu : ∀ k, k < 64 → ((nI k).toInt64.toUInt64 &&& Int64.toUInt64 63) = UInt64.ofNat k := by decide +kernel
theorem wb_sm : ∀ k, k < 64 → (BitVec.ofNat 64 k).smod 64 = BitVec.ofNat 64 k := by decide +kernel
theorem wb_shr {n k : Nat} (hn : n < 2 ^ 64) (hk : k < 64) : ((lN n).toUInt64 >>> ((nI k).toInt64.toUInt64 &&& Int64.toUInt64 63)).toInt64 = lN (n / 2 ^ k) := by
  rw [wb_cu k hk]
  apply wb_inj
  apply BitVec.eq_of_toNat_eq
  show ((lN n).toUInt64 >>> UInt64.ofNat k).toNat = (BitVec.ofNat 64 _).toNat
  have h1 : (UInt64.ofNat k).toNat = k := by
    show (BitVec.ofNat 64 k).toNat = k
    rw [BitVec.toNat_ofNat, Nat.mod_eq_of_lt (by omega)]
  have h2 : (lN n).toUInt64.toNat = n := wb_tn hn
  rw [UInt64.toNat_shiftRight, h1, h2, Nat.mod_eq_of_lt hk, Nat.shiftRight_eq_div_pow, BitVec.toNat_ofNat, Nat.mod_eq_of_lt (Nat.lt_of_le_of_lt (Nat.div_le_self _ _) hn)]
theorem wb_shl (n : Nat) {k : Nat} (hk : k < 64) : lN n <<< ((nI k).toInt64 &&& 63) = lN (n * 2 ^ k) := by
  rw [wb_c k hk]
  apply wb_inj
  rw [Int64.toBitVec_shiftLeft, wb_tb, wb_tb, wb_tb, wb_sm k hk]
  apply BitVec.eq_of_toNat_eq
  rw [BitVec.shiftLeft_eq', BitVec.toNat_shiftLeft, BitVec.toNat_ofNat, BitVec.toNat_ofNat, BitVec.toNat_ofNat, Nat.mod_eq_of_lt (show k < 2 ^ 64 by omega), Nat.shiftLeft_eq, Nat.mul_mod, Nat.mod_mod, ← Nat.mul_mod]
theorem wb_and {a b : Nat} (ha : a < 2 ^ 64) (hb : b < 2 ^ 64) : lN a &&& lN b = lN (a &&& b) := by
  apply wb_inj
  rw [Int64.toBitVec_and, wb_tb, wb_tb, wb_tb]
  apply BitVec.eq_of_toNat_eq
  rw [BitVec.toNat_and, BitVec.toNat_ofNat, BitVec.toNat_ofNat, BitVec.toNat_ofNat, Nat.mod_eq_of_lt ha, Nat.mod_eq_of_lt hb, Nat.mod_eq_of_lt (Nat.and_lt_two_pow _ hb)]
theorem wb_or {a b : Nat} (ha : a < 2 ^ 64) (hb : b < 2 ^ 64) : lN a ||| lN b = lN (a ||| b) := by
  apply wb_inj
  rw [Int64.toBitVec_or, wb_tb, wb_tb, wb_tb]
  apply BitVec.eq_of_toNat_eq
  rw [BitVec.toNat_or, BitVec.toNat_ofNat, BitVec.toNat_ofNat, BitVec.toNat_ofNat, Nat.mod_eq_of_lt ha, Nat.mod_eq_of_lt hb, Nat.mod_eq_of_lt (Nat.or_lt_two_pow ha hb)]
def orN (F : Nat → Nat) : Nat → Nat
  | 0 => 0
  | n + 1 => orN F n ||| F n
theorem orN_s (F : Nat → Nat) (n : Nat) : orN F (n + 1) = orN F n ||| F n := rfl
theorem or40 {x y : Nat} (hx : x < 2 ^ 40) (hy : y < 2 ^ 40) : x ||| y < 2 ^ 40 := Nat.or_lt_two_pow hx hy
theorem orN_lt {F : Nat → Nat} {n : Nat} (h : ∀ k, k < n → F k < 2 ^ 40) : orN F n < 2 ^ 40 := by
  induction n with
  | zero => exact Nat.two_pow_pos 40
  | succ n ih => rw [orN_s]; exact or40 (ih (fun k hk => h k (by omega))) (h n (by omega))
theorem orN_bit (F : Nat → Nat) (n i : Nat) : (orN F n).testBit i = anyN (fun k => (F k).testBit i) n := by
  induction n with
  | zero => exact Nat.zero_testBit i
  | succ n ih => rw [orN_s, anyN_s, Nat.testBit_or, ih]
theorem p40 {k : Nat} (h : k < 40) : 2 ^ k < 2 ^ 40 := Nat.pow_lt_pow_right (by decide) h
theorem l40 {x : Nat} (h : x < 2 ^ 40) : x < 2 ^ 64 := Nat.lt_trans h (by decide)
theorem land40 {x y : Nat} (hx : x < 2 ^ 40) : x &&& y < 2 ^ 40 := Nat.lt_of_le_of_lt Nat.and_le_left hx
theorem jl_bit {k : Nat} (hk : k < 40) : lN 1 <<< ((nI k).toInt64 &&& 63) = lN (2 ^ k) := by rw [wb_shl 1 (by omega), Nat.one_mul]
theorem jl_or {x y : Nat} (hx : x < 2 ^ 40) (hy : y < 2 ^ 40) : lN x ||| lN y = lN (x ||| y) := wb_or (l40 hx) (l40 hy)
theorem jl_and {x y : Nat} (hx : x < 2 ^ 40) (hy : y < 2 ^ 40) : lN x &&& lN y = lN (x &&& y) := wb_and (l40 hx) (l40 hy)
theorem lN_toI40 {x : Nat} (h : x < 2 ^ 40) : (lN x).toInt = x := by
  show (lN x).toBitVec.toInt = _
  rw [BitVec.toInt_eq_toNat_of_lt (by rw [wb_tn (l40 h)]; omega), wb_tn (l40 h)]
theorem lN_inj {x y : Nat} (hx : x < 2 ^ 40) (hy : y < 2 ^ 40) (h : lN x = lN y) : x = y := by
  have := congrArg (fun z : Int64 => z.toBitVec.toNat) h
  show x = y
  rw [← wb_tn (l40 hx), ← wb_tn (l40 hy)]; exact this
theorem cmp_0 {x : Nat} (h : x < 2 ^ 40) : lg_cmp (lN x) (lN 0) = nI (if x = 0 then 0 else 1) := by
  unfold lg_cmp
  by_cases e : x = 0
  · subst e; rfl
  · rw [if_neg e]
    have h1 : lN 0 < lN x := by
      rw [Int64.lt_iff_toInt_lt, lN_toI40 h, lN_toI40 (by decide)]
      omega
    first
    | rw [if_pos h1]; rfl
    | simp [h1]; rfl
theorem tb_and (x k : Nat) : (x &&& 2 ^ k = 0) ↔ x.testBit k = false := by
  constructor
  · intro h
    have h2 := congrArg (fun z => z.testBit k) h
    simp only [Nat.testBit_and, Nat.testBit_two_pow_self, Bool.and_true, Nat.zero_testBit] at h2
    exact h2
  · intro h
    apply Nat.eq_of_testBit_eq
    intro i
    rw [Nat.testBit_and, Nat.testBit_two_pow, Nat.zero_testBit]
    by_cases e : k = i
    · subst e; rw [h]; rfl
    · rw [decide_eq_false e, Bool.and_false]
theorem cmp_has {x k : Nat} (h : x < 2 ^ 40) : lg_cmp (lN (x &&& 2 ^ k)) (lN 0) = bI (x.testBit k) := by
  rw [cmp_0 (land40 h)]
  by_cases e : x &&& 2 ^ k = 0
  · rw [if_pos e, (tb_and x k).mp e]; rfl
  · rw [if_neg e]
    cases hb : x.testBit k with
    | true => rfl
    | false => exact absurd ((tb_and x k).mpr hb) e
theorem cmp_b {x : Nat} (h : x < 2 ^ 40) : lg_cmp (lN x) (lN 0) = bI (!decide (x = 0)) := by
  rw [cmp_0 h]
  by_cases e : x = 0
  · rw [if_pos e, decide_eq_true e]; rfl
  · rw [if_neg e, decide_eq_false e]; rfl
