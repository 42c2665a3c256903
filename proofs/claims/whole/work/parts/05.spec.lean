/-! What the store's numbers are, as functions of s and a. -/
def cnt (P : Nat → Bool) : Nat → Nat
  | 0 => 0
  | n + 1 => cnt P n + (P n).toNat
def anyN (P : Nat → Bool) : Nat → Bool
  | 0 => false
  | n + 1 => anyN P n || P n
def allN (P : Nat → Bool) : Nat → Bool
  | 0 => true
  | n + 1 => allN P n && P n
theorem cnt_le (P : Nat → Bool) (n : Nat) : cnt P n ≤ n := by
  induction n with
  | zero => exact Nat.le_refl 0
  | succ n ih =>
    have : (P n).toNat ≤ 1 := by cases P n <;> decide
    show cnt P n + _ ≤ n + 1
    omega
theorem anyN_iff {P : Nat → Bool} {n : Nat} : anyN P n = true ↔ ∃ k, k < n ∧ P k = true := by
  induction n with
  | zero => exact ⟨fun h => (by cases h), fun ⟨k, h, _⟩ => absurd h (Nat.not_lt_zero k)⟩
  | succ n ih =>
    show (anyN P n || P n) = true ↔ _
    rw [Bool.or_eq_true, ih]
    constructor
    · rintro (⟨k, h1, h2⟩ | h)
      · exact ⟨k, by omega, h2⟩
      · exact ⟨n, by omega, h⟩
    · rintro ⟨k, h1, h2⟩
      rcases Nat.lt_succ_iff_lt_or_eq.mp h1 with h | h
      · exact Or.inl ⟨k, h, h2⟩
      · subst h; exact Or.inr h2
theorem allN_iff {P : Nat → Bool} {n : Nat} : allN P n = true ↔ ∀ k, k < n → P k = true := by
  induction n with
  | zero => exact ⟨fun _ k h => absurd h (Nat.not_lt_zero k), fun _ => rfl⟩
  | succ n ih =>
    show (allN P n && P n) = true ↔ _
    rw [Bool.and_eq_true, ih]
    constructor
    · rintro ⟨h1, h2⟩ k hk
      rcases Nat.lt_succ_iff_lt_or_eq.mp hk with h | h
      · exact h1 k h
      · subst h; exact h2
    · intro h
      exact ⟨fun k hk => h k (by omega), h n (by omega)⟩
theorem anyN_s (P : Nat → Bool) (n : Nat) : anyN P (n + 1) = (anyN P n || P n) := rfl
theorem allN_s (P : Nat → Bool) (n : Nat) : allN P (n + 1) = (allN P n && P n) := rfl
theorem cnt_s (P : Nat → Bool) (n : Nat) : cnt P (n + 1) = cnt P n + (P n).toNat := rfl
def IS (s : mS) : Prop := (∀ f, s f < 1048576) ∧ s 6 ≤ 40 ∧ s 2 ≤ 20 ∧ s 4 ≤ 6 ∧ s 10 ≤ 1360 ∧ s 23 ≤ 6
def IA (a : mA) : Prop := (∀ f j, a f j < 1048576) ∧ (∀ j, a 8 j < 1400) ∧ (∀ j, a 5 j < 40) ∧ (∀ j, a 24 j < 40) ∧ (∀ j, a 19 j ≤ 6) ∧ (∀ j, a 20 j < 40) ∧ (∀ j, a 11 j < 40) ∧ (∀ j, j ≠ 0 → a 13 j ≤ j) ∧ (∀ j, a 3 j ≤ 1) ∧ (∀ j, a 16 j ≤ 1) ∧ (∀ j, a 17 j ≤ 1) ∧ (∀ j, a 21 j ≤ 1) ∧ (∀ j, a 22 j ≤ 1) ∧ (∀ j, a 7 j ≤ 2)
theorem IA.big {a : mA} (I : IA a) (f j : Nat) : a f j < 1048576 := I.1 f j
theorem IA.last {a : mA} (I : IA a) (j : Nat) : a 8 j < 1400 := I.2.1 j
theorem IA.draft {a : mA} (I : IA a) (j : Nat) : a 5 j < 40 := I.2.2.1 j
theorem IA.asks {a : mA} (I : IA a) (j : Nat) : a 24 j < 40 := I.2.2.2.1 j
theorem IA.size {a : mA} (I : IA a) (j : Nat) : a 19 j ≤ 6 := I.2.2.2.2.1 j
theorem IA.member {a : mA} (I : IA a) (j : Nat) : a 20 j < 40 := I.2.2.2.2.2.1 j
theorem IA.of {a : mA} (I : IA a) (j : Nat) : a 11 j < 40 := I.2.2.2.2.2.2.1 j
theorem IA.ahead' {a : mA} (I : IA a) (j : Nat) : j ≠ 0 → a 13 j ≤ j := I.2.2.2.2.2.2.2.1 j
theorem IA.ahead {a : mA} (I : IA a) (Z : a 13 0 = 0) (j : Nat) : a 13 j ≤ j := by
  by_cases h : j = 0
  · subst h; rw [Z]; exact Nat.le_refl 0
  · exact I.ahead' j h
theorem IA.closed {a : mA} (I : IA a) (j : Nat) : a 3 j ≤ 1 := I.2.2.2.2.2.2.2.2.1 j
theorem IA.there {a : mA} (I : IA a) (j : Nat) : a 16 j ≤ 1 := I.2.2.2.2.2.2.2.2.2.1 j
theorem IA.hidden {a : mA} (I : IA a) (j : Nat) : a 17 j ≤ 1 := I.2.2.2.2.2.2.2.2.2.2.1 j
theorem IA.marked {a : mA} (I : IA a) (j : Nat) : a 21 j ≤ 1 := I.2.2.2.2.2.2.2.2.2.2.2.1 j
theorem IA.drawn {a : mA} (I : IA a) (j : Nat) : a 22 j ≤ 1 := I.2.2.2.2.2.2.2.2.2.2.2.2.1 j
theorem IA.kind {a : mA} (I : IA a) (j : Nat) : a 7 j ≤ 2 := I.2.2.2.2.2.2.2.2.2.2.2.2.2 j
theorem IS.big {s : mS} (I : IS s) (f : Nat) : s f < 1048576 := I.1 f
/-- a field that no bound speaks of is written -/
theorem IS.up {s : mS} (I : IS s) {f v : Nat} (hv : v < 1048576) (h6 : f = 6 → v ≤ 40) (h2 : f = 2 → v ≤ 20) (h4 : f = 4 → v ≤ 6) (h10 : f = 10 → v ≤ 1360) (h23 : f = 23 → v ≤ 6) : IS (va_up s f v) := by
  have key : ∀ i b, s i ≤ b → (f = i → v ≤ b) → va_up s f v i ≤ b := by
    intro i b h1 h2
    by_cases h : i = f
    · subst h; rw [up_s]; exact h2 rfl
    · rw [up_n h]; exact h1
  refine ⟨fun i => ?_, key 6 40 I.2.1 h6, key 2 20 I.2.2.1 h2, key 4 6 I.2.2.2.1 h4, key 10 1360 I.2.2.2.2.1 h10, key 23 6 I.2.2.2.2.2 h23⟩
  by_cases h : i = f
  · subst h; rw [up_s]; exact hv
  · rw [up_n h]; exact I.1 i
theorem IS.th {s : mS} (I : IS s) {v : Nat} (hv : v ≤ 3) : IS (va_up s 25 v) := I.up (by omega) (fun h => absurd h (by decide)) (fun h => absurd h (by decide)) (fun h => absurd h (by decide)) (fun h => absurd h (by decide)) (fun h => absurd h (by decide))
theorem IS.asked {s : mS} (I : IS s) {v : Nat} (hv : v ≤ 6) : IS (va_up s 23 v) := I.up (by omega) (fun h => absurd h (by decide)) (fun h => absurd h (by decide)) (fun h => absurd h (by decide)) (fun h => absurd h (by decide)) (fun _ => hv)
def gTh (x y z : Bool) : Nat := if x then (if y then (if z then 0 else 3) else 2) else 1
theorem gTh_le (x y z : Bool) : gTh x y z ≤ 3 := by cases x <;> cases y <;> cases z <;> decide
theorem toN1 {x : Nat} (h : x ≤ 1) : x = (decide (x = 1)).toNat := by
  rcases Nat.le_one_iff_eq_zero_or_eq_one.mp h with rfl | rfl <;> rfl
def mIs (a : mA) (t : Nat) : Bool := decide (a 16 (a 8 t) = 1)
def mHas (a : mA) (t o : Nat) : Bool := mIs a t && anyN (fun k => decide (a 20 (6 * a 8 t + k) = o)) (a 19 (a 8 t))
def mUsers (a : mA) (n o : Nat) : Nat := cnt (fun k => mHas a k o) n
theorem bI1 {b : Bool} (h : b = true) : some (Value.int (nI 1)) = some (Value.int (bI b)) := by rw [h]; rfl
theorem bI0 {b : Bool} (h : b = false) : some (Value.int (nI 0)) = some (Value.int (bI b)) := by rw [h]; rfl
theorem bI_e {x : Nat} {b : Bool} (h : x = b.toNat) : some (Value.int (nI x)) = some (Value.int (bI b)) := by rw [h]; rfl
theorem bI_1 {b : Bool} (h : b = true) : nI 1 = bI b := by rw [h]; rfl
theorem bI_0 {b : Bool} (h : b = false) : nI 0 = bI b := by rw [h]; rfl
/-- whether what is asked for is no row for a kind -/
def mUnl (s : mS) (a : mA) (w : Nat) : Bool := decide (s 23 < (if w = 1 then 2 else 1)) || anyN (fun k => !mIs a (a 24 k) || (decide (w = 1) && !decide (a 7 (a 24 k) = 0))) (s 23)
theorem nar1 {x : Nat} (h : x ≤ 1) : narrow .boolean (.int (nI x)) = .int (nI x) := by
  rcases Nat.le_one_iff_eq_zero_or_eq_one.mp h with rfl | rfl <;> rfl
