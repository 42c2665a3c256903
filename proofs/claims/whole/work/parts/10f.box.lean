/-! What is drawn: the masks of the class count as the marks of the document. -/
section BOX
variable {s : mS} {a : mA}
theorem bx1_iff {x y tx ty : Nat} : ∀ n k, k < n → (bx1 a x y tx ty n k = 1 ↔ bxP a x y tx ty k)
  | 0, k, h => absurd h (Nat.not_lt_zero k)
  | n + 1, k, h => by
    have e : bx1 a x y tx ty (n + 1) k = va_up (bx1 a x y tx ty n) n (@ite _ (bxP a x y tx ty n) (Classical.propDecidable _) 1 0) k := rfl
    rw [e]
    by_cases c : k = n
    · rw [c, up_s]
      by_cases z : bxP a x y tx ty n
      · rw [if_pos z]; exact ⟨fun _ => z, fun _ => rfl⟩
      · rw [if_neg z]; exact ⟨fun h => absurd h (by decide), fun h => absurd h z⟩
    · rw [up_n c]
      exact bx1_iff n k (by omega)
theorem uD_congr {t f o : Nat} {m m' : Nat → Nat} (h : ∀ x, x < s 6 → a 7 x = f ∨ a 7 x = o → (m x = 1 ↔ m' x = 1)) : mUsesD s (va_up a 22 m) t f o = mUsesD s (va_up a 22 m') t f o := by
  unfold mUsesD
  refine any_congr (fun k hk => ?_)
  show (decide (m k = 1) && (decide (a 7 k = f) || decide (a 7 k = o)) && mHas a t k) = (decide (m' k = 1) && (decide (a 7 k = f) || decide (a 7 k = o)) && mHas a t k)
  by_cases c : a 7 k = f ∨ a 7 k = o
  · rw [show decide (m k = 1) = decide (m' k = 1) from decide_eq_decide.mpr (h k hk c)]
  · have h1 : decide (a 7 k = f) = false := decide_eq_false (fun z => c (Or.inl z))
    have h2 : decide (a 7 k = o) = false := decide_eq_false (fun z => c (Or.inr z))
    rw [h1, h2]
    cases decide (m k = 1) <;> cases decide (m' k = 1) <;> rfl
theorem uD_iff {t f o : Nat} {m : Nat → Nat} : mUsesD s (va_up a 22 m) t f o = true ↔ ∃ k, k < s 6 ∧ m k = 1 ∧ (a 7 k = f ∨ a 7 k = o) ∧ mHas a t k = true := by
  unfold mUsesD
  rw [anyN_iff]
  constructor
  · rintro ⟨k, hk, h⟩
    have h : (decide (m k = 1) && (decide (a 7 k = f) || decide (a 7 k = o)) && mHas a t k) = true := h
    rw [Bool.and_eq_true, Bool.and_eq_true, Bool.or_eq_true, decide_eq_true_iff, decide_eq_true_iff, decide_eq_true_iff] at h
    exact ⟨k, hk, h.1.1, h.1.2, h.2⟩
  · rintro ⟨k, hk, h1, h2, h3⟩
    refine ⟨k, hk, ?_⟩
    show (decide (m k = 1) && (decide (a 7 k = f) || decide (a 7 k = o)) && mHas a t k) = true
    rw [Bool.and_eq_true, Bool.and_eq_true, Bool.or_eq_true, decide_eq_true_iff, decide_eq_true_iff, decide_eq_true_iff]
    exact ⟨⟨h1, h2⟩, h3⟩
theorem bx2_iff {w f o : Nat} {m : Nat → Nat} (hf : f ≠ w) (ho : o ≠ w) : ∀ n x, (x < n → (bx2 s a w f o m n x = 1 ↔ (m x = 1 ∨ (a 7 x = w ∧ mUsesD s (va_up a 22 m) x f o = true)))) ∧ (¬ x < n → bx2 s a w f o m n x = m x)
  | 0, x => ⟨fun h => absurd h (Nat.not_lt_zero x), fun _ => rfl⟩
  | n + 1, x => by
    have e : bx2 s a w f o m (n + 1) x = va_up (bx2 s a w f o m n) n (if bx2 s a w f o m n n = 1 ∨ (a 7 n = w ∧ mUsesD s (va_up a 22 (bx2 s a w f o m n)) n f o = true) then 1 else 0) x := rfl
    have hn : bx2 s a w f o m n n = m n := (bx2_iff hf ho n n).2 (Nat.lt_irrefl n)
    have hu : mUsesD s (va_up a 22 (bx2 s a w f o m n)) n f o = mUsesD s (va_up a 22 m) n f o := uD_congr (fun y _ hy => by
      by_cases c : y < n
      · rw [(bx2_iff hf ho n y).1 c]
        refine ⟨fun z => z.elim id (fun z => ?_), Or.inl⟩
        exact absurd z.1 (by rcases hy with h | h <;> (rw [h]; assumption))
      · rw [(bx2_iff hf ho n y).2 c])
    rw [e, hn, hu]
    by_cases c : x = n
    · rw [c, up_s]
      refine ⟨fun _ => ?_, fun h => absurd (Nat.lt_succ_self n) h⟩
      by_cases z : m n = 1 ∨ (a 7 n = w ∧ mUsesD s (va_up a 22 m) n f o = true)
      · rw [if_pos z]; exact ⟨fun _ => z, fun _ => rfl⟩
      · rw [if_neg z]; exact ⟨fun h => absurd h (by decide), fun h => absurd h z⟩
    · rw [up_n c]
      refine ⟨fun h => (bx2_iff hf ho n x).1 (by omega), fun h => (bx2_iff hf ho n x).2 (by omega)⟩
theorem bx3i_iff {m : Nat → Nat} {k : Nat} (hk : mHas a k k = false) : ∀ n x, (bx3i a m k n x = 1 ↔ (m x = 1 ∨ (x < n ∧ m k = 1 ∧ a 7 k = 1 ∧ mHas a k x = true)))
  | 0, x => ⟨fun h => Or.inl h, fun h => h.elim id (fun z => absurd z.1 (Nat.not_lt_zero x))⟩
  | n + 1, x => by
    have e : bx3i a m k (n + 1) x = va_up (bx3i a m k n) n (if bx3i a m k n n = 1 ∨ (bx3i a m k n k = 1 ∧ a 7 k = 1 ∧ mHas a k n = true) then 1 else 0) x := rfl
    have h1 := bx3i_iff (m := m) hk n n
    have h2 := bx3i_iff (m := m) hk n k
    have h2' : bx3i a m k n k = 1 ↔ m k = 1 := by
      rw [h2]
      exact ⟨fun z => z.elim id (fun z => z.2.1), Or.inl⟩
    rw [e]
    by_cases c : x = n
    · rw [c, up_s]
      by_cases z : bx3i a m k n n = 1 ∨ (bx3i a m k n k = 1 ∧ a 7 k = 1 ∧ mHas a k n = true)
      · rw [if_pos z]
        refine ⟨fun _ => ?_, fun _ => rfl⟩
        rcases z with z | ⟨z1, z2, z3⟩
        · rcases h1.mp z with y | y
          · exact Or.inl y
          · exact Or.inr ⟨Nat.lt_succ_self n, y.2⟩
        · exact Or.inr ⟨Nat.lt_succ_self n, h2'.mp z1, z2, z3⟩
      · rw [if_neg z]
        refine ⟨fun h => absurd h (by decide), fun h => absurd ?_ z⟩
        rcases h with y | ⟨-, y1, y2, y3⟩
        · exact Or.inl (h1.mpr (Or.inl y))
        · exact Or.inr ⟨h2'.mpr y1, y2, y3⟩
    · rw [up_n c, bx3i_iff hk n x]
      refine ⟨fun h => h.imp id (fun z => ⟨by omega, z.2⟩), fun h => h.imp id (fun z => ⟨by omega, z.2⟩)⟩
theorem bx3_iff {m : Nat → Nat} {N : Nat} (hp : ∀ k x, k < N → a 7 k = 1 → mHas a k x = true → a 7 x = 0) : ∀ K, K ≤ N → ∀ x, x < N → (bx3 N a m K x = 1 ↔ (m x = 1 ∨ ∃ k, k < K ∧ m k = 1 ∧ a 7 k = 1 ∧ mHas a k x = true))
  | 0, _, x, _ => ⟨fun h => Or.inl h, fun h => h.elim id (fun ⟨k, hk, _⟩ => absurd hk (Nat.not_lt_zero k))⟩
  | K + 1, hK, x, hx => by
    have ih := bx3_iff hp K (by omega) (m := m)
    by_cases cw : a 7 K = 1
    · have hkk : mHas a K K = false := by
        cases z : mHas a K K with
        | false => rfl
        | true => have := hp K K (by omega) cw z; omega
      have hKm : bx3 N a m K K = 1 ↔ m K = 1 := by
        rw [ih K (by omega)]
        refine ⟨fun z => z.elim id (fun ⟨k, hk, _, z2, z3⟩ => ?_), Or.inl⟩
        have := hp k K (by omega) z2 z3
        omega
      show bx3i a (bx3 N a m K) K N x = 1 ↔ _
      rw [bx3i_iff hkk N x, ih x hx, hKm]
      constructor
      · rintro ((z | ⟨k, hk, z⟩) | ⟨-, z⟩)
        · exact Or.inl z
        · exact Or.inr ⟨k, by omega, z⟩
        · exact Or.inr ⟨K, by omega, z⟩
      · rintro (z | ⟨k, hk, z⟩)
        · exact Or.inl (Or.inl z)
        · by_cases e : k = K
          · rw [e] at z; exact Or.inr ⟨hx, z⟩
          · exact Or.inl (Or.inr ⟨k, by omega, z⟩)
    · have hsame : ∀ n, n ≤ N → (bx3i a (bx3 N a m K) K n x = 1 ↔ bx3 N a m K x = 1) := by
        intro n
        induction n with
        | zero => exact fun _ => Iff.rfl
        | succ n ih2 =>
          intro hn
          have e : bx3i a (bx3 N a m K) K (n + 1) x = va_up (bx3i a (bx3 N a m K) K n) n (if bx3i a (bx3 N a m K) K n n = 1 ∨ (bx3i a (bx3 N a m K) K n K = 1 ∧ a 7 K = 1 ∧ mHas a K n = true) then 1 else 0) x := rfl
          rw [e]
          by_cases c : x = n
          · subst c
            rw [up_s]
            by_cases z : bx3i a (bx3 N a m K) K x x = 1
            · rw [if_pos (Or.inl z)]; exact ⟨fun _ => (ih2 (by omega)).mp z, fun _ => rfl⟩
            · rw [if_neg (fun y => y.elim z (fun y => cw y.2.1))]
              exact ⟨fun h => absurd h (by decide), fun h => absurd ((ih2 (by omega)).mpr h) z⟩
          · rw [up_n c]; exact ih2 (by omega)
      show bx3i a (bx3 N a m K) K N x = 1 ↔ _
      rw [hsame N (Nat.le_refl N), ih x hx]
      constructor
      · rintro (z | ⟨k, hk, z⟩)
        · exact Or.inl z
        · exact Or.inr ⟨k, by omega, z⟩
      · rintro (z | ⟨k, hk, z⟩)
        · exact Or.inl z
        · by_cases e : k = K
          · rw [e] at z; exact absurd z.2.1 cw
          · exact Or.inr ⟨k, by omega, z⟩
/-! masks, bit by bit -/
theorem and_ne {x y : Nat} : ¬ x &&& y = 0 ↔ ∃ i, x.testBit i = true ∧ y.testBit i = true := by
  constructor
  · intro h
    apply Classical.byContradiction
    intro hn
    refine h (Nat.eq_of_testBit_eq (fun i => ?_))
    rw [Nat.testBit_and, Nat.zero_testBit]
    cases h1 : x.testBit i with
    | false => rfl
    | true =>
      cases h2 : y.testBit i with
      | false => rfl
      | true => exact absurd ⟨i, h1, h2⟩ hn
  · rintro ⟨i, h1, h2⟩ z
    have := congrArg (fun w => w.testBit i) z
    simp only [Nat.testBit_and, h1, h2, Nat.zero_testBit] at this
    exact Bool.noConfusion this
theorem box_bit {x y tx ty n i : Nat} : (orN (fBox a x y tx ty) n).testBit i = true ↔ i < n ∧ bxP a x y tx ty i := by
  rw [orN_congr (K := fun t => if decide (a 7 t = 0 ∧ a 16 (a 8 t) = 1 ∧ x ≤ a 18 (a 8 t) / 100 ∧ a 18 (a 8 t) / 100 ≤ tx ∧ y ≤ a 18 (a 8 t) % 100 ∧ a 18 (a 8 t) % 100 ≤ ty) = true then 2 ^ t else 0) (fun t _ => ?_)]
  · rw [sel_bit (fun t => decide (a 7 t = 0 ∧ a 16 (a 8 t) = 1 ∧ x ≤ a 18 (a 8 t) / 100 ∧ a 18 (a 8 t) / 100 ≤ tx ∧ y ≤ a 18 (a 8 t) % 100 ∧ a 18 (a 8 t) % 100 ≤ ty)) i n, Bool.and_eq_true, decide_eq_true_iff, decide_eq_true_iff]
    unfold bxP mIs
    rw [decide_eq_true_iff]
    constructor
    · rintro ⟨h0, h1, h2, h3, h4, h5, h6⟩
      exact ⟨h0, h1, h2, ⟨h3, h4⟩, h5, h6⟩
    · rintro ⟨h0, h1, h2, ⟨h3, h4⟩, h5, h6⟩
      exact ⟨h0, h1, h2, h3, h4, h5, h6⟩
  · unfold fBox
    by_cases c : a 7 t = 0 ∧ a 16 (a 8 t) = 1 ∧ x ≤ a 18 (a 8 t) / 100 ∧ a 18 (a 8 t) / 100 ≤ tx ∧ y ≤ a 18 (a 8 t) % 100 ∧ a 18 (a 8 t) % 100 ≤ ty
    · rw [if_pos c, decide_eq_true c, if_pos rfl]
    · rw [if_neg c, decide_eq_false c, if_neg (by decide)]
theorem way_bit {n u i d : Nat} : (orN (fUse a u) n &&& orN (fKind a d) n).testBit i = true ↔ i < n ∧ a 7 i = d ∧ ∃ j, (mBits a i).testBit j = true ∧ u.testBit j = true := by
  rw [Nat.testBit_and, use_sel, kind_sel, Bool.and_eq_true, Bool.and_eq_true, Bool.and_eq_true, Bool.not_eq_true', decide_eq_true_iff, decide_eq_true_iff, decide_eq_false_iff_not, and_ne]
  constructor
  · rintro ⟨⟨h1, h2⟩, -, h3⟩
    exact ⟨h1, h3, h2⟩
  · rintro ⟨h1, h2, h3⟩
    exact ⟨⟨h1, h3⟩, h1, h2⟩
theorem mem_bit {n v x : Nat} : (orN (fMem a v) n).testBit x = true ↔ ∃ t, t < n ∧ v.testBit t = true ∧ (mBits a t).testBit x = true := by
  rw [orN_bit, anyN_iff]
  refine exists_congr (fun t => and_congr_right (fun _ => ?_))
  unfold fMem
  cases v.testBit t with
  | true => rw [if_pos rfl]; exact ⟨fun h => ⟨rfl, h⟩, fun h => h.2⟩
  | false => rw [if_neg (by decide), Nat.zero_testBit]; exact ⟨fun h => Bool.noConfusion h, fun h => Bool.noConfusion h.1⟩
theorem pop_cnt {m n : Nat} (hn : n ≤ 40) (h : ∀ i, m.testBit i = true → i < n) : pop m = cnt (fun i => m.testBit i) n := by
  unfold pop
  rw [cnt_congr (R := fun i => decide (i < n) && m.testBit i) (fun i _ => ?_), cnt_lt _ hn]
  cases e : m.testBit i with
  | false => rw [Bool.and_false]
  | true => rw [decide_eq_true (h i e)]; rfl
theorem bool_iff {x y : Bool} (h : x = true ↔ y = true) : x = y := by
  cases x <;> cases y
  · rfl
  · exact absurd (h.mpr rfl) (by decide)
  · exact absurd (h.mp rfl) (by decide)
  · rfl
theorem box_eq (W : WI s a) {x y tx ty w : Nat} (hw : w ≤ 2) : pop (iAns a (s 6) x y tx ty w) = mDrawn s (va_up a 22 (bxD s a x y tx ty)) w := by
  have h6 := W.J.2.1
  have Z := W.gone
  have hb : ∀ t z, t < s 6 → (mBits a t).testBit z = true → z < s 6 ∧ ¬ a 7 t = 0 ∧ (a 7 t = 1 → a 7 z = 0) := by
    intro t z ht h
    rw [mBits_bit] at h
    obtain ⟨j, hj, e⟩ := anyN_iff.mp h
    have e := of_decide_eq_true e
    have hV := W.V (a 8 t) (W.K.2 t ht).1
    rw [(W.N.2.1 t ht).1] at hV
    have h5 := hV.2.2.2.2.2 j hj
    rw [e] at h5
    exact ⟨h5.1, fun z => by have := hV.2.2.2.2.1 z; omega, h5.2⟩
  have hh : ∀ t z, t < s 6 → mHas a t z = (mBits a t).testBit z := fun t z ht => has_bit (Z t ht) z
  have hp : ∀ k z, k < s 6 → a 7 k = 1 → mHas a k z = true → a 7 z = 0 := fun k z hk h1 h2 => by
    rw [hh k z hk] at h2
    exact (hb k z hk h2).2.2 h1
  -- the masks
  obtain ⟨U, hU⟩ : ∃ U, U = orN (fBox a x y tx ty) (s 6) := ⟨_, rfl⟩
  obtain ⟨V, hV⟩ : ∃ V, V = iWay a (s 6) U := ⟨_, rfl⟩
  obtain ⟨p, hpE⟩ : ∃ p, p = iPts a (s 6) U V := ⟨_, rfl⟩
  obtain ⟨q, hq⟩ : ∃ q, q = iRel a (s 6) p V := ⟨_, rfl⟩
  have bU : ∀ i, U.testBit i = true ↔ i < s 6 ∧ bxP a x y tx ty i := fun i => by rw [hU]; exact box_bit
  have bV : ∀ i, V.testBit i = true ↔ i < s 6 ∧ a 7 i = 1 ∧ ∃ j, (mBits a i).testBit j = true ∧ U.testBit j = true := fun i => by rw [hV]; exact way_bit
  have bp : ∀ i, p.testBit i = true ↔ U.testBit i = true ∨ ∃ t, t < s 6 ∧ V.testBit t = true ∧ (mBits a t).testBit i = true := fun i => by
    rw [hpE]
    unfold iPts
    rw [Nat.testBit_or, Bool.or_eq_true, mem_bit]
  have bq : ∀ i, q.testBit i = true ↔ i < s 6 ∧ a 7 i = 2 ∧ ∃ j, (mBits a i).testBit j = true ∧ (p.testBit j = true ∨ V.testBit j = true) := fun i => by
    rw [hq]
    unfold iRel
    rw [way_bit]
    refine and_congr_right (fun _ => and_congr_right (fun _ => exists_congr (fun j => and_congr_right (fun _ => ?_))))
    rw [Nat.testBit_or, Bool.or_eq_true]
  -- the marks
  obtain ⟨m1, h1⟩ : ∃ m, m = bx1 a x y tx ty (s 6) := ⟨_, rfl⟩
  obtain ⟨m2, h2⟩ : ∃ m, m = bx2 s a 1 0 0 m1 (s 6) := ⟨_, rfl⟩
  obtain ⟨m3, h3⟩ : ∃ m, m = bx3 (s 6) a m2 (s 6) := ⟨_, rfl⟩
  obtain ⟨m4, h4⟩ : ∃ m, m = bx2 s a 2 0 1 m3 (s 6) := ⟨_, rfl⟩
  have e4 : bxD s a x y tx ty = m4 := by rw [h4, h3, h2, h1]; rfl
  have c1 : ∀ i, i < s 6 → (m1 i = 1 ↔ U.testBit i = true) := fun i hi => by
    rw [h1, bx1_iff (s 6) i hi, bU]
    exact ⟨fun z => ⟨hi, z⟩, fun z => z.2⟩
  have cu1 : ∀ i, i < s 6 → a 7 i = 1 → (mUsesD s (va_up a 22 m1) i 0 0 = true ↔ V.testBit i = true) := fun i hi k1 => by
    rw [uD_iff, bV]
    constructor
    · rintro ⟨k, hk, z1, -, z3⟩
      rw [hh i k hi] at z3
      exact ⟨hi, k1, k, z3, (c1 k hk).mp z1⟩
    · rintro ⟨-, -, k, z1, z2⟩
      have hk := (bU k).mp z2
      exact ⟨k, hk.1, (c1 k hk.1).mpr z2, Or.inl hk.2.1, by rw [hh i k hi]; exact z1⟩
  have c2 : ∀ i, i < s 6 → (m2 i = 1 ↔ U.testBit i = true ∨ V.testBit i = true) := fun i hi => by
    rw [h2, (bx2_iff (by decide) (by decide) (s 6) i).1 hi, c1 i hi]
    refine or_congr_right ?_
    constructor
    · rintro ⟨z1, z2⟩; exact (cu1 i hi z1).mp z2
    · intro z
      have k1 := ((bV i).mp z).2.1
      exact ⟨k1, (cu1 i hi k1).mpr z⟩
  have c3 : ∀ i, i < s 6 → (m3 i = 1 ↔ p.testBit i = true ∨ V.testBit i = true) := fun i hi => by
    rw [h3, bx3_iff hp (s 6) (Nat.le_refl _) i hi, c2 i hi, bp]
    constructor
    · rintro ((z | z) | ⟨k, hk, z1, z2, z3⟩)
      · exact Or.inl (Or.inl z)
      · exact Or.inr z
      · have : V.testBit k = true := by
          rcases (c2 k hk).mp z1 with y | y
          · have := ((bU k).mp y).2.1; omega
          · exact y
        exact Or.inl (Or.inr ⟨k, hk, this, by rw [hh k i hk] at z3; exact z3⟩)
    · rintro ((z | ⟨k, hk, z1, z2⟩) | z)
      · exact Or.inl (Or.inl z)
      · exact Or.inr ⟨k, hk, (c2 k hk).mpr (Or.inr z1), ((bV k).mp z1).2.1, by rw [hh k i hk]; exact z2⟩
      · exact Or.inl (Or.inr z)
  have cu2 : ∀ i, i < s 6 → a 7 i = 2 → (mUsesD s (va_up a 22 m3) i 0 1 = true ↔ q.testBit i = true) := fun i hi k2 => by
    rw [uD_iff, bq]
    constructor
    · rintro ⟨k, hk, z1, -, z3⟩
      rw [hh i k hi] at z3
      exact ⟨hi, k2, k, z3, (c3 k hk).mp z1⟩
    · rintro ⟨-, -, k, z1, z2⟩
      have hk := (hb i k hi z1).1
      refine ⟨k, hk, (c3 k hk).mpr z2, ?_, by rw [hh i k hi]; exact z1⟩
      rcases z2 with z2 | z2
      · rcases (bp k).mp z2 with y | ⟨t, ht, y1, y2⟩
        · exact Or.inl ((bU k).mp y).2.1
        · exact Or.inl ((hb t k ht y2).2.2 ((bV t).mp y1).2.1)
      · exact Or.inr ((bV k).mp z2).2.1
  have pk : ∀ i, p.testBit i = true → i < s 6 ∧ a 7 i = 0 := fun i z => by
    rcases (bp i).mp z with y | ⟨t, ht, y1, y2⟩
    · have := (bU i).mp y; exact ⟨this.1, this.2.1⟩
    · exact ⟨(hb t i ht y2).1, (hb t i ht y2).2.2 ((bV t).mp y1).2.1⟩
  have c4 : ∀ i, i < s 6 → (m4 i = 1 ↔ p.testBit i = true ∨ V.testBit i = true ∨ q.testBit i = true) := fun i hi => by
    rw [h4, (bx2_iff (by decide) (by decide) (s 6) i).1 hi, c3 i hi, or_assoc]
    refine or_congr_right (or_congr_right ?_)
    constructor
    · rintro ⟨z1, z2⟩; exact (cu2 i hi z1).mp z2
    · intro z
      have k2 := ((bq i).mp z).2.1
      exact ⟨k2, (cu2 i hi k2).mpr z⟩
  have fin : ∀ M : Nat, (∀ i, M.testBit i = true ↔ (i < s 6 ∧ m4 i = 1 ∧ a 7 i = w)) → pop M = mDrawn s (va_up a 22 m4) w := by
    intro M hM
    rw [pop_cnt h6 (fun i z => ((hM i).mp z).1)]
    unfold mDrawn
    refine cnt_congr (fun i hi => bool_iff ?_)
    show M.testBit i = true ↔ (decide (m4 i = 1) && decide (a 7 i = w)) = true
    rw [hM, Bool.and_eq_true, decide_eq_true_iff, decide_eq_true_iff]
    exact ⟨fun z => z.2, fun z => ⟨hi, z⟩⟩
  rw [e4]
  unfold iAns
  rw [← hU, ← hV, ← hpE, ← hq]
  by_cases w0 : w = 0
  · rw [if_pos w0]
    refine fin p (fun i => ?_)
    constructor
    · intro z
      have := pk i z
      exact ⟨this.1, (c4 i this.1).mpr (Or.inl z), by omega⟩
    · rintro ⟨hi, z1, z2⟩
      rcases (c4 i hi).mp z1 with y | y | y
      · exact y
      · have := ((bV i).mp y).2.1; omega
      · have := ((bq i).mp y).2.1; omega
  · rw [if_neg w0]
    by_cases w1 : w = 1
    · rw [if_pos w1]
      refine fin V (fun i => ?_)
      constructor
      · intro z
        have := (bV i).mp z
        exact ⟨this.1, (c4 i this.1).mpr (Or.inr (Or.inl z)), by omega⟩
      · rintro ⟨hi, z1, z2⟩
        rcases (c4 i hi).mp z1 with y | y | y
        · have := (pk i y).2; omega
        · exact y
        · have := ((bq i).mp y).2.1; omega
    · rw [if_neg w1]
      refine fin q (fun i => ?_)
      constructor
      · intro z
        have := (bq i).mp z
        exact ⟨this.1, (c4 i this.1).mpr (Or.inr (Or.inr z)), by omega⟩
      · rintro ⟨hi, z1, z2⟩
        rcases (c4 i hi).mp z1 with y | y | y
        · have := (pk i y).2; omega
        · have := ((bV i).mp y).2.1; omega
        · exact y
end BOX
