/-! Rows and rings: the class's judgement is the document's. -/
section RING
variable {s s1 : mS} {a a1 : mA}
theorem WI.gone (W : WI s a) : mGone s a := by
  intro t ht h
  have h16 := W.I.there (a 8 t)
  have hn : ¬ a 16 (a 8 t) = 1 := of_decide_eq_false h
  exact ((W.V (a 8 t) (W.K.2 t ht).1).2.2.2.1 (by omega)).2
theorem all_any (P : Nat → Bool) (n : Nat) : allN P n = !anyN (fun k => !P k) n := by
  induction n with
  | zero => rfl
  | succ n ih =>
    rw [allN_s, anyN_s, ih]
    cases anyN (fun k => !P k) n <;> cases P n <;> rfl
theorem any_congr {P R : Nat → Bool} {n : Nat} (h : ∀ k, k < n → P k = R k) : anyN P n = anyN R n := by
  induction n with
  | zero => rfl
  | succ n ih => rw [anyN_s, anyN_s, ih (fun k hk => h k (by omega)), h n (by omega)]
theorem row_unl {w N : Nat} {g : Nat → Nat} (h23 : s1 23 = N) (h24 : ∀ j, j < N → a1 24 j = g j) (h7 : a1 7 = a 7) (h8 : a1 8 = a 8) (h16 : a1 16 = a 16) (hk : ∀ j, j < N → g j < s 6) : rowOK s a w g N = !mUnl s1 a1 w := by
  unfold rowOK mUnl
  rw [h23, all_any, any_congr (P := fun k => !gOK s a w g k) (R := fun k => !mIs a1 (a1 24 k) || (decide (w = 1) && !decide (a1 7 (a1 24 k) = 0))) (fun j hj => ?_)]
  · cases decide (N < if w = 1 then 2 else 1) <;> cases anyN (fun k => !mIs a1 (a1 24 k) || (decide (w = 1) && !decide (a1 7 (a1 24 k) = 0))) N <;> rfl
  · have e : mIs a1 (a1 24 j) = mIs a (g j) := by unfold mIs; rw [h24 j hj, h8, h16]
    rw [e, h24 j hj, h7]
    unfold gOK
    rw [decide_eq_true (hk j hj)]
    cases mIs a (g j) <;> cases decide (w = 1) <;> cases decide (a 7 (g j) = 0) <;> rfl
theorem ld_step (n M r x : Nat) : (ldN a n M (r + 1)).testBit x = ((ldN a n M r).testBit x || anyN (fun t => (ldN a n M r).testBit t && (mBits a t).testBit x) n) := by
  show (ldN a n M r ||| orN (fMem a (ldN a n M r)) n).testBit x = _
  rw [Nat.testBit_or, orN_bit]
  congr 1
  refine any_congr (fun t _ => ?_)
  unfold fMem
  cases (ldN a n M r).testBit t with
  | true => rw [if_pos rfl]; rfl
  | false => rw [if_neg (by decide), Nat.zero_testBit]; rfl
theorem ld_mono (n M x : Nat) {r r' : Nat} (h : r ≤ r') (hx : (ldN a n M r).testBit x = true) : (ldN a n M r').testBit x = true := by
  induction r' with
  | zero => rw [show r = 0 by omega] at hx; exact hx
  | succ r' ih =>
    by_cases e : r = r' + 1
    · rw [← e]; exact hx
    · rw [ld_step, ih (by omega)]; rfl
/-- nothing new below n at step r -/
def ldD (a : mA) (n M r : Nat) : Prop := ∀ x, x < n → (ldN a n M (r + 1)).testBit x = true → (ldN a n M r).testBit x = true
theorem ldD_s {n M r : Nat} (h : ldD a n M r) : ldD a n M (r + 1) := by
  have e : ∀ x, x < n → (ldN a n M (r + 1)).testBit x = (ldN a n M r).testBit x := fun x hx => by
    cases h1 : (ldN a n M (r + 1)).testBit x with
    | true => exact (h x hx h1).symm
    | false =>
      cases h2 : (ldN a n M r).testBit x with
      | false => rfl
      | true => rw [ld_mono n M x (Nat.le_succ r) h2] at h1; exact Bool.noConfusion h1
  intro x hx h2
  rw [ld_step] at h2
  rw [ld_step, ← e x hx]
  rw [any_congr (fun t ht => by rw [e t ht])] at h2
  exact h2
theorem ldD_le {n M r r' : Nat} (h : ldD a n M r) (hr : r ≤ r') : ldD a n M r' := by
  induction r' with
  | zero => rw [show r = 0 by omega] at h; exact h
  | succ r' ih =>
    by_cases e : r = r' + 1
    · rw [← e]; exact h
    · exact ldD_s (ih (by omega))
theorem ld_cnt {n M : Nat} : ∀ r, (∃ r', r' < r ∧ ldD a n M r') ∨ r ≤ cnt (fun x => (ldN a n M r).testBit x) n
  | 0 => Or.inr (Nat.zero_le _)
  | r + 1 => by
    rcases ld_cnt r with ⟨r', h1, h2⟩ | h
    · exact Or.inl ⟨r', by omega, h2⟩
    · by_cases d : ldD a n M r
      · exact Or.inl ⟨r, by omega, d⟩
      · obtain ⟨x, hx⟩ := Classical.not_forall.mp d
        obtain ⟨hxn, hx⟩ := Classical.not_imp.mp hx
        obtain ⟨h1, h2⟩ := Classical.not_imp.mp hx
        have := cnt_imp_lt (P := fun x => (ldN a n M r).testBit x) (R := fun x => (ldN a n M (r + 1)).testBit x) (n := n) (k := x) (fun y _ hy => ld_mono n M y (Nat.le_succ r) hy) hxn (Bool.eq_false_iff.mpr h2) h1
        exact Or.inr (by omega)
theorem ld_closed (n M : Nat) : ldD a n M n := by
  rcases ld_cnt (a := a) (n := n) (M := M) (n + 1) with ⟨r', h1, h2⟩ | h
  · exact ldD_le h2 (by omega)
  · have := cnt_le (fun x => (ldN a n M (n + 1)).testBit x) n
    omega
theorem ld_mem {n M t x : Nat} (ht : t < n) (hx : x < n) (h : (ldN a n M n).testBit t = true) (hb : (mBits a t).testBit x = true) : (ldN a n M n).testBit x = true := by
  refine ld_closed n M x hx ?_
  rw [ld_step, anyN_iff.mpr ⟨t, ht, by rw [h, hb]; rfl⟩, Bool.or_true]
theorem rowM_bit (g : Nat → Nat) (N x : Nat) : (rowM g N).testBit x = anyN (fun j => decide (g j = x)) N := by
  unfold rowM
  rw [orN_bit]
  exact any_congr (fun j _ => Nat.testBit_two_pow)
/-! the reference's marks -/
theorem rS_mono {its k x y : Nat} {m : Nat → Nat} (h : m y = 1) : rS a its m k x y = 1 := by
  unfold rS
  by_cases e : y = x
  · subst e; rw [up_s, if_pos (Or.inl h)]
  · rw [up_n e]; exact h
theorem rI_mono {its k y : Nat} {m : Nat → Nat} (h : m y = 1) : ∀ n, rI a its m k n y = 1
  | 0 => h
  | n + 1 => rS_mono (rI_mono h n)
theorem rK_mono {N its y : Nat} {m : Nat → Nat} (h : m y = 1) : ∀ k, rK N a its m k y = 1
  | 0 => h
  | k + 1 => rI_mono (rK_mono h k) N
theorem rI_mk {its k x : Nat} {m : Nat → Nat} (h : m k = 1) (hk : k ≠ its) (h7 : a 7 x = 2) (hb : mHas a k x = true) : ∀ n, x < n → rI a its m k n x = 1
  | 0, hx => absurd hx (Nat.not_lt_zero x)
  | n + 1, hx => by
    show rS a its (rI a its m k n) k n x = 1
    by_cases e : x = n
    · unfold rS
      rw [e, up_s, if_pos (Or.inr ⟨rI_mono h n, hk, by rw [← e]; exact h7, by rw [← e]; exact hb⟩)]
    · exact rS_mono (rI_mk h hk h7 hb n (by omega))
theorem rK_mk {N its t x : Nat} {m : Nat → Nat} (h : m t = 1) (ht : t ≠ its) (h7 : a 7 x = 2) (hb : mHas a t x = true) (hx : x < N) : ∀ k, t < k → rK N a its m k x = 1
  | 0, hk => absurd hk (Nat.not_lt_zero t)
  | k + 1, hk => by
    show rI a its (rK N a its m k) k N x = 1
    by_cases e : t = k
    · subst e
      exact rI_mk (rK_mono h t) ht h7 hb N hx
    · exact rI_mono (rK_mk h ht h7 hb hx k (by omega)) N
theorem rQ_iff {N x : Nat} (hx : x < N) : ∀ Q, rQ N a Q x = 1 ↔ ∃ j, j < Q ∧ a 24 j = x ∧ a 7 x = 2
  | 0 => by
    constructor
    · intro h
      have e : rQ N a 0 x = 0 := if_pos hx
      omega
    · rintro ⟨j, hj, -⟩
      exact absurd hj (Nat.not_lt_zero j)
  | Q + 1 => by
    have e : rQ N a (Q + 1) x = va_up (rQ N a Q) (a 24 Q) (if a 7 (a 24 Q) = 2 then 1 else 0) x := rfl
    rw [e]
    by_cases c : x = a 24 Q
    · rw [c, up_s]
      constructor
      · intro h
        by_cases z : a 7 (a 24 Q) = 2
        · exact ⟨Q, Nat.lt_succ_self Q, rfl, z⟩
        · rw [if_neg z] at h; omega
      · rintro ⟨j, -, -, z⟩
        exact if_pos z
    · rw [up_n c, rQ_iff hx Q]
      constructor
      · rintro ⟨j, hj, h⟩
        exact ⟨j, by omega, h⟩
      · rintro ⟨j, hj, h1, h2⟩
        refine ⟨j, ?_, h1, h2⟩
        have : j ≠ Q := fun z => c (by rw [← z]; exact h1.symm)
        omega
/-- a mark stays within whatever the rows lead to -/
theorem rI_sub {its k N : Nat} {m : Nat → Nat} {R : Nat → Prop} (hm : ∀ x, x < N → m x = 1 → R x) (hk : k < N) (hR : ∀ t x, t < N → x < N → R t → mHas a t x = true → R x) : ∀ n, n ≤ N → ∀ x, x < N → rI a its m k n x = 1 → R x
  | 0, _, x, hx, h => hm x hx h
  | n + 1, hn, x, hx, h => by
    have e : rI a its m k (n + 1) x = va_up (rI a its m k n) n (if rI a its m k n n = 1 ∨ (rI a its m k n k = 1 ∧ k ≠ its ∧ a 7 n = 2 ∧ mHas a k n = true) then 1 else 0) x := rfl
    have ih := rI_sub (its := its) hm hk hR n (by omega)
    rw [e] at h
    by_cases c : x = n
    · rw [c, up_s] at h
      rw [c]
      by_cases z : rI a its m k n n = 1 ∨ (rI a its m k n k = 1 ∧ k ≠ its ∧ a 7 n = 2 ∧ mHas a k n = true)
      · rcases z with z | ⟨z1, -, -, z2⟩
        · exact ih n (by omega) z
        · exact hR k n hk (by omega) (ih k hk z1) z2
      · rw [if_neg z] at h; omega
    · rw [up_n c] at h
      exact ih x hx h
theorem rK_sub {its N : Nat} {m : Nat → Nat} {R : Nat → Prop} (hm : ∀ x, x < N → m x = 1 → R x) (hR : ∀ t x, t < N → x < N → R t → mHas a t x = true → R x) : ∀ k, k ≤ N → ∀ x, x < N → rK N a its m k x = 1 → R x
  | 0, _ => hm
  | k + 1, hk => rI_sub (rK_sub hm hR k (by omega)) (by omega) hR N (Nat.le_refl N)
theorem rR_sub {its N Q : Nat} {R : Nat → Prop} (hm : ∀ x, x < N → rQ N a Q x = 1 → R x) (hR : ∀ t x, t < N → x < N → R t → mHas a t x = true → R x) : ∀ r x, x < N → rR N Q a its r x = 1 → R x
  | 0 => hm
  | r + 1 => rK_sub (rR_sub hm hR r) hR N (Nat.le_refl N)
theorem ring_eq (W : WI s a) {i N : Nat} {g : Nat → Nat} (hi : i < s 6) (hk : ¬ a 7 i = 0) (h6 : s1 6 = s 6) (h23 : s1 23 = N) (h24 : ∀ j, j < N → a1 24 j = g j) (h7 : a1 7 = a 7) (h8 : a1 8 = a 8) (h16 : a1 16 = a 16) (h19 : a1 19 = a 19) (h20 : a1 20 = a 20) (hg : ∀ j, j < N → g j < s 6) (row : rowOK s a (a 7 i) g N = true) :
    (ldN a (s 6) (rowM g N) (s 6)).testBit i = mRing s1 a1 i := by
  have Z := W.gone
  have hb : ∀ t x, t < s 6 → (mBits a t).testBit x = true → x < s 6 ∧ ¬ a 7 t = 0 ∧ (a 7 t = 1 → a 7 x = 0) := by
    intro t x ht h
    rw [mBits_bit] at h
    obtain ⟨j, hj, e⟩ := anyN_iff.mp h
    have e := of_decide_eq_true e
    have hV := W.V (a 8 t) (W.K.2 t ht).1
    rw [(W.N.2.1 t ht).1] at hV
    have h5 := hV.2.2.2.2.2 j hj
    rw [e] at h5
    exact ⟨h5.1, fun z => by have := hV.2.2.2.2.1 z; omega, h5.2⟩
  have hh : ∀ t x, t < s 6 → mHas a1 t x = (mBits a t).testBit x := by
    intro t x ht
    rw [← has_bit (Z t ht) x]
    unfold mHas mIs
    rw [h8, h16, h19, h20]
  unfold mRing
  rw [h7, h6, h23]
  by_cases k2 : a 7 i = 2
  · rw [decide_eq_true k2, Bool.true_and]
    -- every mark of the class is one of the reference's
    have c1 : ∀ r x, x < s 6 → a 7 x = 2 → (ldN a (s 6) (rowM g N) r).testBit x = true → rR (s 6) N a1 i r x = 1 ∨ rR (s 6) N a1 i r i = 1 := by
      intro r
      induction r with
      | zero =>
        intro x hx h2 h
        left
        have h : (rowM g N).testBit x = true := h
        rw [rowM_bit] at h
        obtain ⟨j, hj, e⟩ := anyN_iff.mp h
        exact (rQ_iff hx N).mpr ⟨j, hj, by rw [h24 j hj]; exact of_decide_eq_true e, by rw [h7]; exact h2⟩
      | succ r ih =>
        intro x hx h2 h
        rw [ld_step, Bool.or_eq_true] at h
        rcases h with h | h
        · rcases ih x hx h2 h with z | z
          · exact Or.inl (rK_mono z (s 6))
          · exact Or.inr (rK_mono z (s 6))
        · obtain ⟨t, ht, e⟩ := anyN_iff.mp h
          rw [Bool.and_eq_true] at e
          have hbt := hb t x ht e.2
          have h7t : a 7 t = 2 := by
            have := W.I.kind t
            by_cases z : a 7 t = 1
            · have := hbt.2.2 z; omega
            · omega
          rcases ih t ht h7t e.1 with z | z
          · by_cases et : t = i
            · exact Or.inr (rK_mono (by rw [← et]; rw [← et] at z; exact z) (s 6))
            · exact Or.inl (rK_mk z et (by rw [h7]; exact h2) (by rw [hh t x ht]; exact e.2) hx (s 6) ht)
          · exact Or.inr (rK_mono z (s 6))
    have c2 : rR (s 6) N a1 i (s 6) i = 1 → (ldN a (s 6) (rowM g N) (s 6)).testBit i = true :=
      rR_sub (R := fun x => (ldN a (s 6) (rowM g N) (s 6)).testBit x = true) (fun x hx h => by
        obtain ⟨j, hj, e, -⟩ := (rQ_iff hx N).mp h
        refine ld_mono (r := 0) _ _ x (Nat.zero_le _) ?_
        show (rowM g N).testBit x = true
        rw [rowM_bit]
        exact anyN_iff.mpr ⟨j, hj, decide_eq_true (by rw [← h24 j hj]; exact e)⟩) (fun t x ht hx h1 h2 => by
        rw [hh t x ht] at h2
        exact ld_mem ht hx h1 h2) (s 6) i hi
    by_cases e : rR (s 6) N a1 i (s 6) i = 1
    · rw [decide_eq_true e]; exact c2 e
    · rw [decide_eq_false e]
      cases hx : (ldN a (s 6) (rowM g N) (s 6)).testBit i with
      | false => rfl
      | true => exact absurd (c1 (s 6) i hi k2 hx) (fun z => z.elim e e)
  · rw [decide_eq_false k2, Bool.false_and]
    have k1 : a 7 i = 1 := by have := W.I.kind i; omega
    -- a way's row holds points, which lead to nothing
    have hpt : ∀ j, j < N → a 7 (g j) = 0 := by
      intro j hj
      unfold rowOK at row
      rw [Bool.and_eq_true] at row
      have hgj := allN_iff.mp row.2 j hj
      unfold gOK at hgj
      rw [Bool.and_eq_true, decide_eq_true k1, Bool.true_and] at hgj
      cases e : decide (a 7 (g j) = 0) with
      | true => exact of_decide_eq_true e
      | false => rw [e] at hgj; exact absurd hgj.2 (by decide)
    have c3 : ∀ r x, (ldN a (s 6) (rowM g N) r).testBit x = true → x < s 6 ∧ a 7 x = 0 := by
      intro r
      induction r with
      | zero =>
        intro x h
        have h : (rowM g N).testBit x = true := h
        rw [rowM_bit] at h
        obtain ⟨j, hj, e⟩ := anyN_iff.mp h
        rw [← of_decide_eq_true e]
        exact ⟨hg j hj, hpt j hj⟩
      | succ r ih =>
        intro x h
        rw [ld_step, Bool.or_eq_true] at h
        rcases h with h | h
        · exact ih x h
        · obtain ⟨t, ht, e⟩ := anyN_iff.mp h
          rw [Bool.and_eq_true] at e
          exact absurd (ih t e.1).2 (hb t x ht e.2).2.1
    cases hx : (ldN a (s 6) (rowM g N) (s 6)).testBit i with
    | false => rfl
    | true => exact absurd (c3 (s 6) i hx).2 hk
/-- what make and change need -/
theorem WI.rowD (W : WI s a) : mRowD s a := fun w => row_unl (s1 := va_up (va_up s 25 0) 23 (s 4)) (a1 := aDr a (s 4)) rfl (fun j hj => if_pos hj) rfl rfl rfl W.T.2.2.2
theorem WI.ringD (W : WI s a) : mRingD s a := fun i hi hk row => ring_eq W hi hk (s1 := va_up (va_up s 25 0) 23 (s 4)) (a1 := aDr a (s 4)) rfl rfl (fun j hj => if_pos hj) rfl rfl rfl rfl rfl W.T.2.2.2 row
end RING
