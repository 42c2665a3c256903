/-! Undoing keeps what holds of the store: each version it makes uses up a pair. -/
def WU (n b o N : Nat) (s : mS) (a : mA) : Prop := WI s a ∧ WB n s a ∧ a 3 b = 0 ∧ a 3 o = 1 ∧ b < s 2 ∧ o < 20 ∧ s 6 = N
section UNDO
variable {n b o N : Nat} {s : mS} {a : mA}
theorem bu_of (W : WI s a) {t : Nat} : ∀ f p, p < s 10 → a 11 p = t → buF a o f (p + 1) ≠ 0 → buF a o f (p + 1) - 1 < s 10 ∧ a 11 (buF a o f (p + 1) - 1) = t
  | 0, p, _, _, h => absurd rfl h
  | f + 1, p, hp, ht, h => by
    have e : buF a o (f + 1) (p + 1) = if a 14 p = o then buF a o f (a 13 p) else p + 1 := rfl
    rw [e] at h ⊢
    by_cases c : a 14 p = o
    · rw [if_pos c] at h ⊢
      have h13 := W.A p hp
      obtain ⟨k, hk⟩ : ∃ k, a 13 p = k + 1 := ⟨a 13 p - 1, by
        by_cases z : a 13 p = 0
        · rw [z] at h
          exact absurd (by cases f <;> rfl) h
        · omega⟩
      rw [hk] at h ⊢
      have h11 := (W.N.1 p hp).2.2 (by omega)
      rw [hk, Nat.add_sub_cancel] at h11
      exact bu_of W f k (by omega) (h11.trans ht) h
    · rw [if_neg c] at h ⊢
      exact ⟨hp, ht⟩
theorem mBU_of (W : WI s a) {t : Nat} (ht : t < s 6) (h : mBU a t o ≠ 0) : mBU a t o - 1 < s 10 ∧ a 11 (mBU a t o - 1) = t := bu_of W 1400 (a 8 t) (W.K.2 t ht).1 (W.N.2.1 t ht).1 h
theorem WU.same (h : WU n b o N s a) {s' : mS} {a' : mA} (J' : IS s') (I' : IA a') (hs : ∀ f, f ≠ 23 → s' f = s f) (ha : ∀ f, f ≠ 24 → f ≠ 21 → a' f = a f) : WU n b o N s' a' := by
  obtain ⟨W, B, h1, h2, h3, h4, h5⟩ := h
  have e0 := hs 0 (by decide)
  have e1 := hs 1 (by decide)
  have e2 := hs 2 (by decide)
  have e4 := hs 4 (by decide)
  have e6 := hs 6 (by decide)
  have e10 := hs 10 (by decide)
  have e3 := ha 3 (by decide) (by decide)
  refine ⟨W.keep J' I' e6 e10 (by omega) (by omega) (by rw [e0, e1]; exact W.T.1) (by rw [e0]; exact W.T.2.1) (fun j hj => ?_) (fun f hf => ha f (by omega) (by omega)), B.keep e10 e6 (ha 8 (by decide) (by decide)) (ha 14 (by decide) (by decide)) (fun o ho => by rw [e3]; exact ho), by rw [e3]; exact h1, by rw [e3]; exact h2, by rw [e2]; exact h3, h4, by rw [e6]; exact h5⟩
  rw [ha 5 (by decide) (by decide)]
  exact W.T.2.2.2 j (by omega)
theorem WU.made (h : WU n b o N s a) (hn : n ≤ 512) {t th at_ : Nat} {s1 : mS} {a1 : mA} (ht : t < s 6) (hl : a 14 (a 8 t) = o) (J1 : IS s1) (I1 : IA a1) (hs : ∀ f, f ≠ 23 → s1 f = s f) (ha : ∀ f, f ≠ 24 → f ≠ 21 → a1 f = a f) (hth : th ≤ 1) (hat : at_ < 1048576) (h0 : th = 0 → at_ = 0) (hm : th ≠ 0 → ∀ j, j < s1 23 → a1 24 j < s 6 ∧ (a 7 t = 1 → a 7 (a1 24 j) = 0)) (hk : th ≠ 0 → a 7 t = 0 → s1 23 = 0) : WU n b o N (va_up s1 10 (s 10 + 1)) (mkA s1 a1 b t th at_) := by
  obtain ⟨W, B, h1, h2, h3, h4, h5⟩ := h
  have hB := B.le
  have e10 := hs 10 (by decide)
  have e7 := ha 7 (by decide) (by decide)
  have e6 : va_up s1 10 (s 10 + 1) 6 = s 6 := hs 6 (by decide)
  have e3 : mkA s1 a1 b t th at_ 3 = a 3 := by rw [mkA_3, ha 3 (by decide) (by decide)]
  have h6 := W.J.2.1
  refine ⟨W.make (s1 := s1) (a1 := a1) e10 (hs 0 (by decide)) J1.2.2.2.2.2 up_s (hs 0 (by decide)) (hs 1 (by decide)) (hs 2 (by decide)) (hs 4 (by decide)) (Or.inl ⟨e6, ht⟩) J1 (by have := J1.more (by rw [e10]; omega); rw [e10] at this; exact this) I1 (fun f h24 h21 _ => ha f h24 h21) (fun t _ => by rw [e7]) h3 hth hat h0 (by omega) (by rw [e7]; exact hm) (by rw [e7]; exact hk), B.undo (i := t) (b := b) (o := o) (fun t ht => (W.K.2 t ht).1) up_s e6.symm e3 (by rw [mkA_r8, e10, ha 8 (by decide) (by decide)]) (by rw [mkA_14, e10, ha 14 (by decide) (by decide)]) h1 ht (by omega) h2 h4 hl, by rw [e3]; exact h1, by rw [e3]; exact h2, ?_, h4, ?_⟩
  · show b < s1 2
    rw [hs 2 (by decide)]; exact h3
  · rw [e6]; exact h5
theorem WU.und0 (h : WU n b o N s a) (hn : n ≤ 512) {t : Nat} (ht : t < s 6) (hl : a 14 (a 8 t) = o) : WU n b o N (oUnd0 s a b t).2.1 (oUnd0 s a b t).2.2 := by
  unfold oUnd0
  split
  · exact h
  · exact h.made hn (s1 := va_up s 23 0) (a1 := a) ht hl (h.1.J.asked (by omega)) h.1.I (fun f h23 => up_n h23) (fun f _ _ => rfl) (by omega) (by omega) (fun _ => rfl) (fun z => absurd rfl z) (fun z => absurd rfl z)
theorem WU.und1 (h : WU n b o N s a) (hn : n ≤ 512) {t p : Nat} (ht : t < s 6) (hl : a 14 (a 8 t) = o) (hp : p < s 10) (hpt : a 11 p = t) : WU n b o N (oUnd1 s a b t p).2.1 (oUnd1 s a b t p).2.2 := by
  have hsz := h.1.I.size p
  have J1 : IS (va_up (va_up s 23 0) 23 (a 19 p)) := (h.1.J.asked (v := 0) (by omega)).asked hsz
  have hs1 : ∀ f, f ≠ 23 → va_up (va_up s 23 0) 23 (a 19 p) f = s f := fun f h23 => by rw [up_n h23, up_n h23]
  have ha1 : ∀ f, f ≠ 24 → f ≠ 21 → aVr a p (a 19 p) f = a f := fun f h24 _ => by unfold aVr; exact up_n h24
  have ha2 : ∀ f, f ≠ 24 → f ≠ 21 → mRingA (va_up (va_up s 23 0) 23 (a 19 p)) (aVr a p (a 19 p)) t f = a f := fun f h24 h21 => by rw [mRingA_k h21]; exact ha1 f h24 h21
  have hV := h.1.V p hp
  rw [hpt] at hV
  have e24 : ∀ j, j < a 19 p → aVr a p (a 19 p) 24 j = a 20 (6 * p + j) := fun j hj => if_pos hj
  unfold oUnd1
  split
  · rename_i c
    have z := hV.2.2.2.2.1 c
    refine h.made hn ht hl J1 (h.1.I.aVr _ _) hs1 ha1 (Nat.le_refl _) (h.1.I.big 18 p) (fun z => absurd z (by decide)) (fun _ j hj => ?_) (fun _ _ => ?_)
    · have hj : j < a 19 p := hj
      omega
    · exact z
  · rename_i c
    split
    · exact h.same J1 (h.1.I.aVr _ _) hs1 ha1
    · rename_i c4
      split
      · exact h.same J1 ((h.1.I.aVr _ _).ring _) hs1 ha2
      · have hu := mUnl_f c4
        refine h.made hn ht hl J1 ((h.1.I.aVr _ _).ring _) hs1 ha2 (Nat.le_refl _) (h.1.I.big 18 p) (fun z => absurd z (by decide)) (fun _ j hj => ?_) (fun _ z => absurd z c)
        have hj : j < a 19 p := hj
        rw [mRingA_k (by decide), e24 j hj]
        exact hV.2.2.2.2.2 j hj
theorem WU.undoes (h : WU n b o N s a) (hn : n ≤ 512) {t : Nat} (ht : t < s 6) (hl : a 14 (a 8 t) = o) : WU n b o N (oUndoes s a b t o).2.1 (oUndoes s a b t o).2.2 := by
  unfold oUndoes
  split
  · exact h.und0 hn ht hl
  · rename_i c
    have hb := mBU_of h.1 ht c
    split
    · exact h.und1 hn ht hl hb.1 hb.2
    · exact h.und0 hn ht hl
theorem WU.u1 {k : Nat} (h : WU n b o N s a) (hn : n ≤ 512) {t : Nat} (ht : t < N) : WU n b o N (oU1 b o t (k, s, a)).2.1 (oU1 b o t (k, s, a)).2.2 := by
  have h6 := h.2.2.2.2.2.2
  unfold oU1
  split
  · split
    · rename_i c
      exact h.undoes hn (by omega) c
    · exact h
  · exact h
theorem WU.ur (hn : n ≤ 512) : ∀ t (z : mZ3), t ≤ N → WU n b o N z.2.1 z.2.2 → WU n b o N (oUR b o t z).2.1 (oUR b o t z).2.2
  | 0, z, _, h => h
  | t + 1, (k, s, a), ht, h => WU.ur hn t (oU1 b o t (k, s, a)) (by omega) (h.u1 hn (by omega))
theorem WW.toU (h : WW n s a) {p q : Int32} (c1 : inN p (s 2) = true ∧ inN q (s 2) = true) (c2 : a 3 (tn p) = 0 ∧ a 3 (tn q) = 1) : WU n (tn p) (tn q) (s 6) (va_up s 25 0) a := by
  have h2 := h.1.J.2.2.1
  have hq := inN_tn c1.2
  have hp := inN_tn c1.1
  exact ⟨h.1.keep h.1.J.i25 h.1.I rfl rfl (Nat.le_refl _) (Nat.le_refl _) h.1.T.1 h.1.T.2.1 h.1.T.2.2.2 (fun f _ => rfl), h.2.keep (s' := va_up s 25 0) (a' := a) rfl rfl rfl rfl (fun o ho => ho), c2.1, c2.2, hp, by omega, rfl⟩
theorem WW.undo (h : WW n s a) (hn : n ≤ 512) (p q : Int32) : WW (n + 1) (oUndo s a p q).2.1 (oUndo s a p q).2.2 := by
  unfold oUndo
  split
  · rename_i c1
    split
    · rename_i c2
      have hu := WU.ur hn (s 6) (0, va_up s 25 0, a) (Nat.le_refl _) (h.toU c1 c2)
      exact ⟨hu.1, hu.2.1.more (Nat.le_succ n)⟩
    · exact h.th (by decide)
  · exact h.th (by decide)
end UNDO
