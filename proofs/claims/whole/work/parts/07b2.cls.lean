/-! The number asked for, against the place. -/
theorem nv_pl {s : mS} {a : mA} (A : ∀ v, v < s 10 → a 13 v ≤ v) (K : mCh s a) (I : IA a) {i : Nat} (hi : 1 ≤ i) (hb : i < 1048576) : ∀ f p, p + 1 ≤ f → p + 1 ≤ s 10 → i ≤ a 12 p → nvF a (nI i) f (p + 1) = plF a i f p + 1
  | 0, p, h, _, _ => absurd h (Nat.not_succ_le_zero p)
  | f + 1, p, h, hp, hn => by
    have e1 : nvF a (nI i) (f + 1) (p + 1) = if nI (a 12 p) = nI i then p + 1 else nvF a (nI i) f (a 13 p) := rfl
    have e2 : plF a i (f + 1) p = if i < a 12 p then plF a i f (a 13 p - 1) else p := rfl
    have hz := A p hp
    have hg := I.1 12 p
    rw [e1, e2]
    by_cases hc : i < a 12 p
    · rw [if_pos hc, if_neg (fun z => by have := (nI_eq (a := a 12 p) (b := i) (by omega) (by omega)).mp z; omega)]
      rcases K.1 p hp with ⟨h1, h2⟩ | ⟨h1, h2⟩
      · omega
      · obtain ⟨m, hm⟩ : ∃ m, a 13 p = m + 1 := ⟨a 13 p - 1, by omega⟩
        rw [hm] at h2 hz ⊢
        exact nv_pl A K I hi hb f m (by omega) (by omega) (by rw [Nat.add_sub_cancel] at h2; omega)
    · rw [if_neg hc, if_pos (by rw [show a 12 p = i by omega])]
theorem nv_no {s : mS} {a : mA} (A : ∀ v, v < s 10 → a 13 v ≤ v) (K : mCh s a) {v : Int32} : ∀ f p, p + 1 ≤ s 10 → (∀ i, 1 ≤ i → i ≤ a 12 p → v ≠ nI i) → nvF a v f (p + 1) = 0
  | 0, _, _, _ => rfl
  | f + 1, p, hp, hn => by
    have e1 : nvF a v (f + 1) (p + 1) = if nI (a 12 p) = v then p + 1 else nvF a v f (a 13 p) := rfl
    have hz := A p hp
    have h12 : 1 ≤ a 12 p := by rcases K.1 p hp with ⟨h1, h2⟩ | ⟨h1, h2⟩ <;> omega
    rw [e1, if_neg (fun z => hn _ h12 (Nat.le_refl _) z.symm)]
    rcases K.1 p hp with ⟨h1, h2⟩ | ⟨h1, h2⟩
    · rw [h1]; cases f <;> rfl
    · obtain ⟨m, hm⟩ : ∃ m, a 13 p = m + 1 := ⟨a 13 p - 1, by omega⟩
      rw [hm] at h2 hz ⊢
      rw [Nat.add_sub_cancel] at h2
      exact nv_no A K f m (by omega) (fun i hi hi2 => hn i hi (by omega))
theorem nv_spec {s : mS} {a : mA} (J : IS s) (I : IA a) (A : ∀ v, v < s 10 → a 13 v ≤ v) (K : mCh s a) {t : Nat} (ht : t < s 6) (v : Int32) : (mIsV s a (nI t) v = true ∧ mNv a t v = mPl a t (tn v) + 1 ∧ (∃ i, 1 ≤ i ∧ i ≤ a 9 t ∧ i < 1048576 ∧ v = nI i)) ∨ (mIsV s a (nI t) v = false ∧ mNv a t v = 0) := by
  have h6 := J.2.1
  have h10 := J.2.2.2.2.1
  have hl := K.2 t ht
  rcases e : mIsV s a (nI t) v with _ | _
  · refine Or.inr ⟨rfl, ?_⟩
    refine nv_no A K 1400 (a 8 t) (by omega) (fun i hi hi2 z => ?_)
    have hg := I.1 12 (a 8 t)
    rw [mIsV_nI ht h6, z, decide_eq_true (nI_le hi (by omega)), decide_eq_true (nI_le (show i ≤ a 9 t by omega) (by omega))] at e
    exact Bool.noConfusion e
  · refine Or.inl ⟨rfl, ?_⟩
    rw [mIsV_nI ht h6] at e
    obtain ⟨i, h3, h4, rfl⟩ := inV_of (I.1 9 _) e
    have hg := I.1 9 t
    rw [tn_nI (by omega)]
    exact ⟨nv_pl A K I h3 (by omega) 1400 (a 8 t) (by omega) (by omega) (by omega), i, h3, h4, by omega, rfl⟩
