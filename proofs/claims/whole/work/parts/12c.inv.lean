/-! What stands between the law's calls: the reference in its cells, the store apart from them, over the same numbers. -/
section LAW0
variable {G : jG} {mo oo xo : Nat} {ad xa : Nat → Nat} {s s' : mS} {a a' : mA} {h h' h0 : jH} {c : Nat}
def LwP (mo oo : Nat) (ad : Nat → Nat) : Nat → Prop := fun q => q = mo ∨ q = oo ∨ ∃ i, i < 26 ∧ mIsA i = true ∧ q = ad i
theorem hM_off {q : Nat} (hm : q ≠ mo) (ha : ∀ i, i < 26 → mIsA i = true → q ≠ ad i) : hM G mo ad h0 s a q = h0 q := by
  unfold hM
  rw [if_neg hm]
  cases hf : (List.range 26).find? (fun k => mIsA k && (ad k == q)) with
  | none => rfl
  | some i =>
    have h1 := List.find?_some hf
    have h2 := List.mem_range.mp (List.mem_of_find?_eq_some hf)
    rw [Bool.and_eq_true, beq_iff_eq] at h1
    exact absurd h1.2.symm (ha i h2 h1.1)
theorem hM_self (M : mG mo ad) (h1 : h mo = some (.inr (5, mF ad s))) (h2 : ∀ i, i < 26 → mIsA i = true → h (ad i) = some (mC G a i)) : h = hM G mo ad h s a := by
  funext q
  by_cases e : q = mo
  · rw [e, hM_obj]; exact h1
  · by_cases z : ∃ i, i < 26 ∧ mIsA i = true ∧ q = ad i
    · obtain ⟨i, hi, di, hq⟩ := z
      rw [hq, hM_arr M hi di]
      exact h2 i hi di
    · exact (hM_off e (fun i hi di w => z ⟨i, hi, di, w⟩)).symm
def LwI (G : jG) (mo oo : Nat) (ad : Nat → Nat) (xo : Nat) (xa : Nat → Nat) (c : Nat) (s : mS) (a : mA) (h : jH) : Prop :=
  WW c s a ∧ cE G (LwP mo oo ad) xo xa s a h ∧ h mo = some (.inr (5, mF ad s)) ∧ (∀ i, i < 26 → mIsA i = true → h (ad i) = some (mC G a i)) ∧ ∃ v : Nat → Int64, h oo = some (.inl (G.2.2.1.2.2.2, 1, .inr (.inl v)))
theorem LwI.Pn (I : LwI G mo oo ad xo xa c s a h) : ∀ w, LwP mo oo ad w → h w ≠ none := by
  intro w hw z
  rcases hw with e | e | ⟨i, hi, di, e⟩
  · rw [e, I.2.2.1] at z; cases z
  · obtain ⟨v, hv⟩ := I.2.2.2.2
    rw [e, hv] at z; cases z
  · rw [e, I.2.2.2.1 i hi di] at z; cases z
theorem LwI.off (I : LwI G mo oo ad xo xa c s a h) : oo ≠ mo ∧ ∀ i, i < 26 → mIsA i = true → oo ≠ ad i := by
  obtain ⟨v, hv⟩ := I.2.2.2.2
  refine ⟨fun e => ?_, fun i hi di e => ?_⟩
  · rw [e, I.2.2.1] at hv; cases hv
  · rw [e, I.2.2.2.1 i hi di] at hv
    unfold mC at hv
    have hv := Option.some.inj hv
    injection hv with hv
    injection hv with _ hv
    injection hv with _ hv
    cases hv
theorem LwI.mid (I : LwI G mo oo ad xo xa c s a h) (M : mG mo ad) (hF : ∀ w, LwP mo oo ad w → w ≠ oo → h' w = h w) : h' = hM G mo ad h' s a :=
  hM_self M ((hF mo (Or.inl rfl) I.off.1.symm).trans I.2.2.1) (fun i hi di => (hF _ (Or.inr (Or.inr ⟨i, hi, di, rfl⟩)) (I.off.2 i hi di).symm).trans (I.2.2.2.1 i hi di))
theorem LwI.next (I : LwI G mo oo ad xo xa c s a h) (M : mG mo ad) (hF : ∀ w, LwP mo oo ad w → w ≠ oo → h' w = h w) (ho : ∃ v : Nat → Int64, h' oo = some (.inl (G.2.2.1.2.2.2, 1, .inr (.inl v)))) (hE : cE G (LwP mo oo ad) xo xa s' a' h') (hw : WW (c + 1) s' a') : LwI G mo oo ad xo xa (c + 1) s' a' (hM G mo ad h' s' a') := by
  refine ⟨hw, hE.off (fun q hq => hM_off (fun e => hq (Or.inl e)) (fun i hi di e => hq (Or.inr (Or.inr ⟨i, hi, di, e⟩)))) (fun q fs hq hp => ?_), hM_obj, fun i hi di => hM_arr M hi di, ?_⟩
  · rcases hp with e | e | ⟨i, hi, di, e⟩
    · rw [e, (hF mo (Or.inl rfl) I.off.1.symm).trans I.2.2.1] at hq
      have hq := Option.some.inj hq
      injection hq with hq
      injection hq with hq _
      exact absurd hq (by decide)
    · obtain ⟨v, hv⟩ := ho
      rw [e, hv] at hq; cases hq
    · rw [e, (hF _ (Or.inr (Or.inr ⟨i, hi, di, rfl⟩)) (I.off.2 i hi di).symm).trans (I.2.2.2.1 i hi di)] at hq
      unfold mC at hq
      cases hq
  · obtain ⟨v, hv⟩ := ho
    exact ⟨v, (hM_off I.off.1 I.off.2).trans hv⟩
end LAW0
theorem lg_self (x : Int64) : lg_cmp x x = 0 := by
  unfold lg_cmp
  rw [if_neg (show ¬ x > x from Int64.lt_irrefl), if_pos rfl]
theorem allN_ext {p q : Nat → Bool} {n : Nat} (h : ∀ t, t < n → p t = q t) : allN p n = allN q n := by
  induction n with
  | zero => rfl
  | succ n ih => rw [allN_s, allN_s, ih (fun t ht => h t (by omega)), h n (by omega)]
section LAW1
variable {s : mS} {a : mA} {n : Nat}
theorem WW.things (h : WW n s a) : WW (n + 1) (oThings s a).2.1 (oThings s a).2.2 := h.th (by decide)
theorem WW.isTrue (h : WW n s a) : WW (n + 1) (oIsTrue s a).2.1 (oIsTrue s a).2.2 := h.th (by decide)
theorem WW.latest (h : WW n s a) (p : Int32) : WW (n + 1) (oLatest s a p).2.1 (oLatest s a p).2.2 := by unfold oLatest; split <;> exact h.th (by decide)
theorem WW.isThere (h : WW n s a) (p : Int32) : WW (n + 1) (oIsThere s a p).2.1 (oIsThere s a p).2.2 := by unfold oIsThere; split <;> exact h.th (by decide)
theorem WW.members (h : WW n s a) (p : Int32) : WW (n + 1) (oMembers s a p).2.1 (oMembers s a p).2.2 := by unfold oMembers; split <;> exact h.th (by decide)
theorem WW.usedBy (h : WW n s a) (p : Int32) : WW (n + 1) (oUsedBy s a p).2.1 (oUsedBy s a p).2.2 := by unfold oUsedBy; split <;> exact h.th (by decide)
theorem WW.inCopy (h : WW n s a) (p : Int32) : WW (n + 1) (oInCopy s a p).2.1 (oInCopy s a p).2.2 := by unfold oInCopy; split <;> exact h.th (by decide)
theorem WW.whereIs (h : WW n s a) (p : Int32) : WW (n + 1) (oWhereIs s a p).2.1 (oWhereIs s a p).2.2 := by
  unfold oWhereIs
  split
  · split <;> exact h.th (by decide)
  · exact h.th (by decide)
theorem WW.setOf (h : WW n s a) (p v : Int32) : WW (n + 1) (oSetOf s a p v).2.1 (oSetOf s a p v).2.2 := by
  unfold oSetOf
  split
  · split <;> exact h.th (by decide)
  · exact h.th (by decide)
theorem WW.versionAt (h : WW n s a) (p w : Int32) : WW (n + 1) (oVersionAt s a p w).2.1 (oVersionAt s a p w).2.2 := by
  unfold oVersionAt
  split
  · split <;> exact h.th (by decide)
  · exact h.th (by decide)
end LAW1
