/-! What the constructors of the store and of the reference leave. -/
def s0 : mS := fun _ => 0
def a0 : mA := fun k _ => if k = 13 then 1 else 0
section INIT
variable {X : jX} {G : jG} {cc : ByteArray} {nL : Nat} {Ts : List Cond} {own : String} {pc k n : Nat} {l : List (Nat × Value)} {st : List Value} {h : jH}
theorem j_low {b : Nat} {e : va_E} (he : h b = some e) (kk : G.1 ≤ b → jW X G nL k n pc l st h) : jW X G nL k n pc l st h := fun H locs ls hR hS hl => kk (hR b e he).2 H locs ls hR hS hl
theorem jC.dflt (C : jC X G cc nL Ts own) : G.2.2.2.1 < G.1 := by
  have := va_T.out C.2.2.2.2.2.2.2.1.2.2.2.2.1
  have z : ¬ G.1 ≤ G.2.2.2.1 := this
  omega
end INIT
section BUILD
variable {G : jG} {mo : Nat} {a : mA} {h0 h : jH} {D : Nat → Bool} {ad : Nat → Nat}
/-- the reference's arrays that are made already -/
def bM (G : jG) (mo : Nat) (a : mA) (h0 : jH) (D : Nat → Bool) (ad : Nat → Nat) (h : jH) : Prop :=
  (∀ i j, i < 26 → j < 26 → D i = true → D j = true → ad i = ad j → i = j) ∧ (∀ i, i < 26 → D i = true → ad i ≠ mo ∧ h (ad i) = some (mC G a i) ∧ h0 (ad i) = none) ∧ (∀ q, q ≠ mo → (∀ i, i < 26 → D i = true → q ≠ ad i) → h q = h0 q) ∧ h mo ≠ none
theorem bM.zero (hm : h mo ≠ none) : bM G mo a h (fun _ => false) (fun _ => 0) h := ⟨fun i j _ _ hi => Bool.noConfusion hi, fun i _ hi => Bool.noConfusion hi, fun q _ _ => rfl, hm⟩
theorem bM.step (B : bM G mo a h0 D ad h) {k q : Nat} {e c : va_E} (hk : k < 26) (hD : D k = false) (he : e = mC G a k) (hq : h q = none) : bM G mo a h0 (va_up D k true) (va_up ad k q) (jup (jup h q e) mo c) := by
  obtain ⟨b1, b2, b3, b4⟩ := B
  have qm : q ≠ mo := fun z => b4 (by rw [← z]; exact hq)
  have qd : ∀ i, i < 26 → D i = true → ad i ≠ q := fun i hi hd z => by
    have := (b2 i hi hd).2.1
    rw [z, hq] at this
    cases this
  have hd : ∀ i, i ≠ k → va_up D k true i = true → D i = true := fun i hi z => by rw [up_n hi] at z; exact z
  have q0 : h0 q = none := by rw [← b3 q qm (fun i hi z => (qd i hi z).symm)]; exact hq
  refine ⟨fun i j hi hj di dj z => ?_, fun i hi di => ?_, fun w wm wd => ?_, ?_⟩
  · by_cases ei : i = k
    · by_cases ej : j = k
      · rw [ei, ej]
      · rw [ei, up_s, up_n ej] at z
        exact absurd z.symm (qd j hj (hd j ej dj))
    · by_cases ej : j = k
      · rw [ej, up_s, up_n ei] at z
        exact absurd z (qd i hi (hd i ei di))
      · rw [up_n ei, up_n ej] at z
        exact b1 i j hi hj (hd i ei di) (hd j ej dj) z
  · by_cases ei : i = k
    · rw [ei, up_s]
      exact ⟨qm, (jup_ne qm).trans (by rw [jup_self, he]), q0⟩
    · rw [up_n ei]
      have := b2 i hi (hd i ei di)
      exact ⟨this.1, (jup_ne this.1).trans ((jup_ne (qd i hi (hd i ei di))).trans this.2.1), this.2.2⟩
  · have wq : w ≠ q := by
      have := wd k hk (by rw [up_s])
      rw [up_s] at this
      exact this
    rw [jup_ne wm, jup_ne wq]
    refine b3 w wm (fun i hi z => ?_)
    have ei : i ≠ k := fun e => by rw [e, hD] at z; exact Bool.noConfusion z
    have := wd i hi (by rw [up_n ei]; exact z)
    rw [up_n ei] at this
    exact this
  · rw [jup_self]; exact fun z => by cases z
/-- all of them are made -/
theorem bM.all (B : bM G mo a h0 D ad h) (hA : ∀ i, i < 26 → D i = mIsA i) {s : mS} (hm : h mo = some (.inr (5, mF ad s))) : mG mo ad ∧ (∀ i, i < 26 → mIsA i = true → h0 (ad i) = none) ∧ h = hM G mo ad h0 s a := by
  obtain ⟨b1, b2, b3, b4⟩ := B
  have M : mG mo ad := ⟨fun i j hi hj di dj z => b1 i j hi hj (by rw [hA i hi]; exact di) (by rw [hA j hj]; exact dj) z, fun i hi di => (b2 i hi (by rw [hA i hi]; exact di)).1⟩
  refine ⟨M, fun i hi di => (b2 i hi (by rw [hA i hi]; exact di)).2.2, ?_⟩
  funext q
  by_cases e : q = mo
  · rw [e, hM_obj]; exact hm
  · by_cases c : ∃ i, i < 26 ∧ mIsA i = true ∧ q = ad i
    · obtain ⟨i, hi, di, rfl⟩ := c
      rw [hM_arr M hi di]
      exact (b2 i hi (by rw [hA i hi]; exact di)).2.1
    · have hn : ∀ i, i < 26 → mIsA i = true → q ≠ ad i := fun i hi di z => c ⟨i, hi, di, z⟩
      rw [b3 q e (fun i hi z => hn i hi (by rw [← hA i hi]; exact z))]
      unfold hM
      rw [if_neg e]
      cases hf : (List.range 26).find? (fun k => mIsA k && (ad k == q)) with
      | none => rfl
      | some i =>
        have h1 := List.find?_some hf
        have h2 := List.mem_range.mp (List.mem_of_find?_eq_some hf)
        rw [Bool.and_eq_true, beq_iff_eq] at h1
        exact absurd h1.2.symm (hn i h2 h1.1)
theorem mV_0 (k j : Nat) : mV k (a0 k j) = 0 := by
  unfold mV a0
  split
  · rfl
  · rfl
theorem mC_i {k : Nat} (hZ : mZ k = false) : (Sum.inl (G.2.2.1.1, mLen k, Sum.inl (fun _ => 0)) : va_E) = mC G a0 k := by
  unfold mC
  rw [hZ, if_neg (by decide), show (fun j => mV k (a0 k j)) = fun _ => 0 from funext (fun j => mV_0 k j)]
theorem mC_z {k : Nat} (hZ : mZ k = true) : (Sum.inl (G.2.2.1.2.1, mLen k, Sum.inl (fun _ => 0)) : va_E) = mC G a0 k := by
  unfold mC
  rw [hZ, if_pos rfl, show (fun j => mV k (a0 k j)) = fun _ => 0 from funext (fun j => mV_0 k j)]
end BUILD
theorem IS.s0 : IS s0 := ⟨fun _ => by show 0 < _; omega, Nat.zero_le _, Nat.zero_le _, Nat.zero_le _, Nat.zero_le _, Nat.zero_le _⟩
theorem a0_le (k j : Nat) (h : k ≠ 13) : a0 k j = 0 := if_neg h
theorem IA.a0 : IA a0 := by
  have z : ∀ k j, k ≠ 13 → _root_.Jvm.Pilot.CMapRevisionsLaw_law_r9180_c54c76.a0 k j = 0 := fun k j h => if_neg h
  refine ⟨fun f j => ?_, fun j => ?_, fun j => ?_, fun j => ?_, fun j => ?_, fun j => ?_, fun j => ?_, fun j hj => ?_, fun j => ?_, fun j => ?_, fun j => ?_, fun j => ?_, fun j => ?_, fun j => ?_⟩
  · by_cases h : f = 13
    · rw [h]; show 1 < _; omega
    · rw [z f j h]; omega
  · rw [z _ j (by decide)]; omega
  · rw [z _ j (by decide)]; omega
  · rw [z _ j (by decide)]; omega
  · rw [z _ j (by decide)]; omega
  · rw [z _ j (by decide)]; omega
  · rw [z _ j (by decide)]; omega
  · show 1 ≤ j; omega
  · rw [z _ j (by decide)]; omega
  · rw [z _ j (by decide)]; omega
  · rw [z _ j (by decide)]; omega
  · rw [z _ j (by decide)]; omega
  · rw [z _ j (by decide)]; omega
  · rw [z _ j (by decide)]; omega
theorem WW.start : WW 0 s0 a0 := by
  refine ⟨⟨IS.s0, IA.a0, ⟨fun p hp => absurd hp (Nat.not_lt_zero p), fun t ht => absurd ht (Nat.not_lt_zero t)⟩, ⟨fun p hp => absurd hp (Nat.not_lt_zero p), fun t ht => absurd ht (Nat.not_lt_zero t), fun p q _ hq => absurd hq (Nat.not_lt_zero q)⟩, fun v hv => absurd hv (Nat.not_lt_zero v), ⟨Nat.le_refl _, Nat.zero_le _, fun t _ => rfl, fun j hj => absurd hj (Nat.not_lt_zero j)⟩⟩, Nat.zero_le _⟩
