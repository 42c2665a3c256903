/-! More writes of the class, and numbers of versions against places. -/
section CQ3
variable {G : jG} {P : Nat → Prop} {xo : Nat} {xa th va ca ma : Nat → Nat} {dat cap : Nat} {mod : Int32} {df : Nat → Option Nat} {vf dr : Nat → Int32} {mf : Nat → Nat → Int32} {s : mS} {a : mA} {h : jH}
theorem cQ.on3 (Q : cQ G P xo xa th va ca ma dat cap mod df vf dr mf s a h) : xo ≠ xa 3 := fun z => by
  have h1 := Q.obj; rw [z, Q.closed] at h1; cases h1
theorem cQ.on5 (Q : cQ G P xo xa th va ca ma dat cap mod df vf dr mf s a h) : xo ≠ xa 5 := fun z => by
  have h1 := Q.obj; rw [z, Q.draft] at h1; cases h1
theorem cQ.xa_ne (Q : cQ G P xo xa th va ca ma dat cap mod df vf dr mf s a h) {i j : Nat} (hi : i < 6) (hj : j < 6) (hn : i ≠ j) : xa i ≠ xa j := fun z => hn (Q.2.2.2.2.2.2.2.2.2.2.2.2.2.1 i j hi hj z)
/-- the draft is written -/
theorem cQ.putD (Q : cQ G P xo xa th va ca ma dat cap mod df vf dr mf s a h) (I : IA a) {v : Nat} {s' : mS} (e6 : s' 6 = s 6) (e10 : s' 10 = s 10) (e4 : s' 4 = s 4 + 1) : cQ G P xo xa th va ca ma dat cap mod df vf (upd dr (s 4) (nI v)) mf s' (va_up2 a 5 (s 4) v) (jup (jup h (xa 5) (.inl (G.2.2.1.1, 6, .inl (upd dr (s 4) (nI v))))) xo (.inr (4, xF xa s'))) := by
  have Q1 : cQ G P xo xa th va ca ma dat cap mod df vf (upd dr (s 4) (nI v)) mf s (va_up2 a 5 (s 4) v) (jup h (xa 5) (.inl (G.2.2.1.1, 6, .inl (upd dr (s 4) (nI v))))) := by
    have hap := Q.2.2.2.2.2.2.2.2.2.2.2.2.2.1
    have hma := Q.2.2.2.2.2.2.2.2.2.2.2.2.2.2.2.2.1
    have hne : ∀ {j : Nat}, 5 < 6 → j < 6 → 5 ≠ j → xa 5 ≠ xa j := fun h1 h2 h3 => Q.xa_ne h1 h2 h3
    have k : ∀ (q : Nat) (e : va_E), h q = some e → q ≠ xa 5 → jup h (xa 5) (.inl (G.2.2.1.1, 6, .inl (upd dr (s 4) (nI v)))) q = some e := fun q e he hne => by rw [jup_ne hne]; exact he
    have ko : ∀ (q : Nat) (ci : Nat) (fs : List Value), h q = some (.inr (ci, fs)) → q ≠ xa 5 := fun q ci fs he z => by
      rw [z, Q.draft] at he; cases he
    have dre : ∀ j, j < s 4 → upd dr (s 4) (nI v) j = nI (va_up2 a 5 (s 4) v 5 j) := fun j hj => by
      unfold va_up2
      rw [up_s, pk_un (by omega), up_n (by omega)]
      exact Q.dre hj
    obtain ⟨q1, q2, q3, q4, q5, ⟨q6, q6'⟩, ⟨q7, q7'⟩, q8, q9, q10, q11, q12, q13⟩ := Q
    refine ⟨k _ _ q1 (ko _ _ _ q1), k _ _ q2 (hne (by decide) (by decide) (by decide)).symm, k _ _ q3 (ko _ _ _ q3), k _ _ q4 (ko _ _ _ q4), k _ _ q5 (hne (by decide) (by decide) (by decide)).symm, ⟨k _ _ q6 (hne (by decide) (by decide) (by decide)).symm, q6'⟩, ⟨jup_self _ _ _, dre⟩, ?_, ?_, ?_, ?_, ?_, q13⟩
    · rcases q8 with h1 | ⟨h1, h2, h3, h4, h5⟩
      · exact Or.inl h1
      · exact Or.inr ⟨h1, h2, h3, k _ _ h4 (fun z => by
          rw [z] at h4
          have h6 := Option.some.inj (q7.symm.trans h4)
          have h7 := congrArg (fun e : va_E => match e with | .inl (_, _, .inl _) => true | _ => false) h6
          exact Bool.noConfusion h7), h5⟩
    · exact fun t ht => ⟨k _ _ (q9 t ht).1 (ko _ _ _ (q9 t ht).1), (q9 t ht).2⟩
    · exact fun v hv => ⟨k _ _ (q10 v hv).1 (ko _ _ _ (q10 v hv).1), (q10 v hv).2⟩
    · exact fun v hv => k _ _ (q11 v hv) (ko _ _ _ (q11 v hv))
    · exact fun w hw => ⟨k _ _ (q12 w hw).1 (hma w hw).2, (q12 w hw).2⟩
  refine Q1.putO2 e6 e10 (fun j hj => ?_)
  by_cases hj2 : j = s 4
  · subst hj2
    unfold va_up2
    rw [up_s, pk_us, up_s]
  · exact Q1.dre (by omega)
/-- a version is hidden -/
theorem cQ.putH (Q : cQ G P xo xa th va ca ma dat cap mod df vf dr mf s a h) {p : Nat} (hp : p < s 10) : cQ G P xo xa th va ca ma dat cap mod df vf dr mf s (va_up2 a 17 p 1) (jup h (va p) (.inr (3, [cP va (a 13 p), .int (nI (a 12 p)), .int (nI (a 14 p)), .int (nI (a 15 p)), .ref (ca p), .int (nI 1)]))) := by
  have hvv := Q.2.2.2.2.2.2.2.2.2.2.2.2.2.2.2.1
  have hv0 := Q.ver hp
  have k : ∀ (q : Nat) (e : va_E), h q = some e → q ≠ va p → jup h (va p) (.inr (3, [cP va (a 13 p), .int (nI (a 12 p)), .int (nI (a 14 p)), .int (nI (a 15 p)), .ref (ca p), .int (nI 1)])) q = some e := fun q e he hne => by rw [jup_ne hne]; exact he
  have ko : ∀ (q : Nat) (ci : Nat) (fs : List Value), h q = some (.inr (ci, fs)) → ci ≠ 3 → q ≠ va p := fun q ci fs he hc z => by
    rw [z, hv0] at he; cases he; exact hc rfl
  have ka : ∀ (q : Nat) (x), h q = some (.inl x) → q ≠ va p := fun q x he z => by
    rw [z, hv0] at he; cases he
  obtain ⟨q1, q2, q3, q4, q5, ⟨q6, q6'⟩, ⟨q7, q7'⟩, q8, q9, q10, q11, q12, q13⟩ := Q
  refine ⟨k _ _ q1 (ko _ _ _ q1 (by decide)), k _ _ q2 (ka _ _ q2), k _ _ q3 (ko _ _ _ q3 (by decide)), k _ _ q4 (ko _ _ _ q4 (by decide)), k _ _ q5 (ka _ _ q5), ⟨k _ _ q6 (ka _ _ q6), q6'⟩, ⟨k _ _ q7 (ka _ _ q7), q7'⟩, ?_, ?_, ?_, ?_, ?_, q13⟩
  · rcases q8 with h1 | ⟨h1, h2, h3, h4, h5⟩
    · exact Or.inl h1
    · exact Or.inr ⟨h1, h2, h3, k _ _ h4 (ka _ _ h4), h5⟩
  · exact fun t ht => ⟨k _ _ (q9 t ht).1 (ko _ _ _ (q9 t ht).1 (by decide)), (q9 t ht).2⟩
  · intro v hv
    refine ⟨?_, (q10 v hv).2⟩
    by_cases e : v = p
    · subst e
      rw [jup_self, show va_up2 a 17 v 1 17 v = 1 from by unfold va_up2; rw [up_s, up_s]]
      rfl
    · rw [jup_ne (fun z => e (hvv v p hv hp z)), show va_up2 a 17 p 1 17 v = a 17 v from by unfold va_up2; rw [up_s, up_n e]]
      exact (q10 v hv).1
  · exact fun v hv => k _ _ (q11 v hv) (ko _ _ _ (q11 v hv) (by decide))
  · exact fun w hw => ⟨k _ _ (q12 w hw).1 (ka _ _ (q12 w hw).1), (q12 w hw).2⟩
end CQ3
