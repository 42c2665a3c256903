/-! The class's store grows by a version. -/
theorem jup_jup (h : jH) (a : Nat) (e e' : va_E) : jup (jup h a e) a e' = jup h a e' := by
  funext b
  unfold jup
  split <;> rfl
theorem jup_some {h : jH} {a b : Nat} {e e' : va_E} (hn : h a = none) (hb : h b = some e) : jup h a e' b = some e := by
  rw [jup_ne (fun z => by rw [z, hn] at hb; cases hb)]
  exact hb
section CQ4
variable {G : jG} {P : Nat → Prop} {xo : Nat} {xa th va ca ma : Nat → Nat} {dat cap : Nat} {mod : Int32} {df : Nat → Option Nat} {vf dr : Nat → Int32} {mf : Nat → Nat → Int32} {s : mS} {a : mA} {h : jH}
theorem cQ.mono (Q : cQ G P xo xa th va ca ma dat cap mod df vf dr mf s a h) {h' : jH} (k : ∀ q e, h q = some e → h' q = some e) : cQ G P xo xa th va ca ma dat cap mod df vf dr mf s a h' := by
  obtain ⟨q1, q2, q3, q4, q5, ⟨q6, q6'⟩, ⟨q7, q7'⟩, q8, q9, q10, q11, q12, q13⟩ := Q
  refine ⟨k _ _ q1, k _ _ q2, k _ _ q3, k _ _ q4, k _ _ q5, ⟨k _ _ q6, q6'⟩, ⟨k _ _ q7, q7'⟩, ?_, fun t ht => ⟨k _ _ (q9 t ht).1, (q9 t ht).2⟩, fun v hv => ⟨k _ _ (q10 v hv).1, (q10 v hv).2⟩, fun v hv => k _ _ (q11 v hv), fun v hv => ⟨k _ _ (q12 v hv).1, (q12 v hv).2⟩, q13⟩
  rcases q8 with h1 | ⟨h1, h2, h3, h4, h5⟩
  · exact Or.inl h1
  · exact Or.inr ⟨h1, h2, h3, k _ _ h4, h5⟩
/-- what the class never sees may change -/
theorem cQ.same (Q : cQ G P xo xa th va ca ma dat cap mod df vf dr mf s a h) {s' : mS} {a' : mA} (hs : ∀ f, f ≠ 25 → f ≠ 23 → s' f = s f) (ha : ∀ f, f ≠ 24 → f ≠ 21 → f ≠ 22 → f ≠ 9 → f ≠ 11 → a' f = a f) : cQ G P xo xa th va ca ma dat cap mod df vf dr mf s' a' h := by
  unfold cQ cDat cApart xF cB at Q ⊢
  rw [hs 0 (by decide) (by decide), hs 1 (by decide) (by decide), hs 2 (by decide) (by decide), hs 4 (by decide) (by decide), hs 6 (by decide) (by decide), hs 10 (by decide) (by decide), ha 3 (by decide) (by decide) (by decide) (by decide) (by decide), ha 5 (by decide) (by decide) (by decide) (by decide) (by decide), ha 7 (by decide) (by decide) (by decide) (by decide) (by decide), ha 8 (by decide) (by decide) (by decide) (by decide) (by decide), ha 12 (by decide) (by decide) (by decide) (by decide) (by decide), ha 13 (by decide) (by decide) (by decide) (by decide) (by decide), ha 14 (by decide) (by decide) (by decide) (by decide) (by decide), ha 15 (by decide) (by decide) (by decide) (by decide) (by decide), ha 16 (by decide) (by decide) (by decide) (by decide) (by decide), ha 17 (by decide) (by decide) (by decide) (by decide) (by decide), ha 18 (by decide) (by decide) (by decide) (by decide) (by decide), ha 19 (by decide) (by decide) (by decide) (by decide) (by decide), ha 20 (by decide) (by decide) (by decide) (by decide) (by decide)]
  exact Q
/-- thing i has a version more: the numbers -/
def cNew (s : mS) (a : mA) (s' : mS) (a' : mA) (i : Nat) : Prop := s' 10 = s 10 + 1 ∧ s' 4 = s 4 ∧ a' 3 = a 3 ∧ a' 5 = a 5 ∧ (∀ t, t ≠ i → a' 7 t = a 7 t ∧ a' 8 t = a 8 t) ∧ a' 8 i = s 10 ∧ (∀ f v, 12 ≤ f → f ≤ 19 → v ≠ s 10 → a' f v = a f v) ∧ (∀ k, k < 6 * s 10 → a' 20 k = a 20 k) ∧ a' 13 (s 10) ≤ s 10
theorem cQ.step (Q : cQ G P xo xa th va ca ma dat cap mod df vf dr mf s a h) (I : IA a) {s' : mS} {a' : mA} {i : Nat} (N : cNew s a s' a' i) {h' : jH} {th' : Nat → Nat} {q c m dat' cap' : Nat} {mod' : Int32} {df' : Nat → Option Nat} {vf' mc : Nat → Int32}
    (hi : i < s' 6) (h6 : ∀ t, t < s' 6 → t ≠ i → t < s 6) (hth' : ∀ t, t ≠ i → th' t = th t)
    (hxo : h' xo = some (.inr (4, xF xa s'))) (h2 : h' (xa 2) = some (.inr (0, [.int mod', .ref dat', .int (nI (s' 6))])))
    (h4 : h' (xa 4) = some (.inl (G.2.2.1.1, 20, .inl vf'))) (hv4 : ∀ j, j < 20 → vf' j = nI (cnt (fun k => decide (a' 14 k = j)) (s' 10))) (hD : cDat G th' dat' cap' df' s' h')
    (hth : h' (th' i) = some (.inr (2, [.int (nI (a' 7 i)), .ref q])))
    (hq : h' q = some (.inr (3, [cP (va_up va (s 10) q) (a' 13 (s 10)), .int (nI (a' 12 (s 10))), .int (nI (a' 14 (s 10))), .int (nI (a' 15 (s 10))), .ref c, .int (nI (a' 17 (s 10)))])))
    (hc : h' c = some (.inr (1, [.int (nI (a' 16 (s 10))), .int (nI (a' 18 (s 10) / 100)), .int (nI (a' 18 (s 10) % 100)), .ref m])))
    (hm : h' m = some (.inl (G.2.2.1.1, a' 19 (s 10), .inl mc))) (hme : ∀ j, j < a' 19 (s 10) → mc j = nI (a' 20 (6 * s 10 + j)))
    (hti : ∀ b e, h b = some e → (∀ fs, e ≠ .inr (2, fs)) → b ≠ th' i) (hti2 : ∀ t, t < s 6 → t ≠ i → th t ≠ th' i)
    (keep : ∀ b e, h b = some e → b ≠ xo → b ≠ xa 2 → b ≠ xa 4 → b ≠ th' i → (∀ c N f, e ≠ .inl (c, N, .inr f)) → h' b = some e)
    (hP : ¬ P q ∧ ¬ P (th' i) ∧ ¬ P dat') (hqv : h q = none) (hmx : m ≠ xa 4 ∧ m ≠ xa 5) (hxd : xo ≠ dat') :
    cQ G P xo xa th' (va_up va (s 10) q) (va_up ca (s 10) c) (va_up ma (s 10) m) dat' cap' mod' df' vf' dr (va_up mf (s 10) mc) s' a' h' := by
  obtain ⟨n10, n4, n3, n5, n7, n8, nf, n20, n13⟩ := N
  have Q0 := Q
  obtain ⟨q1, q2, q3, q4, q5, ⟨q6, q6'⟩, ⟨q7, q7'⟩, q8, q9, q10, q11, q12, ⟨p1, p2, p3, p4, p5⟩, pa, pt, pv, pm, po⟩ := Q
  have dif : ∀ {b b' : Nat} {e e' : va_E}, h b = some e → h b' = some e' → e ≠ e' → b ≠ b' := fun hb hb' hne z => by
    rw [z, hb'] at hb; cases hb; exact hne rfl
  have kO : ∀ (b ci : Nat) (fs : List Value), h b = some (.inr (ci, fs)) → ci ≠ 4 → ci ≠ 0 → ci ≠ 2 → h' b = some (.inr (ci, fs)) := fun b ci fs hb h4 h0 h2 =>
    keep b _ hb (dif hb q1 (fun z => h4 (by cases z; rfl))) (dif hb q4 (fun z => h0 (by cases z; rfl))) (dif hb q6 (fun z => by cases z)) (hti b _ hb (fun fs z => h2 (by cases z; rfl))) (fun c N f z => by cases z)
  have kA : ∀ (b : Nat) (cl : ClassId) (N : Nat) (f : Nat → Int32), h b = some (.inl (cl, N, .inl f)) → b ≠ xa 4 → h' b = some (.inl (cl, N, .inl f)) := fun b cl N f hb h4 =>
    keep b _ hb (dif hb q1 (fun z => by cases z)) (dif hb q4 (fun z => by cases z)) h4 (hti b _ hb (fun fs z => by cases z)) (fun c N f z => by cases z)
  have hva : ∀ v, v < s 10 → va v ≠ q := fun v hv z => by
    have := (q10 v hv).1
    rw [z, hqv] at this
    cases this
  refine ⟨hxo, kA _ _ _ _ q2 (fun z => absurd (pa 0 4 (by decide) (by decide) z) (by decide)), kO _ _ _ q3 (by decide) (by decide) (by decide), h2, ?_, ⟨h4, hv4⟩, ⟨kA _ _ _ _ q7 (fun z => absurd (pa 5 4 (by decide) (by decide) z) (by decide)), ?_⟩, hD, ?_, ?_, ?_, ?_, ⟨⟨p1, p2, hP.2.2, ?_, ?_⟩, pa, ?_, ?_, ?_, hxd⟩⟩
  · rw [n3]; exact kA _ _ _ _ q5 (fun z => absurd (pa 3 4 (by decide) (by decide) z) (by decide))
  · rw [n4, n5]; exact q7'
  · intro t ht
    by_cases e : t = i
    · subst e
      rw [n8, up_s, n10]
      exact ⟨hth, Nat.lt_succ_self _⟩
    · have ht' := h6 t ht e
      rw [(n7 t e).1, (n7 t e).2, hth' t e, up_n (by have := (q9 t ht').2; omega), n10]
      have hb := (q9 t ht').1
      exact ⟨keep _ _ hb (dif hb q1 (fun z => by cases z)) (dif hb q4 (fun z => by cases z)) (dif hb q6 (fun z => by cases z)) (hti2 t ht' e) (fun c N f z => by cases z), by have := (q9 t ht').2; omega⟩
  · intro v hv
    rw [n10] at hv
    by_cases e : v = s 10
    · subst e
      rw [up_s, up_s]
      exact ⟨hq, n13⟩
    · have hv' : v < s 10 := by omega
      have h13 := (q10 v hv').2
      have eB : cB (va_up va (s 10) q) a' v = cB va a v := by
        unfold cB
        rw [nf 13 v (by decide) (by decide) e]
        by_cases z : a 13 v = 0
        · rw [if_pos z, if_pos z]
        · rw [if_neg z, if_neg z, up_n (by omega)]
      rw [eB, up_n e, up_n e, nf 12 v (by decide) (by decide) e, nf 13 v (by decide) (by decide) e, nf 14 v (by decide) (by decide) e, nf 15 v (by decide) (by decide) e, nf 17 v (by decide) (by decide) e]
      exact ⟨kO _ _ _ (q10 v hv').1 (by decide) (by decide) (by decide), h13⟩
  · intro v hv
    rw [n10] at hv
    by_cases e : v = s 10
    · subst e
      rw [up_s, up_s]
      exact hc
    · rw [up_n e, up_n e, nf 16 v (by decide) (by decide) e, nf 18 v (by decide) (by decide) e]
      exact kO _ _ _ (q11 v (by omega)) (by decide) (by decide) (by decide)
  · intro v hv
    rw [n10] at hv
    by_cases e : v = s 10
    · subst e
      rw [up_s, up_s]
      exact ⟨hm, hme⟩
    · have hv' : v < s 10 := by omega
      rw [up_n e, up_n e, nf 19 v (by decide) (by decide) e]
      refine ⟨kA _ _ _ _ (q12 v hv').1 (pm v hv').1, fun j hj => ?_⟩
      rw [n20 (6 * v + j) (by have := I.size v; omega)]
      exact (q12 v hv').2 j hj
  · intro t ht
    by_cases e : t = i
    · subst e; exact hP.2.1
    · rw [hth' t e]; exact p4 t (h6 t ht e)
  · intro v hv
    rw [n10] at hv
    by_cases e : v = s 10
    · subst e; rw [up_s]; exact hP.1
    · rw [up_n e]; exact p5 v (by omega)
  · intro t u ht hu z
    by_cases et : t = i
    · by_cases eu : u = i
      · rw [et, eu]
      · rw [et, hth' u eu] at z
        exact absurd z.symm (hti2 u (h6 u hu eu) eu)
    · by_cases eu : u = i
      · rw [eu, hth' t et] at z
        exact absurd z (hti2 t (h6 t ht et) et)
      · rw [hth' t et, hth' u eu] at z
        exact pt t u (h6 t ht et) (h6 u hu eu) z
  · intro v w hv hw z
    rw [n10] at hv hw
    by_cases ev : v = s 10
    · by_cases ew : w = s 10
      · rw [ev, ew]
      · rw [ev, up_s, up_n ew] at z
        exact absurd z.symm (hva w (by omega))
    · by_cases ew : w = s 10
      · rw [ew, up_s, up_n ev] at z
        exact absurd z (hva v (by omega))
      · rw [up_n ev, up_n ew] at z
        exact pv v w (by omega) (by omega) z
  · intro v hv
    rw [n10] at hv
    by_cases e : v = s 10
    · subst e; rw [up_s]; exact hmx
    · rw [up_n e]; exact pm v (by omega)
end CQ4
