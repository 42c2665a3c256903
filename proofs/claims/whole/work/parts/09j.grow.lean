/-! What addVersion and addThing leave: the store with a version more. -/
/-- the numbers of the new version -/
def cVal (s : mS) (a : mA) (s' : mS) (a' : mA) (i o num ahead : Nat) : Prop := (s' 0 = s 0 ∧ s' 1 = s 1 ∧ s' 2 = s 2) ∧ a' 12 (s 10) = num ∧ a' 13 (s 10) = ahead ∧ a' 14 (s 10) = o ∧ a' 15 (s 10) = s 0 ∧ a' 17 (s 10) = 0
theorem ne_arr {c c' : ClassId} {N N' : Nat} {f : (Nat → Int64) ⊕ (Nat → UInt32) ⊕ (Nat → UInt64) ⊕ (Nat → Option Nat)} {g : Nat → Int32} : (Sum.inl (c, N, .inr f) : va_E) ≠ .inl (c', N', .inl g) := fun z =>
  Bool.noConfusion (congrArg (fun e : va_E => match e with | .inl (_, _, .inl _) => true | _ => false) z)
section CQ5
variable {G : jG} {P : Nat → Prop} {xo : Nat} {xa th va ca ma : Nat → Nat} {dat cap : Nat} {mod : Int32} {df : Nat → Option Nat} {vf dr : Nat → Int32} {mf : Nat → Nat → Int32} {s : mS} {a : mA} {h : jH}
theorem xF_eq {s' : mS} (h0 : s' 0 = s 0) (h1 : s' 1 = s 1) (h2 : s' 2 = s 2) (h4 : s' 4 = s 4) (h10 : s' 10 = s 10 + 1) : xF xa (va_up s 10 (s 10 + 1)) = xF xa s' := by
  show [Value.ref (xa 0), .ref (xa 1), .ref (xa 2), .ref (xa 3), .ref (xa 4), .ref (xa 5), .int (nI (s 2)), .int (nI (s 4)), .int (nI (s 10 + 1)), .int (nI (s 0)), .int (nI (s 1))] = [.ref (xa 0), .ref (xa 1), .ref (xa 2), .ref (xa 3), .ref (xa 4), .ref (xa 5), .int (nI (s' 2)), .int (nI (s' 4)), .int (nI (s' 10)), .int (nI (s' 0)), .int (nI (s' 1))]
  rw [h0, h1, h2, h4, h10]
theorem vof_up (Q : cQ G P xo xa th va ca ma dat cap mod df vf dr mf s a h) {s' : mS} {a' : mA} {o : Nat} (h10 : s' 10 = s 10 + 1) (hn : ∀ v, v ≠ s 10 → a' 14 v = a 14 v) (ho : a' 14 (s 10) = o) {j : Nat} (hj : j < 20) : upd vf o (nI (cnt (fun k => decide (a 14 k = o)) (s 10) + 1)) j = nI (cnt (fun k => decide (a' 14 k = j)) (s' 10)) := by
  have e : cnt (fun k => decide (a' 14 k = j)) (s' 10) = cnt (fun k => decide (a 14 k = j)) (s 10) + (decide (o = j)).toNat := by
    rw [h10, cnt_s, ho, cnt_congr (R := fun k => decide (a 14 k = j)) (fun k hk => by rw [hn k (by omega)])]
  rw [e]
  by_cases c : j = o
  · subst c
    rw [pk_us, decide_eq_true rfl]; rfl
  · rw [pk_un c, Q.vfe hj, decide_eq_false (fun z => c z.symm)]; rfl
theorem cQ.addV (Q : cQ G P xo xa th va ca ma dat cap mod df vf dr mf s a h) (I : IA a) {s' : mS} {a' : mA} {i o c m q : Nat} {mc : Nat → Int32} (hi : i < s 6) (h6 : s' 6 = s 6) (N : cNew s a s' a' i) (V : cVal s a s' a' i o (a 12 (a 8 i) + 1) (a 8 i + 1)) (h7 : a' 7 i = a 7 i)
    (hc : h c = some (.inr (1, [.int (nI (a' 16 (s 10))), .int (nI (a' 18 (s 10) / 100)), .int (nI (a' 18 (s 10) % 100)), .ref m]))) (hm : h m = some (.inl (G.2.2.1.1, a' 19 (s 10), .inl mc))) (hme : ∀ j, j < a' 19 (s 10) → mc j = nI (a' 20 (6 * s 10 + j))) (hmx : m ≠ xa 4 ∧ m ≠ xa 5) (hq : h q = none) (hPq : ¬ P q) :
    cQ G P xo xa th (va_up va (s 10) q) (va_up ca (s 10) c) (va_up ma (s 10) m) dat cap mod df (upd vf o (nI (cnt (fun k => decide (a 14 k = o)) (s 10) + 1))) dr (va_up mf (s 10) mc) s' a' (jup (jup (jup (jup h xo (.inr (4, xF xa (va_up s 10 (s 10 + 1))))) (xa 4) (.inl (G.2.2.1.1, 20, .inl (upd vf o (nI (cnt (fun k => decide (a 14 k = o)) (s 10) + 1)))))) q (.inr (3, [.ref (va (a 8 i)), .int (nI (a 12 (a 8 i) + 1)), .int (nI o), .int (nI (s 0)), .ref c, .int (nI 0)]))) (th i) (.inr (2, [.int (nI (a 7 i)), .ref q]))) := by
  have Q0 := Q
  obtain ⟨⟨v0, v1, v2⟩, v12, v13, v14, v15, v17⟩ := V
  obtain ⟨n10, n4, n3, n5, n7, n8, nf, n20, n13⟩ := id N
  have nq : ∀ {b : Nat} {e : va_E}, h b = some e → b ≠ q := fun hb => ne_none hb hq
  have hth := Q.thing hi
  have hl8 := Q.last hi
  have keep : ∀ b e, h b = some e → b ≠ xo → b ≠ xa 4 → b ≠ th i → (jup (jup (jup (jup h xo (.inr (4, xF xa (va_up s 10 (s 10 + 1))))) (xa 4) (.inl (G.2.2.1.1, 20, .inl (upd vf o (nI (cnt (fun k => decide (a 14 k = o)) (s 10) + 1)))))) q (.inr (3, [.ref (va (a 8 i)), .int (nI (a 12 (a 8 i) + 1)), .int (nI o), .int (nI (s 0)), .ref c, .int (nI 0)]))) (th i) (.inr (2, [.int (nI (a 7 i)), .ref q]))) b = some e :=
    fun b e hb h1 h2 h3 => (jup_ne h3).trans ((jup_ne (nq hb)).trans ((jup_ne h2).trans ((jup_ne h1).trans hb)))
  have o4 : xo ≠ xa 4 := ne_cell Q.obj Q.vof (fun z => by cases z)
  have oth : xo ≠ th i := ne_cell Q.obj hth (fun z => by cases z)
  have xth : xa 4 ≠ th i := ne_cell Q.vof hth (fun z => by cases z)
  refine Q.step I N (th' := th) (by rw [h6]; exact hi) (fun t ht _ => by rw [h6] at ht; exact ht) (fun t _ => rfl) ?_ ?_ ((jup_ne xth).trans ((jup_ne (nq Q.vof)).trans (jup_self _ _ _))) (fun j hj => vof_up Q n10 (fun v hv => nf 14 v (by decide) (by decide) hv) v14 hj) ?_ ?_ ?_ ?_ ?_ hme ?_ (fun t ht e z => e (Q0.2.2.2.2.2.2.2.2.2.2.2.2.2.2.1 t i ht hi z)) (fun b e hb h1 _ h2 h3 _ => keep b e hb h1 h2 h3) ⟨hPq, Q.np.2.2.2.1 i hi, Q.np.2.2.1⟩ hq hmx Q0.2.2.2.2.2.2.2.2.2.2.2.2.2.2.2.2.2
  · rw [← xF_eq (xa := xa) v0 v1 v2 n4 n10]
    exact (jup_ne oth).trans ((jup_ne (nq Q.obj)).trans ((jup_ne o4).trans (jup_self _ _ _)))
  · rw [h6]
    exact keep _ _ Q.lst (ne_cell Q.lst Q.obj (fun z => by cases z)) (ne_cell Q.lst Q.vof (fun z => by cases z)) (ne_cell Q.lst hth (fun z => by cases z))
  · unfold cDat
    rw [h6]
    rcases Q.2.2.2.2.2.2.2.1 with h1 | ⟨h1, h2, h3, h4, h5⟩
    · exact Or.inl h1
    · exact Or.inr ⟨h1, h2, h3, keep _ _ h4 (ne_cell h4 Q.obj (fun z => by cases z)) (ne_cell h4 Q.vof ne_arr) (ne_cell h4 hth (fun z => by cases z)), h5⟩
  · rw [h7]; exact jup_self _ _ _
  · rw [jup_ne (nq hth).symm, jup_self, v13, v12, v14, v15, v17, cP_s, up_n (by omega)]
  · exact keep _ _ hc (ne_cell hc Q.obj (fun z => by cases z)) (ne_cell hc Q.vof (fun z => by cases z)) (ne_cell hc hth (fun z => by cases z))
  · exact keep _ _ hm (ne_cell hm Q.obj (fun z => by cases z)) hmx.1 (ne_cell hm hth (fun z => by cases z))
  · exact fun b e hb hne => ne_cell hb hth (hne _)
/-- a new thing: its first version, and a place more in the list -/
theorem cQ.addT (Q : cQ G P xo xa th va ca ma dat cap mod df vf dr mf s a h) (I : IA a) {s' : mS} {a' : mA} {o c m q t d b cap' : Nat} {f' : Nat → Option Nat} {mc : Nat → Int32} {d0 : va_E} (h6 : s' 6 = s 6 + 1) (N : cNew s a s' a' (s 6)) (V : cVal s a s' a' (s 6) o 1 0) (h7 : a' 7 (s 6) = d)
    (hc : h c = some (.inr (1, [.int (nI (a' 16 (s 10))), .int (nI (a' 18 (s 10) / 100)), .int (nI (a' 18 (s 10) % 100)), .ref m]))) (hm : h m = some (.inl (G.2.2.1.1, a' 19 (s 10), .inl mc))) (hme : ∀ j, j < a' 19 (s 10) → mc j = nI (a' 20 (6 * s 10 + j))) (hmx : m ≠ xa 4 ∧ m ≠ xa 5) (ht : h t = none) (hq : h q = none) (hqt : q ≠ t) (hPq : ¬ P q ∧ ¬ P t ∧ ¬ P b)
    (hb : (b = dat ∧ ∃ (cp : Nat) (g : Nat → Option Nat), h b = some (.inl (G.2.2.1.2.2.1, cp, .inr (.inr (.inr (.inr g)))))) ∨ (h b = none ∧ b ≠ t ∧ b ≠ q)) (hf1 : f' (s 6) = some t) (hf2 : ∀ u, u < s 6 → f' u = df u) (hc1 : s 6 + 1 ≤ cap') (hc2 : 10 ≤ cap') (hc3 : cap' ≤ 100) :
    cQ G P xo xa (va_up th (s 6) t) (va_up va (s 10) q) (va_up ca (s 10) c) (va_up ma (s 10) m) b cap' (mod + nI 1) f' (upd vf o (nI (cnt (fun k => decide (a 14 k = o)) (s 10) + 1))) dr (va_up mf (s 10) mc) s' a' (jup (jup (jup (jup (jup (jup (jup h t d0) xo (.inr (4, xF xa (va_up s 10 (s 10 + 1))))) (xa 4) (.inl (G.2.2.1.1, 20, .inl (upd vf o (nI (cnt (fun k => decide (a 14 k = o)) (s 10) + 1)))))) q (.inr (3, [.null, .int (nI 1), .int (nI o), .int (nI (s 0)), .ref c, .int (nI 0)]))) t (.inr (2, [.int (nI d), .ref q]))) b (.inl (G.2.2.1.2.2.1, cap', .inr (.inr (.inr (.inr f')))))) (xa 2) (.inr (0, [.int (mod + nI 1), .ref b, .int (nI (s 6 + 1))]))) := by
  have Q0 := Q
  obtain ⟨⟨v0, v1, v2⟩, v12, v13, v14, v15, v17⟩ := V
  obtain ⟨n10, n4, n3, n5, n7, n8, nf, n20, n13⟩ := id N
  have nq : ∀ {b : Nat} {e : va_E}, h b = some e → b ≠ q := fun hb => ne_none hb hq
  have nt : ∀ {b : Nat} {e : va_E}, h b = some e → b ≠ t := fun hb => ne_none hb ht
  have nb : ∀ (w : Nat) (e : va_E), h w = some e → (∀ c N f, e ≠ .inl (c, N, .inr f)) → w ≠ b := by
    intro w e hw hne z
    rcases hb with ⟨-, cp, g, e1⟩ | ⟨e1, -, -⟩
    · rw [z, e1] at hw
      cases hw
      exact hne _ _ _ rfl
    · rw [z, e1] at hw; cases hw
  have btq : b ≠ t ∧ b ≠ q := by
    rcases hb with ⟨-, cp, g, e1⟩ | ⟨-, e2, e3⟩
    · exact ⟨nt e1, nq e1⟩
    · exact ⟨e2, e3⟩
  have keep : ∀ w e, h w = some e → w ≠ xo → w ≠ xa 2 → w ≠ xa 4 → (∀ c N f, e ≠ .inl (c, N, .inr f)) → (jup (jup (jup (jup (jup (jup (jup h t d0) xo (.inr (4, xF xa (va_up s 10 (s 10 + 1))))) (xa 4) (.inl (G.2.2.1.1, 20, .inl (upd vf o (nI (cnt (fun k => decide (a 14 k = o)) (s 10) + 1)))))) q (.inr (3, [.null, .int (nI 1), .int (nI o), .int (nI (s 0)), .ref c, .int (nI 0)]))) t (.inr (2, [.int (nI d), .ref q]))) b (.inl (G.2.2.1.2.2.1, cap', .inr (.inr (.inr (.inr f')))))) (xa 2) (.inr (0, [.int (mod + nI 1), .ref b, .int (nI (s 6 + 1))]))) w = some e :=
    fun w e hw h1 h2 h3 h4 => (jup_ne h2).trans ((jup_ne (nb w e hw h4)).trans ((jup_ne (nt hw)).trans ((jup_ne (nq hw)).trans ((jup_ne h3).trans ((jup_ne h1).trans ((jup_ne (nt hw)).trans hw))))))
  have o4 : xo ≠ xa 4 := ne_cell Q.obj Q.vof (fun z => by cases z)
  have o2 : xo ≠ xa 2 := ne_cell Q.obj Q.lst (fun z => by cases z)
  have x42 : xa 4 ≠ xa 2 := ne_cell Q.vof Q.lst (fun z => by cases z)
  have ob : xo ≠ b := nb _ _ Q.obj (fun c N f z => by cases z)
  have xb : xa 4 ≠ b := nb _ _ Q.vof (fun c N f z => by cases z)
  have lb : xa 2 ≠ b := nb _ _ Q.lst (fun c N f z => by cases z)
  refine Q.step I N (th' := va_up th (s 6) t) (by rw [h6]; omega) (fun u hu hne => by rw [h6] at hu; omega) (fun u hu => up_n hu) ?_ ?_ ?_ (fun j hj => vof_up Q n10 (fun v hv => nf 14 v (by decide) (by decide) hv) v14 hj) ?_ ?_ ?_ ?_ ?_ hme ?_ (fun u hu e z => by rw [up_s] at z; exact nt (Q.thing hu) z) (fun w e hw h1 h2 h3 _ h4 => keep w e hw h1 h2 h3 h4) ⟨hPq.1, by rw [up_s]; exact hPq.2.1, hPq.2.2⟩ hq hmx ob
  · rw [← xF_eq (xa := xa) v0 v1 v2 n4 n10]
    exact (jup_ne o2).trans ((jup_ne ob).trans ((jup_ne (nt Q.obj)).trans ((jup_ne (nq Q.obj)).trans ((jup_ne o4).trans (jup_self _ _ _)))))
  · rw [h6]; exact jup_self _ _ _
  · exact (jup_ne x42).trans ((jup_ne xb).trans ((jup_ne (nt Q.vof)).trans ((jup_ne (nq Q.vof)).trans (jup_self _ _ _))))
  · unfold cDat
    rw [h6]
    refine Or.inr ⟨hc1, hc2, hc3, (jup_ne lb.symm).trans (jup_self _ _ _), fun u hu => ?_⟩
    by_cases e : u = s 6
    · rw [e, up_s]; exact hf1
    · rw [up_n e, hf2 u (by omega)]
      exact (Q.dta (show u < s 6 by omega)).2.1
  · rw [up_s, h7]
    exact (jup_ne (nt Q.lst).symm).trans ((jup_ne btq.1.symm).trans (jup_self _ _ _))
  · rw [v13, v12, v14, v15, v17, cP_0]
    exact (jup_ne (nq Q.lst).symm).trans ((jup_ne btq.2.symm).trans ((jup_ne hqt).trans (jup_self _ _ _)))
  · exact keep _ _ hc (ne_cell hc Q.obj (fun z => by cases z)) (ne_cell hc Q.lst (fun z => by cases z)) (ne_cell hc Q.vof (fun z => by cases z)) (fun c N f z => by cases z)
  · exact keep _ _ hm (ne_cell hm Q.obj (fun z => by cases z)) (ne_cell hm Q.lst (fun z => by cases z)) hmx.1 (fun c N f z => by cases z)
  · intro w e hw _ z
    rw [up_s] at z
    exact nt hw z
end CQ5
