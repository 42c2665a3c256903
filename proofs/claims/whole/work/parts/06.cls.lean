/-! The class's objects over the same numbers: addresses by number. -/
def cB (va : Nat → Nat) (a : mA) (v : Nat) : Value := if a 13 v = 0 then .null else .ref (va (a 13 v - 1))
def xF (xa : Nat → Nat) (s : mS) : List Value := [.ref (xa 0), .ref (xa 1), .ref (xa 2), .ref (xa 3), .ref (xa 4), .ref (xa 5), .int (nI (s 2)), .int (nI (s 4)), .int (nI (s 10)), .int (nI (s 0)), .int (nI (s 1))]
def cDat (G : jG) (th : Nat → Nat) (dat cap : Nat) (df : Nat → Option Nat) (s : mS) (h : jH) : Prop := (s 6 = 0 ∧ dat = G.2.2.2.1 ∧ cap = 0) ∨ (s 6 ≤ cap ∧ 10 ≤ cap ∧ cap ≤ 100 ∧ h dat = some (.inl (G.2.2.1.2.2.1, cap, .inr (.inr (.inr (.inr df))))) ∧ ∀ t, t < s 6 → df t = some (th t))
def cApart (P : Nat → Prop) (xo : Nat) (xa th va ma : Nat → Nat) (dat : Nat) (s : mS) (h : jH) : Prop :=
  (¬ P xo ∧ (∀ i, i < 6 → ¬ P (xa i)) ∧ ¬ P dat ∧ (∀ t, t < s 6 → ¬ P (th t)) ∧ ∀ v, v < s 10 → ¬ P (va v)) ∧ (∀ i j, i < 6 → j < 6 → xa i = xa j → i = j) ∧ (∀ t u, t < s 6 → u < s 6 → th t = th u → t = u) ∧ (∀ v w, v < s 10 → w < s 10 → va v = va w → v = w) ∧ (∀ v, v < s 10 → ma v ≠ xa 4 ∧ ma v ≠ xa 5) ∧ xo ≠ dat
def cQ (G : jG) (P : Nat → Prop) (xo : Nat) (xa th va ca ma : Nat → Nat) (dat cap : Nat) (mod : Int32) (df : Nat → Option Nat) (vf dr : Nat → Int32) (mf : Nat → Nat → Int32) (s : mS) (a : mA) (h : jH) : Prop :=
  h xo = some (.inr (4, xF xa s)) ∧ h (xa 0) = some (.inl (G.2.2.1.1, 0, .inl (fun _ => 0))) ∧ h (xa 1) = some (.inr (1, [.int (nI 0), .int (nI 0), .int (nI 0), .ref (xa 0)])) ∧
  h (xa 2) = some (.inr (0, [.int mod, .ref dat, .int (nI (s 6))])) ∧ h (xa 3) = some (.inl (G.2.2.1.2.1, 20, .inl (fun j => nI (a 3 j)))) ∧
  (h (xa 4) = some (.inl (G.2.2.1.1, 20, .inl vf)) ∧ ∀ j, j < 20 → vf j = nI (cnt (fun k => decide (a 14 k = j)) (s 10))) ∧
  (h (xa 5) = some (.inl (G.2.2.1.1, 6, .inl dr)) ∧ ∀ j, j < s 4 → dr j = nI (a 5 j)) ∧ cDat G th dat cap df s h ∧
  (∀ t, t < s 6 → h (th t) = some (.inr (2, [.int (nI (a 7 t)), .ref (va (a 8 t))])) ∧ a 8 t < s 10) ∧
  (∀ v, v < s 10 → h (va v) = some (.inr (3, [cB va a v, .int (nI (a 12 v)), .int (nI (a 14 v)), .int (nI (a 15 v)), .ref (ca v), .int (nI (a 17 v))])) ∧ a 13 v ≤ v) ∧
  (∀ v, v < s 10 → h (ca v) = some (.inr (1, [.int (nI (a 16 v)), .int (nI (a 18 v / 100)), .int (nI (a 18 v % 100)), .ref (ma v)]))) ∧
  (∀ v, v < s 10 → h (ma v) = some (.inl (G.2.2.1.1, a 19 v, .inl (mf v))) ∧ ∀ j, j < a 19 v → mf v j = nI (a 20 (6 * v + j))) ∧ cApart P xo xa th va ma dat s h
section CQ
variable {G : jG} {P : Nat → Prop} {xo : Nat} {xa th va ca ma : Nat → Nat} {dat cap : Nat} {mod : Int32} {df : Nat → Option Nat} {vf dr : Nat → Int32} {mf : Nat → Nat → Int32} {s : mS} {a : mA} {h : jH}
theorem cQ.obj (Q : cQ G P xo xa th va ca ma dat cap mod df vf dr mf s a h) : h xo = some (.inr (4, [.ref (xa 0), .ref (xa 1), .ref (xa 2), .ref (xa 3), .ref (xa 4), .ref (xa 5), .int (nI (s 2)), .int (nI (s 4)), .int (nI (s 10)), .int (nI (s 0)), .int (nI (s 1))])) := Q.1
theorem cQ.lst (Q : cQ G P xo xa th va ca ma dat cap mod df vf dr mf s a h) : h (xa 2) = some (.inr (0, [.int mod, .ref dat, .int (nI (s 6))])) := Q.2.2.2.1
theorem cQ.closed (Q : cQ G P xo xa th va ca ma dat cap mod df vf dr mf s a h) : h (xa 3) = some (.inl (G.2.2.1.2.1, 20, .inl (fun j => nI (a 3 j)))) := Q.2.2.2.2.1
theorem cQ.vof (Q : cQ G P xo xa th va ca ma dat cap mod df vf dr mf s a h) : h (xa 4) = some (.inl (G.2.2.1.1, 20, .inl vf)) := Q.2.2.2.2.2.1.1
theorem cQ.vfe (Q : cQ G P xo xa th va ca ma dat cap mod df vf dr mf s a h) {j : Nat} (hj : j < 20) : vf j = nI (cnt (fun k => decide (a 14 k = j)) (s 10)) := Q.2.2.2.2.2.1.2 j hj
theorem cQ.draft (Q : cQ G P xo xa th va ca ma dat cap mod df vf dr mf s a h) : h (xa 5) = some (.inl (G.2.2.1.1, 6, .inl dr)) := Q.2.2.2.2.2.2.1.1
theorem cQ.dre (Q : cQ G P xo xa th va ca ma dat cap mod df vf dr mf s a h) {j : Nat} (hj : j < s 4) : dr j = nI (a 5 j) := Q.2.2.2.2.2.2.1.2 j hj
theorem cQ.dta (Q : cQ G P xo xa th va ca ma dat cap mod df vf dr mf s a h) {t : Nat} (ht : t < s 6) : h dat = some (.inl (G.2.2.1.2.2.1, cap, .inr (.inr (.inr (.inr df))))) ∧ df t = some (th t) ∧ s 6 ≤ cap ∧ cap ≤ 100 := by
  rcases Q.2.2.2.2.2.2.2.1 with ⟨h1, -⟩ | ⟨h1, -, h2, h3, h4⟩
  · omega
  · exact ⟨h3, h4 t ht, h1, h2⟩
theorem cQ.thing (Q : cQ G P xo xa th va ca ma dat cap mod df vf dr mf s a h) {t : Nat} (ht : t < s 6) : h (th t) = some (.inr (2, [.int (nI (a 7 t)), .ref (va (a 8 t))])) := (Q.2.2.2.2.2.2.2.2.1 t ht).1
theorem cQ.last (Q : cQ G P xo xa th va ca ma dat cap mod df vf dr mf s a h) {t : Nat} (ht : t < s 6) : a 8 t < s 10 := (Q.2.2.2.2.2.2.2.2.1 t ht).2
theorem cQ.ver (Q : cQ G P xo xa th va ca ma dat cap mod df vf dr mf s a h) {v : Nat} (hv : v < s 10) : h (va v) = some (.inr (3, [cB va a v, .int (nI (a 12 v)), .int (nI (a 14 v)), .int (nI (a 15 v)), .ref (ca v), .int (nI (a 17 v))])) := (Q.2.2.2.2.2.2.2.2.2.1 v hv).1
theorem cQ.ahead (Q : cQ G P xo xa th va ca ma dat cap mod df vf dr mf s a h) {v : Nat} (hv : v < s 10) : a 13 v ≤ v := (Q.2.2.2.2.2.2.2.2.2.1 v hv).2
theorem cQ.con (Q : cQ G P xo xa th va ca ma dat cap mod df vf dr mf s a h) {v : Nat} (hv : v < s 10) : h (ca v) = some (.inr (1, [.int (nI (a 16 v)), .int (nI (a 18 v / 100)), .int (nI (a 18 v % 100)), .ref (ma v)])) := Q.2.2.2.2.2.2.2.2.2.2.1 v hv
theorem cQ.mem (Q : cQ G P xo xa th va ca ma dat cap mod df vf dr mf s a h) {v : Nat} (hv : v < s 10) : h (ma v) = some (.inl (G.2.2.1.1, a 19 v, .inl (mf v))) := (Q.2.2.2.2.2.2.2.2.2.2.2.1 v hv).1
theorem cQ.mfe (Q : cQ G P xo xa th va ca ma dat cap mod df vf dr mf s a h) {v j : Nat} (hv : v < s 10) (hj : j < a 19 v) : mf v j = nI (a 20 (6 * v + j)) := (Q.2.2.2.2.2.2.2.2.2.2.2.1 v hv).2 j hj
theorem cQ.np (Q : cQ G P xo xa th va ca ma dat cap mod df vf dr mf s a h) : (¬ P xo ∧ (∀ i, i < 6 → ¬ P (xa i)) ∧ ¬ P dat ∧ (∀ t, t < s 6 → ¬ P (th t)) ∧ ∀ v, v < s 10 → ¬ P (va v)) := Q.2.2.2.2.2.2.2.2.2.2.2.2.1
/-- the main object is written: the same addresses, other ints -/
theorem cQ.putO2 (Q : cQ G P xo xa th va ca ma dat cap mod df vf dr mf s a h) {s' : mS} (e6 : s' 6 = s 6) (e10 : s' 10 = s 10) (e4 : ∀ j, j < s' 4 → dr j = nI (a 5 j)) : cQ G P xo xa th va ca ma dat cap mod df vf dr mf s' a (jup h xo (.inr (4, xF xa s'))) := by
  have k : ∀ (q : Nat) (e : va_E), h q = some e → (∀ fs, e ≠ .inr (4, fs)) → jup h xo (.inr (4, xF xa s')) q = some e := by
    intro q e he hne
    rw [jup_ne (fun z => by subst z; rw [Q.1] at he; cases he; exact hne _ rfl)]
    exact he
  obtain ⟨q1, q2, q3, q4, q5, ⟨q6, q6'⟩, ⟨q7, q7'⟩, q8, q9, q10, q11, q12, q13⟩ := Q
  refine ⟨jup_self _ _ _, k _ _ q2 (by intro fs z; cases z), k _ _ q3 (by intro fs z; cases z), by rw [e6]; exact k _ _ q4 (by intro fs z; cases z), k _ _ q5 (by intro fs z; cases z), ⟨k _ _ q6 (by intro fs z; cases z), by rw [e10]; exact q6'⟩, ⟨k _ _ q7 (by intro fs z; cases z), e4⟩, ?_, ?_, ?_, ?_, ?_, ?_⟩
  · unfold cDat; rw [e6]
    rcases q8 with h1 | ⟨h1, h2, h3, h4, h5⟩
    · exact Or.inl h1
    · exact Or.inr ⟨h1, h2, h3, k _ _ h4 (by intro fs z; cases z), h5⟩
  · rw [e6, e10]; exact fun t ht => ⟨k _ _ (q9 t ht).1 (by intro fs z; cases z), (q9 t ht).2⟩
  · rw [e10]; exact fun v hv => ⟨k _ _ (q10 v hv).1 (by intro fs z; cases z), (q10 v hv).2⟩
  · rw [e10]; exact fun v hv => k _ _ (q11 v hv) (by intro fs z; cases z)
  · rw [e10]; exact fun v hv => ⟨k _ _ (q12 v hv).1 (by intro fs z; cases z), (q12 v hv).2⟩
  · unfold cApart at q13 ⊢; rw [e6, e10]; exact q13
theorem cQ.putO (Q : cQ G P xo xa th va ca ma dat cap mod df vf dr mf s a h) {s' : mS} (e6 : s' 6 = s 6) (e10 : s' 10 = s 10) (e4 : s' 4 ≤ s 4) : cQ G P xo xa th va ca ma dat cap mod df vf dr mf s' a (jup h xo (.inr (4, xF xa s'))) :=
  Q.putO2 e6 e10 (fun j hj => Q.dre (Nat.lt_of_lt_of_le hj e4))
/-- the row of closed sets is written -/
theorem cQ.putC (Q : cQ G P xo xa th va ca ma dat cap mod df vf dr mf s a h) (I : IA a) {j v : Nat} : cQ G P xo xa th va ca ma dat cap mod df vf dr mf s (va_up2 a 3 j v) (jup h (xa 3) (.inl (G.2.2.1.2.1, 20, .inl (upd (fun i => nI (a 3 i)) j (nI v))))) := by
  have hap := Q.2.2.2.2.2.2.2.2.2.2.2.2.2.1
  have k : ∀ (q : Nat) (e : va_E), h q = some e → q ≠ xa 3 → jup h (xa 3) (.inl (G.2.2.1.2.1, 20, .inl (upd (fun i => nI (a 3 i)) j (nI v)))) q = some e := fun q e he hne => by rw [jup_ne hne]; exact he
  have ko : ∀ (q : Nat) (ci : Nat) (fs : List Value), h q = some (.inr (ci, fs)) → q ≠ xa 3 := fun q ci fs he z => by
    subst z; rw [Q.closed] at he; cases he
  have ki : ∀ (q N : Nat) (f : Nat → Int32), h q = some (.inl (G.2.2.1.1, N, .inl f)) → N ≠ 20 → q ≠ xa 3 := fun q N f he hN z => by
    rw [z] at he
    have h2 := Option.some.inj (Q.closed.symm.trans he)
    have h3 := congrArg (fun e : va_E => match e with | .inl x => x.2.1 | .inr _ => 0) h2
    exact hN h3.symm
  obtain ⟨q1, q2, q3, q4, q5, ⟨q6, q6'⟩, ⟨q7, q7'⟩, q8, q9, q10, q11, q12, q13⟩ := Q
  have hu : (upd (fun i => nI (a 3 i)) j (nI v)) = (fun i => nI (va_up2 a 3 j v 3 i)) := by
    funext i
    unfold va_up2
    rw [up_s]
    by_cases hi : i = j
    · subst hi; rw [pk_us, up_s]
    · rw [pk_un hi, up_n hi]
  refine ⟨k _ _ q1 (ko _ _ _ q1), k _ _ q2 (ki _ _ _ q2 (by decide)), k _ _ q3 (ko _ _ _ q3), k _ _ q4 (ko _ _ _ q4), by rw [jup_self, hu], ⟨k _ _ q6 (fun z => absurd (hap 4 3 (by decide) (by decide) z) (by decide)), q6'⟩, ⟨k _ _ q7 (fun z => absurd (hap 5 3 (by decide) (by decide) z) (by decide)), q7'⟩, ?_, ?_, ?_, ?_, ?_, q13⟩
  · rcases q8 with h1 | ⟨h1, h2, h3, h4, h5⟩
    · exact Or.inl h1
    · exact Or.inr ⟨h1, h2, h3, k _ _ h4 (fun z => by
        rw [z] at h4
        have h6 := Option.some.inj (q5.symm.trans h4)
        have h7 := congrArg (fun e : va_E => match e with | .inl (_, _, .inl _) => true | _ => false) h6
        exact Bool.noConfusion h7), h5⟩
  · exact fun t ht => ⟨k _ _ (q9 t ht).1 (ko _ _ _ (q9 t ht).1), (q9 t ht).2⟩
  · exact fun v hv => ⟨k _ _ (q10 v hv).1 (ko _ _ _ (q10 v hv).1), (q10 v hv).2⟩
  · exact fun v hv => k _ _ (q11 v hv) (ko _ _ _ (q11 v hv))
  · exact fun w hw => ⟨k _ _ (q12 w hw).1 (ki _ _ _ (q12 w hw).1 (by have := I.size w; omega)), (q12 w hw).2⟩
theorem cB_or (va : Nat → Nat) (a : mA) (v : Nat) : cB va a v = .null ∨ ∃ q, cB va a v = .ref q := by
  unfold cB
  split
  · exact Or.inl rfl
  · exact Or.inr ⟨_, rfl⟩
theorem cB_0 {va : Nat → Nat} {a : mA} {v : Nat} (h : a 13 v = 0) : cB va a v = .null := if_pos h
theorem cB_s {va : Nat → Nat} {a : mA} {v p : Nat} (h : a 13 v = p + 1) : cB va a v = .ref (va p) := by unfold cB; rw [if_neg (by omega), h]; rfl
/-- a place, or none, as a reference -/
def cP (va : Nat → Nat) (b : Nat) : Value := if b = 0 then .null else .ref (va (b - 1))
theorem cP_0 (va : Nat → Nat) : cP va 0 = .null := rfl
theorem cP_s (va : Nat → Nat) (p : Nat) : cP va (p + 1) = .ref (va p) := rfl
theorem cB_P (va : Nat → Nat) (a : mA) (v : Nat) : cB va a v = cP va (a 13 v) := rfl
theorem cP_or (va : Nat → Nat) (b : Nat) : cP va b = .null ∨ ∃ q, cP va b = .ref q := by
  unfold cP
  split
  · exact Or.inl rfl
  · exact Or.inr ⟨_, rfl⟩
end CQ
section CQ2
variable {X : jX} {G : jG} {cc : ByteArray} {nL : Nat} {Ts : List Cond} {own : String} {pc pc' k n : Nat} {l : List (Nat × Value)} {st : List Value} {h : jH}
theorem j_astore_nv (C : jC X G cc nL Ts own) {i : Fin 4} {v : Value} {l' : List (Nat × Value)} (hd : decode cc pc = .ok (.astore_n i, 1)) (hp : pc + 1 = pc') (hn : (i : Nat) < nL) (hv : v = .null ∨ ∃ a, v = .ref a) (hl' : ((i : Nat), v) :: l.filter (fun q => !(q.1 == (i : Nat)) && !(q.1 + 1 == (i : Nat) && q.2.category == 2)) = l') (kk : jW X G nL k n pc' l' st h) : jW X G nL k n pc l (v :: st) h := by
  rcases hv with rfl | ⟨a, rfl⟩
  · exact j_astore_nN C hd hp hn hl' kk
  · exact j_astore_n C hd hp hn hl' kk
theorem j_astorev (C : jC X G cc nL Ts own) {i : Nat} {v : Value} {l' : List (Nat × Value)} (hd : decode cc pc = .ok (.astore i, 2)) (hp : pc + 2 = pc') (hn : i < nL) (hv : v = .null ∨ ∃ a, v = .ref a) (hl' : (i, v) :: l.filter (fun q => !(q.1 == i) && !(q.1 + 1 == i && q.2.category == 2)) = l') (kk : jW X G nL k n pc' l' st h) : jW X G nL k n pc l (v :: st) h := by
  rcases hv with rfl | ⟨a, rfl⟩
  · exact j_astoreN C hd hp hn hl' kk
  · exact j_astore C hd hp hn hl' kk
end CQ2
theorem z32 : (0 : Int32).toInt = 0 := rfl
theorem inN_neg {p : Int32} {n : Nat} (h : p < 0) : inN p n = false := by
  rw [Int32.lt_iff_toInt_lt, z32] at h
  exact decide_eq_false (fun z => by omega)
theorem inN_lt {p : Int32} {n : Nat} (hn : n < 1048576) (h : ¬ p < 0) (h2 : p < nI n) : inN p n = true := by
  rw [Int32.lt_iff_toInt_lt, z32] at h
  rw [Int32.lt_iff_toInt_lt, nI_toInt (by omega)] at h2
  exact decide_eq_true ⟨by omega, h2⟩
theorem inN_ge {p : Int32} {n : Nat} (hn : n < 1048576) (h2 : ¬ p < nI n) : inN p n = false := by
  rw [Int32.lt_iff_toInt_lt, nI_toInt (by omega)] at h2
  exact decide_eq_false (fun z => by omega)
theorem inN_ge' {p : Int32} {n : Nat} (hn : n < 1048576) (h2 : nI n ≤ p) : inN p n = false := inN_ge hn (Int32.not_lt.mpr h2)
theorem inN_lt' {p : Int32} {n : Nat} (hn : n < 1048576) (h : ¬ p < 0) (h2 : ¬ nI n ≤ p) : inN p n = true := inN_lt hn h (Int32.not_le.mp h2)
theorem inR_lo {x : Int32} {lo hi : Nat} (h : x < nI lo) : inR x lo hi = false := by
  unfold inR
  rw [decide_eq_false (Int32.not_le.mpr h)]; rfl
theorem inR_hi {x : Int32} {lo hi : Nat} (h : nI hi < x) : inR x lo hi = false := by
  unfold inR
  rw [decide_eq_false (Int32.not_le.mpr h), Bool.and_false]
theorem inR_in {x : Int32} {lo hi : Nat} (h1 : ¬ x < nI lo) (h2 : x ≤ nI hi) : inR x lo hi = true := by
  unfold inR
  rw [decide_eq_true (Int32.not_lt.mp h1), decide_eq_true h2]; rfl
