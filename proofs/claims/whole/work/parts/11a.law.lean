/-! Handlers, the law's own rows, and the store beside the model's cells. -/
section JLAW
variable {X : jX} {G : jG} {cc : ByteArray} {nL : Nat} {Ts : List Cond} {own : String} {pc pc' k n : Nat} {l : List (Nat × Value)} {st : List Value} {h : jH}
/-- a body that returns by contract, with handlers -/
def jEH (X : jX) (G : jG) (ok : Option Value → jH → Prop) (ex : String → jH → Prop) (mc ms : Nat) (ret : Option FieldType) : Prop :=
  X.2.2.2.2.2.2.2.2.2.2 = vx_MQ X.2.2.2.2.2.2.2.1 (jQc G ok) (jXC G ex) X.2.2.2.2.2.2.1 X.2.2.2.2.1 mc ms (jA G) ∧ X.2.2.2.2.2.2.2.2.1.sig.returnType = ret ∧ X.2.2.2.1.cells = mc ∧ X.2.2.2.1.slots = ms
theorem j_iretH (C : jC X G cc nL Ts own) {ok : Option Value → jH → Prop} {ex : String → jH → Prop} {mc ms : Nat} {ty : FieldType} {v : Int32} (E : jEH X G ok ex mc ms (some ty)) (hd : decode cc pc = .ok (.ireturn, 1)) (hn : narrow ty (.int v) = .int v) (hk : k ≤ mc) (hs : n ≤ ms) (ho : ok (some (.int v)) h) : jW X G nL k n pc l [.int v] h := by
  intro H locs ls hR hS hl
  rw [E.1]
  exact W.widen hk hs (vx_ret (W.zret (hlocks := C.2.2.2.2.2.1) C.1 C.2.1 E.2.1 hn (fun t ht hW => ⟨⟨_, h, rfl, ho, by rw [ht]; exact hR⟩, by have := hS.F ht; exact this⟩) hS.2.2 hd))
/-- a throw comes to a handler of the body's own -/
theorem j_catch (C : jC X G cc nL Ts own) {hh : List (Nat × Nat × Nat × Nat)} (hT : X.2.2.2.2.2.2.2.2.2.1.exceptionTable.toList = tableOf hh) {E : String} (pre : List ExceptionTableEntry) (x : ExceptionTableEntry) (suf : List ExceptionTableEntry) (hsplit : tableOf hh = pre ++ x :: suf)
    (hpass : ∀ z ∈ pre, z.catchType ≠ 0 ∧ ∃ nm : String, Cond.classLink own z.catchType nm ∈ Ts ∧ nm ∈ jExc ∧ E ≠ nm) (hE : E ∈ jExc) (hx : covers x pc = true) (h0 : x.catchType ≠ 0) (hlink : Cond.classLink own x.catchType E ∈ Ts) (hcast : Cond.castable E E ∈ jBad)
    (kk : ∀ q : Nat, jW X G nL k n x.handlerPc l [.ref q] h) : jXW X G nL k n pc l h E := by
  intro H locs ls rest q ce hR hS hl hce hcv hcl
  have hJ := C.2.2.2.2.2.2.2.1.2.2.2.2.2.2.2.2.2
  refine vx_catch C.2.2.2.1 pre x suf (hT.trans hsplit) (fun z hz => ?_) hx h0 (C.2.2.2.2.1 _ hlink) (va_Nw.use rfl (hJ.1 E hcast)) hce hcv hcl (kk q H locs ls hR hS hl)
  obtain ⟨z0, nm, z1, z2, z3⟩ := hpass z hz
  exact Or.inr ⟨z0, nm, C.2.2.2.2.1 _ z1, hJ.2.2.2 E hE nm z2 z3⟩
theorem jM_ofH {y : MethodName} {ws ws' : List Cond} {f lo mc ms maxL : Nat} {av : List Value} {l : Launch} {ok : Option Value → jH → Prop} {ex : String → jH → Prop} {ret : Option FieldType} {hh : List (Nat × Nat × Nat × Nat)} (hlt : l.stackTraces = false) (hy : plainName y.cls = true) (hw : ws = Cond.codeWith y cc maxL ret hh :: ws') (hsl : (lg_sl av).length ≤ maxL)
    (body : ∀ X : jX, jC X G cc maxL ws y.cls → jEH X G ok ex mc ms ret → X.2.2.2.2.2.2.2.2.2.1.exceptionTable.toList = tableOf hh → X.2.1 = l → X.2.2.2.1 = { frames := f, cells := mc, slots := ms, locals := lo } → jW X G maxL 0 0 0 (lv_args 0 av) [] h) : jM l G y ws f lo mc ms av h ok ex := by
  refine vx_ofWH (cc := cc) (maxL := maxL) (ret := ret) (hh := hh) hy hw ?_
  intro p e s m args below meth c s₁ B hml hv
  obtain ⟨rfl, hsz, hR, hSS⟩ := hv
  have hts := atoms_spec (ws := ws) B.pre
  have hown := findClass_of_methodNamed B.named
  have hX := body (p, l, e, { frames := f, cells := mc, slots := ms, locals := lo }, s, m, av.toArray, below, meth, c, vx_MQ below (jQc G ok) (jXC G ex) av.toArray s mc ms (jA G))
    ⟨B.exec, B.bytes, hml, hown, hts, B.notSynchronized, hsz, hSS, hlt⟩ ⟨rfl, B.returns, rfl, rfl⟩ (vx_table (x := y) B (hts _ (by rw [hw]; exact List.mem_cons_self))) rfl rfl
  rw [lg_entry_eq]
  exact hX s.heap [] _ hR va_S.rf (lv_entry av (n := maxL) hsl)
/-- a call of a method that has handlers -/
theorem j_callSX (C : jC X G cc nL Ts own) {index maxL na mc ms f lo : Nat} {y : MethodName} {bytes : ByteArray} {ret : Option FieldType} {hh : List (Nat × Nat × Nat × Nat)} {ws : List Cond} {As stk rest : List Value} {ok : Option Value → jH → Prop} {ex : String → jH → Prop}
    (hM : jM X.2.1 G y ws f lo mc ms As h ok ex) (cw : vx_CSW X.2.2.2.1 X.2.2.2.2.1 X.2.2.2.2.2.2.1 own index y bytes maxL ret hh ws { frames := f, cells := mc, slots := ms, locals := lo } mc ms na) (hn : As.length = na) (hst : stk = As.reverse ++ rest) (hW : (rest.map fun v => v.category).sum ≤ 8) (hd : decode cc pc = .ok (.invokestatic index, 3)) (hp : pc + 3 = pc') (hk : k + mc ≤ X.2.2.2.1.cells) (hms : n + ms ≤ X.2.2.2.1.slots)
    (kx : ∀ (E : String) (h' : jH), ex E h' → jXW X G nL (k + mc) (n + ms) pc l h' E) (kk : ∀ (r : Option Value) (h' : jH), ok r h' → jW X G nL (k + mc) (n + ms) pc' l (r.toList ++ rest) h') : jW X G nL k n pc l stk h :=
  j_run C (fun H locs ls hR hS hl => vx_runSX ⟨C.1, C.2.1, C.2.2.1, C.2.2.2.1, C.2.2.2.2.1⟩ hM cw ⟨jPc.blind G _ _, C.pre hR hS⟩ rfl hn hl.1 hst (lv_room hW) hd ⟨hk, hms⟩) hp kx kk
/-! the script of the law -/
theorem j_slen (C : jC X G cc nL Ts own) {b L : Nat} {xs : Nat → Int32} (hX : va_X b L xs X.2.2.2.2.1 X.2.2.2.2.1.heap) (hbl : b < X.2.2.2.2.1.heap.size) (hbA : b < G.1) (hd : decode cc pc = .ok (.arraylength, 1)) (hp : pc + 1 = pc') (kk : jW X G nL k n pc' l (.int (nI L) :: st) h) : jW X G nL k n pc l (.ref b :: st) h := by
  subst hp
  exact fun H locs ls hR hS hl => va_slen C.1 C.2.1 hX hbl (show ¬ G.1 ≤ b by omega) hS hd (kk H locs ls hR hS hl)
theorem j_sld (C : jC X G cc nL Ts own) {b L j : Nat} {xs : Nat → Int32} {i : Int32} (hX : va_X b L xs X.2.2.2.2.1 X.2.2.2.2.1.heap) (hbl : b < X.2.2.2.2.1.heap.size) (hbA : b < G.1) (hi : i = nI j) (hj : j < L) (hL : L < 1048576) (hd : decode cc pc = .ok (.iaload, 1)) (hp : pc + 1 = pc') (kk : jW X G nL k n pc' l (.int (xs j) :: st) h) : jW X G nL k n pc l (.int i :: .ref b :: st) h := by
  subst hp hi
  have e := nI_clamp (n := j) (by omega)
  refine fun H locs ls hR hS hl => va_sld C.1 C.2.1 hX hbl (show ¬ G.1 ≤ b by omega) hS (vp_in_nI hj (by omega)) hd ?_
  rw [e]
  exact kk H locs ls hR hS hl
theorem j_tblOut (C : jC X G cc nL Ts own) {dflt lo hi : Int} {offs : Array Int} {len : Nat} {x : Int32} {tgt : Nat} (hd : decode cc pc = .ok (.tableswitch dflt lo hi offs, len)) (hx : x.toInt < lo ∨ hi < x.toInt) (ht : (pc : Int) + dflt = (tgt : Int)) (kk : jW X G nL k n tgt l st h) : jW X G nL k n pc l (.int x :: st) h :=
  fun H locs ls hR hS hl => lv_tableOut C.1 C.2.1 hd hx ht (kk H locs ls hR hS hl)
theorem j_tblIn (C : jC X G cc nL Ts own) {dflt lo hi : Int} {offs : Array Int} {len : Nat} {x : Int32} {off : Int} {tgt : Nat} (hd : decode cc pc = .ok (.tableswitch dflt lo hi offs, len)) (h1 : ¬ x.toInt < lo) (h2 : ¬ hi < x.toInt) (ho : offs[(x.toInt - lo).toNat]? = some off) (ht : (pc : Int) + off = (tgt : Int)) (kk : jW X G nL k n tgt l st h) : jW X G nL k n pc l (.int x :: st) h :=
  fun H locs ls hR hS hl => lv_tableIn C.1 C.2.1 hd h1 h2 ho ht (kk H locs ls hR hS hl)
end JLAW
section STORE
variable {G : jG} {P : Nat → Prop} {xo : Nat} {xa th va ca ma : Nat → Nat} {dat cap : Nat} {mod : Int32} {df : Nat → Option Nat} {vf dr : Nat → Int32} {mf : Nat → Nat → Int32} {s s' : mS} {a a' : mA} {h h' : jH}
/-- what lies off P stays, and no content lies on P: the store stays -/
theorem cE.off (E : cE G P xo xa s a h) (k : ∀ q, ¬ P q → h' q = h q) (hc : ∀ q fs, h q = some (.inr (1, fs)) → ¬ P q) : cE G P xo xa s a h' := by
  obtain ⟨th, va, ca, ma, dat, cap, mod, df, vf, dr, mf, Q, hp⟩ := E
  obtain ⟨q1, q2, q3, q4, q5, ⟨q6, q6'⟩, ⟨q7, q7'⟩, q8, q9, q10, q11, q12, q13⟩ := Q
  have np := q13.1
  refine ⟨th, va, ca, ma, dat, cap, mod, df, vf, dr, mf, ⟨(k _ np.1).trans q1, (k _ (np.2.1 0 (by decide))).trans q2, (k _ (np.2.1 1 (by decide))).trans q3, (k _ (np.2.1 2 (by decide))).trans q4, (k _ (np.2.1 3 (by decide))).trans q5, ⟨(k _ (np.2.1 4 (by decide))).trans q6, q6'⟩, ⟨(k _ (np.2.1 5 (by decide))).trans q7, q7'⟩, ?_, fun t ht => ⟨(k _ (np.2.2.2.1 t ht)).trans (q9 t ht).1, (q9 t ht).2⟩, fun v hv => ⟨(k _ (np.2.2.2.2 v hv)).trans (q10 v hv).1, (q10 v hv).2⟩, fun v hv => (k _ (hc _ _ (q11 v hv))).trans (q11 v hv), fun v hv => ⟨(k _ (hp v hv)).trans (q12 v hv).1, (q12 v hv).2⟩, q13⟩, hp⟩
  rcases q8 with h1 | ⟨h1, h2, h3, h4, h5⟩
  · exact Or.inl h1
  · exact Or.inr ⟨h1, h2, h3, (k _ np.2.2.1).trans h4, h5⟩
theorem cE.same (E : cE G P xo xa s a h) (hs : ∀ f, f ≠ 25 → f ≠ 23 → s' f = s f) (ha : ∀ f, f ≠ 24 → f ≠ 21 → f ≠ 22 → f ≠ 9 → f ≠ 11 → a' f = a f) : cE G P xo xa s' a' h := by
  obtain ⟨th, va, ca, ma, dat, cap, mod, df, vf, dr, mf, Q, hp⟩ := E
  exact ⟨th, va, ca, ma, dat, cap, mod, df, vf, dr, mf, Q.same hs ha, fun v hv => hp v (by rw [hs 10 (by decide) (by decide)] at hv; exact hv)⟩
/-- the cell that the law's wrappers write -/
theorem cE.out (E : cE G P xo xa s a h) {oo : Nat} {c : ClassId} {N : Nat} {v : Nat → Int64} {e : va_E} (hoo : P oo) (ho : h oo = some (.inl (c, N, .inr (.inl v)))) : cE G P xo xa s a (jup h oo e) := by
  obtain ⟨th, va, ca, ma, dat, cap, mod, df, vf, dr, mf, Q, hp⟩ := E
  have k : ∀ q, ¬ P q → jup h oo e q = h q := fun q hq => jup_ne (fun z => hq (by rw [z]; exact hoo))
  obtain ⟨q1, q2, q3, q4, q5, ⟨q6, q6'⟩, ⟨q7, q7'⟩, q8, q9, q10, q11, q12, q13⟩ := Q
  have np := q13.1
  have hc : ∀ v, v < s 10 → jup h oo e (ca v) = h (ca v) := fun w hw => jup_ne (fun z => by
    have := q11 w hw
    rw [z, ho] at this
    cases this)
  refine ⟨th, va, ca, ma, dat, cap, mod, df, vf, dr, mf, ⟨(k _ np.1).trans q1, (k _ (np.2.1 0 (by decide))).trans q2, (k _ (np.2.1 1 (by decide))).trans q3, (k _ (np.2.1 2 (by decide))).trans q4, (k _ (np.2.1 3 (by decide))).trans q5, ⟨(k _ (np.2.1 4 (by decide))).trans q6, q6'⟩, ⟨(k _ (np.2.1 5 (by decide))).trans q7, q7'⟩, ?_, fun t ht => ⟨(k _ (np.2.2.2.1 t ht)).trans (q9 t ht).1, (q9 t ht).2⟩, fun v hv => ⟨(k _ (np.2.2.2.2 v hv)).trans (q10 v hv).1, (q10 v hv).2⟩, fun v hv => (hc v hv).trans (q11 v hv), fun v hv => ⟨(k _ (hp v hv)).trans (q12 v hv).1, (q12 v hv).2⟩, q13⟩, hp⟩
  rcases q8 with h1 | ⟨h1, h2, h3, h4, h5⟩
  · exact Or.inl h1
  · exact Or.inr ⟨h1, h2, h3, (k _ np.2.2.1).trans h4, h5⟩
end STORE
/-- what a call leaves where it throws, and a question always -/
def oSoft (s : mS) (a : mA) (o : mO) : Prop := (∀ f, f ≠ 25 → f ≠ 23 → o.2.1 f = s f) ∧ ∀ f, f ≠ 24 → f ≠ 21 → f ≠ 22 → f ≠ 9 → f ≠ 11 → o.2.2 f = a f
theorem soft_k {s : mS} {a : mA} {r : Int32} {k : Nat} : oSoft s a (r, va_up s 25 k, a) := ⟨fun f h25 _ => up_n h25, fun _ _ _ _ _ _ => rfl⟩
theorem soft_th {s : mS} {a : mA} {k : Nat} : oSoft s a (oTh s a k) := soft_k
/-- what a wrapper of the law leaves: the code, the answer in the law's own cell, the store behind -/
def oLaw (G : jG) (P : Nat → Prop) (xo : Nat) (xa : Nat → Nat) (oo : Nat) (h : jH) (o : mO) (r : Option Value) (h' : jH) : Prop :=
  r = some (.int (nI (o.2.1 25))) ∧ (∃ v : Nat → Int64, h' oo = some (.inl (G.2.2.1.2.2.2, 1, .inr (.inl v))) ∧ (o.2.1 25 = 0 → v 0 = o.1.toInt64)) ∧ cE G P xo xa o.2.1 o.2.2 h' ∧ ∀ w, P w → w ≠ oo → h' w = h w
