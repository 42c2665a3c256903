/-! What the library's own methods need: natives, arrays of references, mirrors. -/
section JLIB
variable {X : jX} {G : jG} {cc : ByteArray} {nL : Nat} {Ts : List Cond} {own : String} {pc pc' k n : Nat} {l : List (Nat × Value)} {st : List Value} {h : jH}
theorem j_ishr (C : jC X G cc nL Ts own) {x y v : Int32} (hv : x >>> (y &&& 31) = v) (hd : decode cc pc = .ok (.ishr, 1)) (hp : pc + 1 = pc') (kk : jW X G nL k n pc' l (.int v :: st) h) : jW X G nL k n pc l (.int y :: .int x :: st) h := by
  subst hp hv
  exact fun H locs ls hR hS hl => lv_ishr C.1 C.2.1 hd (kk H locs ls hR hS hl)
theorem j_max (C : jC X G cc nL Ts own) {idx : Nat} {x y v : Int32} (hv : (if x < y then y else x) = v) (h1 : Cond.methodLink own idx Lib.Math.max.name ∈ Ts) (h2 : Cond.static Lib.Math.max.name ∈ Ts) (h3 : Cond.initialized "java/lang/Math" ∈ Ts) (h4 : Cond.code Lib.Math.max.name Lib.Math.max.code 2 (some .int) ∈ Ts) (hf : 1 ≤ X.2.2.2.1.frames) (hlo : 60 ≤ X.2.2.2.1.locals) (hW : (st.map fun v => v.category).sum ≤ 8) (hk : k ≤ X.2.2.2.1.cells) (hn : n ≤ X.2.2.2.1.slots) (hd : decode cc pc = .ok (.invokestatic idx, 3)) (hp : pc + 3 = pc') (kk : jW X G nL k n pc' l (.int v :: st) h) : jW X G nL k n pc l (.int y :: .int x :: st) h := by
  subst hp hv
  exact fun H locs ls hR hS hl => va_mmax C.1 C.2.1 (hl.1.trans C.2.2.1.symm).symm C.2.2.2.1 (C.2.2.2.2.1 _ h1) (C.2.2.2.2.1 _ h2) (C.2.2.2.2.1 _ h3) (C.2.2.2.2.1 _ h4) hf (by omega) hk hn hd (kk H locs ls hR hS hl)
theorem j_min (C : jC X G cc nL Ts own) {idx : Nat} {x y v : Int32} (hv : (if y < x then y else x) = v) (h1 : Cond.methodLink own idx Lib.Math.min.name ∈ Ts) (h2 : Cond.static Lib.Math.min.name ∈ Ts) (h3 : Cond.initialized "java/lang/Math" ∈ Ts) (h4 : Cond.code Lib.Math.min.name Lib.Math.min.code 2 (some .int) ∈ Ts) (hf : 1 ≤ X.2.2.2.1.frames) (hlo : 60 ≤ X.2.2.2.1.locals) (hW : (st.map fun v => v.category).sum ≤ 8) (hk : k ≤ X.2.2.2.1.cells) (hn : n ≤ X.2.2.2.1.slots) (hd : decode cc pc = .ok (.invokestatic idx, 3)) (hp : pc + 3 = pc') (kk : jW X G nL k n pc' l (.int v :: st) h) : jW X G nL k n pc l (.int y :: .int x :: st) h := by
  subst hp hv
  exact fun H locs ls hR hS hl => va_mmin C.1 C.2.1 (hl.1.trans C.2.2.1.symm).symm C.2.2.2.1 (C.2.2.2.2.1 _ h1) (C.2.2.2.2.1 _ h2) (C.2.2.2.2.1 _ h3) (C.2.2.2.2.1 _ h4) hf (by omega) hk hn hd (kk H locs ls hR hS hl)
/-- a field that the link names by a class below the one that declares it -/
theorem j_getS (C : jC X G cc nL Ts own) {ref CN : String} {T : u_T} {N ci index a kf : Nat} {fs : List Value} {v : Value} (hin : ∀ w ∈ u_ws CN T N, w ∈ Ts) (hc : vwCl[ci]? = some (CN, T, N)) (hk : kf < N) (hlink : Cond.fieldLink own index ref (T kf).2.1 (T kf).2.2.1 ∈ Ts) (hsf : Cond.sameField ref (T kf).1 (T kf).2.1 (T kf).2.2.1 ∈ Ts) (hh : h a = some (.inr (ci, fs))) (hv : fs[kf]? = some v) (hd : decode cc pc = .ok (.getfield index, 3)) (hp : pc + 3 = pc') (kk : jW X G nL k n pc' l (v :: st) h) : jW X G nL k n pc l (.ref a :: st) h := by
  subst hp
  intro H locs ls hR hS hl
  obtain ⟨ws, hP, hD, h1, h2⟩ := jR.list hR
  obtain ⟨q0, hq0⟩ := h2 a _ hh
  exact va_get C.1 C.2.1 C.2.2.2.2.1 hin C.2.2.2.1 C.K hP q0 hq0 hc kf hk (C.2.2.2.2.1 _ hlink) (fun x hx => u_same (C.2.2.2.2.1 _ hsf) x hx) hv hd (kk H locs ls hR hS hl)
theorem j_putS (C : jC X G cc nL Ts own) {ref CN : String} {T : u_T} {N ci index a kf : Nat} {fs : List Value} {v : Value} {ty : FieldType} (hin : ∀ w ∈ u_ws CN T N, w ∈ Ts) {ty0 : Nat → FieldType} (hty : ∀ k, k < N → parseFieldDescriptor (T k).2.2.1 = some (ty0 k)) (hnm : ∀ a, a < N → ∀ b, b < N → a ≠ b → (T a).2.1 ≠ (T b).2.1) (hc : vwCl[ci]? = some (CN, T, N)) (hk : kf < N) (hlink : Cond.fieldLink own index ref (T kf).2.1 (T kf).2.2.1 ∈ Ts) (hsf : Cond.sameField ref (T kf).1 (T kf).2.1 (T kf).2.2.1 ∈ Ts) (hfin : (T kf).2.2.2 = false) (hpd : parseFieldDescriptor (T kf).2.2.1 = some ty) (hn : narrow ty v = v) (hfit : fits ty v = true) (hh : h a = some (.inr (ci, fs))) (hl2 : kf < fs.length) (hd : decode cc pc = .ok (.putfield index, 3)) (hp : pc + 3 = pc') (kk : jW X G nL k n pc' l st (jup h a (.inr (ci, fs.set kf v)))) : jW X G nL k n pc l (v :: .ref a :: st) h := by
  subst hp
  intro H locs ls hR hS hl
  obtain ⟨ws, hP, hD, h1, h2⟩ := jR.list hR
  obtain ⟨q0, hq0⟩ := h2 a _ hh
  exact va_put C.1 C.2.1 C.2.2.2.2.1 hin ty0 hty hnm C.2.2.2.1 C.K hP hD hS q0 hq0 hc kf hk (C.2.2.2.2.1 _ hlink) (fun x hx => u_same (C.2.2.2.2.1 _ hsf) x hx) hfin hpd hn hfit hl2 hd (fun H1 locs1 hP1 hD1 hS1 => kk H1 locs1 ls (jR.set hD h2 hq0 hP1 hD1) hS1 hl)
theorem j_newa_q (C : jC X G cc nL Ts own) {N idx : Nat} {i : Int32} (hcl : Cond.classLink own idx "java/lang/Object" ∈ Ts) (hi : i = nI N) (hN : N ≤ 60000000) (hk : k + 1 ≤ X.2.2.2.1.cells) (hn : n + N ≤ X.2.2.2.1.slots) (hd : decode cc pc = .ok (.anewarray idx, 3)) (hp : pc + 3 = pc') (kk : ∀ q : Nat, h q = none → jW X G nL (k + 1) (n + N) pc' l (.ref q :: st) (jup h q (.inl (G.2.2.1.2.2.1, N, .inr (.inr (.inr (.inr (fun _ => none)))))))) : jW X G nL k n pc l (.int i :: st) h := by
  subst hp hi
  intro H locs ls hR hS hl
  obtain ⟨ws, hP, hD, h1, h2⟩ := jR.list hR
  obtain ⟨kA, comp, -, -, -, hT⟩ := (C.K.2 2 (G.2.2.1.2.2.1, .object "java/lang/Object") rfl).2
  refine va_newq (N' := N) C.1 C.2.1 C.2.2.2.1 (C.2.2.2.2.1 _ hcl) C.2.2.2.2.2.2.2.1.2.2.2.2.2.1 C.K hP hD hS C.A (nI_pos (by omega)) (nI_clamp (by omega)) (by omega) hk hn hd (fun q cA H1 hK1 hP1 hD1 hS1 => ?_)
  obtain ⟨kA1, comp1, -, -, -, hT1⟩ := (hK1.2 4 (cA, .object "java/lang/Object") rfl).2
  have e : cA = G.2.2.1.2.2.1 := Option.some.inj (Eq.trans (Eq.symm hT1) hT)
  subst e
  exact kk q (jR.push hR h2 hP1 hD1).1 H1 locs ls (jR.push hR h2 hP1 hD1).2 hS1 hl
theorem nfw_ac : nativeFrameWords "java/lang/System" "arraycopy" 5 ≤ 40 := by decide
theorem nI0c : (nI 0).toNatClampNeg = 0 := by decide
/-- a copy between arrays of ints, from the first place on -/
theorem j_copyi (C : jC X G cc nL Ts own) {idx a0 a1 n0 n1 m : Nat} {f g : Nat → Int32} {i : Int32} (l1 : Cond.methodLink own idx arraycopyName ∈ Ts) (l2 : Cond.native arraycopyName ∈ Ts) (l3 : Cond.static arraycopyName ∈ Ts) (l4 : Cond.initialized "java/lang/System" ∈ Ts)
    (h0 : h a0 = some (.inl (G.2.2.1.1, n0, .inl f))) (h1 : h a1 = some (.inl (G.2.2.1.1, n1, .inl g))) (hi : i = nI m) (hm : m < 1048576) (hm0 : m ≤ n0) (hm1 : m ≤ n1) (hf : 1 ≤ X.2.2.2.1.frames) (hlo : 60 ≤ X.2.2.2.1.locals) (hW : (st.map fun v => v.category).sum ≤ 8) (hd : decode cc pc = .ok (.invokestatic idx, 3)) (hp : pc + 3 = pc')
    (kk : jW X G nL k n pc' l st (jup h a1 (.inl (G.2.2.1.1, n1, .inl (va_cpy f g 0 0 m))))) : jW X G nL k n pc l (.int i :: .int (nI 0) :: .ref a1 :: .int (nI 0) :: .ref a0 :: st) h := by
  subst hp hi
  intro H locs ls hR hS hl
  obtain ⟨ws, hP, hD, g1, g2⟩ := jR.list hR
  obtain ⟨q0, hq0⟩ := g2 a0 _ h0
  obtain ⟨q1, hq1⟩ := g2 a1 _ h1
  have hc := nI_clamp (n := m) (by omega)
  have hz : ¬ nI 0 < 0 := by decide
  have hw := nfw_ac
  refine va_copyi C.1 C.2.1 (hl.1.trans C.2.2.1.symm).symm C.2.2.2.1 (C.2.2.2.2.1 _ l1) (C.2.2.2.2.1 _ l2) (C.2.2.2.2.1 _ l3) (C.2.2.2.2.1 _ l4) C.K hP hD hS q0 q1 0 0 hq0 hq1 rfl rfl rfl hz hz (nI_pos (by omega)) (by rw [hc, nI0c]; omega) (by rw [hc, nI0c]; omega) (fun _ _ => rfl) hf (by omega) hd (fun H1 locs1 hP1 hD1 hS1 => ?_)
  rw [hc, nI0c] at hP1 hD1
  exact kk H1 locs1 ls (jR.set hD g2 hq1 hP1 hD1) hS1 hl
/-- .. and between arrays of references to things -/
theorem j_copyr (C : jC X G cc nL Ts own) {idx a0 a1 n0 n1 m : Nat} {f g : Nat → Option Nat} {i : Int32} (l1 : Cond.methodLink own idx arraycopyName ∈ Ts) (l2 : Cond.native arraycopyName ∈ Ts) (l3 : Cond.static arraycopyName ∈ Ts) (l4 : Cond.initialized "java/lang/System" ∈ Ts)
    (h0 : h a0 = some (.inl (G.2.2.1.2.2.1, n0, .inr (.inr (.inr (.inr f)))))) (h1 : h a1 = some (.inl (G.2.2.1.2.2.1, n1, .inr (.inr (.inr (.inr g)))))) (hel : ∀ j, j < m → ∀ y, f j = some y → ∃ fs, h y = some (.inr (2, fs))) (hi : i = nI m) (hm : m < 1048576) (hm0 : m ≤ n0) (hm1 : m ≤ n1) (hf : 1 ≤ X.2.2.2.1.frames) (hlo : 60 ≤ X.2.2.2.1.locals) (hW : (st.map fun v => v.category).sum ≤ 8) (hd : decode cc pc = .ok (.invokestatic idx, 3)) (hp : pc + 3 = pc')
    (kk : jW X G nL k n pc' l st (jup h a1 (.inl (G.2.2.1.2.2.1, n1, .inr (.inr (.inr (.inr (va_cpy f g 0 0 m)))))))) : jW X G nL k n pc l (.int i :: .int (nI 0) :: .ref a1 :: .int (nI 0) :: .ref a0 :: st) h := by
  subst hp hi
  intro H locs ls hR hS hl
  obtain ⟨ws, hP, hD, g1, g2⟩ := jR.list hR
  obtain ⟨q0, hq0⟩ := g2 a0 _ h0
  obtain ⟨q1, hq1⟩ := g2 a1 _ h1
  have hc := nI_clamp (n := m) (by omega)
  have hz : ¬ nI 0 < 0 := by decide
  have hw := nfw_ac
  have hca := C.2.2.2.2.2.2.2.1.2.2.2.2.2.2.2.2.2.2.2.1 ("MapRevisions$Thing", "java/lang/Object") (by decide)
  refine va_copyM (E0 := "java/lang/Object") (E1 := "java/lang/Object") C.1 C.2.1 (hl.1.trans C.2.2.1.symm).symm C.2.2.2.1 (C.2.2.2.2.1 _ l1) (C.2.2.2.2.1 _ l2) (C.2.2.2.2.1 _ l3) (C.2.2.2.2.1 _ l4) C.K hP hD hS q0 q1 2 2 hq0 hq1 rfl rfl hz hz (nI_pos (by omega)) (by rw [hc, nI0c]; omega) (by rw [hc, nI0c]; omega) (fun j hj y hy => ?_) hf (by omega) hd (fun H1 locs1 hP1 hD1 hS1 => ?_)
  · rw [hc] at hj
    rw [nI0c, Nat.zero_add] at hy
    obtain ⟨fs, hfs⟩ := hel j hj y hy
    obtain ⟨qy, hqy⟩ := g2 y _ hfs
    exact va_rAny C.K hP hqy (r := (RX1, TX1, 2)) rfl (fun comp c0 e1 e2 => vb_asgC hca comp c0 e1 e2)
  · rw [hc, nI0c] at hP1 hD1
    exact kk H1 locs1 ls (jR.set hD g2 hq1 hP1 hD1) hS1 hl
theorem j_clone (C : jC X G cc nL Ts own) {idx a0 N : Nat} {f : Nat → Int32} (l1 : Cond.methodLink own idx ⟨"[I", "clone", "()Ljava/lang/Object;"⟩ ∈ Ts) (l2 : Cond.sameMethod "[I" "java/lang/Object" "clone" "()Ljava/lang/Object;" ∈ Ts) (l3 : Cond.native ⟨"java/lang/Object", "clone", "()Ljava/lang/Object;"⟩ ∈ Ts) (l4 : Cond.instanceMethod ⟨"java/lang/Object", "clone", "()Ljava/lang/Object;"⟩ ∈ Ts) (l5 : Cond.selects "[I" ⟨"[I", "clone", "()Ljava/lang/Object;"⟩ ⟨"java/lang/Object", "clone", "()Ljava/lang/Object;"⟩ ∈ Ts)
    (h0 : h a0 = some (.inl (G.2.2.1.1, N, .inl f))) (hf : 1 ≤ X.2.2.2.1.frames) (hlo : 60 ≤ X.2.2.2.1.locals) (hW : (st.map fun v => v.category).sum ≤ 8) (hk : k + 1 ≤ X.2.2.2.1.cells) (hn : n + N ≤ X.2.2.2.1.slots) (hd : decode cc pc = .ok (.invokevirtual idx, 3)) (hp : pc + 3 = pc')
    (kk : ∀ q : Nat, h q = none → jW X G nL (k + 1) (n + N) pc' l (.ref q :: st) (jup h q (.inl (G.2.2.1.1, N, .inl f)))) : jW X G nL k n pc l (.ref a0 :: st) h := by
  subst hp
  intro H locs ls hR hS hl
  obtain ⟨ws, hP, hD, g1, g2⟩ := jR.list hR
  obtain ⟨q0, hq0⟩ := g2 a0 _ h0
  have hT : X.2.2.2.2.1.vm.findClass "[I" = some G.2.2.1.1 := (C.K.2 0 (G.2.2.1.1, .int) rfl).2
  have hca := C.2.2.2.2.2.2.2.1.2.2.2.2.2.2.2.2.2.2.2.1 ("[I", "java/lang/Cloneable") (by decide)
  refine va_clone C.1 C.2.1 (hl.1.trans C.2.2.1.symm).symm C.2.2.2.1 (C.2.2.2.2.1 _ l1) (C.2.2.2.2.1 _ l2) (C.2.2.2.2.1 _ l3) (C.2.2.2.2.1 _ l4) (C.2.2.2.2.1 _ l5) hca C.K hP hD hS C.A q0 0 hq0 rfl hT (fun i v hv => ?_) hf (by omega) hk hn hd (fun q H1 hK1 hP1 hD1 hS1 => kk q (jR.push hR g2 hP1 hD1).1 H1 locs ls (jR.push hR g2 hP1 hD1).2 hS1 hl)
  rw [vp_cell_i] at hv
  have hi : i < N := by
    have := (Array.getElem?_eq_some_iff.mp hv).1
    rw [arrV_size] at this
    exact this
  rw [show (arrV G.2.2.1.1 N fun j => Value.int (f j)).slots[i]? = some (.int (f i)) from by simp [arrV, hi]] at hv
  cases hv
  rfl
theorem j_cast_i (C : jC X G cc nL Ts own) {idx a0 N : Nat} {f : Nat → Int32} (l1 : Cond.classLink own idx "[I" ∈ Ts) (h0 : h a0 = some (.inl (G.2.2.1.1, N, .inl f))) (hd : decode cc pc = .ok (.checkcast idx, 3)) (hp : pc + 3 = pc') (kk : jW X G nL k n pc' l (.ref a0 :: st) h) : jW X G nL k n pc l (.ref a0 :: st) h := by
  subst hp
  intro H locs ls hR hS hl
  obtain ⟨ws, hP, hD, g1, g2⟩ := jR.list hR
  obtain ⟨q0, hq0⟩ := g2 a0 _ h0
  have hT : X.2.2.2.2.1.vm.findClass "[I" = some G.2.2.1.1 := (C.K.2 0 (G.2.2.1.1, .int) rfl).2
  exact va_castA C.1 C.2.1 C.2.2.2.1 (C.2.2.2.2.1 _ l1) hP q0 hq0 hT hd (kk H locs ls hR hS hl)
theorem j_getC (C : jC X G cc nL Ts own) {idx a0 N : Nat} {f : Nat → Option Nat} (l1 : Cond.methodLink own idx ⟨"java/lang/Object", "getClass", "()Ljava/lang/Class;"⟩ ∈ Ts) (l2 : Cond.selects "[Ljava/lang/Object;" ⟨"java/lang/Object", "getClass", "()Ljava/lang/Class;"⟩ ⟨"java/lang/Object", "getClass", "()Ljava/lang/Class;"⟩ ∈ Ts) (l3 : Cond.instanceMethod ⟨"java/lang/Object", "getClass", "()Ljava/lang/Class;"⟩ ∈ Ts) (l4 : Cond.native ⟨"java/lang/Object", "getClass", "()Ljava/lang/Class;"⟩ ∈ Ts)
    (h0 : h a0 = some (.inl (G.2.2.1.2.2.1, N, .inr (.inr (.inr (.inr f)))))) (hf : 1 ≤ X.2.2.2.1.frames) (hlo : 60 ≤ X.2.2.2.1.locals) (hW : (st.map fun v => v.category).sum ≤ 8) (hd : decode cc pc = .ok (.invokevirtual idx, 3)) (hp : pc + 3 = pc')
    (kk : jW X G nL k n pc' l (.ref G.2.2.2.2.1 :: st) h) : jW X G nL k n pc l (.ref a0 :: st) h := by
  subst hp
  intro H locs ls hR hS hl
  have hJ := C.2.2.2.2.2.2.2.1
  obtain ⟨kA, comp, -, -, -, hT⟩ := (C.K.2 2 (G.2.2.1.2.2.1, .object "java/lang/Object") rfl).2
  have hat : H[a0]? = some (vp_cell G.2.2.1.2.2.1 (N, .inr (.inr (.inr (.inr f))))) := (hR a0 _ h0).1
  rw [vp_cell_q] at hat
  exact va_getC C.1 C.2.1 (hl.1.trans C.2.2.1.symm).symm C.2.2.2.1 (C.2.2.2.2.1 _ l1) (va_Dc.use hJ.2.2.2.2.2.2.2.1) (C.2.2.2.2.1 _ l2) (C.2.2.2.2.1 _ l3) (C.2.2.2.2.1 _ l4) hJ.2.2.2.2.2.2.1 ⟨_, hat, rfl, hT⟩ hf (by omega) hd (kk H locs ls hR hS hl)
theorem j_ldcM (C : jC X G cc nL Ts own) {idx : Nat} (l1 : Cond.classLink own idx "[Ljava/lang/Object;" ∈ Ts) (hd : decode cc pc = .ok (.ldc idx, 2)) (hp : pc + 2 = pc') (kk : jW X G nL k n pc' l (.ref G.2.2.2.2.1 :: st) h) : jW X G nL k n pc l st h := by
  subst hp
  exact fun H locs ls hR hS hl => va_ldcM C.1 C.2.1 C.2.2.2.1 (C.2.2.2.2.1 _ l1) C.2.2.2.2.2.2.2.1.2.2.2.2.2.2.1 hd (kk H locs ls hR hS hl)
theorem j_gets (C : jC X G cc nL Ts own) {idx : Nat} (l1 : Cond.fieldLink own idx "java/util/ArrayList" "DEFAULTCAPACITY_EMPTY_ELEMENTDATA" "[Ljava/lang/Object;" ∈ Ts) (hd : decode cc pc = .ok (.getstatic idx, 3)) (hp : pc + 3 = pc') (kk : jW X G nL k n pc' l (.ref G.2.2.2.1 :: st) h) : jW X G nL k n pc l st h := by
  subst hp
  exact fun H locs ls hR hS hl => va_gets C.1 C.2.1 C.2.2.2.2.2.2.2.1.2.2.2.1 hS C.2.2.2.1 (C.2.2.2.2.1 _ l1) (fun x hx => hx) hd (kk H locs ls hR hS hl)
/-- the length of the array that every new list begins with -/
theorem j_alen0 (C : jC X G cc nL Ts own) (hd : decode cc pc = .ok (.arraylength, 1)) (hp : pc + 1 = pc') (kk : jW X G nL k n pc' l (.int (nI 0) :: st) h) : jW X G nL k n pc l (.ref G.2.2.2.1 :: st) h := by
  subst hp
  exact fun H locs ls hR hS hl => va_tlen C.1 C.2.1 C.2.2.2.2.2.2.2.1.2.2.2.2.1 hS rfl hd (kk H locs ls hR hS hl)
theorem j_acmp_eq (C : jC X G cc nL Ts own) {x y : Nat} {off : Int} {tgt : Nat} (hd : decode cc pc = .ok (.if_acmp .eq off, 3)) (ht : (pc : Int) + off = (tgt : Int)) (hp : pc + 3 = pc') (kt : x = y → jW X G nL k n tgt l st h) (kf : ¬ x = y → jW X G nL k n pc' l st h) : jW X G nL k n pc l (.ref y :: .ref x :: st) h := by
  subst hp
  exact fun H locs ls hR hS hl => lv_acmp_eq (rx := some x) (ry := some y) C.1 C.2.1 hd ht (fun z => kt (Option.some.inj z) H locs ls hR hS hl) (fun z => kf (fun e => z (congrArg some e)) H locs ls hR hS hl)
theorem j_acmp_ne (C : jC X G cc nL Ts own) {x y : Nat} {off : Int} {tgt : Nat} (hd : decode cc pc = .ok (.if_acmp .ne off, 3)) (ht : (pc : Int) + off = (tgt : Int)) (hp : pc + 3 = pc') (kt : ¬ x = y → jW X G nL k n tgt l st h) (kf : x = y → jW X G nL k n pc' l st h) : jW X G nL k n pc l (.ref y :: .ref x :: st) h := by
  subst hp
  exact fun H locs ls hR hS hl => lv_acmp_ne (rx := some x) (ry := some y) C.1 C.2.1 hd ht (fun z => kt (fun e => z (congrArg some e)) H locs ls hR hS hl) (fun z => kf (Option.some.inj z) H locs ls hR hS hl)
end JLIB
