/-! THE CLAIM OUT OF ONE WALK OF THE LAW'S BODY. Your part is whole_start (and what it stands on); all else here is the same for every law, but numbers. -/
def R_law : String := "MapRevisionsLaw"
def lw_P (b : Addr) (xs : List Int32) (args : Array Value) (s : State) : Prop := args = #[.ref b] ∧ s.IntsAt b xs ∧ xs.length ≤ 3072 ∧ (Jvm.Cond.and given_1 narrow_1).before args s = true
def lw_Q (_ : Array Value) (s : State) (o : Outcome) (t : State) : Prop := o = .returned (some (.int 1)) ∧ Framed s o t [] 601024 7293034
def lw_Z (below : List Frame) (a : Array Value) (s : State) : State → Prop := fun t => ∃ o, t.status = .running ∧ Ended t below o ∧ lw_Q a s o t
/-- the law's own end, with 1 on the stack, nothing written that was there before, its room as the claim has it -/
theorem lw_ret {p : Program} {l : Launch} {e : Env} {s : State} {m : MethodId} {below : List Frame} {meth : Method} {c : Code} {b : Nat} (hx : p.tables.exec = Jvm.exec) (hb : c.code = code) (hr : meth.sig.returnType = ret) (hlocks : meth.locks = false) {pc : Nat} {H : Heap} {ls : Array Slot} (hdg : decode code pc = .ok (.ireturn, 1)) : W p l e room_1 s m #[Value.ref b] below meth c H [] 601024 7293034 (lw_Z below #[Value.ref b] s) (F0 m pc ls [.int 1]) := by
  intro T hT X
  obtain ⟨fs, hret, hrun, hended, hW, hframe⟩ := X.leave (v := some (.int 1)) (hlocks := hlocks) (fun h => by rw [hr] at h; cases h)
  have hmeth' : T.vm.method? m = some meth := X.method'
  refine ⟨T.setFrames fs, ?_, .returned (some (.int 1)), hrun, hended, rfl, ⟨_, rfl⟩, hW, hframe⟩
  jvm_step X.here [X.here.top, hx, hb, hdg, hmeth', hr, ret, narrow_b1]
  (try refine ⟨rfl, ?_⟩); (try refine ⟨rfl, ?_⟩)
  first | (intro acts; rw [hret _ acts rfl rfl rfl]) | rw [hret _ _ rfl rfl rfl]
  exact Steps.refl _
/-- what holds at the law's entry: the machine, the code, the tables' words (any of lw_tbl by 'hts w (by decide +kernel)'), the script of L ints xs at the cell b, what the Statement gives of the start (any of its parts by flat_of_before) -/
def lw_At (p : Program) (s : State) (m : MethodId) (meth : Method) (c : Code) (b L : Nat) (xs : Nat → Int32) : Prop :=
  p.tables.exec = Jvm.exec ∧ c.code = code ∧ meth.sig.returnType = ret ∧ c.maxLocals = 7 ∧ s.vm.findClass R_law = some m.cls ∧ (∀ w ∈ lw_tbl, w.before #[Value.ref b] s = true) ∧ va_X b L xs s s.heap ∧ b < s.heap.size ∧ meth.locks = false ∧ (Jvm.Cond.and given_1 narrow_1).before #[Value.ref b] s = true
/-! The law's start: what the Statement says of the machine. -/
theorem st_lay0 : ∀ w ∈ u_ws RJx4a65c TJx4a65c 3, w ∈ lw_tbl := by decide +kernel
theorem st_lay1 : ∀ w ∈ u_ws RX0 TX0 4, w ∈ lw_tbl := by decide +kernel
theorem st_lay2 : ∀ w ∈ u_ws RX1 TX1 2, w ∈ lw_tbl := by decide +kernel
theorem st_lay3 : ∀ w ∈ u_ws RX2 TX2 6, w ∈ lw_tbl := by decide +kernel
theorem st_lay4 : ∀ w ∈ u_ws RX3 TX3 11, w ∈ lw_tbl := by decide +kernel
theorem st_lay5 : ∀ w ∈ u_ws RX4 TX4 26, w ∈ lw_tbl := by decide +kernel
theorem st_str : ∀ q ∈ jStr, Cond.stringRef RX3 q.1 q.2 ∈ lw_tbl := by decide +kernel
theorem st_bad : ∀ w ∈ jBad, w ∈ lw_tbl := by decide +kernel
theorem st_badD : ∀ m ∈ jBadD, Cond.declares m ∈ lw_tbl := by decide +kernel
theorem st_cast : ∀ q ∈ jCasts, Cond.castable q.1 q.2 ∈ lw_tbl := by decide +kernel
theorem st_exc : ∀ x ∈ jExc, ∀ y ∈ jExc, x ≠ y → Cond.not (Cond.castable x y) ∈ flatC (Jvm.Cond.and given_1 narrow_1) := by decide +kernel
theorem st_arr {args : Array Value} {s : State} {ty : FieldType} (hc : ∀ C, ty ≠ .object C) (h : (Cond.arrayClass ty).before args s = true) : ∃ cA : ClassId, ArrOfT s cA ty ∧ va_RA s cA ty := by
  obtain ⟨c, k, comp, h1, h2, h3⟩ := Cond.arrayClass_spec h
  refine ⟨c, fun n z => ⟨fun k h => (by cases h), k, h2, comp, h3⟩, ?_⟩
  cases ty <;> first | exact h1 | (exact absurd rfl (hc _))
theorem st_over {args : Array Value} {s : State} {C : String} (h : (Cond.arrayOver (.object C)).before args s = true) : ∃ cA : ClassId, ArrOfT s cA (.object C) ∧ va_RA s cA (.object C) := by
  obtain ⟨comp, c, k, h1, -, h3, h4, h5⟩ := Cond.arrayOver_spec h
  exact ⟨c, fun n z => ⟨fun k h => (by cases h), k, h3, comp, h4⟩, k, comp, h3, h4, h1, h5⟩
theorem jS_start {s : State} {b : Nat} (hts : ∀ w ∈ lw_tbl, w.before #[Value.ref b] s = true) (hg : (Jvm.Cond.and given_1 narrow_1).before #[Value.ref b] s = true) : ∃ G : jG, G.1 = s.heap.size ∧ jS G s s.heap := by
  have hs := flat_of_before _ hg
  have hA : ∀ a : Nat, a < s.heap.size → ¬ s.heap.size ≤ a := fun a h => Nat.not_le.mpr h
  obtain ⟨d0, i0, k0⟩ := u_known (n := 3) hts st_lay0 (hts _ (by decide +kernel))
  obtain ⟨d1, i1, k1⟩ := u_known (n := 4) hts st_lay1 (hts _ (by decide +kernel))
  obtain ⟨d2, i2, k2⟩ := u_known (n := 2) hts st_lay2 (hts _ (by decide +kernel))
  obtain ⟨d3, i3, k3⟩ := u_known (n := 6) hts st_lay3 (hts _ (by decide +kernel))
  obtain ⟨d4, i4, k4⟩ := u_known (n := 11) hts st_lay4 (hts _ (by decide +kernel))
  obtain ⟨d5, i5, k5⟩ := u_known (n := 26) hts st_lay5 (hts _ (by decide +kernel))
  obtain ⟨cI, aI⟩ := st_arr (ty := .int) (fun C h => FieldType.noConfusion h) (hts _ (by decide +kernel))
  obtain ⟨cZ, aZ⟩ := st_arr (ty := .boolean) (fun C h => FieldType.noConfusion h) (hts _ (by decide +kernel))
  obtain ⟨cL, aL⟩ := st_arr (ty := .long) (fun C h => FieldType.noConfusion h) (hts _ (by decide +kernel))
  have hov : (Cond.arrayOver (.object "java/lang/Object")).before #[Value.ref b] s = true := hts _ (by decide +kernel)
  obtain ⟨cO, aO⟩ := st_over hov
  obtain ⟨mi, hmi⟩ := va_Mi.of (C := "[Ljava/lang/Object;") (hs _ (by decide +kernel))
  obtain ⟨t, ht, hT⟩ := va_Tof (N := 0) (tm := .static "java/util/ArrayList" "DEFAULTCAPACITY_EMPTY_ELEMENTDATA" "[Ljava/lang/Object;") (ty := .object "java/lang/Object") (f := fun _ => .null) (by decide) (hs _ (by decide +kernel)) (va_eqt (hs _ (by decide +kernel))) (fun j hj => absurd hj (Nat.not_lt_zero j)) hA
  have hstr : ∀ k : Nat, ∃ a : Nat, ∀ x : String, (k, x) ∈ jStr → vk_R RX3 k x a s := by
    intro k
    by_cases h : ∃ x : String, (k, x) ∈ jStr
    · obtain ⟨x, hx⟩ := h
      obtain ⟨-, -, -, a, -, -, -, -, -, he⟩ := Cond.stringRef_spec k4.2.1 (hts _ (st_str _ hx))
      exact ⟨a, fun y hy => vk_R.of (hts _ (st_str _ hy)) he⟩
    · exact ⟨0, fun x hx => absurd ⟨x, hx⟩ h⟩
  refine ⟨(s.heap.size, (fun c => match c with | 0 => d0 | 1 => d1 | 2 => d2 | 3 => d3 | 4 => d4 | _ => d5, fun c => match c with | 0 => i0 | 1 => i1 | 2 => i2 | 3 => i3 | 4 => i4 | _ => i5), (cI, cZ, cO, cL), t, mi, fun k => Classical.choose (hstr k)), rfl, ⟨?_, ?_⟩, ?_, ?_, ?_, hT, va_AO.of hov, hmi, va_Dc.of (A := #[Value.ref b]) (hts _ (by decide +kernel)), fun k x hx => Classical.choose_spec (hstr k) x hx, ?_, ?_, ?_, ?_⟩
  · intro c q hq
    match c, hq with
    | 0, hq => cases hq; exact k0
    | 1, hq => cases hq; exact k1
    | 2, hq => cases hq; exact k2
    | 3, hq => cases hq; exact k3
    | 4, hq => cases hq; exact k4
    | 5, hq => cases hq; exact k5
  · intro k q hq
    match k, hq with
    | 0, hq => cases hq; exact aI
    | 1, hq => cases hq; exact aZ
    | 2, hq => cases hq; exact aO
    | 3, hq => cases hq; exact aL
  · exact vx_Zqof (hts _ (by decide +kernel)) (hts _ (by decide +kernel)) (hs _ (by decide +kernel)) hA
  · exact vx_Zqof (hts _ (by decide +kernel)) (hts _ (by decide +kernel)) (hs _ (by decide +kernel)) hA
  · exact va_Zof (hts _ (by decide +kernel)) (hts _ (by decide +kernel)) ht hA
  · exact fun c hc => va_Nw.of rfl (hts _ (st_bad _ hc))
  · exact fun m hm => va_Nw.of rfl (hts _ (st_badD _ hm))
  · exact fun q hq => va_Nw.of rfl (hts _ (st_cast _ hq))
  · exact fun x hx y hy hn => va_Nc.of (hs _ (st_exc x hx y hy hn))
theorem st_traces {l : Launch} (h : l.flags = flags0) : l.stackTraces = false := by
  unfold Launch.stackTraces
  rw [h]
  decide +kernel
