/-! The J layer: one context X, one pure heap h (address to cell), locals as a list; a contract says what a method answers and which heap it leaves. -/
abbrev jG : Type := Nat × va_G × (ClassId × ClassId × ClassId × ClassId) × Nat × Nat × (Nat → Nat)
def jA (G : jG) : Nat → Prop := fun q => G.1 ≤ q
def jT (G : jG) : List (ClassId × FieldType) := [(G.2.2.1.1, .int), (G.2.2.1.2.1, .boolean), (G.2.2.1.2.2.1, .object "java/lang/Object"), (G.2.2.1.2.2.2, .long)]
abbrev jH : Type := Nat → Option va_E
def jup (h : jH) (a : Nat) (e : va_E) : jH := fun b => if b = a then some e else h b
theorem jup_self (h : jH) (a : Nat) (e : va_E) : jup h a e a = some e := by simp [jup]
theorem jup_ne {h : jH} {a b : Nat} {e : va_E} (n : b ≠ a) : jup h a e b = h b := by simp [jup, n]
def jR (G : jG) (h : jH) (H : Heap) : Prop := ∀ (a : Nat) (e : va_E), h a = some e → va_at G.2.1 vwCl (a, e) H ∧ G.1 ≤ a
def jStr : List (Nat × String) := [(116, "the thing is no point"), (122, "the thing is a point"), (124, "the set to undo is open"), (160, "the thing is no point, or is gone"), (190, "the version is the latest one, or hidden"), (196, "the version is hidden"), (201, "the minute is out of range"), (207, "the box or the kind is out of range"), (222, "it would be later than minute 5000"), (234, "there is no such set"), (240, "there is no such thing"), (245, "there is no such version"), (247, "x or y is out of range"), (249, "the minutes are out of range"), (251, "there is no room for versions"), (253, "there are 40 things"), (57, "there are 20 sets"), (66, "the set is closed"), (71, "the draft has 6 things"), (93, "the kind is neither WAY nor RELATION")]
def jBad : List Cond := [.castable "java/lang/IllegalStateException" "java/lang/IllegalStateException", .castable "java/lang/IllegalArgumentException" "java/lang/IllegalArgumentException", .castable "java/lang/IndexOutOfBoundsException" "java/lang/IndexOutOfBoundsException", .castable "java/util/NoSuchElementException" "java/util/NoSuchElementException"]
def jBadD : List MethodName := [⟨"java/lang/RuntimeException", "<init>", "(Ljava/lang/String;)V"⟩, ⟨"java/lang/Exception", "<init>", "(Ljava/lang/String;)V"⟩, ⟨"java/lang/Throwable", "<init>", "(Ljava/lang/String;)V"⟩]
def jCasts : List (String × String) := [("[I", "java/lang/Cloneable"), ("MapRevisions$Thing", "java/lang/Object")]
def jExc : List String := ["java/lang/IllegalStateException", "java/lang/IllegalArgumentException", "java/lang/IndexOutOfBoundsException", "java/util/NoSuchElementException"]
def jBads (U : State) : Prop := (∀ c : String, Cond.castable c c ∈ jBad → va_Nw (.castable c c) U) ∧ (∀ m ∈ jBadD, va_Nw (.declares m) U) ∧ (∀ q ∈ jCasts, va_Nw (.castable q.1 q.2) U) ∧ ∀ x ∈ jExc, ∀ y ∈ jExc, x ≠ y → va_Nc x y U
def jS (G : jG) (U : State) (H : Heap) : Prop :=
  va_K G.2.1 vwCl (jT G) U ∧ vx_Zq Bundle.tN "UNASSIGNED_STACK" Bundle.steD (jA G) U H ∧ vx_Zq Bundle.tN "SUPPRESSED_SENTINEL" Bundle.listD (jA G) U H ∧
  va_Z "java/util/ArrayList" "DEFAULTCAPACITY_EMPTY_ELEMENTDATA" "[Ljava/lang/Object;" (.ref G.2.2.2.1) (jA G) U H ∧ va_T (.object "java/lang/Object") G.2.2.2.1 0 (fun _ => .null) (jA G) U H ∧
  va_AO "java/lang/Object" U ∧ va_Mi "[Ljava/lang/Object;" G.2.2.2.2.1 U ∧ va_Dc U ∧ (∀ (k : Nat) (t : String), (k, t) ∈ jStr → vk_R RX3 k t (G.2.2.2.2.2 k) U) ∧ jBads U
theorem jS.move {G : jG} {s U : State} {H0 H : Heap} (hW : s.WarmedH U.vm) (hq : ∀ q : Nat, q < H0.size → ¬ jA G q → H[q]? = H0[q]?) (h : jS G s H0) : jS G U H := by
  obtain ⟨h1, h2, h3, h4, h5, h6, h7, h8, h9, h10, h11, h12, h13⟩ := h
  have ha := hW.alike
  exact ⟨va_K.moved ha h1, (vx_Zq.moved ha h2).kept hq, (vx_Zq.moved ha h3).kept hq, (va_Z.moved ha h4).kept hq, (va_T.moved ha h5).kept hq, va_AO.moved ha h6, va_Mi.moved ha h7, va_Dc.moved ha h8, fun k t hk => vk_R.warm hW (h9 k t hk), fun c hc => va_Nw.warmC hW (h10 c hc), fun m hm => va_Nw.warmD hW (h11 m hm), fun q hq2 => va_Nw.warmC hW (h12 q hq2), fun x hx y hy hn => va_Nc.moved ha (h13 x hx y hy hn)⟩
theorem jS.frame {G : jG} {U V : State} {H : Heap} (hv : V.vm = U.vm) (h : jS G U H) : jS G V H := by
  obtain ⟨h1, h2, h3, h4, h5, h6, h7, h8, h9, h10, h11, h12, h13⟩ := h
  have ha : U.vm.Alike V.vm := by rw [hv]; exact Vm.Alike.refl U.vm
  exact ⟨va_K.moved ha h1, vx_Zq.moved ha h2, vx_Zq.moved ha h3, va_Z.moved ha h4, va_T.moved ha h5, va_AO.moved ha h6, va_Mi.moved ha h7, va_Dc.moved ha h8, fun k t hk => vk_R.same hv (h9 k t hk), fun c hc => va_tabs rfl hv.symm (h10 c hc), fun m hm => va_tabs rfl hv.symm (h11 m hm), fun q hq2 => va_tabs rfl hv.symm (h12 q hq2), fun x hx y hy hn => va_Nc.moved ha (h13 x hx y hy hn)⟩
def jPc (G : jG) (av : List Value) (h : jH) : Array Value → State → Prop := va_Pc av (fun U => G.1 ≤ U.heap.size ∧ jR G h U.heap ∧ jS G U U.heap)
def jQc (G : jG) (ok : Option Value → jH → Prop) : Array Value → State → Outcome → State → Prop := fun _ st oc t => (∃ (r : Option Value) (h' : jH), oc = .returned r ∧ ok r h' ∧ jR G h' t.heap) ∧ va_F (jA G) st t
def jXC (G : jG) (ex : String → jH → Prop) : String → State → State → Prop := fun E st t => (∃ h' : jH, ex E h' ∧ jR G h' t.heap) ∧ va_F (jA G) st t
/-- a contract: y, called on av over the heap h, returns with ok, or throws with ex -/
def jM (l : Launch) (G : jG) (y : MethodName) (ws : List Cond) (f lo mc ms : Nat) (av : List Value) (h : jH) (ok : Option Value → jH → Prop) (ex : String → jH → Prop) : Prop :=
  vx_Met l y ws { frames := f, cells := mc, slots := ms, locals := lo } (jPc G av h) (jQc G ok) (jXC G ex) mc ms (jA G)
theorem jPc.blind (G : jG) (av : List Value) (h : jH) : FrameBlind (jPc G av h) := fun a U g mk q => ⟨q.1, q.2.1, q.2.2.1, jS.frame (U := U) rfl q.2.2.2⟩
abbrev jX : Type := Program × Launch × Env × Room × State × MethodId × Array Value × List Frame × Method × Code × (State → Prop)
def jW (X : jX) (G : jG) (nL k n pc : Nat) (l : List (Nat × Value)) (st : List Value) (h : jH) : Prop :=
  ∀ (H : Heap) (locs : List Loc) (ls : Array Slot), jR G h H → va_S (jA G) X.2.2.2.2.1.heap H locs → lv_has ls nL l →
    W X.1 X.2.1 X.2.2.1 X.2.2.2.1 X.2.2.2.2.1 X.2.2.2.2.2.1 X.2.2.2.2.2.2.1 X.2.2.2.2.2.2.2.1 X.2.2.2.2.2.2.2.2.1 X.2.2.2.2.2.2.2.2.2.1 H locs k n X.2.2.2.2.2.2.2.2.2.2 (F0 X.2.2.2.2.2.1 pc ls st)
/-- a throw arrives: an object of E lies at some cell -/
def jXW (X : jX) (G : jG) (nL k n pc : Nat) (l : List (Nat × Value)) (h : jH) (E : String) : Prop :=
  ∀ (H : Heap) (locs : List Loc) (ls : Array Slot) (rest : List Value) (q : Addr) (ce : Cell), jR G h H → va_S (jA G) X.2.2.2.2.1.heap H locs → lv_has ls nL l → H[q]? = some ce → ce.vm = .none → X.2.2.2.2.1.vm.findClass E = some ce.cls →
    vx_W X.1 X.2.1 X.2.2.1 X.2.2.2.1 X.2.2.2.2.1 X.2.2.2.2.2.1 X.2.2.2.2.2.2.1 X.2.2.2.2.2.2.2.1 X.2.2.2.2.2.2.2.2.1 X.2.2.2.2.2.2.2.2.2.1 H locs k n X.2.2.2.2.2.2.2.2.2.2 (F0 X.2.2.2.2.2.1 pc ls rest) q
/-- what holds of a body's context -/
def jC (X : jX) (G : jG) (cc : ByteArray) (nL : Nat) (Ts : List Cond) (own : String) : Prop :=
  X.1.tables.exec = Jvm.exec ∧ X.2.2.2.2.2.2.2.2.2.1.code = cc ∧ X.2.2.2.2.2.2.2.2.2.1.maxLocals = nL ∧ X.2.2.2.2.1.vm.findClass own = some X.2.2.2.2.2.1.cls ∧ (∀ w ∈ Ts, w.before X.2.2.2.2.2.2.1 X.2.2.2.2.1 = true) ∧
  X.2.2.2.2.2.2.2.2.1.locks = false ∧ G.1 ≤ X.2.2.2.2.1.heap.size ∧ jS G X.2.2.2.2.1 X.2.2.2.2.1.heap ∧ X.2.1.stackTraces = false
/-- .. and of one that returns by contract, without handlers -/
def jE (X : jX) (G : jG) (ok : Option Value → jH → Prop) (ex : String → jH → Prop) (mc ms : Nat) (ret : Option FieldType) : Prop :=
  X.2.2.2.2.2.2.2.2.2.2 = vx_MQ X.2.2.2.2.2.2.2.1 (jQc G ok) (jXC G ex) X.2.2.2.2.2.2.1 X.2.2.2.2.1 mc ms (jA G) ∧ X.2.2.2.2.2.2.2.2.1.sig.returnType = ret ∧ X.2.2.2.1.cells = mc ∧ X.2.2.2.1.slots = ms ∧ (∀ x ∈ X.2.2.2.2.2.2.2.2.2.1.exceptionTable.toList, False)
section JAY
variable {X : jX} {G : jG} {cc : ByteArray} {nL : Nat} {Ts : List Cond} {own : String} {pc pc' k n : Nat} {l : List (Nat × Value)} {st : List Value} {h : jH}
theorem jC.K (C : jC X G cc nL Ts own) : va_K G.2.1 vwCl (jT G) X.2.2.2.2.1 := C.2.2.2.2.2.2.2.1.1
theorem jC.A (C : jC X G cc nL Ts own) : ∀ q : Nat, X.2.2.2.2.1.heap.size ≤ q → jA G q := fun q hq => Nat.le_trans C.2.2.2.2.2.2.1 hq
theorem jW.widen {k' n' : Nat} (h1 : k ≤ k') (h2 : n ≤ n') (kk : jW X G nL k' n' pc l st h) : jW X G nL k n pc l st h := fun H locs ls hR hS hl => W.widen h1 h2 (kk H locs ls hR hS hl)
theorem jW.locals {l' : List (Nat × Value)} (ks : List Nat) (hp : lv_pick l ks = l') (kk : jW X G nL k n pc l' st h) : jW X G nL k n pc l st h := fun H locs ls hR hS hl => kk H locs ls hR hS (lv_sub hl ks hp)
/-- the list of a heap's cells -/
theorem jR.list {H : Heap} (hR : jR G h H) : ∃ ws : va_W, va_P G.2.1 vwCl ws H ∧ va_D (jA G) ws ∧ (∀ (q : Nat) (e : Nat × va_E), ws[q]? = some e → h e.1 = some e.2) ∧ ∀ (a : Nat) (e : va_E), h a = some e → ∃ q : Nat, ws[q]? = some (a, e) := by
  have hlt : ∀ (a : Nat) (e : va_E), h a = some e → a < H.size := fun a e he => (hR a e he).1.lt
  have key : ∀ N : Nat, ∃ ws : va_W, (∀ (i j : Nat) (p q : Nat × va_E), ws[i]? = some p → ws[j]? = some q → p.1 = q.1 → i = j) ∧ (∀ (q : Nat) (e : Nat × va_E), ws[q]? = some e → h e.1 = some e.2 ∧ e.1 < N) ∧ ∀ (a : Nat) (e : va_E), a < N → h a = some e → ∃ q : Nat, ws[q]? = some (a, e) := by
    intro N
    induction N with
    | zero => exact ⟨[], fun i j p q hp => by simp at hp, fun q e he => by simp at he, fun a e ha => absurd ha (Nat.not_lt_zero a)⟩
    | succ N ih =>
      obtain ⟨ws, h1, h2, h3⟩ := ih
      cases hN : h N with
      | none =>
        refine ⟨ws, h1, fun q e he => ⟨(h2 q e he).1, Nat.lt_succ_of_lt (h2 q e he).2⟩, fun a e ha he => ?_⟩
        rcases Nat.lt_succ_iff_lt_or_eq.mp ha with hl | rfl
        · exact h3 a e hl he
        · rw [hN] at he; cases he
      | some e0 =>
        have cut : ∀ (q : Nat) (e : Nat × va_E), (ws ++ [(N, e0)])[q]? = some e → (q < ws.length ∧ ws[q]? = some e) ∨ (q = ws.length ∧ e = (N, e0)) := by
          intro q e he
          by_cases hq : q < ws.length
          · rw [List.getElem?_append_left hq] at he; exact Or.inl ⟨hq, he⟩
          · rw [List.getElem?_append_right (by omega)] at he
            have hz : q - ws.length < 1 := (List.getElem?_eq_some_iff.mp he).1
            have hq0 : q = ws.length := by omega
            subst hq0
            rw [Nat.sub_self] at he
            cases he
            exact Or.inr ⟨rfl, rfl⟩
        refine ⟨ws ++ [(N, e0)], fun i j p q hp hq hpq => ?_, fun q e he => ?_, fun a e ha he => ?_⟩
        · rcases cut i p hp with ⟨a1, a2⟩ | ⟨a1, a2⟩ <;> rcases cut j q hq with ⟨b1, b2⟩ | ⟨b1, b2⟩
          · exact h1 i j p q a2 b2 hpq
          · have := (h2 i p a2).2; rw [hpq, b2] at this; exact absurd this (Nat.lt_irrefl _)
          · have := (h2 j q b2).2; rw [← hpq, a2] at this; exact absurd this (Nat.lt_irrefl _)
          · omega
        · rcases cut q e he with ⟨-, a2⟩ | ⟨-, a2⟩
          · exact ⟨(h2 q e a2).1, Nat.lt_succ_of_lt (h2 q e a2).2⟩
          · rw [a2]; exact ⟨hN, Nat.lt_succ_self N⟩
        · rcases Nat.lt_succ_iff_lt_or_eq.mp ha with hl | rfl
          · obtain ⟨q, hq⟩ := h3 a e hl he
            have hql : q < ws.length := (List.getElem?_eq_some_iff.mp hq).1
            exact ⟨q, by rw [List.getElem?_append_left hql]; exact hq⟩
          · rw [hN] at he; cases he
            exact ⟨ws.length, by simp⟩
  obtain ⟨ws, h1, h2, h3⟩ := key H.size
  exact ⟨ws, fun q e he => (hR e.1 e.2 (h2 q e he).1).1, ⟨h1, fun q e he => (hR e.1 e.2 (h2 q e he).1).2⟩, fun q e he => (h2 q e he).1, fun a e he => h3 a e (hlt a e he) he⟩
theorem jR.set {H1 : Heap} {ws : va_W} {q0 a : Nat} {e0 e1 : va_E} (hD : va_D (jA G) ws) (h2 : ∀ (a : Nat) (e : va_E), h a = some e → ∃ q : Nat, ws[q]? = some (a, e)) (h0 : ws[q0]? = some (a, e0)) (hP1 : va_P G.2.1 vwCl (ws.set q0 (a, e1)) H1) (hD1 : va_D (jA G) (ws.set q0 (a, e1))) : jR G (jup h a e1) H1 := by
  have hl := (List.getElem?_eq_some_iff.mp h0).1
  have hs : (ws.set q0 (a, e1))[q0]? = some (a, e1) := by rw [List.getElem?_set_self hl]
  intro b e hb
  by_cases hba : b = a
  · subst hba
    rw [jup_self] at hb
    cases hb
    exact ⟨hP1 q0 _ hs, hD1.2 q0 _ hs⟩
  · rw [jup_ne hba] at hb
    obtain ⟨q, hq⟩ := h2 b e hb
    have hne : q0 ≠ q := by
      rintro rfl
      rw [h0] at hq
      cases hq
      exact hba rfl
    have hq' : (ws.set q0 (a, e1))[q]? = some (b, e) := by rw [List.getElem?_set_ne hne]; exact hq
    exact ⟨hP1 q _ hq', hD1.2 q _ hq'⟩
theorem jR.push {H H1 : Heap} {ws : va_W} {a : Nat} {e1 : va_E} (hR : jR G h H) (h2 : ∀ (a : Nat) (e : va_E), h a = some e → ∃ q : Nat, ws[q]? = some (a, e)) (hP1 : va_P G.2.1 vwCl (ws ++ [(a, e1)]) H1) (hD1 : va_D (jA G) (ws ++ [(a, e1)])) : h a = none ∧ jR G (jup h a e1) H1 := by
  have hs : (ws ++ [(a, e1)])[ws.length]? = some (a, e1) := by simp
  have hn : h a = none := by
    cases hc : h a with
    | none => rfl
    | some e =>
      obtain ⟨q, hq⟩ := h2 a e hc
      have hql : q < ws.length := (List.getElem?_eq_some_iff.mp hq).1
      have := hD1.1 q ws.length (a, e) (a, e1) (by rw [List.getElem?_append_left hql]; exact hq) hs rfl
      omega
  refine ⟨hn, fun b e hb => ?_⟩
  by_cases hba : b = a
  · subst hba
    rw [jup_self] at hb
    cases hb
    exact ⟨hP1 _ _ hs, hD1.2 _ _ hs⟩
  · rw [jup_ne hba] at hb
    obtain ⟨q, hq⟩ := h2 b e hb
    have hql : q < ws.length := (List.getElem?_eq_some_iff.mp hq).1
    have hq' : (ws ++ [(a, e1)])[q]? = some (b, e) := by rw [List.getElem?_append_left hql]; exact hq
    exact ⟨hP1 q _ hq', hD1.2 q _ hq'⟩
theorem j_iconst (C : jC X G cc nL Ts own) {i : Int} {v : Int32} (hv : Int32.ofInt i = v) (hd : decode cc pc = .ok (.iconst i, 1)) (hp : pc + 1 = pc') (kk : jW X G nL k n pc' l (.int v :: st) h) : jW X G nL k n pc l st h := by
  subst hp
  exact fun H locs ls hR hS hl => lv_iconst C.1 C.2.1 hd hv (kk H locs ls hR hS hl)
theorem j_bipush (C : jC X G cc nL Ts own) {i : Int} {v : Int32} (hv : (Int8.ofInt i).toInt32 = v) (hd : decode cc pc = .ok (.bipush i, 2)) (hp : pc + 2 = pc') (kk : jW X G nL k n pc' l (.int v :: st) h) : jW X G nL k n pc l st h := by
  subst hp
  exact fun H locs ls hR hS hl => lv_bipush C.1 C.2.1 hd hv (kk H locs ls hR hS hl)
theorem j_sipush (C : jC X G cc nL Ts own) {i : Int} {v : Int32} (hv : (Int16.ofInt i).toInt32 = v) (hd : decode cc pc = .ok (.sipush i, 3)) (hp : pc + 3 = pc') (kk : jW X G nL k n pc' l (.int v :: st) h) : jW X G nL k n pc l st h := by
  subst hp
  exact fun H locs ls hR hS hl => lv_sipush C.1 C.2.1 hd hv (kk H locs ls hR hS hl)
theorem j_lconst (C : jC X G cc nL Ts own) {i : Fin 2} {v : Int64} (hv : Int64.ofNat (i : Nat) = v) (hd : decode cc pc = .ok (.lconst i, 1)) (hp : pc + 1 = pc') (kk : jW X G nL k n pc' l (.long v :: st) h) : jW X G nL k n pc l st h := by
  subst hp
  exact fun H locs ls hR hS hl => lv_lconst C.1 C.2.1 hd hv (kk H locs ls hR hS hl)
theorem j_iload_n (C : jC X G cc nL Ts own) {i : Fin 4} {x : Int32} (q : Nat) (hq : l[q]? = some ((i : Nat), .int x)) (hd : decode cc pc = .ok (.iload_n i, 1)) (hp : pc + 1 = pc') (kk : jW X G nL k n pc' l (.int x :: st) h) : jW X G nL k n pc l st h := by
  subst hp
  exact fun H locs ls hR hS hl => lv_iload_n C.1 C.2.1 hd rfl (lv_at hl q hq) (kk H locs ls hR hS hl)
theorem j_iload (C : jC X G cc nL Ts own) {i : Nat} {x : Int32} (q : Nat) (hq : l[q]? = some (i, .int x)) (hd : decode cc pc = .ok (.iload i, 2)) (hp : pc + 2 = pc') (kk : jW X G nL k n pc' l (.int x :: st) h) : jW X G nL k n pc l st h := by
  subst hp
  exact fun H locs ls hR hS hl => lv_iload C.1 C.2.1 hd (lv_at hl q hq) (kk H locs ls hR hS hl)
theorem j_lload_n (C : jC X G cc nL Ts own) {i : Fin 4} {x : Int64} (q : Nat) (hq : l[q]? = some ((i : Nat), .long x)) (hd : decode cc pc = .ok (.lload_n i, 1)) (hp : pc + 1 = pc') (kk : jW X G nL k n pc' l (.long x :: st) h) : jW X G nL k n pc l st h := by
  subst hp
  exact fun H locs ls hR hS hl => lv_lload_n C.1 C.2.1 hd rfl (lv_at hl q hq) (kk H locs ls hR hS hl)
theorem j_lload (C : jC X G cc nL Ts own) {i : Nat} {x : Int64} (q : Nat) (hq : l[q]? = some (i, .long x)) (hd : decode cc pc = .ok (.lload i, 2)) (hp : pc + 2 = pc') (kk : jW X G nL k n pc' l (.long x :: st) h) : jW X G nL k n pc l st h := by
  subst hp
  exact fun H locs ls hR hS hl => lv_lload C.1 C.2.1 hd (lv_at hl q hq) (kk H locs ls hR hS hl)
theorem j_aload_n (C : jC X G cc nL Ts own) {i : Fin 4} {x : Nat} (q : Nat) (hq : l[q]? = some ((i : Nat), .ref x)) (hd : decode cc pc = .ok (.aload_n i, 1)) (hp : pc + 1 = pc') (kk : jW X G nL k n pc' l (.ref x :: st) h) : jW X G nL k n pc l st h := by
  subst hp
  exact fun H locs ls hR hS hl => lv_aload_n C.1 C.2.1 hd rfl (lv_at hl q hq) (kk H locs ls hR hS hl)
theorem j_aload (C : jC X G cc nL Ts own) {i : Nat} {x : Nat} (q : Nat) (hq : l[q]? = some (i, .ref x)) (hd : decode cc pc = .ok (.aload i, 2)) (hp : pc + 2 = pc') (kk : jW X G nL k n pc' l (.ref x :: st) h) : jW X G nL k n pc l st h := by
  subst hp
  exact fun H locs ls hR hS hl => lv_aload C.1 C.2.1 hd (lv_at hl q hq) (kk H locs ls hR hS hl)
theorem j_aload_nv (C : jC X G cc nL Ts own) {i : Fin 4} {v : Value} (q : Nat) (hq : l[q]? = some ((i : Nat), v)) (hv : v = .null ∨ ∃ a, v = .ref a) (hd : decode cc pc = .ok (.aload_n i, 1)) (hp : pc + 1 = pc') (kk : jW X G nL k n pc' l (v :: st) h) : jW X G nL k n pc l st h := by
  subst hp
  rcases hv with rfl | ⟨a, rfl⟩
  · exact fun H locs ls hR hS hl => lv_aload_nN C.1 C.2.1 hd rfl (lv_at hl q hq) (kk H locs ls hR hS hl)
  · exact fun H locs ls hR hS hl => lv_aload_n C.1 C.2.1 hd rfl (lv_at hl q hq) (kk H locs ls hR hS hl)
theorem j_aloadv (C : jC X G cc nL Ts own) {i : Nat} {v : Value} (q : Nat) (hq : l[q]? = some (i, v)) (hv : v = .null ∨ ∃ a, v = .ref a) (hd : decode cc pc = .ok (.aload i, 2)) (hp : pc + 2 = pc') (kk : jW X G nL k n pc' l (v :: st) h) : jW X G nL k n pc l st h := by
  subst hp
  rcases hv with rfl | ⟨a, rfl⟩
  · exact fun H locs ls hR hS hl => lv_aloadN C.1 C.2.1 hd (lv_at hl q hq) (kk H locs ls hR hS hl)
  · exact fun H locs ls hR hS hl => lv_aload C.1 C.2.1 hd (lv_at hl q hq) (kk H locs ls hR hS hl)
theorem j_istore_n (C : jC X G cc nL Ts own) {i : Fin 4} {x : Int32} {l' : List (Nat × Value)} (hd : decode cc pc = .ok (.istore_n i, 1)) (hp : pc + 1 = pc') (hn : (i : Nat) < nL) (hl' : ((i : Nat), Value.int x) :: l.filter (fun q => !(q.1 == (i : Nat)) && !(q.1 + 1 == (i : Nat) && q.2.category == 2)) = l') (kk : jW X G nL k n pc' l' st h) : jW X G nL k n pc l (Value.int x :: st) h := by
  subst hp
  exact fun H locs ls hR hS hl => lv_istore_n C.1 C.2.1 hd rfl hl hn hl' (fun ls' hls => kk H locs ls' hR hS hls)
theorem j_istore (C : jC X G cc nL Ts own) {i : Nat} {x : Int32} {l' : List (Nat × Value)} (hd : decode cc pc = .ok (.istore i, 2)) (hp : pc + 2 = pc') (hn : (i : Nat) < nL) (hl' : ((i : Nat), Value.int x) :: l.filter (fun q => !(q.1 == i) && !(q.1 + 1 == i && q.2.category == 2)) = l') (kk : jW X G nL k n pc' l' st h) : jW X G nL k n pc l (Value.int x :: st) h := by
  subst hp
  exact fun H locs ls hR hS hl => lv_istore C.1 C.2.1 hd hl hn hl' (fun ls' hls => kk H locs ls' hR hS hls)
theorem j_lstore_n (C : jC X G cc nL Ts own) {i : Fin 4} {x : Int64} {l' : List (Nat × Value)} (hd : decode cc pc = .ok (.lstore_n i, 1)) (hp : pc + 1 = pc') (hn : (i : Nat) + 1 < nL) (hl' : ((i : Nat), Value.long x) :: l.filter (fun q => !(q.1 == (i : Nat)) && (!(q.1 == (i : Nat) + 1) && !(q.1 + 1 == (i : Nat) && q.2.category == 2))) = l') (kk : jW X G nL k n pc' l' st h) : jW X G nL k n pc l (Value.long x :: st) h := by
  subst hp
  exact fun H locs ls hR hS hl => lv_lstore_n C.1 C.2.1 hd rfl hl hn hl' (fun ls' hls => kk H locs ls' hR hS hls)
theorem j_lstore (C : jC X G cc nL Ts own) {i : Nat} {x : Int64} {l' : List (Nat × Value)} (hd : decode cc pc = .ok (.lstore i, 2)) (hp : pc + 2 = pc') (hn : (i : Nat) + 1 < nL) (hl' : ((i : Nat), Value.long x) :: l.filter (fun q => !(q.1 == i) && (!(q.1 == i + 1) && !(q.1 + 1 == i && q.2.category == 2))) = l') (kk : jW X G nL k n pc' l' st h) : jW X G nL k n pc l (Value.long x :: st) h := by
  subst hp
  exact fun H locs ls hR hS hl => lv_lstore C.1 C.2.1 hd hl hn hl' (fun ls' hls => kk H locs ls' hR hS hls)
theorem j_astore_n (C : jC X G cc nL Ts own) {i : Fin 4} {x : Nat} {l' : List (Nat × Value)} (hd : decode cc pc = .ok (.astore_n i, 1)) (hp : pc + 1 = pc') (hn : (i : Nat) < nL) (hl' : ((i : Nat), Value.ref x) :: l.filter (fun q => !(q.1 == (i : Nat)) && !(q.1 + 1 == (i : Nat) && q.2.category == 2)) = l') (kk : jW X G nL k n pc' l' st h) : jW X G nL k n pc l (Value.ref x :: st) h := by
  subst hp
  exact fun H locs ls hR hS hl => lv_astore_n C.1 C.2.1 hd rfl hl hn hl' (fun ls' hls => kk H locs ls' hR hS hls)
theorem j_astore (C : jC X G cc nL Ts own) {i : Nat} {x : Nat} {l' : List (Nat × Value)} (hd : decode cc pc = .ok (.astore i, 2)) (hp : pc + 2 = pc') (hn : (i : Nat) < nL) (hl' : ((i : Nat), Value.ref x) :: l.filter (fun q => !(q.1 == i) && !(q.1 + 1 == i && q.2.category == 2)) = l') (kk : jW X G nL k n pc' l' st h) : jW X G nL k n pc l (Value.ref x :: st) h := by
  subst hp
  exact fun H locs ls hR hS hl => lv_astore C.1 C.2.1 hd hl hn hl' (fun ls' hls => kk H locs ls' hR hS hls)
theorem j_astore_nN (C : jC X G cc nL Ts own) {i : Fin 4} {l' : List (Nat × Value)} (hd : decode cc pc = .ok (.astore_n i, 1)) (hp : pc + 1 = pc') (hn : (i : Nat) < nL) (hl' : ((i : Nat), Value.null) :: l.filter (fun q => !(q.1 == (i : Nat)) && !(q.1 + 1 == (i : Nat) && q.2.category == 2)) = l') (kk : jW X G nL k n pc' l' st h) : jW X G nL k n pc l (Value.null :: st) h := by
  subst hp
  exact fun H locs ls hR hS hl => lv_astore_nN C.1 C.2.1 hd rfl hl hn hl' (fun ls' hls => kk H locs ls' hR hS hls)
theorem j_astoreN (C : jC X G cc nL Ts own) {i : Nat} {l' : List (Nat × Value)} (hd : decode cc pc = .ok (.astore i, 2)) (hp : pc + 2 = pc') (hn : (i : Nat) < nL) (hl' : ((i : Nat), Value.null) :: l.filter (fun q => !(q.1 == i) && !(q.1 + 1 == i && q.2.category == 2)) = l') (kk : jW X G nL k n pc' l' st h) : jW X G nL k n pc l (Value.null :: st) h := by
  subst hp
  exact fun H locs ls hR hS hl => lv_astoreN C.1 C.2.1 hd hl hn hl' (fun ls' hls => kk H locs ls' hR hS hls)
theorem j_iinc (C : jC X G cc nL Ts own) {i q : Nat} {d : Int} {x v : Int32} {l' : List (Nat × Value)} (hd : decode cc pc = .ok (.iinc i d, 3)) (hp : pc + 3 = pc') (hq : l[q]? = some (i, .int x)) (hv : x + Int32.ofInt d = v) (hn : i < nL) (hl' : (i, Value.int v) :: l.filter (fun q => !(q.1 == i) && !(q.1 + 1 == i && q.2.category == 2)) = l') (kk : jW X G nL k n pc' l' st h) : jW X G nL k n pc l st h := by
  subst hp
  exact fun H locs ls hR hS hl => lv_iinc C.1 C.2.1 hd hl hq hv hn hl' (fun ls' hls => kk H locs ls' hR hS hls)
theorem j_iadd (C : jC X G cc nL Ts own) {x y : Int32} (hd : decode cc pc = .ok (.iadd, 1)) (hp : pc + 1 = pc') (kk : jW X G nL k n pc' l (.int (x + y) :: st) h) : jW X G nL k n pc l (.int y :: .int x :: st) h := by
  subst hp
  exact fun H locs ls hR hS hl => lv_iadd C.1 C.2.1 hd (kk H locs ls hR hS hl)
theorem j_isub (C : jC X G cc nL Ts own) {x y : Int32} (hd : decode cc pc = .ok (.isub, 1)) (hp : pc + 1 = pc') (kk : jW X G nL k n pc' l (.int (x - y) :: st) h) : jW X G nL k n pc l (.int y :: .int x :: st) h := by
  subst hp
  exact fun H locs ls hR hS hl => lv_isub C.1 C.2.1 hd (kk H locs ls hR hS hl)
theorem j_imul (C : jC X G cc nL Ts own) {x y : Int32} (hd : decode cc pc = .ok (.imul, 1)) (hp : pc + 1 = pc') (kk : jW X G nL k n pc' l (.int (x * y) :: st) h) : jW X G nL k n pc l (.int y :: .int x :: st) h := by
  subst hp
  exact fun H locs ls hR hS hl => lv_imul C.1 C.2.1 hd (kk H locs ls hR hS hl)
theorem j_iand (C : jC X G cc nL Ts own) {x y : Int32} (hd : decode cc pc = .ok (.iand, 1)) (hp : pc + 1 = pc') (kk : jW X G nL k n pc' l (.int (x &&& y) :: st) h) : jW X G nL k n pc l (.int y :: .int x :: st) h := by
  subst hp
  exact fun H locs ls hR hS hl => lv_iand C.1 C.2.1 hd (kk H locs ls hR hS hl)
theorem j_ladd (C : jC X G cc nL Ts own) {x y : Int64} (hd : decode cc pc = .ok (.ladd, 1)) (hp : pc + 1 = pc') (kk : jW X G nL k n pc' l (.long (x + y) :: st) h) : jW X G nL k n pc l (.long y :: .long x :: st) h := by
  subst hp
  exact fun H locs ls hR hS hl => lv_ladd C.1 C.2.1 hd (kk H locs ls hR hS hl)
theorem j_lsub (C : jC X G cc nL Ts own) {x y : Int64} (hd : decode cc pc = .ok (.lsub, 1)) (hp : pc + 1 = pc') (kk : jW X G nL k n pc' l (.long (x - y) :: st) h) : jW X G nL k n pc l (.long y :: .long x :: st) h := by
  subst hp
  exact fun H locs ls hR hS hl => lv_lsub C.1 C.2.1 hd (kk H locs ls hR hS hl)
theorem j_land (C : jC X G cc nL Ts own) {x y : Int64} (hd : decode cc pc = .ok (.land, 1)) (hp : pc + 1 = pc') (kk : jW X G nL k n pc' l (.long (x &&& y) :: st) h) : jW X G nL k n pc l (.long y :: .long x :: st) h := by
  subst hp
  exact fun H locs ls hR hS hl => lv_land C.1 C.2.1 hd (kk H locs ls hR hS hl)
theorem j_lor (C : jC X G cc nL Ts own) {x y : Int64} (hd : decode cc pc = .ok (.lor, 1)) (hp : pc + 1 = pc') (kk : jW X G nL k n pc' l (.long (x ||| y) :: st) h) : jW X G nL k n pc l (.long y :: .long x :: st) h := by
  subst hp
  exact fun H locs ls hR hS hl => lv_lor C.1 C.2.1 hd (kk H locs ls hR hS hl)
theorem j_lmul (C : jC X G cc nL Ts own) {x y : Int64} (hd : decode cc pc = .ok (.lmul, 1)) (hp : pc + 1 = pc') (kk : jW X G nL k n pc' l (.long (x * y) :: st) h) : jW X G nL k n pc l (.long y :: .long x :: st) h := by
  subst hp
  exact fun H locs ls hR hS hl => lv_lmul C.1 C.2.1 hd (kk H locs ls hR hS hl)
theorem j_lcmp (C : jC X G cc nL Ts own) {x y : Int64} (hd : decode cc pc = .ok (.lcmp, 1)) (hp : pc + 1 = pc') (kk : jW X G nL k n pc' l (.int (lg_cmp x y) :: st) h) : jW X G nL k n pc l (.long y :: .long x :: st) h := by
  subst hp
  exact fun H locs ls hR hS hl => W.lcmp C.1 C.2.1 hd (kk H locs ls hR hS hl)
theorem j_lushr (C : jC X G cc nL Ts own) {x v : Int64} {y : Int32} (hv : (x.toUInt64 >>> (y.toInt64.toUInt64 &&& Int64.toUInt64 63)).toInt64 = v) (hd : decode cc pc = .ok (.lushr, 1)) (hp : pc + 1 = pc') (kk : jW X G nL k n pc' l (.long v :: st) h) : jW X G nL k n pc l (.int y :: .long x :: st) h := by
  subst hp
  exact fun H locs ls hR hS hl => lv_lushr C.1 C.2.1 hd hv (kk H locs ls hR hS hl)
theorem j_lshl (C : jC X G cc nL Ts own) {x v : Int64} {y : Int32} (hv : x <<< (y.toInt64 &&& 63) = v) (hd : decode cc pc = .ok (.lshl, 1)) (hp : pc + 1 = pc') (kk : jW X G nL k n pc' l (.long v :: st) h) : jW X G nL k n pc l (.int y :: .long x :: st) h := by
  subst hp
  exact fun H locs ls hR hS hl => lv_lshl C.1 C.2.1 hd hv (kk H locs ls hR hS hl)
theorem j_goto (C : jC X G cc nL Ts own) {off : Int} (hd : decode cc pc = .ok (.goto off, 3)) (hp : (pc : Int) + off = (pc' : Int)) (kk : jW X G nL k n pc' l st h) : jW X G nL k n pc l st h := fun H locs ls hR hS hl => lv_goto C.1 C.2.1 hd hp (kk H locs ls hR hS hl)
theorem jt_i {x y : Int32} (e : x = y) (kk : jW X G nL k n pc l (.int y :: st) h) : jW X G nL k n pc l (.int x :: st) h := e ▸ kk
theorem jt_l {x y : Int64} (e : x = y) (kk : jW X G nL k n pc l (.long y :: st) h) : jW X G nL k n pc l (.long x :: st) h := e ▸ kk
theorem jt_h {h' : jH} (e : h = h') (kk : jW X G nL k n pc l st h') : jW X G nL k n pc l st h := e ▸ kk
theorem jt_s {st' : List Value} (e : st = st') (kk : jW X G nL k n pc l st' h) : jW X G nL k n pc l st h := e ▸ kk
theorem jt_loc {l' : List (Nat × Value)} (e : l = l') (kk : jW X G nL k n pc l' st h) : jW X G nL k n pc l st h := e ▸ kk
theorem j_if_eq (C : jC X G cc nL Ts own) {x : Int32} {off : Int} {tgt : Nat} (hd : decode cc pc = .ok (.ifCond .eq off, 3)) (ht : (pc : Int) + off = (tgt : Int)) (hp : pc + 3 = pc') (kt : x = 0 → jW X G nL k n tgt l st h) (kf : ¬ x = 0 → jW X G nL k n pc' l st h) : jW X G nL k n pc l (.int x :: st) h := by
  subst hp
  exact fun H locs ls hR hS hl => lv_if_eq C.1 C.2.1 hd ht (fun z => kt z H locs ls hR hS hl) (fun z => kf z H locs ls hR hS hl)
theorem j_if_ne (C : jC X G cc nL Ts own) {x : Int32} {off : Int} {tgt : Nat} (hd : decode cc pc = .ok (.ifCond .ne off, 3)) (ht : (pc : Int) + off = (tgt : Int)) (hp : pc + 3 = pc') (kt : ¬ x = 0 → jW X G nL k n tgt l st h) (kf : x = 0 → jW X G nL k n pc' l st h) : jW X G nL k n pc l (.int x :: st) h := by
  subst hp
  exact fun H locs ls hR hS hl => lv_if_ne C.1 C.2.1 hd ht (fun z => kt z H locs ls hR hS hl) (fun z => kf z H locs ls hR hS hl)
theorem j_if_lt (C : jC X G cc nL Ts own) {x : Int32} {off : Int} {tgt : Nat} (hd : decode cc pc = .ok (.ifCond .lt off, 3)) (ht : (pc : Int) + off = (tgt : Int)) (hp : pc + 3 = pc') (kt : x < 0 → jW X G nL k n tgt l st h) (kf : ¬ x < 0 → jW X G nL k n pc' l st h) : jW X G nL k n pc l (.int x :: st) h := by
  subst hp
  exact fun H locs ls hR hS hl => lv_if_lt C.1 C.2.1 hd ht (fun z => kt z H locs ls hR hS hl) (fun z => kf z H locs ls hR hS hl)
theorem j_if_ge (C : jC X G cc nL Ts own) {x : Int32} {off : Int} {tgt : Nat} (hd : decode cc pc = .ok (.ifCond .ge off, 3)) (ht : (pc : Int) + off = (tgt : Int)) (hp : pc + 3 = pc') (kt : 0 ≤ x → jW X G nL k n tgt l st h) (kf : ¬ 0 ≤ x → jW X G nL k n pc' l st h) : jW X G nL k n pc l (.int x :: st) h := by
  subst hp
  exact fun H locs ls hR hS hl => lv_if_ge C.1 C.2.1 hd ht (fun z => kt z H locs ls hR hS hl) (fun z => kf z H locs ls hR hS hl)
theorem j_if_gt (C : jC X G cc nL Ts own) {x : Int32} {off : Int} {tgt : Nat} (hd : decode cc pc = .ok (.ifCond .gt off, 3)) (ht : (pc : Int) + off = (tgt : Int)) (hp : pc + 3 = pc') (kt : 0 < x → jW X G nL k n tgt l st h) (kf : ¬ 0 < x → jW X G nL k n pc' l st h) : jW X G nL k n pc l (.int x :: st) h := by
  subst hp
  exact fun H locs ls hR hS hl => lv_if_gt C.1 C.2.1 hd ht (fun z => kt z H locs ls hR hS hl) (fun z => kf z H locs ls hR hS hl)
theorem j_if_le (C : jC X G cc nL Ts own) {x : Int32} {off : Int} {tgt : Nat} (hd : decode cc pc = .ok (.ifCond .le off, 3)) (ht : (pc : Int) + off = (tgt : Int)) (hp : pc + 3 = pc') (kt : x ≤ 0 → jW X G nL k n tgt l st h) (kf : ¬ x ≤ 0 → jW X G nL k n pc' l st h) : jW X G nL k n pc l (.int x :: st) h := by
  subst hp
  exact fun H locs ls hR hS hl => lv_if_le C.1 C.2.1 hd ht (fun z => kt z H locs ls hR hS hl) (fun z => kf z H locs ls hR hS hl)
theorem j_icmp_eq (C : jC X G cc nL Ts own) {x y : Int32} {off : Int} {tgt : Nat} (hd : decode cc pc = .ok (.if_icmp .eq off, 3)) (ht : (pc : Int) + off = (tgt : Int)) (hp : pc + 3 = pc') (kt : x = y → jW X G nL k n tgt l st h) (kf : ¬ x = y → jW X G nL k n pc' l st h) : jW X G nL k n pc l (.int y :: .int x :: st) h := by
  subst hp
  exact fun H locs ls hR hS hl => lv_icmp_eq C.1 C.2.1 hd ht (fun z => kt z H locs ls hR hS hl) (fun z => kf z H locs ls hR hS hl)
theorem j_icmp_ne (C : jC X G cc nL Ts own) {x y : Int32} {off : Int} {tgt : Nat} (hd : decode cc pc = .ok (.if_icmp .ne off, 3)) (ht : (pc : Int) + off = (tgt : Int)) (hp : pc + 3 = pc') (kt : ¬ x = y → jW X G nL k n tgt l st h) (kf : x = y → jW X G nL k n pc' l st h) : jW X G nL k n pc l (.int y :: .int x :: st) h := by
  subst hp
  exact fun H locs ls hR hS hl => lv_icmp_ne C.1 C.2.1 hd ht (fun z => kt z H locs ls hR hS hl) (fun z => kf z H locs ls hR hS hl)
theorem j_icmp_lt (C : jC X G cc nL Ts own) {x y : Int32} {off : Int} {tgt : Nat} (hd : decode cc pc = .ok (.if_icmp .lt off, 3)) (ht : (pc : Int) + off = (tgt : Int)) (hp : pc + 3 = pc') (kt : x < y → jW X G nL k n tgt l st h) (kf : ¬ x < y → jW X G nL k n pc' l st h) : jW X G nL k n pc l (.int y :: .int x :: st) h := by
  subst hp
  exact fun H locs ls hR hS hl => lv_icmp_lt C.1 C.2.1 hd ht (fun z => kt z H locs ls hR hS hl) (fun z => kf z H locs ls hR hS hl)
theorem j_icmp_ge (C : jC X G cc nL Ts own) {x y : Int32} {off : Int} {tgt : Nat} (hd : decode cc pc = .ok (.if_icmp .ge off, 3)) (ht : (pc : Int) + off = (tgt : Int)) (hp : pc + 3 = pc') (kt : y ≤ x → jW X G nL k n tgt l st h) (kf : ¬ y ≤ x → jW X G nL k n pc' l st h) : jW X G nL k n pc l (.int y :: .int x :: st) h := by
  subst hp
  exact fun H locs ls hR hS hl => lv_icmp_ge C.1 C.2.1 hd ht (fun z => kt z H locs ls hR hS hl) (fun z => kf z H locs ls hR hS hl)
theorem j_icmp_gt (C : jC X G cc nL Ts own) {x y : Int32} {off : Int} {tgt : Nat} (hd : decode cc pc = .ok (.if_icmp .gt off, 3)) (ht : (pc : Int) + off = (tgt : Int)) (hp : pc + 3 = pc') (kt : y < x → jW X G nL k n tgt l st h) (kf : ¬ y < x → jW X G nL k n pc' l st h) : jW X G nL k n pc l (.int y :: .int x :: st) h := by
  subst hp
  exact fun H locs ls hR hS hl => lv_icmp_gt C.1 C.2.1 hd ht (fun z => kt z H locs ls hR hS hl) (fun z => kf z H locs ls hR hS hl)
theorem j_icmp_le (C : jC X G cc nL Ts own) {x y : Int32} {off : Int} {tgt : Nat} (hd : decode cc pc = .ok (.if_icmp .le off, 3)) (ht : (pc : Int) + off = (tgt : Int)) (hp : pc + 3 = pc') (kt : x ≤ y → jW X G nL k n tgt l st h) (kf : ¬ x ≤ y → jW X G nL k n pc' l st h) : jW X G nL k n pc l (.int y :: .int x :: st) h := by
  subst hp
  exact fun H locs ls hR hS hl => lv_icmp_le C.1 C.2.1 hd ht (fun z => kt z H locs ls hR hS hl) (fun z => kf z H locs ls hR hS hl)
theorem j_idiv (C : jC X G cc nL Ts own) {x y : Int32} (hne : ¬ y = 0) (hd : decode cc pc = .ok (.idiv, 1)) (hp : pc + 1 = pc') (kk : jW X G nL k n pc' l (.int (x / y) :: st) h) : jW X G nL k n pc l (.int y :: .int x :: st) h := by
  subst hp
  exact fun H locs ls hR hS hl => lv_idiv C.1 C.2.1 hd hne (kk H locs ls hR hS hl)
theorem j_irem (C : jC X G cc nL Ts own) {x y : Int32} (hne : ¬ y = 0) (hd : decode cc pc = .ok (.irem, 1)) (hp : pc + 1 = pc') (kk : jW X G nL k n pc' l (.int (x - x / y * y) :: st) h) : jW X G nL k n pc l (.int y :: .int x :: st) h := by
  subst hp
  exact fun H locs ls hR hS hl => lv_irem C.1 C.2.1 hd hne (kk H locs ls hR hS hl)
theorem j_i2l (C : jC X G cc nL Ts own) {x : Int32} {v : Int64} (hv : x.toInt64 = v) (hd : decode cc pc = .ok (.i2l, 1)) (hp : pc + 1 = pc') (kk : jW X G nL k n pc' l (.long v :: st) h) : jW X G nL k n pc l (.int x :: st) h := by
  subst hp
  exact fun H locs ls hR hS hl => lv_i2l C.1 C.2.1 hd hv (kk H locs ls hR hS hl)
theorem j_l2i (C : jC X G cc nL Ts own) {x : Int64} {v : Int32} (hv : x.toInt32 = v) (hd : decode cc pc = .ok (.l2i, 1)) (hp : pc + 1 = pc') (kk : jW X G nL k n pc' l (.int v :: st) h) : jW X G nL k n pc l (.long x :: st) h := by
  subst hp
  exact fun H locs ls hR hS hl => lv_l2i C.1 C.2.1 hd hv (kk H locs ls hR hS hl)
theorem j_dup (C : jC X G cc nL Ts own) {va : Value} (hva : va.category = 1) (hd : decode cc pc = .ok (.dup, 1)) (hp : pc + 1 = pc') (kk : jW X G nL k n pc' l (va :: va :: st) h) : jW X G nL k n pc l (va :: st) h := by
  subst hp
  exact fun H locs ls hR hS hl => lv_dup C.1 C.2.1 hd hva (kk H locs ls hR hS hl)
theorem j_pop (C : jC X G cc nL Ts own) {va : Value} (hva : va.category = 1) (hd : decode cc pc = .ok (.pop, 1)) (hp : pc + 1 = pc') (kk : jW X G nL k n pc' l st h) : jW X G nL k n pc l (va :: st) h := by
  subst hp
  exact fun H locs ls hR hS hl => lv_pop C.1 C.2.1 hd hva (kk H locs ls hR hS hl)
theorem j_dup_x1 (C : jC X G cc nL Ts own) {va vb : Value} (hva : va.category = 1) (hvb : vb.category = 1) (hd : decode cc pc = .ok (.dup_x1, 1)) (hp : pc + 1 = pc') (kk : jW X G nL k n pc' l (va :: vb :: va :: st) h) : jW X G nL k n pc l (va :: vb :: st) h := by
  subst hp
  exact fun H locs ls hR hS hl => lv_dup_x1 C.1 C.2.1 hd hva hvb (kk H locs ls hR hS hl)
theorem j_dup2 (C : jC X G cc nL Ts own) {va vb : Value} (hva : va.category = 1) (hvb : vb.category = 1) (hd : decode cc pc = .ok (.dup2, 1)) (hp : pc + 1 = pc') (kk : jW X G nL k n pc' l (va :: vb :: va :: vb :: st) h) : jW X G nL k n pc l (va :: vb :: st) h := by
  subst hp
  exact fun H locs ls hR hS hl => lv_dup2_11 C.1 C.2.1 hd hva hvb (kk H locs ls hR hS hl)
theorem j_null (C : jC X G cc nL Ts own)  (hd : decode cc pc = .ok (.aconst_null, 1)) (hp : pc + 1 = pc') (kk : jW X G nL k n pc' l (.null :: st) h) : jW X G nL k n pc l st h := by
  subst hp
  exact fun H locs ls hR hS hl => lv_null C.1 C.2.1 hd (kk H locs ls hR hS hl)
theorem j_ifnull_r (C : jC X G cc nL Ts own) {x : Nat} {off : Int} (hd : decode cc pc = .ok (.ifnull off, 3)) (hp : pc + 3 = pc') (kk : jW X G nL k n pc' l st h) : jW X G nL k n pc l (.ref x :: st) h := by
  subst hp
  exact fun H locs ls hR hS hl => lv_ifnull C.1 C.2.1 hd (kk H locs ls hR hS hl)
theorem j_ifnull_n (C : jC X G cc nL Ts own) {off : Int} {tgt : Nat} (hd : decode cc pc = .ok (.ifnull off, 3)) (ht : (pc : Int) + off = (tgt : Int)) (kk : jW X G nL k n tgt l st h) : jW X G nL k n pc l (.null :: st) h := fun H locs ls hR hS hl => lv_ifnullN C.1 C.2.1 hd ht (kk H locs ls hR hS hl)
theorem j_ifnonnull_r (C : jC X G cc nL Ts own) {x : Nat} {off : Int} {tgt : Nat} (hd : decode cc pc = .ok (.ifnonnull off, 3)) (ht : (pc : Int) + off = (tgt : Int)) (kk : jW X G nL k n tgt l st h) : jW X G nL k n pc l (.ref x :: st) h := fun H locs ls hR hS hl => lv_ifnonnull C.1 C.2.1 hd ht (kk H locs ls hR hS hl)
theorem j_ifnonnull_n (C : jC X G cc nL Ts own) {off : Int} (hd : decode cc pc = .ok (.ifnonnull off, 3)) (hp : pc + 3 = pc') (kk : jW X G nL k n pc' l st h) : jW X G nL k n pc l (.null :: st) h := by
  subst hp
  exact fun H locs ls hR hS hl => lv_ifnonnullN C.1 C.2.1 hd (kk H locs ls hR hS hl)
theorem j_ldc (C : jC X G cc nL Ts own) {idx : Nat} {v : Int32} (hm : Cond.constant own idx v ∈ Ts) (hd : decode cc pc = .ok (.ldc idx, 2)) (hp : pc + 2 = pc') (kk : jW X G nL k n pc' l (.int v :: st) h) : jW X G nL k n pc l st h := by
  subst hp
  exact fun H locs ls hR hS hl => lv_ldc C.1 C.2.1 C.2.2.2.1 (C.2.2.2.2.1 _ hm) hd (kk H locs ls hR hS hl)
theorem j_ldc2 (C : jC X G cc nL Ts own) {idx : Nat} {v : Int64} (hm : Cond.constantLong own idx v ∈ Ts) (hd : decode cc pc = .ok (.ldc2_w idx, 3)) (hp : pc + 3 = pc') (kk : jW X G nL k n pc' l (.long v :: st) h) : jW X G nL k n pc l st h := by
  subst hp
  exact fun H locs ls hR hS hl => lv_ldc2 C.1 C.2.1 C.2.2.2.1 (C.2.2.2.2.1 _ hm) hd (kk H locs ls hR hS hl)
/-! fields -/
theorem j_get (C : jC X G cc nL Ts own) {ref CN : String} {T : u_T} {N ci index a kf : Nat} {fs : List Value} {v : Value} (hin : ∀ w ∈ u_ws CN T N, w ∈ Ts) (hc : vwCl[ci]? = some (CN, T, N)) (hk : kf < N) (hlink : Cond.fieldLink own index ref (T kf).2.1 (T kf).2.2.1 ∈ Ts) (hsame : (T kf).1 = ref) (hh : h a = some (.inr (ci, fs))) (hv : fs[kf]? = some v) (hd : decode cc pc = .ok (.getfield index, 3)) (hp : pc + 3 = pc') (kk : jW X G nL k n pc' l (v :: st) h) : jW X G nL k n pc l (.ref a :: st) h := by
  subst hp
  intro H locs ls hR hS hl
  obtain ⟨ws, hP, hD, h1, h2⟩ := jR.list hR
  obtain ⟨q0, hq0⟩ := h2 a _ hh
  exact va_get C.1 C.2.1 C.2.2.2.2.1 hin C.2.2.2.1 C.K hP q0 hq0 hc kf hk (C.2.2.2.2.1 _ hlink) (fun x hx => hsame ▸ hx) hv hd (kk H locs ls hR hS hl)
theorem j_put (C : jC X G cc nL Ts own) {ref CN : String} {T : u_T} {N ci index a kf : Nat} {fs : List Value} {v : Value} {ty : FieldType} (hin : ∀ w ∈ u_ws CN T N, w ∈ Ts) {ty0 : Nat → FieldType} (hty : ∀ k, k < N → parseFieldDescriptor (T k).2.2.1 = some (ty0 k)) (hnm : ∀ a, a < N → ∀ b, b < N → a ≠ b → (T a).2.1 ≠ (T b).2.1) (hc : vwCl[ci]? = some (CN, T, N)) (hk : kf < N) (hlink : Cond.fieldLink own index ref (T kf).2.1 (T kf).2.2.1 ∈ Ts) (hsame : (T kf).1 = ref) (hfin : (T kf).2.2.2 = false) (hpd : parseFieldDescriptor (T kf).2.2.1 = some ty) (hn : narrow ty v = v) (hfit : fits ty v = true) (hh : h a = some (.inr (ci, fs))) (hl2 : kf < fs.length) (hd : decode cc pc = .ok (.putfield index, 3)) (hp : pc + 3 = pc') (kk : jW X G nL k n pc' l st (jup h a (.inr (ci, fs.set kf v)))) : jW X G nL k n pc l (v :: .ref a :: st) h := by
  subst hp
  intro H locs ls hR hS hl
  obtain ⟨ws, hP, hD, h1, h2⟩ := jR.list hR
  obtain ⟨q0, hq0⟩ := h2 a _ hh
  exact va_put C.1 C.2.1 C.2.2.2.2.1 hin ty0 hty hnm C.2.2.2.1 C.K hP hD hS q0 hq0 hc kf hk (C.2.2.2.2.1 _ hlink) (fun x hx => hsame ▸ hx) hfin hpd hn hfit hl2 hd (fun H1 locs1 hP1 hD1 hS1 => kk H1 locs1 ls (jR.set hD h2 hq0 hP1 hD1) hS1 hl)
theorem j_putF (C : jC X G cc nL Ts own) {ref CN : String} {T : u_T} {N ci index a kf : Nat} {fs : List Value} {v : Value} {ty : FieldType} (hin : ∀ w ∈ u_ws CN T N, w ∈ Ts) {ty0 : Nat → FieldType} (hty : ∀ k, k < N → parseFieldDescriptor (T k).2.2.1 = some (ty0 k)) (hnm : ∀ a, a < N → ∀ b, b < N → a ≠ b → (T a).2.1 ≠ (T b).2.1) (hc : vwCl[ci]? = some (CN, T, N)) (hk : kf < N) (hlink : Cond.fieldLink own index ref (T kf).2.1 (T kf).2.2.1 ∈ Ts) (hsame : (T kf).1 = ref) (hfin : (T kf).2.2.2 = true) (hinit : X.2.2.2.2.2.2.2.2.1.name = "<init>") (hdecl : (T kf).1 = own) (hpd : parseFieldDescriptor (T kf).2.2.1 = some ty) (hn : narrow ty v = v) (hfit : fits ty v = true) (hh : h a = some (.inr (ci, fs))) (hl2 : kf < fs.length) (hd : decode cc pc = .ok (.putfield index, 3)) (hp : pc + 3 = pc') (kk : jW X G nL k n pc' l st (jup h a (.inr (ci, fs.set kf v)))) : jW X G nL k n pc l (v :: .ref a :: st) h := by
  subst hp
  intro H locs ls hR hS hl
  obtain ⟨ws, hP, hD, h1, h2⟩ := jR.list hR
  obtain ⟨q0, hq0⟩ := h2 a _ hh
  exact va_putF C.1 C.2.1 C.2.2.2.2.1 hin ty0 hty hnm C.2.2.2.1 C.K hP hD hS q0 hq0 hc kf hk (C.2.2.2.2.1 _ hlink) (fun x hx => hsame ▸ hx) hfin hinit hdecl hpd hn hfit hl2 hd (fun H1 locs1 hP1 hD1 hS1 => kk H1 locs1 ls (jR.set hD h2 hq0 hP1 hD1) hS1 hl)
/-! arrays, at places that are numbers -/
theorem j_iald (C : jC X G cc nL Ts own) {a N j : Nat} {f : Nat → Int32} {i : Int32} (hh : h a = some (.inl (G.2.2.1.1, N, .inl f))) (hi : i = nI j) (hj : j < N) (hN : N < 2 ^ 31) (hd : decode cc pc = .ok (.iaload, 1)) (hp : pc + 1 = pc') (kk : jW X G nL k n pc' l (.int (f j) :: st) h) : jW X G nL k n pc l (.int i :: .ref a :: st) h := by
  subst hp hi
  intro H locs ls hR hS hl
  obtain ⟨ws, hP, hD, h1, h2⟩ := jR.list hR
  obtain ⟨q0, hq0⟩ := h2 a _ hh
  have e := nI_clamp (n := j) (by omega)
  refine va_iald C.1 C.2.1 C.K hP q0 0 hq0 rfl (vp_in_nI hj hN) hd ?_
  rw [e]
  exact kk H locs ls hR hS hl
theorem j_zald (C : jC X G cc nL Ts own) {a N j : Nat} {f : Nat → Int32} {i : Int32} (hh : h a = some (.inl (G.2.2.1.2.1, N, .inl f))) (hi : i = nI j) (hj : j < N) (hN : N < 2 ^ 31) (hd : decode cc pc = .ok (.baload, 1)) (hp : pc + 1 = pc') (kk : jW X G nL k n pc' l (.int (f j) :: st) h) : jW X G nL k n pc l (.int i :: .ref a :: st) h := by
  subst hp hi
  intro H locs ls hR hS hl
  obtain ⟨ws, hP, hD, h1, h2⟩ := jR.list hR
  obtain ⟨q0, hq0⟩ := h2 a _ hh
  have e := nI_clamp (n := j) (by omega)
  refine va_zald C.1 C.2.1 C.K hP q0 1 hq0 rfl (vp_in_nI hj hN) hd ?_
  rw [e]
  exact kk H locs ls hR hS hl
theorem j_lald (C : jC X G cc nL Ts own) {a N j : Nat} {f : Nat → Int64} {i : Int32} (hh : h a = some (.inl (G.2.2.1.2.2.2, N, .inr (.inl f)))) (hi : i = nI j) (hj : j < N) (hN : N < 2 ^ 31) (hd : decode cc pc = .ok (.laload, 1)) (hp : pc + 1 = pc') (kk : jW X G nL k n pc' l (.long (f j) :: st) h) : jW X G nL k n pc l (.int i :: .ref a :: st) h := by
  subst hp hi
  intro H locs ls hR hS hl
  obtain ⟨ws, hP, hD, h1, h2⟩ := jR.list hR
  obtain ⟨q0, hq0⟩ := h2 a _ hh
  have e := nI_clamp (n := j) (by omega)
  refine va_lald C.1 C.2.1 C.K hP q0 3 hq0 rfl (vp_in_nI hj hN) hd ?_
  rw [e]
  exact kk H locs ls hR hS hl
theorem j_aald (C : jC X G cc nL Ts own) {a N j : Nat} {f : Nat → Option Nat} {i : Int32} (hh : h a = some (.inl (G.2.2.1.2.2.1, N, .inr (.inr (.inr (.inr f)))))) (hi : i = nI j) (hj : j < N) (hN : N < 2 ^ 31) (hd : decode cc pc = .ok (.aaload, 1)) (hp : pc + 1 = pc') (kk : jW X G nL k n pc' l (va_rf (f j) :: st) h) : jW X G nL k n pc l (.int i :: .ref a :: st) h := by
  subst hp hi
  intro H locs ls hR hS hl
  obtain ⟨ws, hP, hD, h1, h2⟩ := jR.list hR
  obtain ⟨q0, hq0⟩ := h2 a _ hh
  have e := nI_clamp (n := j) (by omega)
  refine va_aldq C.1 C.2.1 C.K hP q0 2 hq0 rfl (vp_in_nI hj hN) hd ?_
  rw [e]
  exact kk H locs ls hR hS hl
theorem j_iast (C : jC X G cc nL Ts own) {a N j : Nat} {f : Nat → Int32} {i : Int32} {x : Int32} (hh : h a = some (.inl (G.2.2.1.1, N, .inl f))) (hi : i = nI j) (hj : j < N) (hN : N < 2 ^ 31) (hd : decode cc pc = .ok (.iastore, 1)) (hp : pc + 1 = pc') (kk : jW X G nL k n pc' l st (jup h a (.inl (G.2.2.1.1, N, .inl (upd f j x))))) : jW X G nL k n pc l (.int x :: .int i :: .ref a :: st) h := by
  subst hp hi
  intro H locs ls hR hS hl
  obtain ⟨ws, hP, hD, h1, h2⟩ := jR.list hR
  obtain ⟨q0, hq0⟩ := h2 a _ hh
  have e := nI_clamp (n := j) (by omega)
  refine va_iast C.1 C.2.1 C.K hP hD hS q0 0 hq0 rfl (vp_in_nI hj hN) hd (fun H1 locs1 hP1 hD1 hS1 => ?_)
  rw [e] at hP1 hD1
  skip
  exact kk H1 locs1 ls (jR.set hD h2 hq0 hP1 hD1) hS1 hl
theorem j_zast (C : jC X G cc nL Ts own) {a N j : Nat} {f : Nat → Int32} {i : Int32} {x : Int32} {y : Int32} (hx : vp_nar .boolean x = y) (hh : h a = some (.inl (G.2.2.1.2.1, N, .inl f))) (hi : i = nI j) (hj : j < N) (hN : N < 2 ^ 31) (hd : decode cc pc = .ok (.bastore, 1)) (hp : pc + 1 = pc') (kk : jW X G nL k n pc' l st (jup h a (.inl (G.2.2.1.2.1, N, .inl (upd f j y))))) : jW X G nL k n pc l (.int x :: .int i :: .ref a :: st) h := by
  subst hp hi
  intro H locs ls hR hS hl
  obtain ⟨ws, hP, hD, h1, h2⟩ := jR.list hR
  obtain ⟨q0, hq0⟩ := h2 a _ hh
  have e := nI_clamp (n := j) (by omega)
  refine va_zast C.1 C.2.1 C.K hP hD hS q0 1 hq0 rfl (vp_in_nI hj hN) hd (fun H1 locs1 hP1 hD1 hS1 => ?_)
  rw [e] at hP1 hD1
  rw [hx] at hP1 hD1
  exact kk H1 locs1 ls (jR.set hD h2 hq0 hP1 hD1) hS1 hl
theorem j_last (C : jC X G cc nL Ts own) {a N j : Nat} {f : Nat → Int64} {i : Int32} {x : Int64} (hh : h a = some (.inl (G.2.2.1.2.2.2, N, .inr (.inl f)))) (hi : i = nI j) (hj : j < N) (hN : N < 2 ^ 31) (hd : decode cc pc = .ok (.lastore, 1)) (hp : pc + 1 = pc') (kk : jW X G nL k n pc' l st (jup h a (.inl (G.2.2.1.2.2.2, N, .inr (.inl (vp_updL f j x)))))) : jW X G nL k n pc l (.long x :: .int i :: .ref a :: st) h := by
  subst hp hi
  intro H locs ls hR hS hl
  obtain ⟨ws, hP, hD, h1, h2⟩ := jR.list hR
  obtain ⟨q0, hq0⟩ := h2 a _ hh
  have e := nI_clamp (n := j) (by omega)
  refine va_last C.1 C.2.1 C.K hP hD hS q0 3 hq0 rfl (vp_in_nI hj hN) hd (fun H1 locs1 hP1 hD1 hS1 => ?_)
  rw [e] at hP1 hD1
  skip
  exact kk H1 locs1 ls (jR.set hD h2 hq0 hP1 hD1) hS1 hl
theorem j_alen (C : jC X G cc nL Ts own) {a t0 : Nat} {cA : ClassId} {x : vp_A} {ty : FieldType} {v : Int32} (hh : h a = some (.inl (cA, x))) (ht : (jT G)[t0]? = some (cA, ty)) (hv : nI x.1 = v) (hd : decode cc pc = .ok (.arraylength, 1)) (hp : pc + 1 = pc') (kk : jW X G nL k n pc' l (.int v :: st) h) : jW X G nL k n pc l (.ref a :: st) h := by
  subst hp
  intro H locs ls hR hS hl
  obtain ⟨ws, hP, hD, h1, h2⟩ := jR.list hR
  obtain ⟨q0, hq0⟩ := h2 a _ hh
  exact va_alen C.1 C.2.1 C.K hP q0 t0 hq0 ht hv hd (kk H locs ls hR hS hl)
theorem j_aast (C : jC X G cc nL Ts own) {a N j v ci : Nat} {f : Nat → Option Nat} {i : Int32} {fs : List Value} {r : vw_C} (hh : h a = some (.inl (G.2.2.1.2.2.1, N, .inr (.inr (.inr (.inr f)))))) (hv : h v = some (.inr (ci, fs))) (hc : vwCl[ci]? = some r) (hasg : ∀ comp c0 : ClassId, X.2.2.2.2.1.vm.findClass "java/lang/Object" = some comp → X.2.2.2.2.1.vm.findClass r.1 = some c0 → X.2.2.2.2.1.vm.assignable c0 comp = true) (hi : i = nI j) (hj : j < N) (hN : N < 2 ^ 31) (hd : decode cc pc = .ok (.aastore, 1)) (hp : pc + 1 = pc') (kk : jW X G nL k n pc' l st (jup h a (.inl (G.2.2.1.2.2.1, N, .inr (.inr (.inr (.inr (va_up f j (some v)))))))) ) : jW X G nL k n pc l (.ref v :: .int i :: .ref a :: st) h := by
  subst hp hi
  intro H locs ls hR hS hl
  obtain ⟨ws, hP, hD, h1, h2⟩ := jR.list hR
  obtain ⟨q0, hq0⟩ := h2 a _ hh
  obtain ⟨q1, hq1⟩ := h2 v _ hv
  have e := nI_clamp (n := j) (by omega)
  refine va_astqM C.1 C.2.1 C.K hP hD hS q0 2 hq0 rfl (va_rAny C.K hP hq1 hc hasg) (vp_in_nI hj hN) hd (fun H1 locs1 hP1 hD1 hS1 => ?_)
  rw [e] at hP1 hD1
  exact kk H1 locs1 ls (jR.set hD h2 hq0 hP1 hD1) hS1 hl
/-! making -/
theorem j_new (C : jC X G cc nL Ts own) {CN : String} {T : u_T} {N ci index : Nat} {fs : List Value} (hin : ∀ w ∈ u_ws CN T N, w ∈ Ts) {ty0 : Nat → FieldType} (hty : ∀ k, k < N → parseFieldDescriptor (T k).2.2.1 = some (ty0 k)) (hcl : Cond.classLink own index CN ∈ Ts) (hinst : Cond.instantiable CN N ∈ Ts) (hini : Cond.initialized CN ∈ Ts) (hc : vwCl[ci]? = some (CN, T, N)) (hfs : ∀ j, j < N → defaultValue (ty0 j) = vp_V fs j) (hk : k + 1 ≤ X.2.2.2.1.cells) (hn : n + N ≤ X.2.2.2.1.slots) (hd : decode cc pc = .ok (.new index, 3)) (hp : pc + 3 = pc') (kk : ∀ q : Nat, h q = none → jW X G nL (k + 1) (n + N) pc' l (.ref q :: st) (jup h q (.inr (ci, fs)))) : jW X G nL k n pc l st h := by
  subst hp
  intro H locs ls hR hS hl
  obtain ⟨ws, hP, hD, h1, h2⟩ := jR.list hR
  exact va_new C.1 C.2.1 C.2.2.2.2.1 hin ty0 hty C.2.2.2.1 (C.2.2.2.2.1 _ hcl) (C.2.2.2.2.1 _ hinst) (C.2.2.2.2.1 _ hini) C.K hP hD hS C.A hc hfs hk hn hd (fun q H1 hP1 hD1 hS1 => kk q (jR.push hR h2 hP1 hD1).1 H1 locs ls (jR.push hR h2 hP1 hD1).2 hS1 hl)
theorem j_newa_i (C : jC X G cc nL Ts own) {N : Nat} {i : Int32} (harr : Cond.arrayClass .int ∈ Ts) (hi : i = nI N) (hN : N ≤ 60000000) (hk : k + 1 ≤ X.2.2.2.1.cells) (hn : n + N ≤ X.2.2.2.1.slots) (hd : decode cc pc = .ok (.newarray .int, 2)) (hp : pc + 2 = pc') (kk : ∀ q : Nat, h q = none → jW X G nL (k + 1) (n + N) pc' l (.ref q :: st) (jup h q (.inl (G.2.2.1.1, N, .inl (fun _ => 0))))) : jW X G nL k n pc l (.int i :: st) h := by
  subst hp hi
  intro H locs ls hR hS hl
  obtain ⟨ws, hP, hD, h1, h2⟩ := jR.list hR
  have hT := (C.K.2 0 (G.2.2.1.1, .int) rfl).2
  refine va_newa (atype := .int) (ty := .int) (N' := N) (a0 := (N, .inl (fun _ => 0))) C.1 C.2.1 (C.2.2.2.2.1 _ harr) rfl C.K hP hD hS C.A (fun cA => rfl) (nI_pos (by omega)) (nI_clamp (by omega)) (by show N * _ ≤ _; simp only [componentBytes]; omega) hk hn hd (fun q cA H1 hK1 hP1 hD1 hS1 => ?_)
  have hT1 := (hK1.2 4 (cA, .int) rfl).2
  have e : cA = G.2.2.1.1 := Option.some.inj (Eq.trans (Eq.symm hT1) hT)
  subst e
  exact kk q (jR.push hR h2 hP1 hD1).1 H1 locs ls (jR.push hR h2 hP1 hD1).2 hS1 hl
theorem j_newa_z (C : jC X G cc nL Ts own) {N : Nat} {i : Int32} (harr : Cond.arrayClass .boolean ∈ Ts) (hi : i = nI N) (hN : N ≤ 60000000) (hk : k + 1 ≤ X.2.2.2.1.cells) (hn : n + N ≤ X.2.2.2.1.slots) (hd : decode cc pc = .ok (.newarray .boolean, 2)) (hp : pc + 2 = pc') (kk : ∀ q : Nat, h q = none → jW X G nL (k + 1) (n + N) pc' l (.ref q :: st) (jup h q (.inl (G.2.2.1.2.1, N, .inl (fun _ => 0))))) : jW X G nL k n pc l (.int i :: st) h := by
  subst hp hi
  intro H locs ls hR hS hl
  obtain ⟨ws, hP, hD, h1, h2⟩ := jR.list hR
  have hT := (C.K.2 1 (G.2.2.1.2.1, .boolean) rfl).2
  refine va_newa (atype := .boolean) (ty := .boolean) (N' := N) (a0 := (N, .inl (fun _ => 0))) C.1 C.2.1 (C.2.2.2.2.1 _ harr) rfl C.K hP hD hS C.A (fun cA => rfl) (nI_pos (by omega)) (nI_clamp (by omega)) (by show N * _ ≤ _; simp only [componentBytes]; omega) hk hn hd (fun q cA H1 hK1 hP1 hD1 hS1 => ?_)
  have hT1 := (hK1.2 4 (cA, .boolean) rfl).2
  have e : cA = G.2.2.1.2.1 := Option.some.inj (Eq.trans (Eq.symm hT1) hT)
  subst e
  exact kk q (jR.push hR h2 hP1 hD1).1 H1 locs ls (jR.push hR h2 hP1 hD1).2 hS1 hl
theorem j_newa_l (C : jC X G cc nL Ts own) {N : Nat} {i : Int32} (harr : Cond.arrayClass .long ∈ Ts) (hi : i = nI N) (hN : N ≤ 60000000) (hk : k + 1 ≤ X.2.2.2.1.cells) (hn : n + N ≤ X.2.2.2.1.slots) (hd : decode cc pc = .ok (.newarray .long, 2)) (hp : pc + 2 = pc') (kk : ∀ q : Nat, h q = none → jW X G nL (k + 1) (n + N) pc' l (.ref q :: st) (jup h q (.inl (G.2.2.1.2.2.2, N, .inr (.inl (fun _ => 0)))))) : jW X G nL k n pc l (.int i :: st) h := by
  subst hp hi
  intro H locs ls hR hS hl
  obtain ⟨ws, hP, hD, h1, h2⟩ := jR.list hR
  have hT := (C.K.2 3 (G.2.2.1.2.2.2, .long) rfl).2
  refine va_newa (atype := .long) (ty := .long) (N' := N) (a0 := (N, .inr (.inl (fun _ => 0)))) C.1 C.2.1 (C.2.2.2.2.1 _ harr) rfl C.K hP hD hS C.A (fun cA => rfl) (nI_pos (by omega)) (nI_clamp (by omega)) (by show N * _ ≤ _; simp only [componentBytes]; omega) hk hn hd (fun q cA H1 hK1 hP1 hD1 hS1 => ?_)
  have hT1 := (hK1.2 4 (cA, .long) rfl).2
  have e : cA = G.2.2.1.2.2.2 := Option.some.inj (Eq.trans (Eq.symm hT1) hT)
  subst e
  exact kk q (jR.push hR h2 hP1 hD1).1 H1 locs ls (jR.push hR h2 hP1 hD1).2 hS1 hl
/-! calls -/
theorem j_run (C : jC X G cc nL Ts own) {stk rest : List Value} {mc ms : Nat} {ok : Option Value → jH → Prop} {ex : String → jH → Prop} {a : Array Value} (hr : ∀ (H : Heap) (locs : List Loc) (ls : Array Slot), jR G h H → va_S (jA G) X.2.2.2.2.1.heap H locs → lv_has ls nL l →
    vx_Run X.1 X.2.1 X.2.2.1 X.2.2.2.1 X.2.2.2.2.1 X.2.2.2.2.2.1 X.2.2.2.2.2.2.1 X.2.2.2.2.2.2.2.1 X.2.2.2.2.2.2.2.2.1 X.2.2.2.2.2.2.2.2.2.1 H locs k n mc ms (F0 X.2.2.2.2.2.1 pc ls stk) rest (jQc G ok a) (jXC G ex) (jA G)) (hp : pc + 3 = pc')
    (kx : ∀ (E : String) (h' : jH), ex E h' → jXW X G nL (k + mc) (n + ms) pc l h' E) (kk : ∀ (r : Option Value) (h' : jH), ok r h' → jW X G nL (k + mc) (n + ms) pc' l (r.toList ++ rest) h') : jW X G nL k n pc l stk h := by
  subst hp
  intro H locs ls hR hS hl T hT X0
  rcases hr H locs ls hR hS hl T hT X0 with ⟨v, st₀, t, T', L, h0, X', hL, e1, e2, ⟨⟨r, h', hv, hok, hR'⟩, hF⟩, st⟩ | ⟨q, st₀, t, T', L, E, ce, h0, X', hL, e1, e2, ⟨⟨h', hex, hR'⟩, hF⟩, hce, hcv, hcl, st⟩
  · cases hv
    obtain ⟨-, -, hS'⟩ := vx_keep h0 e1 hS (fun q _ z => z) (fun q z => z) hL hF
    obtain ⟨t2, a1, b1⟩ := kk v h' hok T'.heap (locs ++ L) ls (by rw [e1]; exact hR') hS' hl T' rfl X'
    exact ⟨t2, st t2 a1, b1⟩
  · obtain ⟨-, -, hS'⟩ := vx_keep h0 e1 hS (fun q _ z => z) (fun q z => z) hL hF
    obtain ⟨t2, a1, b1⟩ := kx E h' hex T'.heap (locs ++ L) ls rest q ce (by rw [e1]; exact hR') hS' hl (by rw [e1]; exact hce) hcv hcl T' rfl X'
    exact ⟨t2, st.trans a1, b1⟩
theorem jC.pre (C : jC X G cc nL Ts own) {av : List Value} {H : Heap} {locs : List Loc} (hR : jR G h H) (hS : va_S (jA G) X.2.2.2.2.1.heap H locs) : ∀ U : State, U.heap = H → X.2.2.2.2.1.WarmedH U.vm → jPc G av h av.toArray U := fun U hU hW => ⟨rfl, by rw [hU]; exact Nat.le_trans C.2.2.2.2.2.2.1 hS.1, by rw [hU]; exact hR, by rw [hU]; exact jS.move hW (fun q h1 h2 => hS.2.1 q h1 h2) C.2.2.2.2.2.2.2.1⟩
theorem jC.recv (C : jC X G cc nL Ts own) {b ci : Nat} {fs : List Value} {r : vw_C} {H : Heap} (hR : jR G h H) (hh : h b = some (.inr (ci, fs))) (hc : vwCl[ci]? = some r) : ∃ cell : Cell, H[b]? = some cell ∧ cell.vm.isStatics = false ∧ X.2.2.2.2.1.vm.findClass r.1 = some cell.cls := by
  obtain ⟨ws, hP, hD, h1, h2⟩ := jR.list hR
  obtain ⟨q0, hq0⟩ := h2 b _ hh
  exact va_recv C.K hP hc hq0
theorem j_callV (C : jC X G cc nL Ts own) {CN : String} {T : u_T} {N index b ci maxL na mc ms f lo : Nat} {y : MethodName} {bytes : ByteArray} {ret : Option FieldType} {ws : List Cond} {fs As stk rest : List Value} {ok : Option Value → jH → Prop} {ex : String → jH → Prop}
    (hM : jM X.2.1 G y ws f lo mc ms (.ref b :: As) h ok ex) (cw : CallW X.2.2.2.1 X.2.2.2.2.1 X.2.2.2.2.2.2.1 own CN index y bytes maxL ret ws { frames := f, cells := mc, slots := ms, locals := lo } mc ms na) (hh : h b = some (.inr (ci, fs))) (hc : vwCl[ci]? = some (CN, T, N)) (hn : As.length = na) (hst : stk = As.reverse ++ .ref b :: rest) (hW : (rest.map fun v => v.category).sum ≤ 8) (hd : decode cc pc = .ok (.invokevirtual index, 3)) (hp : pc + 3 = pc') (hk : k + mc ≤ X.2.2.2.1.cells) (hms : n + ms ≤ X.2.2.2.1.slots)
    (kx : ∀ (E : String) (h' : jH), ex E h' → jXW X G nL (k + mc) (n + ms) pc l h' E) (kk : ∀ (r : Option Value) (h' : jH), ok r h' → jW X G nL (k + mc) (n + ms) pc' l (r.toList ++ rest) h') : jW X G nL k n pc l stk h :=
  j_run C (fun H locs ls hR hS hl => vx_runV ⟨C.1, C.2.1, C.2.2.1, C.2.2.2.1, C.2.2.2.2.1⟩ hM cw ⟨jPc.blind G _ _, C.recv hR hh hc, C.pre hR hS⟩ rfl hn hl.1 hst (lv_room hW) hd ⟨hk, hms⟩) hp kx kk
theorem j_callS (C : jC X G cc nL Ts own) {index maxL na mc ms f lo : Nat} {y : MethodName} {bytes : ByteArray} {ret : Option FieldType} {ws : List Cond} {As stk rest : List Value} {ok : Option Value → jH → Prop} {ex : String → jH → Prop}
    (hM : jM X.2.1 G y ws f lo mc ms As h ok ex) (cw : CallB X.2.2.2.1 X.2.2.2.2.1 X.2.2.2.2.2.2.1 own index y bytes maxL ret ws { frames := f, cells := mc, slots := ms, locals := lo } mc ms na ∧ (Cond.static y).before X.2.2.2.2.2.2.1 X.2.2.2.2.1 = true) (hn : As.length = na) (hst : stk = As.reverse ++ rest) (hW : (rest.map fun v => v.category).sum ≤ 8) (hd : decode cc pc = .ok (.invokestatic index, 3)) (hp : pc + 3 = pc') (hk : k + mc ≤ X.2.2.2.1.cells) (hms : n + ms ≤ X.2.2.2.1.slots)
    (kx : ∀ (E : String) (h' : jH), ex E h' → jXW X G nL (k + mc) (n + ms) pc l h' E) (kk : ∀ (r : Option Value) (h' : jH), ok r h' → jW X G nL (k + mc) (n + ms) pc' l (r.toList ++ rest) h') : jW X G nL k n pc l stk h :=
  j_run C (fun H locs ls hR hS hl => vx_runS ⟨C.1, C.2.1, C.2.2.1, C.2.2.2.1, C.2.2.2.2.1⟩ hM cw ⟨jPc.blind G _ _, C.pre hR hS⟩ rfl hn hl.1 hst (lv_room hW) hd ⟨hk, hms⟩) hp kx kk
/-! ends -/
theorem j_iret (C : jC X G cc nL Ts own) {ok : Option Value → jH → Prop} {ex : String → jH → Prop} {mc ms : Nat} {ty : FieldType} {v : Int32} (E : jE X G ok ex mc ms (some ty)) (hd : decode cc pc = .ok (.ireturn, 1)) (hn : narrow ty (.int v) = .int v) (hk : k ≤ mc) (hs : n ≤ ms) (ho : ok (some (.int v)) h) : jW X G nL k n pc l [.int v] h := by
  intro H locs ls hR hS hl
  rw [E.1]
  exact W.widen hk hs (vx_ret (W.zret (hlocks := C.2.2.2.2.2.1) C.1 C.2.1 E.2.1 hn (fun t ht hW => ⟨⟨_, h, rfl, ho, by rw [ht]; exact hR⟩, by have := hS.F ht; exact this⟩) hS.2.2 hd))
theorem j_lret (C : jC X G cc nL Ts own) {ok : Option Value → jH → Prop} {ex : String → jH → Prop} {mc ms : Nat} {v : Int64} (E : jE X G ok ex mc ms (some .long)) (hd : decode cc pc = .ok (.lreturn, 1)) (hk : k ≤ mc) (hs : n ≤ ms) (ho : ok (some (.long v)) h) : jW X G nL k n pc l [.long v] h := by
  intro H locs ls hR hS hl
  rw [E.1]
  exact W.widen hk hs (vx_ret (W.lret (hlocks := C.2.2.2.2.2.1) C.1 C.2.1 E.2.1 (fun t ht hW => ⟨⟨_, h, rfl, ho, by rw [ht]; exact hR⟩, by have := hS.F ht; exact this⟩) hS.2.2 hd))
theorem j_vret (C : jC X G cc nL Ts own) {ok : Option Value → jH → Prop} {ex : String → jH → Prop} {mc ms : Nat} (E : jE X G ok ex mc ms none) (hd : decode cc pc = .ok (.return_, 1)) (hk : k ≤ mc) (hs : n ≤ ms) (ho : ok none h) : jW X G nL k n pc l [] h := by
  intro H locs ls hR hS hl
  rw [E.1]
  exact W.widen hk hs (vx_ret (W.vret (hlocks := C.2.2.2.2.2.1) C.1 C.2.1 E.2.1 (fun t ht hW => ⟨⟨_, h, rfl, ho, by rw [ht]; exact hR⟩, by have := hS.F ht; exact this⟩) hS.2.2 hd))
theorem j_aret (C : jC X G cc nL Ts own) {ok : Option Value → jH → Prop} {ex : String → jH → Prop} {mc ms : Nat} {v : Value} {rt : FieldType} (E : jE X G ok ex mc ms (some rt)) (hrt : (∃ n, rt = .object n) ∨ ∃ t, rt = .array t) (hv : v = .null ∨ ∃ a, v = .ref a) (hd : decode cc pc = .ok (.areturn, 1)) (hk : k ≤ mc) (hs : n ≤ ms) (ho : ok (some v) h) : jW X G nL k n pc l [v] h := by
  intro H locs ls hR hS hl
  rw [E.1]
  exact W.widen hk hs (vx_ret (W.aret (hlocks := C.2.2.2.2.2.1) C.1 C.2.1 E.2.1 hrt hv (fun t ht hW => ⟨⟨_, h, rfl, ho, by rw [ht]; exact hR⟩, by have := hS.F ht; exact this⟩) hS.2.2 hd))
/-- a callee's throw goes on to the caller's caller -/
theorem j_out (C : jC X G cc nL Ts own) {ok : Option Value → jH → Prop} {ex : String → jH → Prop} {mc ms : Nat} {ret : Option FieldType} {E0 : String} (E : jE X G ok ex mc ms ret) (hk : k ≤ mc) (hs : n ≤ ms) (hx : ex E0 h) : jXW X G nL k n pc l h E0 := by
  intro H locs ls rest q ce hR hS hl hce hcv hcl
  rw [E.1]
  exact vx_out (fun x hx' => (E.2.2.2.2 x hx').elim) C.2.2.2.2.2.1 hce hcv hcl (fun t ht ha => ⟨⟨h, hx, by rw [ht]; exact hR⟩, by have := hS.F ht; exact this⟩) hS.2.2 hk hs
/-- the walk of a body gives its contract -/
theorem jM_of {y : MethodName} {ws ws' : List Cond} {f lo mc ms maxL : Nat} {av : List Value} {l : Launch} {ok : Option Value → jH → Prop} {ex : String → jH → Prop} {ret : Option FieldType} (hlt : l.stackTraces = false) (hy : plainName y.cls = true) (hw : ws = Cond.code y cc maxL ret :: ws') (hsl : (lg_sl av).length ≤ maxL)
    (body : ∀ X : jX, jC X G cc maxL ws y.cls → jE X G ok ex mc ms ret → X.2.1 = l → X.2.2.2.1 = { frames := f, cells := mc, slots := ms, locals := lo } → X.2.2.2.2.2.2.2.2.1.name = y.name → jW X G maxL 0 0 0 (lv_args 0 av) [] h) : jM l G y ws f lo mc ms av h ok ex := by
  refine vx_ofW (cc := cc) (maxL := maxL) (ret := ret) hy hw ?_
  intro p e s m args below meth c s₁ B hml hno hv
  obtain ⟨rfl, hsz, hR, hSS⟩ := hv
  have hts := atoms_spec (ws := ws) B.pre
  have hown := findClass_of_methodNamed B.named
  have hX := body (p, l, e, { frames := f, cells := mc, slots := ms, locals := lo }, s, m, av.toArray, below, meth, c, vx_MQ below (jQc G ok) (jXC G ex) av.toArray s mc ms (jA G))
    ⟨B.exec, B.bytes, hml, hown, hts, B.notSynchronized, hsz, hSS, hlt⟩ ⟨rfl, B.returns, rfl, rfl, hno⟩ rfl rfl ((name_of_methodNamed B.named B.method).1)
  rw [lg_entry_eq]
  exact hX s.heap [] _ hR va_S.rf (lv_entry av (n := maxL) hsl)
end JAY
