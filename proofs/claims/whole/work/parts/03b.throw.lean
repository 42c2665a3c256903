/-! throwing with a text, and casts to one's own classes -/
def jNm : List String := ["java/lang/RuntimeException", "java/lang/Exception"]
section JTH
variable {X : jX} {G : jG} {cc : ByteArray} {nL : Nat} {Ts : List Cond} {own : String} {pc pc' k n : Nat} {l : List (Nat × Value)} {st : List Value} {h : jH}
theorem j_cast (C : jC X G cc nL Ts own) {CN : String} {T : u_T} {N ci index a : Nat} {fs : List Value} (hh : h a = some (.inr (ci, fs))) (hc : vwCl[ci]? = some (CN, T, N)) (hlink : Cond.classLink own index CN ∈ Ts) (hd : decode cc pc = .ok (.checkcast index, 3)) (hp : pc + 3 = pc') (kk : jW X G nL k n pc' l (.ref a :: st) h) : jW X G nL k n pc l (.ref a :: st) h := by
  subst hp
  intro H locs ls hR hS hl
  exact va_castS C.1 C.2.1 C.2.2.2.1 (C.2.2.2.2.1 _ hlink) (C.K.1 ci _ hc).2 (C.recv hR hh hc) hd (kk H locs ls hR hS hl)
theorem j_throw (C : jC X G cc nL Ts RX3) {ok : Option Value → jH → Prop} {ex : String → jH → Prop} {mc ms : Nat} {ret : Option FieldType} {cls text : String} {ik is ic : Nat} (E : jE X G ok ex mc ms ret)
    (hcls : Cond.castable cls cls ∈ jBad) (hk : Cond.classLink RX3 ik cls ∈ Ts) (hini : Cond.initialized cls ∈ Ts) (hstr : (is, text) ∈ jStr) (hat : ∀ w ∈ (vx_atS RX3 ic cls jNm).filter goodWord, w ∈ Ts)
    (hfit : Bundle.fit cls = true) (hgood : ∀ w ∈ Cond.classLink RX3 ik cls :: Cond.initialized cls :: vx_atS RX3 ic cls jNm, vx_ot w = true) (hbad : ∀ w ∈ (vx_atS RX3 ic cls jNm).filter (fun w => !goodWord w), w ∈ Cond.castable cls cls :: jBadD.map Cond.declares)
    (d0 : decode cc pc = .ok (.new ik, 3)) (d3 : decode cc (pc + 3) = .ok (.dup, 1)) (d4 : decode cc (pc + 4) = .ok (.ldc is, 2)) (d6 : decode cc (pc + 6) = .ok (.invokespecial ic, 3)) (d9 : decode cc (pc + 9) = .ok (.athrow, 1))
    (hRf : 6 ≤ X.2.2.2.1.frames) (hRl : (st.map fun v => v.category).sum + 82 ≤ X.2.2.2.1.locals) (hc : k + 1 ≤ mc) (hs : n + 6 ≤ ms) (hx : ex cls h) : jW X G nL k n pc l st h := by
  intro H locs ls hR hS hl
  rw [E.1]
  have hJ := C.2.2.2.2.2.2.2.1
  have hwt := C.2.2.2.2.1
  refine vx_throwS (names := jNm) (text := text) (sa := G.2.2.2.2.2 is) (A := jA G) C.1 C.2.1 C.2.2.2.2.2.2.2.2 C.2.2.2.1 hfit (by decide +kernel) (hwt _ hk) (hwt _ hini) (hJ.2.2.2.2.2.2.2.2.1 is text hstr) ?_ hgood hJ.2.1 hJ.2.2.1 hS (hl.1.trans C.2.2.1.symm) d0 d3 d4 d6 d9 (fun x hx' => (E.2.2.2.2 x hx').elim) (show 2 + 3 < _ by omega) (show _ + (13 * (2 + 1) + 43) ≤ _ by omega) (by rw [E.2.2.1]; exact hc) (by rw [E.2.2.2.1]; exact hs) C.2.2.2.2.2.1 ?_ hS.2.2 hc hs
  · intro w hw
    cases hg : goodWord w with
    | true => exact hwt w (hat w (List.mem_filter.mpr ⟨hw, hg⟩))
    | false =>
      have hb := hbad w (List.mem_filter.mpr ⟨hw, by rw [hg]; rfl⟩)
      rcases List.mem_cons.mp hb with rfl | hb
      · exact va_any rfl (hJ.2.2.2.2.2.2.2.2.2.1 cls hcls)
      · obtain ⟨m, hm, rfl⟩ := List.mem_map.mp hb
        exact va_any rfl (hJ.2.2.2.2.2.2.2.2.2.2.1 m hm)
  · intro t ha hz hq
    refine ⟨⟨h, hx, fun a e he => ?_⟩, Nat.le_trans hS.1 hz, fun q h1 h2 => ?_⟩
    · obtain ⟨g1, g2⟩ := hR a e he
      exact ⟨g1.kept (hq a g1.lt), g2⟩
    · rw [hq q (Nat.lt_of_lt_of_le h1 hS.1)]
      exact hS.2.1 q h1 h2
end JTH
theorem jt_ise : Bundle.fit "java/lang/IllegalStateException" = true ∧ (∀ w ∈ Cond.classLink RX3 55 "java/lang/IllegalStateException" :: Cond.initialized "java/lang/IllegalStateException" :: vx_atS RX3 59 "java/lang/IllegalStateException" jNm, vx_ot w = true) ∧ (∀ w ∈ (vx_atS RX3 59 "java/lang/IllegalStateException" jNm).filter (fun w => !goodWord w), w ∈ Cond.castable "java/lang/IllegalStateException" "java/lang/IllegalStateException" :: jBadD.map Cond.declares) := ⟨by decide +kernel, by decide +kernel, by decide +kernel⟩
theorem jt_iob : Bundle.fit "java/lang/IndexOutOfBoundsException" = true ∧ (∀ w ∈ Cond.classLink RX3 232 "java/lang/IndexOutOfBoundsException" :: Cond.initialized "java/lang/IndexOutOfBoundsException" :: vx_atS RX3 236 "java/lang/IndexOutOfBoundsException" jNm, vx_ot w = true) ∧ (∀ w ∈ (vx_atS RX3 236 "java/lang/IndexOutOfBoundsException" jNm).filter (fun w => !goodWord w), w ∈ Cond.castable "java/lang/IndexOutOfBoundsException" "java/lang/IndexOutOfBoundsException" :: jBadD.map Cond.declares) := ⟨by decide +kernel, by decide +kernel, by decide +kernel⟩
theorem jt_iae : Bundle.fit "java/lang/IllegalArgumentException" = true ∧ (∀ w ∈ Cond.classLink RX3 91 "java/lang/IllegalArgumentException" :: Cond.initialized "java/lang/IllegalArgumentException" :: vx_atS RX3 95 "java/lang/IllegalArgumentException" jNm, vx_ot w = true) ∧ (∀ w ∈ (vx_atS RX3 95 "java/lang/IllegalArgumentException" jNm).filter (fun w => !goodWord w), w ∈ Cond.castable "java/lang/IllegalArgumentException" "java/lang/IllegalArgumentException" :: jBadD.map Cond.declares) := ⟨by decide +kernel, by decide +kernel, by decide +kernel⟩
section JTN
variable {X : jX} {G : jG} {cc : ByteArray} {nL : Nat} {Ts : List Cond} {pc k n : Nat} {l : List (Nat × Value)} {st : List Value} {h : jH}
theorem ns_good : ∀ w ∈ Cond.classLink RX3 158 nsN :: Cond.initialized nsN :: nsAt, vx_ot w = true := by decide +kernel
theorem ns_bad : ∀ w ∈ nsAt.filter (fun w => !goodWord w), w ∈ Cond.castable nsN nsN :: jBadD.map Cond.declares := by decide +kernel
theorem j_throwN (C : jC X G cc nL Ts RX3) {ok : Option Value → jH → Prop} {ex : String → jH → Prop} {mc ms : Nat} {ret : Option FieldType} {text : String} {is : Nat} (E : jE X G ok ex mc ms ret)
    (hk : Cond.classLink RX3 158 nsN ∈ Ts) (hini : Cond.initialized nsN ∈ Ts) (hstr : (is, text) ∈ jStr) (hat : ∀ w ∈ nsAt.filter goodWord, w ∈ Ts)
    (d0 : decode cc pc = .ok (.new 158, 3)) (d3 : decode cc (pc + 3) = .ok (.dup, 1)) (d4 : decode cc (pc + 4) = .ok (.ldc is, 2)) (d6 : decode cc (pc + 6) = .ok (.invokespecial 162, 3)) (d9 : decode cc (pc + 9) = .ok (.athrow, 1))
    (hRf : 6 ≤ X.2.2.2.1.frames) (hRl : (st.map fun v => v.category).sum + 82 ≤ X.2.2.2.1.locals) (hc : k + 1 ≤ mc) (hs : n + 6 ≤ ms) (hx : ex nsN h) : jW X G nL k n pc l st h := by
  intro H locs ls hR hS hl
  rw [E.1]
  have hJ := C.2.2.2.2.2.2.2.1
  have hwt := C.2.2.2.2.1
  refine ns_throwS (text := text) (sa := G.2.2.2.2.2 is) (A := jA G) C.1 C.2.1 C.2.2.2.2.2.2.2.2 C.2.2.2.1 (hwt _ hk) (hwt _ hini) (hJ.2.2.2.2.2.2.2.2.1 is text hstr) ?_ ns_good hJ.2.1 hJ.2.2.1 hS (hl.1.trans C.2.2.1.symm) d0 d3 d4 d6 d9 (fun x hx' => (E.2.2.2.2 x hx').elim) (by omega) (by omega) (by rw [E.2.2.1]; exact hc) (by rw [E.2.2.2.1]; exact hs) C.2.2.2.2.2.1 ?_ hS.2.2 hc hs
  · intro w hw
    cases hg : goodWord w with
    | true => exact hwt w (hat w (List.mem_filter.mpr ⟨hw, hg⟩))
    | false =>
      have hb := ns_bad w (List.mem_filter.mpr ⟨hw, by rw [hg]; rfl⟩)
      rcases List.mem_cons.mp hb with rfl | hb
      · exact va_any rfl (hJ.2.2.2.2.2.2.2.2.2.1 nsN (by decide +kernel))
      · obtain ⟨m, hm, rfl⟩ := List.mem_map.mp hb
        exact va_any rfl (hJ.2.2.2.2.2.2.2.2.2.2.1 m hm)
  · intro t ha hz hq
    refine ⟨⟨h, hx, fun a e he => ?_⟩, Nat.le_trans hS.1 hz, fun q h1 h2 => ?_⟩
    · obtain ⟨g1, g2⟩ := hR a e he
      exact ⟨g1.kept (hq a g1.lt), g2⟩
    · rw [hq q (Nat.lt_of_lt_of_le h1 hS.1)]
      exact hS.2.1 q h1 h2
end JTN
