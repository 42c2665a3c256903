theorem bad_pop {x y : Nat} (h : x = y) : some (Value.int (nI x)) = some (Value.int (nI y)) := by rw [h]
/-- a thing that is gone names no members -/
def mGone (s : mS) (a : mA) : Prop := ∀ t, t < s 6 → mIs a t = false → a 19 (a 8 t) = 0
set_option maxRecDepth 100000 in
set_option maxHeartbeats 4000000 in
theorem c_usedBy (l : Launch) (hlt : l.stackTraces = false) (G : jG) {P : Nat → Prop} {xo : Nat} {xa th va ca ma : Nat → Nat} {dat cap : Nat} {mod : Int32} {df : Nat → Option Nat} {vf dr : Nat → Int32} {mf : Nat → Nat → Int32} {s : mS} {a : mA} {h : jH} (Q : cQ G P xo xa th va ca ma dat cap mod df vf dr mf s a h) (J : IS s) (I : IA a) (p : Int32) (hG : mGone s a) : jM l G yX3_usedBy wsX3_usedBy 7 111 1 6 [.ref xo, .int p] h (fun r h' => r = some (.int (oUsedBy s a p).1) ∧ h' = h ∧ (oUsedBy s a p).2.1 25 = 0) (fun E h' => (E = "java/lang/IndexOutOfBoundsException" ∧ h' = h ∧ (oUsedBy s a p).2.1 25 = 1)) := by
  have h6 := J.2.1
  have h2 := J.2.2.1
  have h4 := J.2.2.2.1
  have h10 := J.2.2.2.2.1
  have hs0 := J.1 0
  have hs1 := J.1 1
  refine jM_of (cc := cX3_usedBy) (maxL := 2) (ret := (some .int)) hlt (by decide +kernel) rfl (Nat.le_of_ble_eq_true rfl) ?_
  intro X C E hXl hXR hXn
  show jW X G 2 0 0 0 [(0, .ref xo), (1, .int p)] [] h
  refine j_aload_n C (i := 0) (x := xo) 0 rfl dX3_usedBy_0 (pc' := 1) rfl ?_
  refine j_iload_n C (i := 1) (x := p) 1 rfl dX3_usedBy_1 (pc' := 2) rfl ?_
  refine j_callV C (As := [.int p]) (rest := []) (c_needThing X.2.1 C.2.2.2.2.2.2.2.2 G Q J I p) (cwV 1 C.2.2.2.2.1 gX3_usedBy_X3_needThing rfl rfl rfl (by decide +kernel) (by rw [hXR]; decide)) Q.obj rfl rfl rfl (Nat.le_of_ble_eq_true rfl) dX3_usedBy_2 (pc' := 5) rfl (by rw [hXR]; exact Nat.le_of_ble_eq_true rfl) (by rw [hXR]; exact Nat.le_of_ble_eq_true rfl) (by rintro E' h' ⟨rfl, hx, ex_1⟩; exact j_out C E (Nat.le_of_ble_eq_true rfl) (Nat.le_of_ble_eq_true rfl) ⟨rfl, hx, by unfold oUsedBy; rw [if_neg (bff ex_1)] <;> rfl⟩) ?_
  rintro r h' ⟨rfl, hh, nd_2⟩
  have hh := hh.symm
  subst hh
  show jW X G 2 1 6 5 [(0, .ref xo), (1, .int p)] [] h
  obtain ⟨j, hj, rfl⟩ := inN_of nd_2
  refine j_aload_n C (i := 0) (x := xo) 0 rfl dX3_usedBy_5 (pc' := 6) rfl ?_
  refine j_iload_n C (i := 1) (x := nI j) 1 rfl dX3_usedBy_6 (pc' := 7) rfl ?_
  refine j_callS C (As := [.int (nI j)]) (rest := [.ref xo]) (c_bit X.2.1 C.2.2.2.2.2.2.2.2 G j (by omega)) (va_cwS 1 C.2.2.2.2.1 gX3_usedBy_X3_bit rfl rfl rfl (by decide +kernel) (by rw [hXR]; decide)) rfl rfl (Nat.le_of_ble_eq_true rfl) dX3_usedBy_7 (pc' := 10) rfl (by rw [hXR]; exact Nat.le_of_ble_eq_true rfl) (by rw [hXR]; exact Nat.le_of_ble_eq_true rfl) (fun _ _ z => z.elim) ?_
  rintro r h' ⟨rfl, hh⟩
  have hh := hh.symm
  subst hh
  show jW X G 2 1 6 10 [(0, .ref xo), (1, .int (nI j))] [.long (lN (2 ^ j)), .ref xo] h
  refine j_callV C (As := [.long (lN (2 ^ j))]) (rest := []) (c_usersOf X.2.1 C.2.2.2.2.2.2.2.2 G Q J I (2 ^ j) (p40 (by omega))) (cwV 1 C.2.2.2.2.1 gX3_usedBy_X3_usersOf rfl rfl rfl (by decide +kernel) (by rw [hXR]; decide)) Q.obj rfl rfl rfl (Nat.le_of_ble_eq_true rfl) dX3_usedBy_10 (pc' := 13) rfl (by rw [hXR]; exact Nat.le_of_ble_eq_true rfl) (by rw [hXR]; exact Nat.le_of_ble_eq_true rfl) (fun _ _ z => z.elim) ?_
  rintro r h' ⟨rfl, hh⟩
  have hh := hh.symm
  subst hh
  show jW X G 2 1 6 13 [(0, .ref xo), (1, .int (nI j))] [.long (lN (orN (fUse a (2 ^ j)) (s 6)))] h
  refine j_callS C (As := [.long (lN (orN (fUse a (2 ^ j)) (s 6)))]) (rest := []) (c_bitCount X.2.1 C.2.2.2.2.2.2.2.2 G (orN (fUse a (2 ^ j)) (s 6)) (fUse_lt a (2 ^ j) (by omega))) (va_cwS 1 C.2.2.2.2.1 gX3_usedBy_J13_bitCount_95d88 rfl rfl rfl (by decide +kernel) (by rw [hXR]; decide)) rfl rfl (Nat.le_of_ble_eq_true rfl) dX3_usedBy_13 (pc' := 16) rfl (by rw [hXR]; exact Nat.le_of_ble_eq_true rfl) (by rw [hXR]; exact Nat.le_of_ble_eq_true rfl) (fun _ _ z => z.elim) ?_
  rintro r h' ⟨rfl, hh⟩
  have hh := hh.symm
  subst hh
  show jW X G 2 1 6 16 [(0, .ref xo), (1, .int (nI j))] [.int (nI (pop (orN (fUse a (2 ^ j)) (s 6))))] h
  exact j_iret C E dX3_usedBy_16 rfl (Nat.le_of_ble_eq_true rfl) (Nat.le_of_ble_eq_true rfl) ⟨by unfold oUsedBy; rw [if_pos (show inN (nI j) (s 6) = true by rw [inN_nI (by omega)]; exact decide_eq_true hj), tn_nI (j := j) (by omega), ← use_users hG (by omega) j] <;> rfl, rfl, by unfold oUsedBy; rw [if_pos (show inN (nI j) (s 6) = true by rw [inN_nI (by omega)]; exact decide_eq_true hj), tn_nI (j := j) (by omega)] <;> rfl⟩
