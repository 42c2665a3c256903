theorem jup_val {h : jH} {a q : Nat} {e e' : va_E} (hn : jup h a e q = some e') (hne : e ≠ e') : h q = some e' := by
  by_cases z : q = a
  · rw [z, jup_self] at hn; cases hn; exact absurd rfl hne
  · rw [jup_ne z] at hn; exact hn
theorem pne {P : Nat → Prop} {a b : Nat} (ha : ¬ P a) (hb : P b) : b ≠ a := fun z => ha (by rw [← z]; exact hb)
theorem jup_nn {h : jH} {a q : Nat} {e : va_E} (hn : jup h a e q = none) : q ≠ a := fun z => by rw [z, jup_self] at hn; cases hn
theorem jup_nv {h : jH} {a q : Nat} {e e' : va_E} (hn : jup h a e q = some e') (hne : e ≠ e') : q ≠ a := fun z => by rw [z, jup_self] at hn; cases hn; exact hne rfl
/-- the store, wherever its cells lie -/
def cE (G : jG) (P : Nat → Prop) (xo : Nat) (xa : Nat → Nat) (s : mS) (a : mA) (h : jH) : Prop := ∃ (th va ca ma : Nat → Nat) (dat cap : Nat) (mod : Int32) (df : Nat → Option Nat) (vf dr : Nat → Int32) (mf : Nat → Nat → Int32), cQ G P xo xa th va ca ma dat cap mod df vf dr mf s a h ∧ ∀ v, v < s 10 → ¬ P (ma v)
theorem mp_up {P : Nat → Prop} {ma : Nat → Nat} {s s' : mS} {m : Nat} (h10 : s' 10 = s 10 + 1) (ho : ∀ v, v < s 10 → ¬ P (ma v)) (hm : ¬ P m) : ∀ v, v < s' 10 → ¬ P (va_up ma (s 10) m v) := by
  intro v hv
  rw [h10] at hv
  by_cases e : v = s 10
  · rw [e, up_s]; exact hm
  · rw [up_n e]; exact ho v (by omega)
theorem cQ.e {G : jG} {P : Nat → Prop} {xo : Nat} {xa th va ca ma : Nat → Nat} {dat cap : Nat} {mod : Int32} {df : Nat → Option Nat} {vf dr : Nat → Int32} {mf : Nat → Nat → Int32} {s : mS} {a : mA} {h : jH} (Q : cQ G P xo xa th va ca ma dat cap mod df vf dr mf s a h) (hp : ∀ v, v < s 10 → ¬ P (ma v)) : cE G P xo xa s a h := ⟨_, _, _, _, _, _, _, _, _, _, _, Q, hp⟩
set_option maxRecDepth 100000 in
set_option maxHeartbeats 4000000 in
theorem c_addV (l : Launch) (hlt : l.stackTraces = false) (G : jG) {P : Nat → Prop} {xo : Nat} {xa th va ca ma : Nat → Nat} {dat cap : Nat} {mod : Int32} {df : Nat → Option Nat} {vf dr : Nat → Int32} {mf : Nat → Nat → Int32} {s : mS} {a : mA} {h : jH} {s' : mS} {a' : mA} {o c m : Nat} {mc : Nat → Int32} (Q : cQ G P xo xa th va ca ma dat cap mod df vf dr mf s a h) (J : IS s) (I : IA a) {i : Nat} (hi : i < s 6) (ho : o < 20) (g6 : s' 6 = s 6) (h7 : a' 7 i = a 7 i) (N : cNew s a s' a' i) (V : cVal s a s' a' i o (a 12 (a 8 i) + 1) (a 8 i + 1)) (hcc : h c = some (.inr (1, [.int (nI (a' 16 (s 10))), .int (nI (a' 18 (s 10) / 100)), .int (nI (a' 18 (s 10) % 100)), .ref m]))) (hmm : h m = some (.inl (G.2.2.1.1, a' 19 (s 10), .inl mc))) (hme : ∀ j, j < a' 19 (s 10) → mc j = nI (a' 20 (6 * s 10 + j))) (hmx : m ≠ xa 4 ∧ m ≠ xa 5) (hPn : ∀ w, P w → h w ≠ none) (hPo : ∀ v, v < s 10 → ¬ P (ma v)) (hPm : ¬ P m) : jM l G yX3_addVersion wsX3_addVersion 3 93 1 6 [.ref xo, .int (nI o), .ref (th i), .ref c] h (fun r h' => r = some (.int (nI (a 12 (a 8 i) + 1))) ∧ cE G P xo xa s' a' h' ∧ ∀ w, P w → h' w = h w) (fun _ _ => False) := by
  have h6 := J.2.1
  have h2 := J.2.2.1
  have h4 := J.2.2.2.1
  have h10 := J.2.2.2.2.1
  have hs0 := J.1 0
  have hs1 := J.1 1
  refine jM_of (cc := cX3_addVersion) (maxL := 4) (ret := (some .int)) hlt (by decide +kernel) rfl (Nat.le_of_ble_eq_true rfl) ?_
  intro X C E hXl hXR hXn
  have hinX1 : ∀ w ∈ u_ws RX1 TX1 2, w ∈ wsX3_addVersion := by decide +kernel
  have hinX2 : ∀ w ∈ u_ws RX2 TX2 6, w ∈ wsX3_addVersion := by decide +kernel
  show jW X G 4 0 0 0 [(0, .ref xo), (1, .int (nI o)), (2, .ref (th i)), (3, .ref c)] [] h
  refine j_aload_n C (i := 2) (x := th i) 2 rfl dX3_addVersion_0 (pc' := 1) rfl ?_
  refine j_aload_n C (i := 0) (x := xo) 0 rfl dX3_addVersion_1 (pc' := 2) rfl ?_
  refine j_aload_n C (i := 2) (x := th i) 2 rfl dX3_addVersion_2 (pc' := 3) rfl ?_
  refine j_get C (ref := "MapRevisions$Thing") (CN := RX1) (T := TX1) (N := 2) (ci := 2) (index := 138) (a := th i) (kf := 1) (fs := [.int (nI (a 7 i)), .ref (va (a 8 i))]) (v := .ref (va (a 8 i))) hinX1 rfl (by decide) (by decide +kernel) rfl (Q.thing (t := i) (by omega)) rfl dX3_addVersion_3 (pc' := 6) rfl ?_
  have B_1 := Q.last (t := i) (by omega)
  refine j_iload_n C (i := 1) (x := nI o) 1 rfl dX3_addVersion_6 (pc' := 7) rfl ?_
  refine j_aload_n C (i := 3) (x := c) 3 rfl dX3_addVersion_7 (pc' := 8) rfl ?_
  refine j_callV C (As := [.ref (va (a 8 i)), .int (nI o), .ref c]) (rest := [.ref (th i)]) (c_newV1 X.2.1 C.2.2.2.2.2.2.2.2 G Q J I o c (a 8 i) ho (Q.last hi)) (cwV 3 C.2.2.2.2.1 gX3_addVersion_X3_newVersion rfl rfl rfl (by decide +kernel) (by rw [hXR]; decide)) Q.obj rfl rfl rfl (Nat.le_of_ble_eq_true rfl) dX3_addVersion_8 (pc' := 11) rfl (by rw [hXR]; exact Nat.le_of_ble_eq_true rfl) (by rw [hXR]; exact Nat.le_of_ble_eq_true rfl) (fun _ _ z => z.elim) ?_
  rintro r h' ⟨q, rfl, hq, rfl⟩
  show jW X G 4 1 6 11 [(0, .ref xo), (1, .int (nI o)), (2, .ref (th i)), (3, .ref c)] [.ref q, .ref (th i)] (jup (jup (jup h xo (.inr (4, xF xa (va_up s 10 (s 10 + 1))))) (xa 4) (.inl (G.2.2.1.1, 20, .inl (upd vf o (nI (cnt (fun k => decide (a 14 k = o)) (s 10) + 1)))))) q (.inr (3, [.ref (va (a 8 i)), .int (nI (a 12 (a 8 i) + 1)), .int (nI o), .int (nI (s 0)), .ref c, .int (nI 0)])))
  refine j_put C (ref := "MapRevisions$Thing") (CN := RX1) (T := TX1) (N := 2) (ci := 2) (index := 138) (a := (th i)) (kf := 1) (fs := [.int (nI (a 7 i)), .ref (va (a 8 i))]) (v := .ref q) (ty := (.object "MapRevisions$Version")) hinX1 tyX1_ok nmX1 rfl (by decide) (by decide +kernel) rfl rfl (by decide +kernel) rfl rfl ((jup_ne (ne_none (Q.thing hi) hq)).trans ((jup_ne (ne_cell (Q.thing hi) Q.vof (fun z => by cases z))).trans ((jup_ne (ne_cell (Q.thing hi) Q.obj (fun z => by cases z))).trans (Q.thing (t := i) (by omega))))) (by show 1 < 2; decide) dX3_addVersion_11 (pc' := 14) rfl ?_
  show jW X G 4 1 6 14 [(0, .ref xo), (1, .int (nI o)), (2, .ref (th i)), (3, .ref c)] [] (jup (jup (jup (jup h xo (.inr (4, xF xa (va_up s 10 (s 10 + 1))))) (xa 4) (.inl (G.2.2.1.1, 20, .inl (upd vf o (nI (cnt (fun k => decide (a 14 k = o)) (s 10) + 1)))))) q (.inr (3, [.ref (va (a 8 i)), .int (nI (a 12 (a 8 i) + 1)), .int (nI o), .int (nI (s 0)), .ref c, .int (nI 0)]))) (th i) (.inr (2, [.int (nI (a 7 i)), .ref q])))
  refine j_aload_n C (i := 2) (x := th i) 2 rfl dX3_addVersion_14 (pc' := 15) rfl ?_
  refine j_get C (ref := "MapRevisions$Thing") (CN := RX1) (T := TX1) (N := 2) (ci := 2) (index := 138) (a := th i) (kf := 1) (fs := [.int (nI (a 7 i)), .ref q]) (v := .ref q) hinX1 rfl (by decide) (by decide +kernel) rfl (jup_self _ _ _) rfl dX3_addVersion_15 (pc' := 18) rfl ?_
  have B_2 := Q.last (t := i) (by omega)
  refine j_get C (ref := "MapRevisions$Version") (CN := RX2) (T := TX2) (N := 6) (ci := 3) (index := 142) (a := q) (kf := 1) (fs := [.ref (va (a 8 i)), .int (nI (a 12 (a 8 i) + 1)), .int (nI o), .int (nI (s 0)), .ref c, .int (nI 0)]) (v := .int (nI (a 12 (a 8 i) + 1))) hinX2 rfl (by decide) (by decide +kernel) rfl ((jup_ne (ne_none (Q.thing hi) hq).symm).trans (jup_self _ _ _)) rfl dX3_addVersion_18 (pc' := 21) rfl ?_
  exact j_iret C E dX3_addVersion_21 rfl (Nat.le_of_ble_eq_true rfl) (Nat.le_of_ble_eq_true rfl) ⟨rfl, (Q.addV I hi g6 N V h7 hcc hmm hme hmx hq (fun z => hPn q z hq)).e (mp_up N.1 hPo hPm), fun w hw => (jup_ne (pne (Q.np.2.2.2.1 i hi) hw)).trans ((jup_ne (pne (fun z => hPn q z hq) hw)).trans ((jup_ne (pne (Q.np.2.1 4 (by decide)) hw)).trans (jup_ne (pne Q.np.1 hw))))⟩
set_option maxRecDepth 100000 in
set_option maxHeartbeats 4000000 in
theorem c_addT (l : Launch) (hlt : l.stackTraces = false) (G : jG) {P : Nat → Prop} {xo : Nat} {xa th va ca ma : Nat → Nat} {dat cap : Nat} {mod : Int32} {df : Nat → Option Nat} {vf dr : Nat → Int32} {mf : Nat → Nat → Int32} {s : mS} {a : mA} {h : jH} {s' : mS} {a' : mA} {o c m : Nat} {mc : Nat → Int32} (Q : cQ G P xo xa th va ca ma dat cap mod df vf dr mf s a h) (J : IS s) (I : IA a) {d : Nat} (ho : o < 20) (hs6 : s 6 < 40) (g6 : s' 6 = s 6 + 1) (h7 : a' 7 (s 6) = d) (N : cNew s a s' a' (s 6)) (V : cVal s a s' a' (s 6) o 1 0) (hcc : h c = some (.inr (1, [.int (nI (a' 16 (s 10))), .int (nI (a' 18 (s 10) / 100)), .int (nI (a' 18 (s 10) % 100)), .ref m]))) (hmm : h m = some (.inl (G.2.2.1.1, a' 19 (s 10), .inl mc))) (hme : ∀ j, j < a' 19 (s 10) → mc j = nI (a' 20 (6 * s 10 + j))) (hmx : m ≠ xa 4 ∧ m ≠ xa 5) (hPn : ∀ w, P w → h w ≠ none) (hPo : ∀ v, v < s 10 → ¬ P (ma v)) (hPm : ¬ P m) : jM l G yX3_addThing wsX3_addThing 7 201 3 108 [.ref xo, .int (nI o), .int (nI d), .ref c] h (fun r h' => r = some (.int (nI (s 6))) ∧ cE G P xo xa s' a' h' ∧ ∀ w, P w → h' w = h w) (fun _ _ => False) := by
  have h6 := J.2.1
  have h2 := J.2.2.1
  have h4 := J.2.2.2.1
  have h10 := J.2.2.2.2.1
  have hs0 := J.1 0
  have hs1 := J.1 1
  refine jM_of (cc := cX3_addThing) (maxL := 4) (ret := (some .int)) hlt (by decide +kernel) rfl (Nat.le_of_ble_eq_true rfl) ?_
  intro X C E hXl hXR hXn
  have hinX3 : ∀ w ∈ u_ws RX3 TX3 11, w ∈ wsX3_addThing := by decide +kernel
  have hinX1 : ∀ w ∈ u_ws RX1 TX1 2, w ∈ wsX3_addThing := by decide +kernel
  show jW X G 4 0 0 0 [(0, .ref xo), (1, .int (nI o)), (2, .int (nI d)), (3, .ref c)] [] h
  refine j_aload_n C (i := 0) (x := xo) 0 rfl dX3_addThing_0 (pc' := 1) rfl ?_
  refine j_get C (ref := "MapRevisions") (CN := RX3) (T := TX3) (N := 11) (ci := 4) (index := 25) (a := xo) (kf := 2) (fs := [.ref (xa 0), .ref (xa 1), .ref (xa 2), .ref (xa 3), .ref (xa 4), .ref (xa 5), .int (nI (s 2)), .int (nI (s 4)), .int (nI (s 10)), .int (nI (s 0)), .int (nI (s 1))]) (v := .ref (xa 2)) hinX3 rfl (by decide) (by decide +kernel) rfl Q.obj rfl dX3_addThing_1 (pc' := 4) rfl ?_
  refine j_new C (CN := RX1) (T := TX1) (N := 2) (ci := 2) (index := 111) (fs := [.int 0, .null]) hinX1 tyX1_ok (by decide +kernel) (by decide +kernel) (by decide +kernel) rfl (fun j hj => by rcases (show j = 0 ∨ j = 1 by omega) with rfl | rfl <;> rfl) (by rw [hXR]; exact Nat.le_of_ble_eq_true rfl) (by rw [hXR]; exact Nat.le_of_ble_eq_true rfl) dX3_addThing_4 (pc' := 7) rfl ?_
  intro t ht
  show jW X G 4 1 2 7 [(0, .ref xo), (1, .int (nI o)), (2, .int (nI d)), (3, .ref c)] [.ref t, .ref (xa 2)] (jup h t (.inr (2, [.int 0, .null])))
  have Q1 := Q.mono (h' := jup h t (.inr (2, [.int 0, .null]))) (fun w e hw => jup_some ht hw)
  refine j_dup C rfl dX3_addThing_7 (pc' := 8) rfl ?_
  refine j_iload_n C (i := 2) (x := nI d) 2 rfl dX3_addThing_8 (pc' := 9) rfl ?_
  refine j_aload_n C (i := 0) (x := xo) 0 rfl dX3_addThing_9 (pc' := 10) rfl ?_
  refine j_null C  dX3_addThing_10 (pc' := 11) rfl ?_
  refine j_iload_n C (i := 1) (x := nI o) 1 rfl dX3_addThing_11 (pc' := 12) rfl ?_
  refine j_aload_n C (i := 3) (x := c) 3 rfl dX3_addThing_12 (pc' := 13) rfl ?_
  refine j_callV C (As := [.null, .int (nI o), .ref c]) (rest := [.int (nI d), .ref t, .ref t, .ref (xa 2)]) (c_newV0 X.2.1 C.2.2.2.2.2.2.2.2 G Q1 J I o c ho) (cwV 3 C.2.2.2.2.1 gX3_addThing_X3_newVersion rfl rfl rfl (by decide +kernel) (by rw [hXR]; decide)) Q1.obj rfl rfl rfl (Nat.le_of_ble_eq_true rfl) dX3_addThing_13 (pc' := 16) rfl (by rw [hXR]; exact Nat.le_of_ble_eq_true rfl) (by rw [hXR]; exact Nat.le_of_ble_eq_true rfl) (fun _ _ z => z.elim) ?_
  rintro r h' ⟨q, rfl, hq1, rfl⟩
  have hq : h q = none := jup_none hq1
  have hqt : q ≠ t := jup_nn hq1
  show jW X G 4 2 8 16 [(0, .ref xo), (1, .int (nI o)), (2, .int (nI d)), (3, .ref c)] [.ref q, .int (nI d), .ref t, .ref t, .ref (xa 2)] (jup (jup (jup (jup h t (.inr (2, [.int 0, .null]))) xo (.inr (4, xF xa (va_up s 10 (s 10 + 1))))) (xa 4) (.inl (G.2.2.1.1, 20, .inl (upd vf o (nI (cnt (fun k => decide (a 14 k = o)) (s 10) + 1)))))) q (.inr (3, [.null, .int (nI 1), .int (nI o), .int (nI (s 0)), .ref c, .int (nI 0)])))
  refine j_callI C (As := [.int (nI d), .ref q]) (rest := [.ref t, .ref (xa 2)]) (c_X1_init X.2.1 C.2.2.2.2.2.2.2.2 G ((jup_ne hqt.symm).trans ((jup_ne (ne_none Q.vof ht).symm).trans ((jup_ne (ne_none Q.obj ht).symm).trans (jup_self _ _ _)))) (nI d) q) (cwI 2 C.2.2.2.2.1 gX3_addThing_X1_init rfl rfl rfl (C.2.2.2.2.1 (.initialized RX1) (by decide +kernel)) (C.2.2.2.2.1 (.methodLink RX3 265 yX1_init) (by decide +kernel)) (C.2.2.2.2.1 (.instanceMethod yX1_init) (by decide +kernel)) rfl (by decide +kernel) (by rw [hXR]; decide)) rfl rfl (Nat.le_of_ble_eq_true rfl) dX3_addThing_16 (pc' := 19) rfl (by rw [hXR]; exact Nat.le_of_ble_eq_true rfl) (by rw [hXR]; exact Nat.le_of_ble_eq_true rfl) (fun _ _ z => z.elim) ?_
  rintro r h' ⟨rfl, rfl⟩
  show jW X G 4 2 8 19 [(0, .ref xo), (1, .int (nI o)), (2, .int (nI d)), (3, .ref c)] [.ref t, .ref (xa 2)] (jup (jup (jup (jup (jup h t (.inr (2, [.int 0, .null]))) xo (.inr (4, xF xa (va_up s 10 (s 10 + 1))))) (xa 4) (.inl (G.2.2.1.1, 20, .inl (upd vf o (nI (cnt (fun k => decide (a 14 k = o)) (s 10) + 1)))))) q (.inr (3, [.null, .int (nI 1), .int (nI o), .int (nI (s 0)), .ref c, .int (nI 0)]))) t (.inr (2, [.int (nI d), .ref q])))
  have hdat : (s 6 = 0 ∧ dat = G.2.2.2.1) ∨ (10 ≤ cap ∧ s 6 ≤ cap ∧ cap ≤ 100 ∧ (jup (jup (jup (jup (jup h t (.inr (2, [.int 0, .null]))) xo (.inr (4, xF xa (va_up s 10 (s 10 + 1))))) (xa 4) (.inl (G.2.2.1.1, 20, .inl (upd vf o (nI (cnt (fun k => decide (a 14 k = o)) (s 10) + 1)))))) q (.inr (3, [.null, .int (nI 1), .int (nI o), .int (nI (s 0)), .ref c, .int (nI 0)]))) t (.inr (2, [.int (nI d), .ref q]))) dat = some (.inl (G.2.2.1.2.2.1, cap, .inr (.inr (.inr (.inr df))))) ∧ ∀ j, j < s 6 → ∀ y, df j = some y → ∃ fs, (jup (jup (jup (jup (jup h t (.inr (2, [.int 0, .null]))) xo (.inr (4, xF xa (va_up s 10 (s 10 + 1))))) (xa 4) (.inl (G.2.2.1.1, 20, .inl (upd vf o (nI (cnt (fun k => decide (a 14 k = o)) (s 10) + 1)))))) q (.inr (3, [.null, .int (nI 1), .int (nI o), .int (nI (s 0)), .ref c, .int (nI 0)]))) t (.inr (2, [.int (nI d), .ref q]))) y = some (.inr (2, fs))) := by
    have pass : ∀ w e, h w = some e → w ≠ xo → w ≠ xa 4 → (jup (jup (jup (jup (jup h t (.inr (2, [.int 0, .null]))) xo (.inr (4, xF xa (va_up s 10 (s 10 + 1))))) (xa 4) (.inl (G.2.2.1.1, 20, .inl (upd vf o (nI (cnt (fun k => decide (a 14 k = o)) (s 10) + 1)))))) q (.inr (3, [.null, .int (nI 1), .int (nI o), .int (nI (s 0)), .ref c, .int (nI 0)]))) t (.inr (2, [.int (nI d), .ref q]))) w = some e := fun w e hw h1 h2 => (jup_ne (ne_none hw ht)).trans ((jup_ne (ne_none hw hq)).trans ((jup_ne h2).trans ((jup_ne h1).trans ((jup_ne (ne_none hw ht)).trans hw))))
    rcases Q.2.2.2.2.2.2.2.1 with ⟨h1, h2, -⟩ | ⟨h1, h2, h3, hd, hel⟩
    · exact Or.inl ⟨h1, h2⟩
    · refine Or.inr ⟨h2, h1, h3, pass _ _ hd (ne_cell hd Q.obj (fun z => by cases z)) (ne_cell hd Q.vof ne_arr), fun j hj y hy => ?_⟩
      rw [hel j hj] at hy
      cases hy
      exact ⟨_, pass _ _ (Q.thing hj) (ne_cell (Q.thing hj) Q.obj (fun z => by cases z)) (ne_cell (Q.thing hj) Q.vof (fun z => by cases z))⟩
  refine j_callV C (As := [.ref t]) (rest := []) (c_add X.2.1 C.2.2.2.2.2.2.2.2 G ((jup_ne (ne_none Q.lst ht)).trans ((jup_ne (ne_none Q.lst hq)).trans ((jup_ne (ne_cell Q.lst Q.vof (fun z => by cases z))).trans ((jup_ne (ne_cell Q.lst Q.obj (fun z => by cases z))).trans ((jup_ne (ne_none Q.lst ht)).trans Q.lst))))) (jup_self _ _ _) hdat (by omega)) (cwV 1 C.2.2.2.2.1 gX3_addThing_Jx4a65c_add_9ea2d rfl rfl rfl (by decide +kernel) (by rw [hXR]; decide)) ((jup_ne (ne_none Q.lst ht)).trans ((jup_ne (ne_none Q.lst hq)).trans ((jup_ne (ne_cell Q.lst Q.vof (fun z => by cases z))).trans ((jup_ne (ne_cell Q.lst Q.obj (fun z => by cases z))).trans ((jup_ne (ne_none Q.lst ht)).trans Q.lst))))) rfl rfl rfl (Nat.le_of_ble_eq_true rfl) dX3_addThing_19 (pc' := 22) rfl (by rw [hXR]; exact Nat.le_of_ble_eq_true rfl) (by rw [hXR]; exact Nat.le_of_ble_eq_true rfl) (fun _ _ z => z.elim) ?_
  rintro r h' ⟨rfl, b, cap', f', hb, rfl, hf1, hf2, hc1, hc2, hc3⟩
  have hb2 : (b = dat ∧ ∃ (cp : Nat) (g : Nat → Option Nat), h b = some (.inl (G.2.2.1.2.2.1, cp, .inr (.inr (.inr (.inr g)))))) ∨ (h b = none ∧ b ≠ t ∧ b ≠ q) := by
    rcases hb with ⟨e1, cp, g, e⟩ | e
    · exact Or.inl ⟨e1, cp, g, jup_val (jup_val (jup_val (jup_val (jup_val e (fun z => by cases z)) (fun z => by cases z)) (Ne.symm ne_arr)) (fun z => by cases z)) (fun z => by cases z)⟩
    · exact Or.inr ⟨jup_none (jup_none (jup_none (jup_none (jup_none e)))), jup_nn e, jup_nn (jup_none e)⟩
  have hob : xo ≠ b := by
    rcases hb2 with ⟨-, cp, g, e⟩ | ⟨e, -⟩
    · exact ne_cell Q.obj e (fun z => by cases z)
    · exact ne_none Q.obj e
  have hPb : ¬ P b := by
    rcases hb2 with ⟨e, -⟩ | ⟨e, -⟩
    · rw [e]; exact Q.np.2.2.1
    · exact fun z => hPn b z e
  show jW X G 4 3 108 22 [(0, .ref xo), (1, .int (nI o)), (2, .int (nI d)), (3, .ref c)] [.int (nI 1)] (jup (jup (jup (jup (jup (jup (jup h t (.inr (2, [.int 0, .null]))) xo (.inr (4, xF xa (va_up s 10 (s 10 + 1))))) (xa 4) (.inl (G.2.2.1.1, 20, .inl (upd vf o (nI (cnt (fun k => decide (a 14 k = o)) (s 10) + 1)))))) q (.inr (3, [.null, .int (nI 1), .int (nI o), .int (nI (s 0)), .ref c, .int (nI 0)]))) t (.inr (2, [.int (nI d), .ref q]))) b (.inl (G.2.2.1.2.2.1, cap', .inr (.inr (.inr (.inr f')))))) (xa 2) (.inr (0, [.int (mod + nI 1), .ref b, .int (nI (s 6 + 1))])))
  refine j_pop C rfl dX3_addThing_22 (pc' := 23) rfl ?_
  refine j_aload_n C (i := 0) (x := xo) 0 rfl dX3_addThing_23 (pc' := 24) rfl ?_
  refine j_get C (ref := "MapRevisions") (CN := RX3) (T := TX3) (N := 11) (ci := 4) (index := 25) (a := xo) (kf := 2) (fs := [.ref (xa 0), .ref (xa 1), .ref (xa 2), .ref (xa 3), .ref (xa 4), .ref (xa 5), .int (nI (s 2)), .int (nI (s 4)), .int (nI (s 10 + 1)), .int (nI (s 0)), .int (nI (s 1))]) (v := .ref (xa 2)) hinX3 rfl (by decide) (by decide +kernel) rfl ((jup_ne (ne_cell Q.obj Q.lst (fun z => by cases z))).trans ((jup_ne hob).trans ((jup_ne (ne_none Q.obj ht)).trans ((jup_ne (ne_none Q.obj hq)).trans ((jup_ne (ne_cell Q.obj Q.vof (fun z => by cases z))).trans (jup_self _ _ _)))))) rfl dX3_addThing_24 (pc' := 27) rfl ?_
  refine j_callV C (As := []) (rest := []) (c_size X.2.1 C.2.2.2.2.2.2.2.2 G (jup_self _ _ _)) (cwV 0 C.2.2.2.2.1 gX3_addThing_Jx4a65c_size_8abf5 rfl rfl rfl (by decide +kernel) (by rw [hXR]; decide)) (jup_self _ _ _) rfl rfl rfl (Nat.le_of_ble_eq_true rfl) dX3_addThing_27 (pc' := 30) rfl (by rw [hXR]; exact Nat.le_of_ble_eq_true rfl) (by rw [hXR]; exact Nat.le_of_ble_eq_true rfl) (fun _ _ z => z.elim) ?_
  rintro r h' ⟨rfl, hh⟩
  have hh := hh.symm
  subst hh
  show jW X G 4 3 108 30 [(0, .ref xo), (1, .int (nI o)), (2, .int (nI d)), (3, .ref c)] [.int (nI (s 6 + 1))] (jup (jup (jup (jup (jup (jup (jup h t (.inr (2, [.int 0, .null]))) xo (.inr (4, xF xa (va_up s 10 (s 10 + 1))))) (xa 4) (.inl (G.2.2.1.1, 20, .inl (upd vf o (nI (cnt (fun k => decide (a 14 k = o)) (s 10) + 1)))))) q (.inr (3, [.null, .int (nI 1), .int (nI o), .int (nI (s 0)), .ref c, .int (nI 0)]))) t (.inr (2, [.int (nI d), .ref q]))) b (.inl (G.2.2.1.2.2.1, cap', .inr (.inr (.inr (.inr f')))))) (xa 2) (.inr (0, [.int (mod + nI 1), .ref b, .int (nI (s 6 + 1))])))
  refine j_iconst C (v := nI 1) rfl dX3_addThing_30 (pc' := 31) rfl ?_
  refine j_isub C (x := nI (s 6 + 1)) (y := nI 1) dX3_addThing_31 (pc' := 32) rfl ?_
  refine jt_i (pk_sub (by omega)) ?_
  exact j_iret C E dX3_addThing_32 rfl (Nat.le_of_ble_eq_true rfl) (Nat.le_of_ble_eq_true rfl) ⟨by rw [show s 6 + 1 - 1 = s 6 by omega], (Q.addT I g6 N V h7 hcc hmm hme hmx ht hq hqt ⟨fun z => hPn q z hq, fun z => hPn t z ht, hPb⟩ hb2 hf1 hf2 hc1 hc2 hc3).e (mp_up N.1 hPo hPm), fun w hw => (jup_ne (pne (Q.np.2.1 2 (by decide)) hw)).trans ((jup_ne (pne hPb hw)).trans ((jup_ne (pne (fun z => hPn t z ht) hw)).trans ((jup_ne (pne (fun z => hPn q z hq) hw)).trans ((jup_ne (pne (Q.np.2.1 4 (by decide)) hw)).trans ((jup_ne (pne Q.np.1 hw)).trans (jup_ne (pne (fun z => hPn t z ht) hw)))))))⟩
