theorem jup_none {h : jH} {a q : Nat} {e : va_E} (hn : jup h a e q = none) : h q = none := by
  by_cases z : q = a
  · rw [z, jup_self] at hn; cases hn
  · rw [jup_ne z] at hn; exact hn
theorem ne_none {h : jH} {a q : Nat} {e : va_E} (ha : h a = some e) (hq : h q = none) : a ≠ q := fun z => by rw [z, hq] at ha; cases ha
theorem ne_cell {h : jH} {a b : Nat} {e e' : va_E} (ha : h a = some e) (hb : h b = some e') (hn : e ≠ e') : a ≠ b := fun z => by rw [z, hb] at ha; cases ha; exact hn rfl
set_option maxRecDepth 100000 in
set_option maxHeartbeats 4000000 in
theorem c_copyOfI (l : Launch) (hlt : l.stackTraces = false) (G : jG) {a0 : Nat} {f : Nat → Int32} {h : jH} (h0 : h a0 = some (.inl (G.2.2.1.1, 6, .inl f))) (m : Nat) (hm : m ≤ 6) : jM l G yJ7_copyOf_59c91 wsJ7_copyOf_59c91 1 70 1 6 [.ref a0, .int (nI m)] h (fun r h' => (∃ b f', r = some (.ref b) ∧ h b = none ∧ h' = jup h b (.inl (G.2.2.1.1, m, .inl f')) ∧ ∀ j, j < m → f' j = f j)) (fun _ _ => False) := by
  refine jM_of (cc := cJ7_copyOf_59c91) (maxL := 3) (ret := (some (.array .int))) hlt (by decide +kernel) rfl (Nat.le_of_ble_eq_true rfl) ?_
  intro X C E hXl hXR hXn
  show jW X G 3 0 0 0 [(0, .ref a0), (1, .int (nI m))] [] h
  refine j_iload_n C (i := 1) (x := nI m) 1 rfl dJ7_copyOf_59c91_0 (pc' := 1) rfl ?_
  refine j_aload_n C (i := 0) (x := a0) 0 rfl dJ7_copyOf_59c91_1 (pc' := 2) rfl ?_
  refine j_alen C (a := a0) (t0 := 0) (v := nI 6) h0 rfl rfl dJ7_copyOf_59c91_2 (pc' := 3) rfl ?_
  refine j_icmp_ne C dJ7_copyOf_59c91_3 (tgt := 14) (by decide) (pc' := 6) rfl (fun c_1 => ?_) (fun c_1 => ?_)
  · have c_1 := fun zq => c_1 ((nI_eq (a := m) (b := 6) (by omega) (by omega)).mpr zq)
    have c_1 : ¬ m = 6 := c_1
    refine j_iload_n C (i := 1) (x := nI m) 1 rfl dJ7_copyOf_59c91_14 (pc' := 15) rfl ?_
    refine j_newa_i C (N := m) (by decide +kernel) rfl (by omega) (by rw [hXR]; exact Nat.le_of_ble_eq_true rfl) (by rw [hXR]; show 0 + m ≤ 6; omega) dJ7_copyOf_59c91_15 (pc' := 17) rfl ?_
    intro b hb
    refine jW.widen (k' := 1) (n' := 6) (by omega) (by omega) ?_
    show jW X G 3 1 6 17 [(0, .ref a0), (1, .int (nI m))] [.ref b] (jup h b (.inl (G.2.2.1.1, m, .inl (fun _ => 0))))
    refine j_astore_n C (i := 2) (x := b) (l' := [(2, .ref b), (0, .ref a0), (1, .int (nI m))]) dJ7_copyOf_59c91_17 (pc' := 18) rfl (by decide) rfl ?_
    refine j_aload_n C (i := 0) (x := a0) 1 rfl dJ7_copyOf_59c91_18 (pc' := 19) rfl ?_
    refine j_iconst C (v := nI 0) rfl dJ7_copyOf_59c91_19 (pc' := 20) rfl ?_
    refine j_aload_n C (i := 2) (x := b) 0 rfl dJ7_copyOf_59c91_20 (pc' := 21) rfl ?_
    refine j_iconst C (v := nI 0) rfl dJ7_copyOf_59c91_21 (pc' := 22) rfl ?_
    refine j_aload_n C (i := 0) (x := a0) 1 rfl dJ7_copyOf_59c91_22 (pc' := 23) rfl ?_
    refine j_alen C (a := a0) (t0 := 0) (v := nI 6) ((jup_ne (ne_none h0 hb)).trans h0) rfl rfl dJ7_copyOf_59c91_23 (pc' := 24) rfl ?_
    refine j_iload_n C (i := 1) (x := nI m) 2 rfl dJ7_copyOf_59c91_24 (pc' := 25) rfl ?_
    refine j_min C (idx := 304) (v := nI m) (if_pos (nI_lt (by omega) (by omega))) (by decide +kernel) (by decide +kernel) (by decide +kernel) (by decide +kernel) (by rw [hXR]; decide) (by rw [hXR]; decide) (Nat.le_of_ble_eq_true rfl) (by rw [hXR]; exact Nat.le_of_ble_eq_true rfl) (by rw [hXR]; exact Nat.le_of_ble_eq_true rfl) dJ7_copyOf_59c91_25 (pc' := 28) rfl ?_
    show jW X G 3 1 6 28 [(2, .ref b), (0, .ref a0), (1, .int (nI m))] [.int (nI m), .int (nI 0), .ref b, .int (nI 0), .ref a0] (jup h b (.inl (G.2.2.1.1, m, .inl (fun _ => 0))))
    refine j_copyi C (idx := 150) (a0 := a0) (a1 := b) (n0 := 6) (n1 := m) (m := m) (f := f) (g := fun _ => 0) (by decide +kernel) (by decide +kernel) (by decide +kernel) (by decide +kernel) (jup_some hb h0) (jup_self _ _ _) rfl (by omega) (by omega) (by omega) (by rw [hXR]; decide) (by rw [hXR]; decide) (Nat.le_of_ble_eq_true rfl) dJ7_copyOf_59c91_28 (pc' := 31) rfl ?_
    refine jt_h (jup_jup _ _ _ _) ?_
    show jW X G 3 1 6 31 [(2, .ref b), (0, .ref a0), (1, .int (nI m))] [] (jup h b (.inl (G.2.2.1.1, m, .inl (va_cpy f (fun _ => 0) 0 0 m))))
    refine j_aload_n C (i := 2) (x := b) 0 rfl dJ7_copyOf_59c91_31 (pc' := 32) rfl ?_
    exact j_aret C E (Or.inr ⟨_, rfl⟩) (Or.inr ⟨_, rfl⟩) dJ7_copyOf_59c91_32 (Nat.le_of_ble_eq_true rfl) (Nat.le_of_ble_eq_true rfl) ⟨b, _, rfl, hb, rfl, fun j hj => cpy_lt hj⟩
  · have c_1 := (nI_eq (a := m) (b := 6) (by omega) (by omega)).mp c_1
    have c_1 : m = 6 := c_1
    refine j_aload_n C (i := 0) (x := a0) 0 rfl dJ7_copyOf_59c91_6 (pc' := 7) rfl ?_
    refine j_clone C (idx := 316) (by decide +kernel) (by decide +kernel) (by decide +kernel) (by decide +kernel) (by decide +kernel) h0 (by rw [hXR]; decide) (by rw [hXR]; decide) (Nat.le_of_ble_eq_true rfl) (by rw [hXR]; exact Nat.le_of_ble_eq_true rfl) (by rw [hXR]; exact Nat.le_of_ble_eq_true rfl) dJ7_copyOf_59c91_7 (pc' := 10) rfl ?_
    intro b hb
    show jW X G 3 1 6 10 [(0, .ref a0), (1, .int (nI m))] [.ref b] (jup h b (.inl (G.2.2.1.1, 6, .inl f)))
    refine j_cast_i C (idx := 317) (by decide +kernel) (jup_self _ _ _) dJ7_copyOf_59c91_10 (pc' := 13) rfl ?_
    exact j_aret C E (Or.inr ⟨_, rfl⟩) (Or.inr ⟨_, rfl⟩) dJ7_copyOf_59c91_13 (Nat.le_of_ble_eq_true rfl) (Nat.le_of_ble_eq_true rfl) ⟨b, f, rfl, hb, by rw [show m = 6 by omega], fun j hj => rfl⟩
set_option maxRecDepth 100000 in
set_option maxHeartbeats 4000000 in
theorem c_cPoint (l : Launch) (hlt : l.stackTraces = false) (G : jG) {P : Nat → Prop} {xo : Nat} {xa th va ca ma : Nat → Nat} {dat cap : Nat} {mod : Int32} {df : Nat → Option Nat} {vf dr : Nat → Int32} {mf : Nat → Nat → Int32} {s : mS} {a : mA} {h : jH} (Q : cQ G P xo xa th va ca ma dat cap mod df vf dr mf s a h) (J : IS s) (I : IA a) (x y : Int32) : jM l G yX3_contentOfPoint wsX3_contentOfPoint 2 70 1 4 [.ref xo, .int x, .int y] h (fun r h' => (∃ c, r = some (.ref c) ∧ h c = none ∧ h' = jup h c (.inr (1, [.int (nI 1), .int x, .int y, .ref (xa 0)])))) (fun _ _ => False) := by
  refine jM_of (cc := cX3_contentOfPoint) (maxL := 3) (ret := (some (.object "MapRevisions$Content"))) hlt (by decide +kernel) rfl (Nat.le_of_ble_eq_true rfl) ?_
  intro X C E hXl hXR hXn
  have hinX3 : ∀ w ∈ u_ws RX3 TX3 11, w ∈ wsX3_contentOfPoint := by decide +kernel
  have hinX0 : ∀ w ∈ u_ws RX0 TX0 4, w ∈ wsX3_contentOfPoint := by decide +kernel
  show jW X G 3 0 0 0 [(0, .ref xo), (1, .int x), (2, .int y)] [] h
  refine j_new C (CN := RX0) (T := TX0) (N := 4) (ci := 1) (index := 13) (fs := [.int 0, .int 0, .int 0, .null]) hinX0 tyX0_ok (by decide +kernel) (by decide +kernel) (by decide +kernel) rfl (fun j hj => by rcases (show j = 0 ∨ j = 1 ∨ j = 2 ∨ j = 3 by omega) with rfl | rfl | rfl | rfl <;> rfl) (by rw [hXR]; exact Nat.le_of_ble_eq_true rfl) (by rw [hXR]; exact Nat.le_of_ble_eq_true rfl) dX3_contentOfPoint_0 (pc' := 3) rfl ?_
  intro c hc
  show jW X G 3 1 4 3 [(0, .ref xo), (1, .int x), (2, .int y)] [.ref c] (jup h c (.inr (1, [.int 0, .int 0, .int 0, .null])))
  refine j_dup C rfl dX3_contentOfPoint_3 (pc' := 4) rfl ?_
  refine j_iconst C (v := nI 1) rfl dX3_contentOfPoint_4 (pc' := 5) rfl ?_
  refine j_iload_n C (i := 1) (x := x) 1 rfl dX3_contentOfPoint_5 (pc' := 6) rfl ?_
  refine j_iload_n C (i := 2) (x := y) 2 rfl dX3_contentOfPoint_6 (pc' := 7) rfl ?_
  refine j_aload_n C (i := 0) (x := xo) 0 rfl dX3_contentOfPoint_7 (pc' := 8) rfl ?_
  refine j_get C (ref := "MapRevisions") (CN := RX3) (T := TX3) (N := 11) (ci := 4) (index := 7) (a := xo) (kf := 0) (fs := [.ref (xa 0), .ref (xa 1), .ref (xa 2), .ref (xa 3), .ref (xa 4), .ref (xa 5), .int (nI (s 2)), .int (nI (s 4)), .int (nI (s 10)), .int (nI (s 0)), .int (nI (s 1))]) (v := .ref (xa 0)) hinX3 rfl (by decide) (by decide +kernel) rfl ((jup_ne (ne_none Q.obj hc)).trans Q.obj) rfl dX3_contentOfPoint_8 (pc' := 11) rfl ?_
  refine j_callI C (As := [.int (nI 1), .int x, .int y, .ref (xa 0)]) (rest := [.ref c]) (c_X0_init X.2.1 C.2.2.2.2.2.2.2.2 G (jup_self _ _ _) true x y (xa 0)) (cwI 4 C.2.2.2.2.1 gX3_contentOfPoint_X0_init rfl rfl rfl (C.2.2.2.2.1 (.initialized RX0) (by decide +kernel)) (C.2.2.2.2.1 (.methodLink RX3 15 yX0_init) (by decide +kernel)) (C.2.2.2.2.1 (.instanceMethod yX0_init) (by decide +kernel)) rfl (by decide +kernel) (by rw [hXR]; decide)) rfl rfl (Nat.le_of_ble_eq_true rfl) dX3_contentOfPoint_11 (pc' := 14) rfl (by rw [hXR]; exact Nat.le_of_ble_eq_true rfl) (by rw [hXR]; exact Nat.le_of_ble_eq_true rfl) (fun _ _ z => z.elim) ?_
  rintro r h' ⟨rfl, rfl⟩
  refine jt_h (jup_jup _ _ _ _) ?_
  show jW X G 3 1 4 14 [(0, .ref xo), (1, .int x), (2, .int y)] [.ref c] (jup h c (.inr (1, [.int (nI 1), .int x, .int y, .ref (xa 0)])))
  exact j_aret C E (Or.inl ⟨_, rfl⟩) (Or.inr ⟨_, rfl⟩) dX3_contentOfPoint_14 (Nat.le_of_ble_eq_true rfl) (Nat.le_of_ble_eq_true rfl) ⟨c, rfl, hc, rfl⟩
set_option maxRecDepth 100000 in
set_option maxHeartbeats 4000000 in
theorem c_cDraft (l : Launch) (hlt : l.stackTraces = false) (G : jG) {P : Nat → Prop} {xo : Nat} {xa th va ca ma : Nat → Nat} {dat cap : Nat} {mod : Int32} {df : Nat → Option Nat} {vf dr : Nat → Int32} {mf : Nat → Nat → Int32} {s : mS} {a : mA} {h : jH} (Q : cQ G P xo xa th va ca ma dat cap mod df vf dr mf s a h) (J : IS s) (I : IA a)  : jM l G yX3_contentOfDraft wsX3_contentOfDraft 2 92 2 10 [.ref xo] h (fun r h' => (∃ c b f', r = some (.ref c) ∧ c ≠ b ∧ h c = none ∧ h b = none ∧ h' = jup (jup h b (.inl (G.2.2.1.1, s 4, .inl f'))) c (.inr (1, [.int (nI 1), .int (nI 0), .int (nI 0), .ref b])) ∧ ∀ j, j < s 4 → f' j = dr j)) (fun _ _ => False) := by
  have h6 := J.2.1
  have h2 := J.2.2.1
  have h4 := J.2.2.2.1
  have h10 := J.2.2.2.2.1
  have hs0 := J.1 0
  have hs1 := J.1 1
  refine jM_of (cc := cX3_contentOfDraft) (maxL := 1) (ret := (some (.object "MapRevisions$Content"))) hlt (by decide +kernel) rfl (Nat.le_of_ble_eq_true rfl) ?_
  intro X C E hXl hXR hXn
  have hinX3 : ∀ w ∈ u_ws RX3 TX3 11, w ∈ wsX3_contentOfDraft := by decide +kernel
  have hinX0 : ∀ w ∈ u_ws RX0 TX0 4, w ∈ wsX3_contentOfDraft := by decide +kernel
  show jW X G 1 0 0 0 [(0, .ref xo)] [] h
  refine j_new C (CN := RX0) (T := TX0) (N := 4) (ci := 1) (index := 13) (fs := [.int 0, .int 0, .int 0, .null]) hinX0 tyX0_ok (by decide +kernel) (by decide +kernel) (by decide +kernel) rfl (fun j hj => by rcases (show j = 0 ∨ j = 1 ∨ j = 2 ∨ j = 3 by omega) with rfl | rfl | rfl | rfl <;> rfl) (by rw [hXR]; exact Nat.le_of_ble_eq_true rfl) (by rw [hXR]; exact Nat.le_of_ble_eq_true rfl) dX3_contentOfDraft_0 (pc' := 3) rfl ?_
  intro c hc
  show jW X G 1 1 4 3 [(0, .ref xo)] [.ref c] (jup h c (.inr (1, [.int 0, .int 0, .int 0, .null])))
  refine j_dup C rfl dX3_contentOfDraft_3 (pc' := 4) rfl ?_
  refine j_iconst C (v := nI 1) rfl dX3_contentOfDraft_4 (pc' := 5) rfl ?_
  refine j_iconst C (v := nI 0) rfl dX3_contentOfDraft_5 (pc' := 6) rfl ?_
  refine j_iconst C (v := nI 0) rfl dX3_contentOfDraft_6 (pc' := 7) rfl ?_
  refine j_aload_n C (i := 0) (x := xo) 0 rfl dX3_contentOfDraft_7 (pc' := 8) rfl ?_
  refine j_get C (ref := "MapRevisions") (CN := RX3) (T := TX3) (N := 11) (ci := 4) (index := 36) (a := xo) (kf := 5) (fs := [.ref (xa 0), .ref (xa 1), .ref (xa 2), .ref (xa 3), .ref (xa 4), .ref (xa 5), .int (nI (s 2)), .int (nI (s 4)), .int (nI (s 10)), .int (nI (s 0)), .int (nI (s 1))]) (v := .ref (xa 5)) hinX3 rfl (by decide) (by decide +kernel) rfl ((jup_ne (ne_none Q.obj hc)).trans Q.obj) rfl dX3_contentOfDraft_8 (pc' := 11) rfl ?_
  refine j_aload_n C (i := 0) (x := xo) 0 rfl dX3_contentOfDraft_11 (pc' := 12) rfl ?_
  refine j_get C (ref := "MapRevisions") (CN := RX3) (T := TX3) (N := 11) (ci := 4) (index := 43) (a := xo) (kf := 7) (fs := [.ref (xa 0), .ref (xa 1), .ref (xa 2), .ref (xa 3), .ref (xa 4), .ref (xa 5), .int (nI (s 2)), .int (nI (s 4)), .int (nI (s 10)), .int (nI (s 0)), .int (nI (s 1))]) (v := .int (nI (s 4))) hinX3 rfl (by decide) (by decide +kernel) rfl ((jup_ne (ne_none Q.obj hc)).trans Q.obj) rfl dX3_contentOfDraft_12 (pc' := 15) rfl ?_
  refine j_callS C (As := [.ref (xa 5), .int (nI (s 4))]) (rest := [.int (nI 0), .int (nI 0), .int (nI 1), .ref c, .ref c]) (c_copyOfI X.2.1 C.2.2.2.2.2.2.2.2 G (jup_some hc Q.draft) (s 4) h4) (va_cwS 2 C.2.2.2.2.1 gX3_contentOfDraft_J7_copyOf_59c91 rfl rfl rfl (by decide +kernel) (by rw [hXR]; decide)) rfl rfl (Nat.le_of_ble_eq_true rfl) dX3_contentOfDraft_15 (pc' := 18) rfl (by rw [hXR]; exact Nat.le_of_ble_eq_true rfl) (by rw [hXR]; exact Nat.le_of_ble_eq_true rfl) (fun _ _ z => z.elim) ?_
  rintro r h' ⟨b, f', rfl, hb, rfl, hf'⟩
  have hcb : c ≠ b := fun z => by rw [← z, jup_self] at hb; cases hb
  have hb0 : h b = none := jup_none hb
  show jW X G 1 2 10 18 [(0, .ref xo)] [.ref b, .int (nI 0), .int (nI 0), .int (nI 1), .ref c, .ref c] (jup (jup h c (.inr (1, [.int 0, .int 0, .int 0, .null]))) b (.inl (G.2.2.1.1, s 4, .inl f')))
  refine j_callI C (As := [.int (nI 1), .int (nI 0), .int (nI 0), .ref b]) (rest := [.ref c]) (c_X0_init X.2.1 C.2.2.2.2.2.2.2.2 G ((jup_ne hcb).trans (jup_self _ _ _)) true (nI 0) (nI 0) b) (cwI 4 C.2.2.2.2.1 gX3_contentOfDraft_X0_init rfl rfl rfl (C.2.2.2.2.1 (.initialized RX0) (by decide +kernel)) (C.2.2.2.2.1 (.methodLink RX3 15 yX0_init) (by decide +kernel)) (C.2.2.2.2.1 (.instanceMethod yX0_init) (by decide +kernel)) rfl (by decide +kernel) (by rw [hXR]; decide)) rfl rfl (Nat.le_of_ble_eq_true rfl) dX3_contentOfDraft_18 (pc' := 21) rfl (by rw [hXR]; exact Nat.le_of_ble_eq_true rfl) (by rw [hXR]; exact Nat.le_of_ble_eq_true rfl) (fun _ _ z => z.elim) ?_
  rintro r h' ⟨rfl, rfl⟩
  refine jt_h (jup_sw2 hcb.symm) ?_
  show jW X G 1 2 10 21 [(0, .ref xo)] [.ref c] (jup (jup h b (.inl (G.2.2.1.1, s 4, .inl f'))) c (.inr (1, [.int (nI 1), .int (nI 0), .int (nI 0), .ref b])))
  exact j_aret C E (Or.inl ⟨_, rfl⟩) (Or.inr ⟨_, rfl⟩) dX3_contentOfDraft_21 (Nat.le_of_ble_eq_true rfl) (Nat.le_of_ble_eq_true rfl) ⟨c, b, f', rfl, hcb, hc, hb0, rfl, hf'⟩
set_option maxRecDepth 100000 in
set_option maxHeartbeats 4000000 in
theorem c_newV0 (l : Launch) (hlt : l.stackTraces = false) (G : jG) {P : Nat → Prop} {xo : Nat} {xa th va ca ma : Nat → Nat} {dat cap : Nat} {mod : Int32} {df : Nat → Option Nat} {vf dr : Nat → Int32} {mf : Nat → Nat → Int32} {s : mS} {a : mA} {h : jH} (Q : cQ G P xo xa th va ca ma dat cap mod df vf dr mf s a h) (J : IS s) (I : IA a) (o c : Nat) (ho : o < 20) : jM l G yX3_newVersion wsX3_newVersion 2 70 1 6 [.ref xo, .null, .int (nI o), .ref c] h (fun r h' => (∃ q, r = some (.ref q) ∧ h q = none ∧ h' = jup (jup (jup h xo (.inr (4, xF xa (va_up s 10 (s 10 + 1))))) (xa 4) (.inl (G.2.2.1.1, 20, .inl (upd vf o (nI (cnt (fun k => decide (a 14 k = o)) (s 10) + 1)))))) q (.inr (3, [.null, .int (nI 1), .int (nI o), .int (nI (s 0)), .ref c, .int (nI 0)])))) (fun _ _ => False) := by
  have h6 := J.2.1
  have h2 := J.2.2.1
  have h4 := J.2.2.2.1
  have h10 := J.2.2.2.2.1
  have hs0 := J.1 0
  have hs1 := J.1 1
  refine jM_of (cc := cX3_newVersion) (maxL := 4) (ret := (some (.object "MapRevisions$Version"))) hlt (by decide +kernel) rfl (Nat.le_of_ble_eq_true rfl) ?_
  intro X C E hXl hXR hXn
  have hinX3 : ∀ w ∈ u_ws RX3 TX3 11, w ∈ wsX3_newVersion := by decide +kernel
  have hinX2 : ∀ w ∈ u_ws RX2 TX2 6, w ∈ wsX3_newVersion := by decide +kernel
  show jW X G 4 0 0 0 [(0, .ref xo), (1, .null), (2, .int (nI o)), (3, .ref c)] [] h
  refine j_aload_n C (i := 0) (x := xo) 0 rfl dX3_newVersion_0 (pc' := 1) rfl ?_
  refine j_dup C rfl dX3_newVersion_1 (pc' := 2) rfl ?_
  refine j_get C (ref := "MapRevisions") (CN := RX3) (T := TX3) (N := 11) (ci := 4) (index := 46) (a := xo) (kf := 8) (fs := [.ref (xa 0), .ref (xa 1), .ref (xa 2), .ref (xa 3), .ref (xa 4), .ref (xa 5), .int (nI (s 2)), .int (nI (s 4)), .int (nI (s 10)), .int (nI (s 0)), .int (nI (s 1))]) (v := .int (nI (s 10))) hinX3 rfl (by decide) (by decide +kernel) rfl Q.obj rfl dX3_newVersion_2 (pc' := 5) rfl ?_
  refine j_iconst C (v := nI 1) rfl dX3_newVersion_5 (pc' := 6) rfl ?_
  refine j_iadd C (x := nI (s 10)) (y := nI 1) dX3_newVersion_6 (pc' := 7) rfl ?_
  refine jt_i (nI_add _ _) ?_
  refine j_put C (ref := "MapRevisions") (CN := RX3) (T := TX3) (N := 11) (ci := 4) (index := 46) (a := xo) (kf := 8) (fs := [.ref (xa 0), .ref (xa 1), .ref (xa 2), .ref (xa 3), .ref (xa 4), .ref (xa 5), .int (nI (s 2)), .int (nI (s 4)), .int (nI (s 10)), .int (nI (s 0)), .int (nI (s 1))]) (v := .int (nI (s 10 + 1))) (ty := .int) hinX3 tyX3_ok nmX3 rfl (by decide) (by decide +kernel) rfl rfl (by decide +kernel) rfl rfl Q.obj (by show 8 < 11; decide) dX3_newVersion_7 (pc' := 10) rfl ?_
  show jW X G 4 0 0 10 [(0, .ref xo), (1, .null), (2, .int (nI o)), (3, .ref c)] [] (jup h xo (.inr (4, [.ref (xa 0), .ref (xa 1), .ref (xa 2), .ref (xa 3), .ref (xa 4), .ref (xa 5), .int (nI (s 2)), .int (nI (s 4)), .int (nI (s 10 + 1)), .int (nI (s 0)), .int (nI (s 1))])))
  refine j_aload_n C (i := 0) (x := xo) 0 rfl dX3_newVersion_10 (pc' := 11) rfl ?_
  refine j_get C (ref := "MapRevisions") (CN := RX3) (T := TX3) (N := 11) (ci := 4) (index := 33) (a := xo) (kf := 4) (fs := [.ref (xa 0), .ref (xa 1), .ref (xa 2), .ref (xa 3), .ref (xa 4), .ref (xa 5), .int (nI (s 2)), .int (nI (s 4)), .int (nI (s 10 + 1)), .int (nI (s 0)), .int (nI (s 1))]) (v := .ref (xa 4)) hinX3 rfl (by decide) (by decide +kernel) rfl (jup_self _ _ _) rfl dX3_newVersion_11 (pc' := 14) rfl ?_
  refine j_iload_n C (i := 2) (x := nI o) 2 rfl dX3_newVersion_14 (pc' := 15) rfl ?_
  refine j_dup2 C rfl rfl dX3_newVersion_15 (pc' := 16) rfl ?_
  refine j_iald C (a := xa 4) (N := 20) (j := o) ((jup_ne (ne_cell Q.vof Q.obj (fun z => by cases z))).trans Q.vof) rfl (by omega) (by omega) dX3_newVersion_16 (pc' := 17) rfl ?_
  refine jt_i (Q.vfe (j := o) (by omega)) ?_
  show jW X G 4 0 0 17 [(0, .ref xo), (1, .null), (2, .int (nI o)), (3, .ref c)] [.int (nI (cnt (fun k => decide (a 14 k = o)) (s 10))), .int (nI o), .ref (xa 4)] (jup h xo (.inr (4, [.ref (xa 0), .ref (xa 1), .ref (xa 2), .ref (xa 3), .ref (xa 4), .ref (xa 5), .int (nI (s 2)), .int (nI (s 4)), .int (nI (s 10 + 1)), .int (nI (s 0)), .int (nI (s 1))])))
  have B_1 := cnt_le (fun k => decide (a 14 k = o)) (s 10)
  refine j_iconst C (v := nI 1) rfl dX3_newVersion_17 (pc' := 18) rfl ?_
  refine j_iadd C (x := nI (cnt (fun k => decide (a 14 k = o)) (s 10))) (y := nI 1) dX3_newVersion_18 (pc' := 19) rfl ?_
  refine jt_i (nI_add _ _) ?_
  refine j_iast C (a := xa 4) (N := 20) (j := o) (f := vf) ((jup_ne (ne_cell Q.vof Q.obj (fun z => by cases z))).trans Q.vof) rfl (by omega) (by omega) dX3_newVersion_19 (pc' := 20) rfl ?_
  show jW X G 4 0 0 20 [(0, .ref xo), (1, .null), (2, .int (nI o)), (3, .ref c)] [] (jup (jup h xo (.inr (4, [.ref (xa 0), .ref (xa 1), .ref (xa 2), .ref (xa 3), .ref (xa 4), .ref (xa 5), .int (nI (s 2)), .int (nI (s 4)), .int (nI (s 10 + 1)), .int (nI (s 0)), .int (nI (s 1))]))) (xa 4) (.inl (G.2.2.1.1, 20, .inl (upd vf o (nI (cnt (fun k => decide (a 14 k = o)) (s 10) + 1))))))
  refine j_new C (CN := RX2) (T := TX2) (N := 6) (ci := 3) (index := 143) (fs := [.null, .int 0, .int 0, .int 0, .null, .int 0]) hinX2 tyX2_ok (by decide +kernel) (by decide +kernel) (by decide +kernel) rfl (fun j hj => by rcases (show j = 0 ∨ j = 1 ∨ j = 2 ∨ j = 3 ∨ j = 4 ∨ j = 5 by omega) with rfl | rfl | rfl | rfl | rfl | rfl <;> rfl) (by rw [hXR]; exact Nat.le_of_ble_eq_true rfl) (by rw [hXR]; exact Nat.le_of_ble_eq_true rfl) dX3_newVersion_20 (pc' := 23) rfl ?_
  intro q hq
  show jW X G 4 1 6 23 [(0, .ref xo), (1, .null), (2, .int (nI o)), (3, .ref c)] [.ref q] (jup (jup (jup h xo (.inr (4, [.ref (xa 0), .ref (xa 1), .ref (xa 2), .ref (xa 3), .ref (xa 4), .ref (xa 5), .int (nI (s 2)), .int (nI (s 4)), .int (nI (s 10 + 1)), .int (nI (s 0)), .int (nI (s 1))]))) (xa 4) (.inl (G.2.2.1.1, 20, .inl (upd vf o (nI (cnt (fun k => decide (a 14 k = o)) (s 10) + 1)))))) q (.inr (3, [.null, .int 0, .int 0, .int 0, .null, .int 0])))
  have hq0 : h q = none := jup_none (jup_none hq)
  refine j_dup C rfl dX3_newVersion_23 (pc' := 24) rfl ?_
  refine j_aload_nv C (i := 1) (v := .null) 1 rfl (Or.inl rfl) dX3_newVersion_24 (pc' := 25) rfl ?_
  refine j_iload_n C (i := 2) (x := nI o) 2 rfl dX3_newVersion_25 (pc' := 26) rfl ?_
  refine j_aload_n C (i := 0) (x := xo) 0 rfl dX3_newVersion_26 (pc' := 27) rfl ?_
  refine j_get C (ref := "MapRevisions") (CN := RX3) (T := TX3) (N := 11) (ci := 4) (index := 49) (a := xo) (kf := 9) (fs := [.ref (xa 0), .ref (xa 1), .ref (xa 2), .ref (xa 3), .ref (xa 4), .ref (xa 5), .int (nI (s 2)), .int (nI (s 4)), .int (nI (s 10 + 1)), .int (nI (s 0)), .int (nI (s 1))]) (v := .int (nI (s 0))) hinX3 rfl (by decide) (by decide +kernel) rfl ((jup_ne (ne_none Q.obj hq0)).trans ((jup_ne (ne_cell Q.obj Q.vof (fun z => by cases z))).trans (jup_self _ _ _))) rfl dX3_newVersion_27 (pc' := 30) rfl ?_
  refine j_aload_n C (i := 3) (x := c) 3 rfl dX3_newVersion_30 (pc' := 31) rfl ?_
  refine j_callI C (As := [.null, .int (nI o), .int (nI (s 0)), .ref c]) (rest := [.ref q]) (c_X2_init0 X.2.1 C.2.2.2.2.2.2.2.2 G (jup_self _ _ _) (nI o) (nI (s 0)) c) (cwI 4 C.2.2.2.2.1 gX3_newVersion_X2_init rfl rfl rfl (C.2.2.2.2.1 (.initialized RX2) (by decide +kernel)) (C.2.2.2.2.1 (.methodLink RX3 272 yX2_init) (by decide +kernel)) (C.2.2.2.2.1 (.instanceMethod yX2_init) (by decide +kernel)) rfl (by decide +kernel) (by rw [hXR]; decide)) rfl rfl (Nat.le_of_ble_eq_true rfl) dX3_newVersion_31 (pc' := 34) rfl (by rw [hXR]; exact Nat.le_of_ble_eq_true rfl) (by rw [hXR]; exact Nat.le_of_ble_eq_true rfl) (fun _ _ z => z.elim) ?_
  rintro r h' ⟨rfl, rfl⟩
  refine jt_h (jup_jup _ _ _ _) ?_
  show jW X G 4 1 6 34 [(0, .ref xo), (1, .null), (2, .int (nI o)), (3, .ref c)] [.ref q] (jup (jup (jup h xo (.inr (4, xF xa (va_up s 10 (s 10 + 1))))) (xa 4) (.inl (G.2.2.1.1, 20, .inl (upd vf o (nI (cnt (fun k => decide (a 14 k = o)) (s 10) + 1)))))) q (.inr (3, [.null, .int (nI 1), .int (nI o), .int (nI (s 0)), .ref c, .int (nI 0)])))
  exact j_aret C E (Or.inl ⟨_, rfl⟩) (Or.inr ⟨_, rfl⟩) dX3_newVersion_34 (Nat.le_of_ble_eq_true rfl) (Nat.le_of_ble_eq_true rfl) ⟨q, rfl, hq0, rfl⟩
set_option maxRecDepth 100000 in
set_option maxHeartbeats 4000000 in
theorem c_newV1 (l : Launch) (hlt : l.stackTraces = false) (G : jG) {P : Nat → Prop} {xo : Nat} {xa th va ca ma : Nat → Nat} {dat cap : Nat} {mod : Int32} {df : Nat → Option Nat} {vf dr : Nat → Int32} {mf : Nat → Nat → Int32} {s : mS} {a : mA} {h : jH} (Q : cQ G P xo xa th va ca ma dat cap mod df vf dr mf s a h) (J : IS s) (I : IA a) (o c p : Nat) (ho : o < 20) (hp9 : p < s 10) : jM l G yX3_newVersion wsX3_newVersion 2 70 1 6 [.ref xo, .ref (va p), .int (nI o), .ref c] h (fun r h' => (∃ q, r = some (.ref q) ∧ h q = none ∧ h' = jup (jup (jup h xo (.inr (4, xF xa (va_up s 10 (s 10 + 1))))) (xa 4) (.inl (G.2.2.1.1, 20, .inl (upd vf o (nI (cnt (fun k => decide (a 14 k = o)) (s 10) + 1)))))) q (.inr (3, [.ref (va p), .int (nI (a 12 p + 1)), .int (nI o), .int (nI (s 0)), .ref c, .int (nI 0)])))) (fun _ _ => False) := by
  have h6 := J.2.1
  have h2 := J.2.2.1
  have h4 := J.2.2.2.1
  have h10 := J.2.2.2.2.1
  have hs0 := J.1 0
  have hs1 := J.1 1
  refine jM_of (cc := cX3_newVersion) (maxL := 4) (ret := (some (.object "MapRevisions$Version"))) hlt (by decide +kernel) rfl (Nat.le_of_ble_eq_true rfl) ?_
  intro X C E hXl hXR hXn
  have hinX3 : ∀ w ∈ u_ws RX3 TX3 11, w ∈ wsX3_newVersion := by decide +kernel
  have hinX2 : ∀ w ∈ u_ws RX2 TX2 6, w ∈ wsX3_newVersion := by decide +kernel
  show jW X G 4 0 0 0 [(0, .ref xo), (1, .ref (va p)), (2, .int (nI o)), (3, .ref c)] [] h
  refine j_aload_n C (i := 0) (x := xo) 0 rfl dX3_newVersion_0 (pc' := 1) rfl ?_
  refine j_dup C rfl dX3_newVersion_1 (pc' := 2) rfl ?_
  refine j_get C (ref := "MapRevisions") (CN := RX3) (T := TX3) (N := 11) (ci := 4) (index := 46) (a := xo) (kf := 8) (fs := [.ref (xa 0), .ref (xa 1), .ref (xa 2), .ref (xa 3), .ref (xa 4), .ref (xa 5), .int (nI (s 2)), .int (nI (s 4)), .int (nI (s 10)), .int (nI (s 0)), .int (nI (s 1))]) (v := .int (nI (s 10))) hinX3 rfl (by decide) (by decide +kernel) rfl Q.obj rfl dX3_newVersion_2 (pc' := 5) rfl ?_
  refine j_iconst C (v := nI 1) rfl dX3_newVersion_5 (pc' := 6) rfl ?_
  refine j_iadd C (x := nI (s 10)) (y := nI 1) dX3_newVersion_6 (pc' := 7) rfl ?_
  refine jt_i (nI_add _ _) ?_
  refine j_put C (ref := "MapRevisions") (CN := RX3) (T := TX3) (N := 11) (ci := 4) (index := 46) (a := xo) (kf := 8) (fs := [.ref (xa 0), .ref (xa 1), .ref (xa 2), .ref (xa 3), .ref (xa 4), .ref (xa 5), .int (nI (s 2)), .int (nI (s 4)), .int (nI (s 10)), .int (nI (s 0)), .int (nI (s 1))]) (v := .int (nI (s 10 + 1))) (ty := .int) hinX3 tyX3_ok nmX3 rfl (by decide) (by decide +kernel) rfl rfl (by decide +kernel) rfl rfl Q.obj (by show 8 < 11; decide) dX3_newVersion_7 (pc' := 10) rfl ?_
  show jW X G 4 0 0 10 [(0, .ref xo), (1, .ref (va p)), (2, .int (nI o)), (3, .ref c)] [] (jup h xo (.inr (4, [.ref (xa 0), .ref (xa 1), .ref (xa 2), .ref (xa 3), .ref (xa 4), .ref (xa 5), .int (nI (s 2)), .int (nI (s 4)), .int (nI (s 10 + 1)), .int (nI (s 0)), .int (nI (s 1))])))
  refine j_aload_n C (i := 0) (x := xo) 0 rfl dX3_newVersion_10 (pc' := 11) rfl ?_
  refine j_get C (ref := "MapRevisions") (CN := RX3) (T := TX3) (N := 11) (ci := 4) (index := 33) (a := xo) (kf := 4) (fs := [.ref (xa 0), .ref (xa 1), .ref (xa 2), .ref (xa 3), .ref (xa 4), .ref (xa 5), .int (nI (s 2)), .int (nI (s 4)), .int (nI (s 10 + 1)), .int (nI (s 0)), .int (nI (s 1))]) (v := .ref (xa 4)) hinX3 rfl (by decide) (by decide +kernel) rfl (jup_self _ _ _) rfl dX3_newVersion_11 (pc' := 14) rfl ?_
  refine j_iload_n C (i := 2) (x := nI o) 2 rfl dX3_newVersion_14 (pc' := 15) rfl ?_
  refine j_dup2 C rfl rfl dX3_newVersion_15 (pc' := 16) rfl ?_
  refine j_iald C (a := xa 4) (N := 20) (j := o) ((jup_ne (ne_cell Q.vof Q.obj (fun z => by cases z))).trans Q.vof) rfl (by omega) (by omega) dX3_newVersion_16 (pc' := 17) rfl ?_
  refine jt_i (Q.vfe (j := o) (by omega)) ?_
  show jW X G 4 0 0 17 [(0, .ref xo), (1, .ref (va p)), (2, .int (nI o)), (3, .ref c)] [.int (nI (cnt (fun k => decide (a 14 k = o)) (s 10))), .int (nI o), .ref (xa 4)] (jup h xo (.inr (4, [.ref (xa 0), .ref (xa 1), .ref (xa 2), .ref (xa 3), .ref (xa 4), .ref (xa 5), .int (nI (s 2)), .int (nI (s 4)), .int (nI (s 10 + 1)), .int (nI (s 0)), .int (nI (s 1))])))
  have B_1 := cnt_le (fun k => decide (a 14 k = o)) (s 10)
  refine j_iconst C (v := nI 1) rfl dX3_newVersion_17 (pc' := 18) rfl ?_
  refine j_iadd C (x := nI (cnt (fun k => decide (a 14 k = o)) (s 10))) (y := nI 1) dX3_newVersion_18 (pc' := 19) rfl ?_
  refine jt_i (nI_add _ _) ?_
  refine j_iast C (a := xa 4) (N := 20) (j := o) (f := vf) ((jup_ne (ne_cell Q.vof Q.obj (fun z => by cases z))).trans Q.vof) rfl (by omega) (by omega) dX3_newVersion_19 (pc' := 20) rfl ?_
  show jW X G 4 0 0 20 [(0, .ref xo), (1, .ref (va p)), (2, .int (nI o)), (3, .ref c)] [] (jup (jup h xo (.inr (4, [.ref (xa 0), .ref (xa 1), .ref (xa 2), .ref (xa 3), .ref (xa 4), .ref (xa 5), .int (nI (s 2)), .int (nI (s 4)), .int (nI (s 10 + 1)), .int (nI (s 0)), .int (nI (s 1))]))) (xa 4) (.inl (G.2.2.1.1, 20, .inl (upd vf o (nI (cnt (fun k => decide (a 14 k = o)) (s 10) + 1))))))
  refine j_new C (CN := RX2) (T := TX2) (N := 6) (ci := 3) (index := 143) (fs := [.null, .int 0, .int 0, .int 0, .null, .int 0]) hinX2 tyX2_ok (by decide +kernel) (by decide +kernel) (by decide +kernel) rfl (fun j hj => by rcases (show j = 0 ∨ j = 1 ∨ j = 2 ∨ j = 3 ∨ j = 4 ∨ j = 5 by omega) with rfl | rfl | rfl | rfl | rfl | rfl <;> rfl) (by rw [hXR]; exact Nat.le_of_ble_eq_true rfl) (by rw [hXR]; exact Nat.le_of_ble_eq_true rfl) dX3_newVersion_20 (pc' := 23) rfl ?_
  intro q hq
  show jW X G 4 1 6 23 [(0, .ref xo), (1, .ref (va p)), (2, .int (nI o)), (3, .ref c)] [.ref q] (jup (jup (jup h xo (.inr (4, [.ref (xa 0), .ref (xa 1), .ref (xa 2), .ref (xa 3), .ref (xa 4), .ref (xa 5), .int (nI (s 2)), .int (nI (s 4)), .int (nI (s 10 + 1)), .int (nI (s 0)), .int (nI (s 1))]))) (xa 4) (.inl (G.2.2.1.1, 20, .inl (upd vf o (nI (cnt (fun k => decide (a 14 k = o)) (s 10) + 1)))))) q (.inr (3, [.null, .int 0, .int 0, .int 0, .null, .int 0])))
  have hq0 : h q = none := jup_none (jup_none hq)
  refine j_dup C rfl dX3_newVersion_23 (pc' := 24) rfl ?_
  refine j_aload_n C (i := 1) (x := va p) 1 rfl dX3_newVersion_24 (pc' := 25) rfl ?_
  refine j_iload_n C (i := 2) (x := nI o) 2 rfl dX3_newVersion_25 (pc' := 26) rfl ?_
  refine j_aload_n C (i := 0) (x := xo) 0 rfl dX3_newVersion_26 (pc' := 27) rfl ?_
  refine j_get C (ref := "MapRevisions") (CN := RX3) (T := TX3) (N := 11) (ci := 4) (index := 49) (a := xo) (kf := 9) (fs := [.ref (xa 0), .ref (xa 1), .ref (xa 2), .ref (xa 3), .ref (xa 4), .ref (xa 5), .int (nI (s 2)), .int (nI (s 4)), .int (nI (s 10 + 1)), .int (nI (s 0)), .int (nI (s 1))]) (v := .int (nI (s 0))) hinX3 rfl (by decide) (by decide +kernel) rfl ((jup_ne (ne_none Q.obj hq0)).trans ((jup_ne (ne_cell Q.obj Q.vof (fun z => by cases z))).trans (jup_self _ _ _))) rfl dX3_newVersion_27 (pc' := 30) rfl ?_
  refine j_aload_n C (i := 3) (x := c) 3 rfl dX3_newVersion_30 (pc' := 31) rfl ?_
  refine j_callI C (As := [.ref (va p), .int (nI o), .int (nI (s 0)), .ref c]) (rest := [.ref q]) (c_X2_init1 X.2.1 C.2.2.2.2.2.2.2.2 G (jup_self _ _ _) (va p) (a 12 p) (nI o) (nI (s 0)) c ((jup_ne (ne_none (Q.ver hp9) hq0)).trans ((jup_ne (ne_cell (Q.ver hp9) Q.vof (fun z => by cases z))).trans ((jup_ne (ne_cell (Q.ver hp9) Q.obj (fun z => by cases z))).trans (Q.ver hp9)))) (ne_none (Q.ver hp9) hq0)) (cwI 4 C.2.2.2.2.1 gX3_newVersion_X2_init rfl rfl rfl (C.2.2.2.2.1 (.initialized RX2) (by decide +kernel)) (C.2.2.2.2.1 (.methodLink RX3 272 yX2_init) (by decide +kernel)) (C.2.2.2.2.1 (.instanceMethod yX2_init) (by decide +kernel)) rfl (by decide +kernel) (by rw [hXR]; decide)) rfl rfl (Nat.le_of_ble_eq_true rfl) dX3_newVersion_31 (pc' := 34) rfl (by rw [hXR]; exact Nat.le_of_ble_eq_true rfl) (by rw [hXR]; exact Nat.le_of_ble_eq_true rfl) (fun _ _ z => z.elim) ?_
  rintro r h' ⟨rfl, rfl⟩
  refine jt_h (jup_jup _ _ _ _) ?_
  show jW X G 4 1 6 34 [(0, .ref xo), (1, .ref (va p)), (2, .int (nI o)), (3, .ref c)] [.ref q] (jup (jup (jup h xo (.inr (4, xF xa (va_up s 10 (s 10 + 1))))) (xa 4) (.inl (G.2.2.1.1, 20, .inl (upd vf o (nI (cnt (fun k => decide (a 14 k = o)) (s 10) + 1)))))) q (.inr (3, [.ref (va p), .int (nI (a 12 p + 1)), .int (nI o), .int (nI (s 0)), .ref c, .int (nI 0)])))
  exact j_aret C E (Or.inl ⟨_, rfl⟩) (Or.inr ⟨_, rfl⟩) dX3_newVersion_34 (Nat.le_of_ble_eq_true rfl) (Nat.le_of_ble_eq_true rfl) ⟨q, rfl, hq0, rfl⟩
