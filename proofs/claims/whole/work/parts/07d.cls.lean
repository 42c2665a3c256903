set_option maxRecDepth 100000 in
set_option maxHeartbeats 4000000 in
theorem c_close (l : Launch) (hlt : l.stackTraces = false) (G : jG) {P : Nat → Prop} {xo : Nat} {xa th va ca ma : Nat → Nat} {dat cap : Nat} {mod : Int32} {df : Nat → Option Nat} {vf dr : Nat → Int32} {mf : Nat → Nat → Int32} {s : mS} {a : mA} {h : jH} (Q : cQ G P xo xa th va ca ma dat cap mod df vf dr mf s a h) (J : IS s) (I : IA a) (p : Int32) : jM l G yX3_close wsX3_close 7 111 2 12 [.ref xo, .int p] h (fun r h' => r = some (.int (oClose s a p).1) ∧ (oClose s a p).2.1 25 = 0 ∧ cQ G P xo xa th va ca ma dat cap mod df vf dr mf (oClose s a p).2.1 (oClose s a p).2.2 h' ∧ ∀ q, P q → h' q = h q) (fun E h' => (E = "java/lang/IndexOutOfBoundsException" ∧ h' = h ∧ (oClose s a p).2.1 25 = 1) ∨ (E = "java/lang/IllegalStateException" ∧ h' = h ∧ (oClose s a p).2.1 25 = 2)) := by
  have h6 := J.2.1
  have h2 := J.2.2.1
  have h4 := J.2.2.2.1
  have h10 := J.2.2.2.2.1
  have hs0 := J.1 0
  have hs1 := J.1 1
  refine jM_of (cc := cX3_close) (maxL := 2) (ret := (some .int)) hlt (by decide +kernel) rfl (Nat.le_of_ble_eq_true rfl) ?_
  intro X C E hXl hXR hXn
  have hinX3 : ∀ w ∈ u_ws RX3 TX3 11, w ∈ wsX3_close := by decide +kernel
  show jW X G 2 0 0 0 [(0, .ref xo), (1, .int p)] [] h
  refine j_aload_n C (i := 0) (x := xo) 0 rfl dX3_close_0 (pc' := 1) rfl ?_
  refine j_iload_n C (i := 1) (x := p) 1 rfl dX3_close_1 (pc' := 2) rfl ?_
  refine j_callV C (As := [.int p]) (rest := []) (c_needSet X.2.1 C.2.2.2.2.2.2.2.2 G Q J I p) (cwV 1 C.2.2.2.2.1 gX3_close_X3_needSet rfl rfl rfl (by decide +kernel) (by rw [hXR]; decide)) Q.obj rfl rfl rfl (Nat.le_of_ble_eq_true rfl) dX3_close_2 (pc' := 5) rfl (by rw [hXR]; exact Nat.le_of_ble_eq_true rfl) (by rw [hXR]; exact Nat.le_of_ble_eq_true rfl) (by rintro E' h' ⟨rfl, hx, ex_1⟩; exact j_out C E (Nat.le_of_ble_eq_true rfl) (Nat.le_of_ble_eq_true rfl) (Or.inl ⟨rfl, hx, by unfold oClose; rw [if_neg (bff ex_1)] <;> rfl⟩)) ?_
  rintro r h' ⟨rfl, hh, nd_2⟩
  have hh := hh.symm
  subst hh
  show jW X G 2 1 6 5 [(0, .ref xo), (1, .int p)] [] h
  obtain ⟨j, hj, rfl⟩ := inN_of nd_2
  refine j_aload_n C (i := 0) (x := xo) 0 rfl dX3_close_5 (pc' := 6) rfl ?_
  refine j_get C (ref := "MapRevisions") (CN := RX3) (T := TX3) (N := 11) (ci := 4) (index := 29) (a := xo) (kf := 3) (fs := [.ref (xa 0), .ref (xa 1), .ref (xa 2), .ref (xa 3), .ref (xa 4), .ref (xa 5), .int (nI (s 2)), .int (nI (s 4)), .int (nI (s 10)), .int (nI (s 0)), .int (nI (s 1))]) (v := .ref (xa 3)) hinX3 rfl (by decide) (by decide +kernel) rfl Q.obj rfl dX3_close_6 (pc' := 9) rfl ?_
  refine j_iload_n C (i := 1) (x := nI j) 1 rfl dX3_close_9 (pc' := 10) rfl ?_
  refine j_zald C (a := xa 3) (N := 20) (j := j) Q.closed rfl (by omega) (by omega) dX3_close_10 (pc' := 11) rfl ?_
  show jW X G 2 1 6 11 [(0, .ref xo), (1, .int (nI j))] [.int (nI (a 3 j))] h
  have B_3 := IA.closed I j
  refine j_if_eq C dX3_close_11 (tgt := 24) (by decide) (pc' := 14) rfl (fun c_4 => ?_) (fun c_4 => ?_)
  · have c_4 := (nI_eq (a := a 3 j) (b := 0) (by omega) (by omega)).mp c_4
    have c_4 : (a 3 j) = 0 := c_4
    refine j_aload_n C (i := 0) (x := xo) 0 rfl dX3_close_24 (pc' := 25) rfl ?_
    refine j_get C (ref := "MapRevisions") (CN := RX3) (T := TX3) (N := 11) (ci := 4) (index := 29) (a := xo) (kf := 3) (fs := [.ref (xa 0), .ref (xa 1), .ref (xa 2), .ref (xa 3), .ref (xa 4), .ref (xa 5), .int (nI (s 2)), .int (nI (s 4)), .int (nI (s 10)), .int (nI (s 0)), .int (nI (s 1))]) (v := .ref (xa 3)) hinX3 rfl (by decide) (by decide +kernel) rfl Q.obj rfl dX3_close_25 (pc' := 28) rfl ?_
    refine j_iload_n C (i := 1) (x := nI j) 1 rfl dX3_close_28 (pc' := 29) rfl ?_
    refine j_iconst C (v := nI 1) rfl dX3_close_29 (pc' := 30) rfl ?_
    refine j_zast C (a := xa 3) (N := 20) (j := j) (f := (fun i => nI (a 3 i))) (y := (nI 1)) rfl Q.closed rfl (by omega) (by omega) dX3_close_30 (pc' := 31) rfl ?_
    show jW X G 2 1 6 31 [(0, .ref xo), (1, .int (nI j))] [] (jup h (xa 3) (.inl (G.2.2.1.2.1, 20, .inl (upd (fun i => nI (a 3 i)) j (nI 1)))))
    refine j_aload_n C (i := 0) (x := xo) 0 rfl dX3_close_31 (pc' := 32) rfl ?_
    refine j_get C (ref := "MapRevisions") (CN := RX3) (T := TX3) (N := 11) (ci := 4) (index := 33) (a := xo) (kf := 4) (fs := [.ref (xa 0), .ref (xa 1), .ref (xa 2), .ref (xa 3), .ref (xa 4), .ref (xa 5), .int (nI (s 2)), .int (nI (s 4)), .int (nI (s 10)), .int (nI (s 0)), .int (nI (s 1))]) (v := .ref (xa 4)) hinX3 rfl (by decide) (by decide +kernel) rfl ((jup_ne Q.on3).trans Q.obj) rfl dX3_close_32 (pc' := 35) rfl ?_
    refine j_iload_n C (i := 1) (x := nI j) 1 rfl dX3_close_35 (pc' := 36) rfl ?_
    refine j_iald C (a := xa 4) (N := 20) (j := j) ((jup_ne (Q.xa_ne (by decide) (by decide) (by decide))).trans Q.vof) rfl (by omega) (by omega) dX3_close_36 (pc' := 37) rfl ?_
    refine jt_i (Q.vfe (j := j) (by omega)) ?_
    show jW X G 2 1 6 37 [(0, .ref xo), (1, .int (nI j))] [.int (nI (cnt (fun k => decide (a 14 k = j)) (s 10)))] (jup h (xa 3) (.inl (G.2.2.1.2.1, 20, .inl (upd (fun i => nI (a 3 i)) j (nI 1)))))
    have B_5 := cnt_le (fun k => decide (a 14 k = j)) (s 10)
    exact j_iret C E dX3_close_37 rfl (Nat.le_of_ble_eq_true rfl) (Nat.le_of_ble_eq_true rfl) (by rw [show oClose s a (nI j) = (nI (cnt (fun k => decide (a 14 k = j)) (s 10)), va_up s 25 0, va_up2 a 3 j 1) from by unfold oClose; rw [if_pos (show inN (nI j) (s 2) = true by rw [inN_nI (by omega)]; exact decide_eq_true hj), tn_nI (j := j) (by omega), if_pos (show a 3 j = 0 by omega)] <;> rfl]; exact ⟨rfl, rfl, cQ.putC Q I (j := j) (v := 1), fun q hq => jup_ne (fun z => Q.np.2.1 3 (by decide) (z ▸ hq))⟩)
  · have c_4 := fun zq => c_4 ((nI_eq (a := a 3 j) (b := 0) (by omega) (by omega)).mpr zq)
    have c_4 : ¬ (a 3 j) = 0 := c_4
    exact j_throw C E (cls := "java/lang/IllegalStateException") (text := "the set is closed") (ik := 55) (is := 66) (ic := 59) (by decide +kernel) (by decide +kernel) (by decide +kernel) (by decide +kernel) (by decide +kernel) jt_ise.1 jt_ise.2.1 jt_ise.2.2 dX3_close_14 dX3_close_17 dX3_close_18 dX3_close_20 dX3_close_23 (by rw [hXR]; exact Nat.le_of_ble_eq_true rfl) (by rw [hXR]; exact Nat.le_of_ble_eq_true rfl) (Nat.le_of_ble_eq_true rfl) (Nat.le_of_ble_eq_true rfl) (Or.inr ⟨rfl, rfl, by unfold oClose; rw [if_pos (show inN (nI j) (s 2) = true by rw [inN_nI (by omega)]; exact decide_eq_true hj), tn_nI (j := j) (by omega), if_neg (show ¬ a 3 j = 0 by omega)] <;> rfl⟩)
set_option maxRecDepth 100000 in
set_option maxHeartbeats 4000000 in
theorem c_refer (l : Launch) (hlt : l.stackTraces = false) (G : jG) {P : Nat → Prop} {xo : Nat} {xa th va ca ma : Nat → Nat} {dat cap : Nat} {mod : Int32} {df : Nat → Option Nat} {vf dr : Nat → Int32} {mf : Nat → Nat → Int32} {s : mS} {a : mA} {h : jH} (Q : cQ G P xo xa th va ca ma dat cap mod df vf dr mf s a h) (J : IS s) (I : IA a) (p : Int32) : jM l G yX3_refer wsX3_refer 7 111 2 12 [.ref xo, .int p] h (fun r h' => r = some (.int (oRefer s a p).1) ∧ (oRefer s a p).2.1 25 = 0 ∧ (∃ dr, cQ G P xo xa th va ca ma dat cap mod df vf dr mf (oRefer s a p).2.1 (oRefer s a p).2.2 h') ∧ ∀ q, P q → h' q = h q) (fun E h' => (E = "java/lang/IndexOutOfBoundsException" ∧ h' = h ∧ (oRefer s a p).2.1 25 = 1) ∨ (E = "java/lang/IllegalStateException" ∧ h' = h ∧ (oRefer s a p).2.1 25 = 2)) := by
  have h6 := J.2.1
  have h2 := J.2.2.1
  have h4 := J.2.2.2.1
  have h10 := J.2.2.2.2.1
  have hs0 := J.1 0
  have hs1 := J.1 1
  refine jM_of (cc := cX3_refer) (maxL := 2) (ret := (some .int)) hlt (by decide +kernel) rfl (Nat.le_of_ble_eq_true rfl) ?_
  intro X C E hXl hXR hXn
  have hinX3 : ∀ w ∈ u_ws RX3 TX3 11, w ∈ wsX3_refer := by decide +kernel
  show jW X G 2 0 0 0 [(0, .ref xo), (1, .int p)] [] h
  refine j_aload_n C (i := 0) (x := xo) 0 rfl dX3_refer_0 (pc' := 1) rfl ?_
  refine j_iload_n C (i := 1) (x := p) 1 rfl dX3_refer_1 (pc' := 2) rfl ?_
  refine j_callV C (As := [.int p]) (rest := []) (c_needThing X.2.1 C.2.2.2.2.2.2.2.2 G Q J I p) (cwV 1 C.2.2.2.2.1 gX3_refer_X3_needThing rfl rfl rfl (by decide +kernel) (by rw [hXR]; decide)) Q.obj rfl rfl rfl (Nat.le_of_ble_eq_true rfl) dX3_refer_2 (pc' := 5) rfl (by rw [hXR]; exact Nat.le_of_ble_eq_true rfl) (by rw [hXR]; exact Nat.le_of_ble_eq_true rfl) (by rintro E' h' ⟨rfl, hx, ex_1⟩; exact j_out C E (Nat.le_of_ble_eq_true rfl) (Nat.le_of_ble_eq_true rfl) (Or.inl ⟨rfl, hx, by unfold oRefer; rw [if_neg (bff ex_1)] <;> rfl⟩)) ?_
  rintro r h' ⟨rfl, hh, nd_2⟩
  have hh := hh.symm
  subst hh
  show jW X G 2 1 6 5 [(0, .ref xo), (1, .int p)] [] h
  obtain ⟨j, hj, rfl⟩ := inN_of nd_2
  refine j_aload_n C (i := 0) (x := xo) 0 rfl dX3_refer_5 (pc' := 6) rfl ?_
  refine j_get C (ref := "MapRevisions") (CN := RX3) (T := TX3) (N := 11) (ci := 4) (index := 43) (a := xo) (kf := 7) (fs := [.ref (xa 0), .ref (xa 1), .ref (xa 2), .ref (xa 3), .ref (xa 4), .ref (xa 5), .int (nI (s 2)), .int (nI (s 4)), .int (nI (s 10)), .int (nI (s 0)), .int (nI (s 1))]) (v := .int (nI (s 4))) hinX3 rfl (by decide) (by decide +kernel) rfl Q.obj rfl dX3_refer_6 (pc' := 9) rfl ?_
  refine j_bipush C (v := nI 6) rfl dX3_refer_9 (pc' := 11) rfl ?_
  refine j_icmp_lt C dX3_refer_11 (tgt := 24) (by decide) (pc' := 14) rfl (fun c_3 => ?_) (fun c_3 => ?_)
  · have c_3 := (nI_ltI (a := s 4) (b := 6) (by omega) (by omega)).mp c_3
    have c_3 : (s 4) < 6 := c_3
    refine j_aload_n C (i := 0) (x := xo) 0 rfl dX3_refer_24 (pc' := 25) rfl ?_
    refine j_get C (ref := "MapRevisions") (CN := RX3) (T := TX3) (N := 11) (ci := 4) (index := 36) (a := xo) (kf := 5) (fs := [.ref (xa 0), .ref (xa 1), .ref (xa 2), .ref (xa 3), .ref (xa 4), .ref (xa 5), .int (nI (s 2)), .int (nI (s 4)), .int (nI (s 10)), .int (nI (s 0)), .int (nI (s 1))]) (v := .ref (xa 5)) hinX3 rfl (by decide) (by decide +kernel) rfl Q.obj rfl dX3_refer_25 (pc' := 28) rfl ?_
    refine j_aload_n C (i := 0) (x := xo) 0 rfl dX3_refer_28 (pc' := 29) rfl ?_
    refine j_get C (ref := "MapRevisions") (CN := RX3) (T := TX3) (N := 11) (ci := 4) (index := 43) (a := xo) (kf := 7) (fs := [.ref (xa 0), .ref (xa 1), .ref (xa 2), .ref (xa 3), .ref (xa 4), .ref (xa 5), .int (nI (s 2)), .int (nI (s 4)), .int (nI (s 10)), .int (nI (s 0)), .int (nI (s 1))]) (v := .int (nI (s 4))) hinX3 rfl (by decide) (by decide +kernel) rfl Q.obj rfl dX3_refer_29 (pc' := 32) rfl ?_
    refine j_iload_n C (i := 1) (x := nI j) 1 rfl dX3_refer_32 (pc' := 33) rfl ?_
    refine j_iast C (a := xa 5) (N := 6) (j := s 4) (f := dr) Q.draft rfl (by omega) (by omega) dX3_refer_33 (pc' := 34) rfl ?_
    show jW X G 2 1 6 34 [(0, .ref xo), (1, .int (nI j))] [] (jup h (xa 5) (.inl (G.2.2.1.1, 6, .inl (upd dr (s 4) (nI j)))))
    refine j_aload_n C (i := 0) (x := xo) 0 rfl dX3_refer_34 (pc' := 35) rfl ?_
    refine j_dup C rfl dX3_refer_35 (pc' := 36) rfl ?_
    refine j_get C (ref := "MapRevisions") (CN := RX3) (T := TX3) (N := 11) (ci := 4) (index := 43) (a := xo) (kf := 7) (fs := [.ref (xa 0), .ref (xa 1), .ref (xa 2), .ref (xa 3), .ref (xa 4), .ref (xa 5), .int (nI (s 2)), .int (nI (s 4)), .int (nI (s 10)), .int (nI (s 0)), .int (nI (s 1))]) (v := .int (nI (s 4))) hinX3 rfl (by decide) (by decide +kernel) rfl ((jup_ne Q.on5).trans Q.obj) rfl dX3_refer_36 (pc' := 39) rfl ?_
    refine j_iconst C (v := nI 1) rfl dX3_refer_39 (pc' := 40) rfl ?_
    refine j_iadd C (x := nI (s 4)) (y := nI 1) dX3_refer_40 (pc' := 41) rfl ?_
    refine jt_i (nI_add _ _) ?_
    refine j_put C (ref := "MapRevisions") (CN := RX3) (T := TX3) (N := 11) (ci := 4) (index := 43) (a := xo) (kf := 7) (fs := [.ref (xa 0), .ref (xa 1), .ref (xa 2), .ref (xa 3), .ref (xa 4), .ref (xa 5), .int (nI (s 2)), .int (nI (s 4)), .int (nI (s 10)), .int (nI (s 0)), .int (nI (s 1))]) (v := .int (nI (s 4 + 1))) (ty := .int) hinX3 tyX3_ok nmX3 rfl (by decide) (by decide +kernel) rfl rfl (by decide +kernel) rfl rfl ((jup_ne Q.on5).trans Q.obj) (by show 7 < 11; decide) dX3_refer_41 (pc' := 44) rfl ?_
    show jW X G 2 1 6 44 [(0, .ref xo), (1, .int (nI j))] [] (jup (jup h (xa 5) (.inl (G.2.2.1.1, 6, .inl (upd dr (s 4) (nI j))))) xo (.inr (4, [.ref (xa 0), .ref (xa 1), .ref (xa 2), .ref (xa 3), .ref (xa 4), .ref (xa 5), .int (nI (s 2)), .int (nI (s 4 + 1)), .int (nI (s 10)), .int (nI (s 0)), .int (nI (s 1))])))
    refine j_aload_n C (i := 0) (x := xo) 0 rfl dX3_refer_44 (pc' := 45) rfl ?_
    refine j_get C (ref := "MapRevisions") (CN := RX3) (T := TX3) (N := 11) (ci := 4) (index := 43) (a := xo) (kf := 7) (fs := [.ref (xa 0), .ref (xa 1), .ref (xa 2), .ref (xa 3), .ref (xa 4), .ref (xa 5), .int (nI (s 2)), .int (nI (s 4 + 1)), .int (nI (s 10)), .int (nI (s 0)), .int (nI (s 1))]) (v := .int (nI (s 4 + 1))) hinX3 rfl (by decide) (by decide +kernel) rfl (jup_self _ _ _) rfl dX3_refer_45 (pc' := 48) rfl ?_
    exact j_iret C E dX3_refer_48 rfl (Nat.le_of_ble_eq_true rfl) (Nat.le_of_ble_eq_true rfl) (by rw [show oRefer s a (nI j) = (nI (s 4 + 1), va_up (va_up s 25 0) 4 (s 4 + 1), va_up2 a 5 (s 4) j) from by unfold oRefer; rw [if_pos (show inN (nI j) (s 6) = true by rw [inN_nI (by omega)]; exact decide_eq_true hj), if_pos (show s 4 < 6 by omega), tn_nI (j := j) (by omega)] <;> rfl]; exact ⟨rfl, rfl, ⟨_, cQ.putD Q I (v := j) (s' := va_up (va_up s 25 0) 4 (s 4 + 1)) rfl rfl rfl⟩, fun q hq => (jup_ne (show q ≠ xo from fun z => Q.np.1 (z ▸ hq))).trans (jup_ne (show q ≠ xa 5 from fun z => Q.np.2.1 5 (by decide) (z ▸ hq)))⟩)
  · have c_3 := fun zq => c_3 ((nI_ltI (a := s 4) (b := 6) (by omega) (by omega)).mpr zq)
    have c_3 : ¬ (s 4) < 6 := c_3
    exact j_throw C E (cls := "java/lang/IllegalStateException") (text := "the draft has 6 things") (ik := 55) (is := 71) (ic := 59) (by decide +kernel) (by decide +kernel) (by decide +kernel) (by decide +kernel) (by decide +kernel) jt_ise.1 jt_ise.2.1 jt_ise.2.2 dX3_refer_14 dX3_refer_17 dX3_refer_18 dX3_refer_20 dX3_refer_23 (by rw [hXR]; exact Nat.le_of_ble_eq_true rfl) (by rw [hXR]; exact Nat.le_of_ble_eq_true rfl) (Nat.le_of_ble_eq_true rfl) (Nat.le_of_ble_eq_true rfl) (Or.inr ⟨rfl, rfl, by unfold oRefer; rw [if_pos (show inN (nI j) (s 6) = true by rw [inN_nI (by omega)]; exact decide_eq_true hj), if_neg (show ¬ s 4 < 6 by omega)] <;> rfl⟩)
set_option maxRecDepth 100000 in
set_option maxHeartbeats 4000000 in
theorem c_setOf (l : Launch) (hlt : l.stackTraces = false) (G : jG) {P : Nat → Prop} {xo : Nat} {xa th va ca ma : Nat → Nat} {dat cap : Nat} {mod : Int32} {df : Nat → Option Nat} {vf dr : Nat → Int32} {mf : Nat → Nat → Int32} {s : mS} {a : mA} {h : jH} (Q : cQ G P xo xa th va ca ma dat cap mod df vf dr mf s a h) (J : IS s) (I : IA a) (p v : Int32) (K : mCh s a) : jM l G yX3_setOf wsX3_setOf 7 113 3 18 [.ref xo, .int p, .int v] h (fun r h' => r = some (.int (oSetOf s a p v).1) ∧ h' = h ∧ (oSetOf s a p v).2.1 25 = 0) (fun E h' => (E = "java/lang/IndexOutOfBoundsException" ∧ h' = h ∧ (oSetOf s a p v).2.1 25 = 1) ∨ (E = "java/util/NoSuchElementException" ∧ h' = h ∧ (oSetOf s a p v).2.1 25 = 2)) := by
  have h6 := J.2.1
  have h2 := J.2.2.1
  have h4 := J.2.2.2.1
  have h10 := J.2.2.2.2.1
  have hs0 := J.1 0
  have hs1 := J.1 1
  refine jM_of (cc := cX3_setOf) (maxL := 4) (ret := (some .int)) hlt (by decide +kernel) rfl (Nat.le_of_ble_eq_true rfl) ?_
  intro X C E hXl hXR hXn
  have hinX2 : ∀ w ∈ u_ws RX2 TX2 6, w ∈ wsX3_setOf := by decide +kernel
  show jW X G 4 0 0 0 [(0, .ref xo), (1, .int p), (2, .int v)] [] h
  refine j_aload_n C (i := 0) (x := xo) 0 rfl dX3_setOf_0 (pc' := 1) rfl ?_
  refine j_iload_n C (i := 1) (x := p) 1 rfl dX3_setOf_1 (pc' := 2) rfl ?_
  refine j_callV C (As := [.int p]) (rest := []) (c_needThing X.2.1 C.2.2.2.2.2.2.2.2 G Q J I p) (cwV 1 C.2.2.2.2.1 gX3_setOf_X3_needThing rfl rfl rfl (by decide +kernel) (by rw [hXR]; decide)) Q.obj rfl rfl rfl (Nat.le_of_ble_eq_true rfl) dX3_setOf_2 (pc' := 5) rfl (by rw [hXR]; exact Nat.le_of_ble_eq_true rfl) (by rw [hXR]; exact Nat.le_of_ble_eq_true rfl) (by rintro E' h' ⟨rfl, hx, ex_1⟩; exact j_out C E (Nat.le_of_ble_eq_true rfl) (Nat.le_of_ble_eq_true rfl) (Or.inl ⟨rfl, hx, by unfold oSetOf; rw [if_neg (bff (show mIsV s a p v = false by unfold mIsV; rw [ex_1]; rfl))] <;> rfl⟩)) ?_
  rintro r h' ⟨rfl, hh, nd_2⟩
  have hh := hh.symm
  subst hh
  show jW X G 4 1 6 5 [(0, .ref xo), (1, .int p), (2, .int v)] [] h
  obtain ⟨j, hj, rfl⟩ := inN_of nd_2
  refine j_aload_n C (i := 0) (x := xo) 0 rfl dX3_setOf_5 (pc' := 6) rfl ?_
  refine j_iload_n C (i := 1) (x := nI j) 1 rfl dX3_setOf_6 (pc' := 7) rfl ?_
  refine j_iload_n C (i := 2) (x := v) 2 rfl dX3_setOf_7 (pc' := 8) rfl ?_
  refine j_callV C (As := [.int (nI j), .int v]) (rest := []) (c_needV X.2.1 C.2.2.2.2.2.2.2.2 G Q J I j v (by omega)) (cwV 2 C.2.2.2.2.1 gX3_setOf_X3_needVersion rfl rfl rfl (by decide +kernel) (by rw [hXR]; decide)) Q.obj rfl rfl rfl (Nat.le_of_ble_eq_true rfl) dX3_setOf_8 (pc' := 11) rfl (by rw [hXR]; exact Nat.le_of_ble_eq_true rfl) (by rw [hXR]; exact Nat.le_of_ble_eq_true rfl) (by rintro E' h' ⟨rfl, hx, hz⟩; exact j_out C E (Nat.le_of_ble_eq_true rfl) (Nat.le_of_ble_eq_true rfl) (Or.inl ⟨rfl, hx, by have hV := ((nv_spec J I (fun v hv => Q.ahead hv) K (t := j) (by omega) v).resolve_left (fun z => absurd z.2.1 (by omega))).1; unfold oSetOf; rw [if_neg (bff hV)] <;> rfl⟩)) ?_
  rintro r h' ⟨⟨k, rfl, hk, hks⟩, hh⟩
  have hh := hh.symm
  subst hh
  obtain ⟨hV, hN, i, hi1, hi2, hi3, rfl⟩ := (nv_spec J I (fun v hv => Q.ahead hv) K (t := j) (by omega) v).resolve_right (fun z => absurd z.2 (by omega))
  have hkp : k = mPl a j i := by rw [tn_nI (by omega)] at hN; omega
  show jW X G 4 2 12 11 [(0, .ref xo), (1, .int (nI j)), (2, .int (nI i))] [.ref (va k)] h
  refine j_astore_n C (i := 3) (x := va k) (l' := [(3, .ref (va k)), (0, .ref xo), (1, .int (nI j)), (2, .int (nI i))]) dX3_setOf_11 (pc' := 12) rfl (by decide) rfl ?_
  refine j_aload_n C (i := 3) (x := va k) 0 rfl dX3_setOf_12 (pc' := 13) rfl ?_
  refine j_get C (ref := "MapRevisions$Version") (CN := RX2) (T := TX2) (N := 6) (ci := 3) (index := 187) (a := va k) (kf := 5) (fs := [cP va (a 13 k), .int (nI (a 12 k)), .int (nI (a 14 k)), .int (nI (a 15 k)), .ref (ca k), .int (nI (a 17 k))]) (v := .int (nI (a 17 k))) hinX2 rfl (by decide) (by decide +kernel) rfl (Q.ver (v := k) (by omega)) rfl dX3_setOf_13 (pc' := 16) rfl ?_
  have B_3 := IA.hidden I k
  refine j_if_eq C dX3_setOf_16 (tgt := 29) (by decide) (pc' := 19) rfl (fun c_4 => ?_) (fun c_4 => ?_)
  · have c_4 := (nI_eq (a := a 17 k) (b := 0) (by omega) (by omega)).mp c_4
    have c_4 : (a 17 k) = 0 := c_4
    refine j_aload_n C (i := 3) (x := va k) 0 rfl dX3_setOf_29 (pc' := 30) rfl ?_
    refine j_get C (ref := "MapRevisions$Version") (CN := RX2) (T := TX2) (N := 6) (ci := 3) (index := 198) (a := va k) (kf := 2) (fs := [cP va (a 13 k), .int (nI (a 12 k)), .int (nI (a 14 k)), .int (nI (a 15 k)), .ref (ca k), .int (nI (a 17 k))]) (v := .int (nI (a 14 k))) hinX2 rfl (by decide) (by decide +kernel) rfl (Q.ver (v := k) (by omega)) rfl dX3_setOf_30 (pc' := 33) rfl ?_
    have B_5 := IA.big I 14 k
    exact j_iret C E dX3_setOf_33 rfl (Nat.le_of_ble_eq_true rfl) (Nat.le_of_ble_eq_true rfl) ⟨by unfold oSetOf; rw [if_pos hV, tn_nI (j := j) (by omega), tn_nI (j := i) (by omega), ← hkp, if_pos (show a 17 k = 0 by omega)] <;> rfl, rfl, by unfold oSetOf; rw [if_pos hV, tn_nI (j := j) (by omega), tn_nI (j := i) (by omega), ← hkp, if_pos (show a 17 k = 0 by omega)] <;> rfl⟩
  · have c_4 := fun zq => c_4 ((nI_eq (a := a 17 k) (b := 0) (by omega) (by omega)).mpr zq)
    have c_4 : ¬ (a 17 k) = 0 := c_4
    exact j_throwN C E (text := "the version is hidden") (is := 196) (by decide +kernel) (by decide +kernel) (by decide +kernel) (by decide +kernel) dX3_setOf_19 dX3_setOf_22 dX3_setOf_23 dX3_setOf_25 dX3_setOf_28 (by rw [hXR]; exact Nat.le_of_ble_eq_true rfl) (by rw [hXR]; exact Nat.le_of_ble_eq_true rfl) (Nat.le_of_ble_eq_true rfl) (Nat.le_of_ble_eq_true rfl) (Or.inr ⟨rfl, rfl, by unfold oSetOf; rw [if_pos hV, tn_nI (j := j) (by omega), tn_nI (j := i) (by omega), ← hkp, if_neg (show ¬ a 17 k = 0 by omega)] <;> rfl⟩)
set_option maxRecDepth 100000 in
set_option maxHeartbeats 4000000 in
theorem c_hide (l : Launch) (hlt : l.stackTraces = false) (G : jG) {P : Nat → Prop} {xo : Nat} {xa th va ca ma : Nat → Nat} {dat cap : Nat} {mod : Int32} {df : Nat → Option Nat} {vf dr : Nat → Int32} {mf : Nat → Nat → Int32} {s : mS} {a : mA} {h : jH} (Q : cQ G P xo xa th va ca ma dat cap mod df vf dr mf s a h) (J : IS s) (I : IA a) (p v : Int32) (K : mCh s a) : jM l G yX3_hide wsX3_hide 7 113 3 18 [.ref xo, .int p, .int v] h (fun r h' => r = some (.int (oHide s a p v).1) ∧ (oHide s a p v).2.1 25 = 0 ∧ cQ G P xo xa th va ca ma dat cap mod df vf dr mf (oHide s a p v).2.1 (oHide s a p v).2.2 h' ∧ ∀ q, P q → h' q = h q) (fun E h' => (E = "java/lang/IndexOutOfBoundsException" ∧ h' = h ∧ (oHide s a p v).2.1 25 = 1) ∨ (E = "java/lang/IllegalStateException" ∧ h' = h ∧ (oHide s a p v).2.1 25 = 2)) := by
  have h6 := J.2.1
  have h2 := J.2.2.1
  have h4 := J.2.2.2.1
  have h10 := J.2.2.2.2.1
  have hs0 := J.1 0
  have hs1 := J.1 1
  refine jM_of (cc := cX3_hide) (maxL := 4) (ret := (some .int)) hlt (by decide +kernel) rfl (Nat.le_of_ble_eq_true rfl) ?_
  intro X C E hXl hXR hXn
  have hinX3 : ∀ w ∈ u_ws RX3 TX3 11, w ∈ wsX3_hide := by decide +kernel
  have hinX1 : ∀ w ∈ u_ws RX1 TX1 2, w ∈ wsX3_hide := by decide +kernel
  have hinX2 : ∀ w ∈ u_ws RX2 TX2 6, w ∈ wsX3_hide := by decide +kernel
  show jW X G 4 0 0 0 [(0, .ref xo), (1, .int p), (2, .int v)] [] h
  refine j_aload_n C (i := 0) (x := xo) 0 rfl dX3_hide_0 (pc' := 1) rfl ?_
  refine j_iload_n C (i := 1) (x := p) 1 rfl dX3_hide_1 (pc' := 2) rfl ?_
  refine j_callV C (As := [.int p]) (rest := []) (c_needThing X.2.1 C.2.2.2.2.2.2.2.2 G Q J I p) (cwV 1 C.2.2.2.2.1 gX3_hide_X3_needThing rfl rfl rfl (by decide +kernel) (by rw [hXR]; decide)) Q.obj rfl rfl rfl (Nat.le_of_ble_eq_true rfl) dX3_hide_2 (pc' := 5) rfl (by rw [hXR]; exact Nat.le_of_ble_eq_true rfl) (by rw [hXR]; exact Nat.le_of_ble_eq_true rfl) (by rintro E' h' ⟨rfl, hx, ex_1⟩; exact j_out C E (Nat.le_of_ble_eq_true rfl) (Nat.le_of_ble_eq_true rfl) (Or.inl ⟨rfl, hx, by unfold oHide; rw [if_neg (bff (show mIsV s a p v = false by unfold mIsV; rw [ex_1]; rfl))] <;> rfl⟩)) ?_
  rintro r h' ⟨rfl, hh, nd_2⟩
  have hh := hh.symm
  subst hh
  show jW X G 4 1 6 5 [(0, .ref xo), (1, .int p), (2, .int v)] [] h
  obtain ⟨j, hj, rfl⟩ := inN_of nd_2
  refine j_aload_n C (i := 0) (x := xo) 0 rfl dX3_hide_5 (pc' := 6) rfl ?_
  refine j_iload_n C (i := 1) (x := nI j) 1 rfl dX3_hide_6 (pc' := 7) rfl ?_
  refine j_iload_n C (i := 2) (x := v) 2 rfl dX3_hide_7 (pc' := 8) rfl ?_
  refine j_callV C (As := [.int (nI j), .int v]) (rest := []) (c_needV X.2.1 C.2.2.2.2.2.2.2.2 G Q J I j v (by omega)) (cwV 2 C.2.2.2.2.1 gX3_hide_X3_needVersion rfl rfl rfl (by decide +kernel) (by rw [hXR]; decide)) Q.obj rfl rfl rfl (Nat.le_of_ble_eq_true rfl) dX3_hide_8 (pc' := 11) rfl (by rw [hXR]; exact Nat.le_of_ble_eq_true rfl) (by rw [hXR]; exact Nat.le_of_ble_eq_true rfl) (by rintro E' h' ⟨rfl, hx, hz⟩; exact j_out C E (Nat.le_of_ble_eq_true rfl) (Nat.le_of_ble_eq_true rfl) (Or.inl ⟨rfl, hx, by have hV := ((nv_spec J I (fun v hv => Q.ahead hv) K (t := j) (by omega) v).resolve_left (fun z => absurd z.2.1 (by omega))).1; unfold oHide; rw [if_neg (bff hV)] <;> rfl⟩)) ?_
  rintro r h' ⟨⟨k, rfl, hk, hks⟩, hh⟩
  have hh := hh.symm
  subst hh
  obtain ⟨hV, hN, i, hi1, hi2, hi3, rfl⟩ := (nv_spec J I (fun v hv => Q.ahead hv) K (t := j) (by omega) v).resolve_right (fun z => absurd z.2 (by omega))
  have hkp : k = mPl a j i := by rw [tn_nI (by omega)] at hN; omega
  show jW X G 4 2 12 11 [(0, .ref xo), (1, .int (nI j)), (2, .int (nI i))] [.ref (va k)] h
  refine j_astore_n C (i := 3) (x := va k) (l' := [(3, .ref (va k)), (0, .ref xo), (1, .int (nI j)), (2, .int (nI i))]) dX3_hide_11 (pc' := 12) rfl (by decide) rfl ?_
  refine j_iload_n C (i := 2) (x := nI i) 3 rfl dX3_hide_12 (pc' := 13) rfl ?_
  refine j_aload_n C (i := 0) (x := xo) 1 rfl dX3_hide_13 (pc' := 14) rfl ?_
  refine j_get C (ref := "MapRevisions") (CN := RX3) (T := TX3) (N := 11) (ci := 4) (index := 25) (a := xo) (kf := 2) (fs := [.ref (xa 0), .ref (xa 1), .ref (xa 2), .ref (xa 3), .ref (xa 4), .ref (xa 5), .int (nI (s 2)), .int (nI (s 4)), .int (nI (s 10)), .int (nI (s 0)), .int (nI (s 1))]) (v := .ref (xa 2)) hinX3 rfl (by decide) (by decide +kernel) rfl Q.obj rfl dX3_hide_14 (pc' := 17) rfl ?_
  refine j_iload_n C (i := 1) (x := nI j) 2 rfl dX3_hide_17 (pc' := 18) rfl ?_
  have D_18 := Q.dta (t := j) (by omega)
  refine j_callV C (As := [.int (nI j)]) (rest := [.int (nI i)]) (c_get X.2.1 C.2.2.2.2.2.2.2.2 G Q.lst D_18.1 j (th j) (by omega) D_18.2.2.1 (by omega) D_18.2.1) (cwV 1 C.2.2.2.2.1 gX3_hide_Jx4a65c_get_915e3 rfl rfl rfl (by decide +kernel) (by rw [hXR]; decide)) Q.lst rfl rfl rfl (Nat.le_of_ble_eq_true rfl) dX3_hide_18 (pc' := 21) rfl (by rw [hXR]; exact Nat.le_of_ble_eq_true rfl) (by rw [hXR]; exact Nat.le_of_ble_eq_true rfl) (fun _ _ z => z.elim) ?_
  rintro r h' ⟨rfl, hh⟩
  have hh := hh.symm
  subst hh
  show jW X G 4 2 12 21 [(3, .ref (va k)), (0, .ref xo), (1, .int (nI j)), (2, .int (nI i))] [.ref (th j), .int (nI i)] h
  refine j_cast C (CN := RX1) (T := TX1) (N := 2) (ci := 2) (index := 111) (a := th j) (fs := [.int (nI (a 7 j)), .ref (va (a 8 j))]) (Q.thing (t := j) (by omega)) rfl (by decide +kernel) dX3_hide_21 (pc' := 24) rfl ?_
  refine j_get C (ref := "MapRevisions$Thing") (CN := RX1) (T := TX1) (N := 2) (ci := 2) (index := 138) (a := th j) (kf := 1) (fs := [.int (nI (a 7 j)), .ref (va (a 8 j))]) (v := .ref (va (a 8 j))) hinX1 rfl (by decide) (by decide +kernel) rfl (Q.thing (t := j) (by omega)) rfl dX3_hide_24 (pc' := 27) rfl ?_
  have B_3 := Q.last (t := j) (by omega)
  refine j_get C (ref := "MapRevisions$Version") (CN := RX2) (T := TX2) (N := 6) (ci := 3) (index := 142) (a := va (a 8 j)) (kf := 1) (fs := [cP va (a 13 (a 8 j)), .int (nI (a 12 (a 8 j))), .int (nI (a 14 (a 8 j))), .int (nI (a 15 (a 8 j))), .ref (ca (a 8 j)), .int (nI (a 17 (a 8 j)))]) (v := .int (nI (a 12 (a 8 j)))) hinX2 rfl (by decide) (by decide +kernel) rfl (Q.ver (v := (a 8 j)) (by omega)) rfl dX3_hide_27 (pc' := 30) rfl ?_
  have B_4 := IA.big I 12 (a 8 j)
  refine j_icmp_eq C dX3_hide_30 (tgt := 40) (by decide) (pc' := 33) rfl (fun c_5 => ?_) (fun c_5 => ?_)
  · have c_5 := (nI_eq (a := i) (b := a 12 (a 8 j)) (by omega) (by omega)).mp c_5
    have c_5 : i = (a 12 (a 8 j)) := c_5
    exact j_throw C E (cls := "java/lang/IllegalStateException") (text := "the version is the latest one, or hidden") (ik := 55) (is := 190) (ic := 59) (by decide +kernel) (by decide +kernel) (by decide +kernel) (by decide +kernel) (by decide +kernel) jt_ise.1 jt_ise.2.1 jt_ise.2.2 dX3_hide_40 dX3_hide_43 dX3_hide_44 dX3_hide_46 dX3_hide_49 (by rw [hXR]; exact Nat.le_of_ble_eq_true rfl) (by rw [hXR]; exact Nat.le_of_ble_eq_true rfl) (Nat.le_of_ble_eq_true rfl) (Nat.le_of_ble_eq_true rfl) (Or.inr ⟨rfl, rfl, by unfold oHide; rw [if_pos hV, tn_nI (j := j) (by omega), tn_nI (j := i) (by omega), ← hkp, if_neg (show ¬ (¬ i = a 9 j ∧ a 17 k = 0) from fun z => by have := (K.2 j hj).2; omega)] <;> rfl⟩)
  · have c_5 := fun zq => c_5 ((nI_eq (a := i) (b := a 12 (a 8 j)) (by omega) (by omega)).mpr zq)
    have c_5 : ¬ i = (a 12 (a 8 j)) := c_5
    refine j_aload_n C (i := 3) (x := va k) 0 rfl dX3_hide_33 (pc' := 34) rfl ?_
    refine j_get C (ref := "MapRevisions$Version") (CN := RX2) (T := TX2) (N := 6) (ci := 3) (index := 187) (a := va k) (kf := 5) (fs := [cP va (a 13 k), .int (nI (a 12 k)), .int (nI (a 14 k)), .int (nI (a 15 k)), .ref (ca k), .int (nI (a 17 k))]) (v := .int (nI (a 17 k))) hinX2 rfl (by decide) (by decide +kernel) rfl (Q.ver (v := k) (by omega)) rfl dX3_hide_34 (pc' := 37) rfl ?_
    have B_6 := IA.hidden I k
    refine j_if_eq C dX3_hide_37 (tgt := 50) (by decide) (pc' := 40) rfl (fun c_7 => ?_) (fun c_7 => ?_)
    · have c_7 := (nI_eq (a := a 17 k) (b := 0) (by omega) (by omega)).mp c_7
      have c_7 : (a 17 k) = 0 := c_7
      refine j_aload_n C (i := 3) (x := va k) 0 rfl dX3_hide_50 (pc' := 51) rfl ?_
      refine j_iconst C (v := nI 1) rfl dX3_hide_51 (pc' := 52) rfl ?_
      refine j_put C (ref := "MapRevisions$Version") (CN := RX2) (T := TX2) (N := 6) (ci := 3) (index := 187) (a := (va k)) (kf := 5) (fs := [cP va (a 13 k), .int (nI (a 12 k)), .int (nI (a 14 k)), .int (nI (a 15 k)), .ref (ca k), .int (nI (a 17 k))]) (v := .int (nI 1)) (ty := .boolean) hinX2 tyX2_ok nmX2 rfl (by decide) (by decide +kernel) rfl rfl (by decide +kernel) rfl rfl (Q.ver (v := k) (by omega)) (by show 5 < 6; decide) dX3_hide_52 (pc' := 55) rfl ?_
      show jW X G 4 2 12 55 [(3, .ref (va k)), (0, .ref xo), (1, .int (nI j)), (2, .int (nI i))] [] (jup h (va k) (.inr (3, [cP va (a 13 k), .int (nI (a 12 k)), .int (nI (a 14 k)), .int (nI (a 15 k)), .ref (ca k), .int (nI 1)])))
      have Q1 := Q.putH hks
      have I1 : IA (va_up2 a 17 k 1) := (IA.up2c I (f := 17) (j := k) (v := 1) ⟨by omega, fun _ => by omega, fun _ => by omega, fun _ => by omega, fun _ => by omega, fun _ => by omega, fun _ => by omega, fun _ => by omega, fun _ => by omega, fun _ => by omega, fun _ => by omega, fun _ => by omega, fun _ => by omega, fun _ => by omega⟩)
      refine j_aload_n C (i := 0) (x := xo) 1 rfl dX3_hide_55 (pc' := 56) rfl ?_
      refine j_iload_n C (i := 1) (x := nI j) 2 rfl dX3_hide_56 (pc' := 57) rfl ?_
      refine j_callV C (As := [.int (nI j)]) (rest := []) (c_shown X.2.1 C.2.2.2.2.2.2.2.2 G Q1 J I1 j hj) (cwV 1 C.2.2.2.2.1 gX3_hide_X3_countShown rfl rfl rfl (by decide +kernel) (by rw [hXR]; decide)) Q1.obj rfl rfl rfl (Nat.le_of_ble_eq_true rfl) dX3_hide_57 (pc' := 60) rfl (by rw [hXR]; exact Nat.le_of_ble_eq_true rfl) (by rw [hXR]; exact Nat.le_of_ble_eq_true rfl) (fun _ _ z => z.elim) ?_
      rintro r h' ⟨rfl, hh⟩
      have hh := hh.symm
      subst hh
      show jW X G 4 2 12 60 [(3, .ref (va k)), (0, .ref xo), (1, .int (nI j)), (2, .int (nI i))] [.int (nI (shF (va_up2 a 17 k 1) 1400 (a 8 j + 1)))] (jup h (va k) (.inr (3, [cP va (a 13 k), .int (nI (a 12 k)), .int (nI (a 14 k)), .int (nI (a 15 k)), .ref (ca k), .int (nI 1)])))
      exact j_iret C E dX3_hide_60 rfl (Nat.le_of_ble_eq_true rfl) (Nat.le_of_ble_eq_true rfl) (by rw [show oHide s a (nI j) (nI i) = (nI (shF (va_up2 a 17 k 1) 1400 (a 8 j + 1)), va_up s 25 0, va_up2 a 17 k 1) from by unfold oHide; rw [if_pos hV, tn_nI (j := j) (by omega), tn_nI (j := i) (by omega), ← hkp, if_pos (show ¬ i = a 9 j ∧ a 17 k = 0 from ⟨fun z => by have := (K.2 j hj).2; omega, by omega⟩)] <;> rfl]; exact ⟨rfl, rfl, Q1, fun q hq => jup_ne (fun z => Q.np.2.2.2.2 k hks (z ▸ hq))⟩)
    · have c_7 := fun zq => c_7 ((nI_eq (a := a 17 k) (b := 0) (by omega) (by omega)).mpr zq)
      have c_7 : ¬ (a 17 k) = 0 := c_7
      exact j_throw C E (cls := "java/lang/IllegalStateException") (text := "the version is the latest one, or hidden") (ik := 55) (is := 190) (ic := 59) (by decide +kernel) (by decide +kernel) (by decide +kernel) (by decide +kernel) (by decide +kernel) jt_ise.1 jt_ise.2.1 jt_ise.2.2 dX3_hide_40 dX3_hide_43 dX3_hide_44 dX3_hide_46 dX3_hide_49 (by rw [hXR]; exact Nat.le_of_ble_eq_true rfl) (by rw [hXR]; exact Nat.le_of_ble_eq_true rfl) (Nat.le_of_ble_eq_true rfl) (Nat.le_of_ble_eq_true rfl) (Or.inr ⟨rfl, rfl, by unfold oHide; rw [if_pos hV, tn_nI (j := j) (by omega), tn_nI (j := i) (by omega), ← hkp, if_neg (show ¬ (¬ i = a 9 j ∧ a 17 k = 0) from fun z => by omega)] <;> rfl⟩)
