set_option maxRecDepth 100000 in
set_option maxHeartbeats 4000000 in
theorem c_open (l : Launch) (hlt : l.stackTraces = false) (G : jG) {P : Nat → Prop} {xo : Nat} {xa th va ca ma : Nat → Nat} {dat cap : Nat} {mod : Int32} {df : Nat → Option Nat} {vf dr : Nat → Int32} {mf : Nat → Nat → Int32} {s : mS} {a : mA} {h : jH} (Q : cQ G P xo xa th va ca ma dat cap mod df vf dr mf s a h) (J : IS s) (I : IA a)  : jM l G yX3_open wsX3_open 6 90 1 6 [.ref xo] h (fun r h' => r = some (.int (oOpen s a).1) ∧ (oOpen s a).2.1 25 = 0 ∧ cQ G P xo xa th va ca ma dat cap mod df vf dr mf (oOpen s a).2.1 (oOpen s a).2.2 h' ∧ ∀ q, P q → h' q = h q) (fun E h' => (E = "java/lang/IllegalStateException" ∧ h' = h ∧ (oOpen s a).2.1 25 = 1)) := by
  have h6 := J.2.1
  have h2 := J.2.2.1
  have h4 := J.2.2.2.1
  have h10 := J.2.2.2.2.1
  have hs0 := J.1 0
  have hs1 := J.1 1
  refine jM_of (cc := cX3_open) (maxL := 1) (ret := (some .int)) hlt (by decide +kernel) rfl (Nat.le_of_ble_eq_true rfl) ?_
  intro X C E hXl hXR hXn
  have hinX3 : ∀ w ∈ u_ws RX3 TX3 11, w ∈ wsX3_open := by decide +kernel
  show jW X G 1 0 0 0 [(0, .ref xo)] [] h
  refine j_aload_n C (i := 0) (x := xo) 0 rfl dX3_open_0 (pc' := 1) rfl ?_
  refine j_get C (ref := "MapRevisions") (CN := RX3) (T := TX3) (N := 11) (ci := 4) (index := 39) (a := xo) (kf := 6) (fs := [.ref (xa 0), .ref (xa 1), .ref (xa 2), .ref (xa 3), .ref (xa 4), .ref (xa 5), .int (nI (s 2)), .int (nI (s 4)), .int (nI (s 10)), .int (nI (s 0)), .int (nI (s 1))]) (v := .int (nI (s 2))) hinX3 rfl (by decide) (by decide +kernel) rfl Q.obj rfl dX3_open_1 (pc' := 4) rfl ?_
  refine j_bipush C (v := nI 20) rfl dX3_open_4 (pc' := 6) rfl ?_
  refine j_icmp_lt C dX3_open_6 (tgt := 19) (by decide) (pc' := 9) rfl (fun c_1 => ?_) (fun c_1 => ?_)
  · have c_1 := (nI_ltI (a := s 2) (b := 20) (by omega) (by omega)).mp c_1
    have c_1 : (s 2) < 20 := c_1
    refine j_aload_n C (i := 0) (x := xo) 0 rfl dX3_open_19 (pc' := 20) rfl ?_
    refine j_dup C rfl dX3_open_20 (pc' := 21) rfl ?_
    refine j_get C (ref := "MapRevisions") (CN := RX3) (T := TX3) (N := 11) (ci := 4) (index := 39) (a := xo) (kf := 6) (fs := [.ref (xa 0), .ref (xa 1), .ref (xa 2), .ref (xa 3), .ref (xa 4), .ref (xa 5), .int (nI (s 2)), .int (nI (s 4)), .int (nI (s 10)), .int (nI (s 0)), .int (nI (s 1))]) (v := .int (nI (s 2))) hinX3 rfl (by decide) (by decide +kernel) rfl Q.obj rfl dX3_open_21 (pc' := 24) rfl ?_
    refine j_iconst C (v := nI 1) rfl dX3_open_24 (pc' := 25) rfl ?_
    refine j_iadd C (x := nI (s 2)) (y := nI 1) dX3_open_25 (pc' := 26) rfl ?_
    refine jt_i (nI_add _ _) ?_
    refine j_put C (ref := "MapRevisions") (CN := RX3) (T := TX3) (N := 11) (ci := 4) (index := 39) (a := xo) (kf := 6) (fs := [.ref (xa 0), .ref (xa 1), .ref (xa 2), .ref (xa 3), .ref (xa 4), .ref (xa 5), .int (nI (s 2)), .int (nI (s 4)), .int (nI (s 10)), .int (nI (s 0)), .int (nI (s 1))]) (v := .int (nI (s 2 + 1))) (ty := .int) hinX3 tyX3_ok nmX3 rfl (by decide) (by decide +kernel) rfl rfl (by decide +kernel) rfl rfl Q.obj (by show 6 < 11; decide) dX3_open_26 (pc' := 29) rfl ?_
    show jW X G 1 0 0 29 [(0, .ref xo)] [] (jup h xo (.inr (4, [.ref (xa 0), .ref (xa 1), .ref (xa 2), .ref (xa 3), .ref (xa 4), .ref (xa 5), .int (nI (s 2 + 1)), .int (nI (s 4)), .int (nI (s 10)), .int (nI (s 0)), .int (nI (s 1))])))
    refine j_aload_n C (i := 0) (x := xo) 0 rfl dX3_open_29 (pc' := 30) rfl ?_
    refine j_get C (ref := "MapRevisions") (CN := RX3) (T := TX3) (N := 11) (ci := 4) (index := 39) (a := xo) (kf := 6) (fs := [.ref (xa 0), .ref (xa 1), .ref (xa 2), .ref (xa 3), .ref (xa 4), .ref (xa 5), .int (nI (s 2 + 1)), .int (nI (s 4)), .int (nI (s 10)), .int (nI (s 0)), .int (nI (s 1))]) (v := .int (nI (s 2 + 1))) hinX3 rfl (by decide) (by decide +kernel) rfl (jup_self _ _ _) rfl dX3_open_30 (pc' := 33) rfl ?_
    refine j_iconst C (v := nI 1) rfl dX3_open_33 (pc' := 34) rfl ?_
    refine j_isub C (x := nI (s 2 + 1)) (y := nI 1) dX3_open_34 (pc' := 35) rfl ?_
    refine jt_i (pk_sub (by omega)) ?_
    exact j_iret C E dX3_open_35 rfl (Nat.le_of_ble_eq_true rfl) (Nat.le_of_ble_eq_true rfl) (by rw [show oOpen s a = (nI (s 2), va_up (va_up s 25 0) 2 (s 2 + 1), a) from by unfold oOpen; rw [if_pos (show s 2 < 20 by omega)] <;> rfl]; exact ⟨rfl, rfl, cQ.putO (s' := va_up (va_up s 25 0) 2 (s 2 + 1)) Q rfl rfl (Nat.le_refl _), fun q hq => jup_ne (fun z => Q.np.1 (z ▸ hq))⟩)
  · have c_1 := fun zq => c_1 ((nI_ltI (a := s 2) (b := 20) (by omega) (by omega)).mpr zq)
    have c_1 : ¬ (s 2) < 20 := c_1
    exact j_throw C E (cls := "java/lang/IllegalStateException") (text := "there are 20 sets") (ik := 55) (is := 57) (ic := 59) (by decide +kernel) (by decide +kernel) (by decide +kernel) (by decide +kernel) (by decide +kernel) jt_ise.1 jt_ise.2.1 jt_ise.2.2 dX3_open_9 dX3_open_12 dX3_open_13 dX3_open_15 dX3_open_18 (by rw [hXR]; exact Nat.le_of_ble_eq_true rfl) (by rw [hXR]; exact Nat.le_of_ble_eq_true rfl) (Nat.le_of_ble_eq_true rfl) (Nat.le_of_ble_eq_true rfl) (⟨rfl, rfl, by unfold oOpen; rw [if_neg (show ¬ s 2 < 20 by omega)] <;> rfl⟩)
set_option maxRecDepth 100000 in
set_option maxHeartbeats 4000000 in
theorem c_wipe (l : Launch) (hlt : l.stackTraces = false) (G : jG) {P : Nat → Prop} {xo : Nat} {xa th va ca ma : Nat → Nat} {dat cap : Nat} {mod : Int32} {df : Nat → Option Nat} {vf dr : Nat → Int32} {mf : Nat → Nat → Int32} {s : mS} {a : mA} {h : jH} (Q : cQ G P xo xa th va ca ma dat cap mod df vf dr mf s a h) (J : IS s) (I : IA a)  : jM l G yX3_wipe wsX3_wipe 0 0 0 0 [.ref xo] h (fun r h' => r = some (.int (oWipe s a).1) ∧ (oWipe s a).2.1 25 = 0 ∧ cQ G P xo xa th va ca ma dat cap mod df vf dr mf (oWipe s a).2.1 (oWipe s a).2.2 h' ∧ ∀ q, P q → h' q = h q) (fun _ _ => False) := by
  have h6 := J.2.1
  have h2 := J.2.2.1
  have h4 := J.2.2.2.1
  have h10 := J.2.2.2.2.1
  have hs0 := J.1 0
  have hs1 := J.1 1
  refine jM_of (cc := cX3_wipe) (maxL := 2) (ret := (some .int)) hlt (by decide +kernel) rfl (Nat.le_of_ble_eq_true rfl) ?_
  intro X C E hXl hXR hXn
  have hinX3 : ∀ w ∈ u_ws RX3 TX3 11, w ∈ wsX3_wipe := by decide +kernel
  show jW X G 2 0 0 0 [(0, .ref xo)] [] h
  refine j_aload_n C (i := 0) (x := xo) 0 rfl dX3_wipe_0 (pc' := 1) rfl ?_
  refine j_get C (ref := "MapRevisions") (CN := RX3) (T := TX3) (N := 11) (ci := 4) (index := 43) (a := xo) (kf := 7) (fs := [.ref (xa 0), .ref (xa 1), .ref (xa 2), .ref (xa 3), .ref (xa 4), .ref (xa 5), .int (nI (s 2)), .int (nI (s 4)), .int (nI (s 10)), .int (nI (s 0)), .int (nI (s 1))]) (v := .int (nI (s 4))) hinX3 rfl (by decide) (by decide +kernel) rfl Q.obj rfl dX3_wipe_1 (pc' := 4) rfl ?_
  refine j_istore_n C (i := 1) (x := nI (s 4)) (l' := [(1, .int (nI (s 4))), (0, .ref xo)]) dX3_wipe_4 (pc' := 5) rfl (by decide) rfl ?_
  refine j_aload_n C (i := 0) (x := xo) 1 rfl dX3_wipe_5 (pc' := 6) rfl ?_
  refine j_iconst C (v := nI 0) rfl dX3_wipe_6 (pc' := 7) rfl ?_
  refine j_put C (ref := "MapRevisions") (CN := RX3) (T := TX3) (N := 11) (ci := 4) (index := 43) (a := xo) (kf := 7) (fs := [.ref (xa 0), .ref (xa 1), .ref (xa 2), .ref (xa 3), .ref (xa 4), .ref (xa 5), .int (nI (s 2)), .int (nI (s 4)), .int (nI (s 10)), .int (nI (s 0)), .int (nI (s 1))]) (v := .int (nI 0)) (ty := .int) hinX3 tyX3_ok nmX3 rfl (by decide) (by decide +kernel) rfl rfl (by decide +kernel) rfl rfl Q.obj (by show 7 < 11; decide) dX3_wipe_7 (pc' := 10) rfl ?_
  show jW X G 2 0 0 10 [(1, .int (nI (s 4))), (0, .ref xo)] [] (jup h xo (.inr (4, [.ref (xa 0), .ref (xa 1), .ref (xa 2), .ref (xa 3), .ref (xa 4), .ref (xa 5), .int (nI (s 2)), .int (nI 0), .int (nI (s 10)), .int (nI (s 0)), .int (nI (s 1))])))
  refine j_iload_n C (i := 1) (x := nI (s 4)) 0 rfl dX3_wipe_10 (pc' := 11) rfl ?_
  exact j_iret C E dX3_wipe_11 rfl (Nat.le_of_ble_eq_true rfl) (Nat.le_of_ble_eq_true rfl) ⟨rfl, rfl, cQ.putO (s' := va_up (va_up s 4 0) 25 0) Q rfl rfl (Nat.zero_le _), fun q hq => jup_ne (fun z => Q.np.1 (z ▸ hq))⟩
set_option maxRecDepth 100000 in
set_option maxHeartbeats 4000000 in
theorem c_pass (l : Launch) (hlt : l.stackTraces = false) (G : jG) {P : Nat → Prop} {xo : Nat} {xa th va ca ma : Nat → Nat} {dat cap : Nat} {mod : Int32} {df : Nat → Option Nat} {vf dr : Nat → Int32} {mf : Nat → Nat → Int32} {s : mS} {a : mA} {h : jH} (Q : cQ G P xo xa th va ca ma dat cap mod df vf dr mf s a h) (J : IS s) (I : IA a) (m : Int32) : jM l G yX3_pass wsX3_pass 7 111 2 12 [.ref xo, .int m] h (fun r h' => r = some (.int (oPass s a m).1) ∧ (oPass s a m).2.1 25 = 0 ∧ cQ G P xo xa th va ca ma dat cap mod df vf dr mf (oPass s a m).2.1 (oPass s a m).2.2 h' ∧ ∀ q, P q → h' q = h q) (fun E h' => (E = "java/lang/IllegalArgumentException" ∧ h' = h ∧ (oPass s a m).2.1 25 = 1) ∨ (E = "java/lang/IllegalStateException" ∧ h' = h ∧ (oPass s a m).2.1 25 = 2)) := by
  have h6 := J.2.1
  have h2 := J.2.2.1
  have h4 := J.2.2.2.1
  have h10 := J.2.2.2.2.1
  have hs0 := J.1 0
  have hs1 := J.1 1
  refine jM_of (cc := cX3_pass) (maxL := 2) (ret := (some .int)) hlt (by decide +kernel) rfl (Nat.le_of_ble_eq_true rfl) ?_
  intro X C E hXl hXR hXn
  have hinX3 : ∀ w ∈ u_ws RX3 TX3 11, w ∈ wsX3_pass := by decide +kernel
  show jW X G 2 0 0 0 [(0, .ref xo), (1, .int m)] [] h
  refine j_aload_n C (i := 0) (x := xo) 0 rfl dX3_pass_0 (pc' := 1) rfl ?_
  refine j_iload_n C (i := 1) (x := m) 1 rfl dX3_pass_1 (pc' := 2) rfl ?_
  refine j_callV C (As := [.int m]) (rest := []) (c_needMinutes X.2.1 C.2.2.2.2.2.2.2.2 G Q J I m) (cwV 1 C.2.2.2.2.1 gX3_pass_X3_needMinutes rfl rfl rfl (by decide +kernel) (by rw [hXR]; decide)) Q.obj rfl rfl rfl (Nat.le_of_ble_eq_true rfl) dX3_pass_2 (pc' := 5) rfl (by rw [hXR]; exact Nat.le_of_ble_eq_true rfl) (by rw [hXR]; exact Nat.le_of_ble_eq_true rfl) (by rintro E' h' ⟨rfl, hx, ex_1⟩; exact j_out C E (Nat.le_of_ble_eq_true rfl) (Nat.le_of_ble_eq_true rfl) (Or.inl ⟨rfl, hx, by unfold oPass; rw [if_neg (bff ex_1)] <;> rfl⟩)) ?_
  rintro r h' ⟨rfl, hh, nd_2⟩
  have hh := hh.symm
  subst hh
  show jW X G 2 1 6 5 [(0, .ref xo), (1, .int m)] [] h
  obtain ⟨j, lj, hj, rfl⟩ := inR_of (v := m) (lo := 1) (hi := 100) (by omega) (by omega) nd_2
  refine j_aload_n C (i := 0) (x := xo) 0 rfl dX3_pass_5 (pc' := 6) rfl ?_
  refine j_get C (ref := "MapRevisions") (CN := RX3) (T := TX3) (N := 11) (ci := 4) (index := 49) (a := xo) (kf := 9) (fs := [.ref (xa 0), .ref (xa 1), .ref (xa 2), .ref (xa 3), .ref (xa 4), .ref (xa 5), .int (nI (s 2)), .int (nI (s 4)), .int (nI (s 10)), .int (nI (s 0)), .int (nI (s 1))]) (v := .int (nI (s 0))) hinX3 rfl (by decide) (by decide +kernel) rfl Q.obj rfl dX3_pass_6 (pc' := 9) rfl ?_
  refine j_iload_n C (i := 1) (x := nI j) 1 rfl dX3_pass_9 (pc' := 10) rfl ?_
  refine j_iadd C (x := nI (s 0)) (y := nI j) dX3_pass_10 (pc' := 11) rfl ?_
  refine jt_i (nI_add _ _) ?_
  refine j_sipush C (v := nI 5000) rfl dX3_pass_11 (pc' := 14) rfl ?_
  refine j_icmp_le C dX3_pass_14 (tgt := 27) (by decide) (pc' := 17) rfl (fun c_3 => ?_) (fun c_3 => ?_)
  · have c_3 := (nI_leI (a := s 0 + j) (b := 5000) (by omega) (by omega)).mp c_3
    have c_3 : (s 0 + j) ≤ 5000 := c_3
    refine j_aload_n C (i := 0) (x := xo) 0 rfl dX3_pass_27 (pc' := 28) rfl ?_
    refine j_dup C rfl dX3_pass_28 (pc' := 29) rfl ?_
    refine j_get C (ref := "MapRevisions") (CN := RX3) (T := TX3) (N := 11) (ci := 4) (index := 49) (a := xo) (kf := 9) (fs := [.ref (xa 0), .ref (xa 1), .ref (xa 2), .ref (xa 3), .ref (xa 4), .ref (xa 5), .int (nI (s 2)), .int (nI (s 4)), .int (nI (s 10)), .int (nI (s 0)), .int (nI (s 1))]) (v := .int (nI (s 0))) hinX3 rfl (by decide) (by decide +kernel) rfl Q.obj rfl dX3_pass_29 (pc' := 32) rfl ?_
    refine j_iload_n C (i := 1) (x := nI j) 1 rfl dX3_pass_32 (pc' := 33) rfl ?_
    refine j_iadd C (x := nI (s 0)) (y := nI j) dX3_pass_33 (pc' := 34) rfl ?_
    refine jt_i (nI_add _ _) ?_
    refine j_put C (ref := "MapRevisions") (CN := RX3) (T := TX3) (N := 11) (ci := 4) (index := 49) (a := xo) (kf := 9) (fs := [.ref (xa 0), .ref (xa 1), .ref (xa 2), .ref (xa 3), .ref (xa 4), .ref (xa 5), .int (nI (s 2)), .int (nI (s 4)), .int (nI (s 10)), .int (nI (s 0)), .int (nI (s 1))]) (v := .int (nI (s 0 + j))) (ty := .int) hinX3 tyX3_ok nmX3 rfl (by decide) (by decide +kernel) rfl rfl (by decide +kernel) rfl rfl Q.obj (by show 9 < 11; decide) dX3_pass_34 (pc' := 37) rfl ?_
    show jW X G 2 1 6 37 [(0, .ref xo), (1, .int (nI j))] [] (jup h xo (.inr (4, [.ref (xa 0), .ref (xa 1), .ref (xa 2), .ref (xa 3), .ref (xa 4), .ref (xa 5), .int (nI (s 2)), .int (nI (s 4)), .int (nI (s 10)), .int (nI (s 0 + j)), .int (nI (s 1))])))
    refine j_aload_n C (i := 0) (x := xo) 0 rfl dX3_pass_37 (pc' := 38) rfl ?_
    refine j_get C (ref := "MapRevisions") (CN := RX3) (T := TX3) (N := 11) (ci := 4) (index := 49) (a := xo) (kf := 9) (fs := [.ref (xa 0), .ref (xa 1), .ref (xa 2), .ref (xa 3), .ref (xa 4), .ref (xa 5), .int (nI (s 2)), .int (nI (s 4)), .int (nI (s 10)), .int (nI (s 0 + j)), .int (nI (s 1))]) (v := .int (nI (s 0 + j))) hinX3 rfl (by decide) (by decide +kernel) rfl (jup_self _ _ _) rfl dX3_pass_38 (pc' := 41) rfl ?_
    exact j_iret C E dX3_pass_41 rfl (Nat.le_of_ble_eq_true rfl) (Nat.le_of_ble_eq_true rfl) (by rw [show oPass s a (nI j) = (nI (s 0 + j), va_up (va_up s 25 0) 0 (s 0 + j), a) from by unfold oPass; rw [if_pos (show inR (nI j) 1 100 = true from inR_in (nI_nlt (by omega) (by omega)) (nI_le hj (by omega))), tn_nI (j := j) (by omega), if_pos (show s 0 + j ≤ 5000 by omega)] <;> rfl]; exact ⟨rfl, rfl, cQ.putO (s' := va_up (va_up s 25 0) 0 (s 0 + j)) Q rfl rfl (Nat.le_refl _), fun q hq => jup_ne (fun z => Q.np.1 (z ▸ hq))⟩)
  · have c_3 := fun zq => c_3 ((nI_leI (a := s 0 + j) (b := 5000) (by omega) (by omega)).mpr zq)
    have c_3 : ¬ (s 0 + j) ≤ 5000 := c_3
    exact j_throw C E (cls := "java/lang/IllegalStateException") (text := "it would be later than minute 5000") (ik := 55) (is := 222) (ic := 59) (by decide +kernel) (by decide +kernel) (by decide +kernel) (by decide +kernel) (by decide +kernel) jt_ise.1 jt_ise.2.1 jt_ise.2.2 dX3_pass_17 dX3_pass_20 dX3_pass_21 dX3_pass_23 dX3_pass_26 (by rw [hXR]; exact Nat.le_of_ble_eq_true rfl) (by rw [hXR]; exact Nat.le_of_ble_eq_true rfl) (Nat.le_of_ble_eq_true rfl) (Nat.le_of_ble_eq_true rfl) (Or.inr ⟨rfl, rfl, by unfold oPass; rw [if_pos (show inR (nI j) 1 100 = true from inR_in (nI_nlt (by omega) (by omega)) (nI_le hj (by omega))), tn_nI (j := j) (by omega), if_neg (show ¬ s 0 + j ≤ 5000 by omega)] <;> rfl⟩)
