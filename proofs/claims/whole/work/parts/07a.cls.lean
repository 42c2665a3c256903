set_option maxRecDepth 100000 in
set_option maxHeartbeats 4000000 in
theorem c_needSet (l : Launch) (hlt : l.stackTraces = false) (G : jG) {P : Nat → Prop} {xo : Nat} {xa th va ca ma : Nat → Nat} {dat cap : Nat} {mod : Int32} {df : Nat → Option Nat} {vf dr : Nat → Int32} {mf : Nat → Nat → Int32} {s : mS} {a : mA} {h : jH} (Q : cQ G P xo xa th va ca ma dat cap mod df vf dr mf s a h) (J : IS s) (I : IA a) (p : Int32) : jM l G yX3_needSet wsX3_needSet 6 90 1 6 [.ref xo, .int p] h (fun r h' => r = none ∧ h' = h ∧ inN p (s 2) = true) (fun E h' => E = "java/lang/IndexOutOfBoundsException" ∧ h' = h ∧ inN p (s 2) = false) := by
  have h6 := J.2.1
  have h2 := J.2.2.1
  have h4 := J.2.2.2.1
  have h10 := J.2.2.2.2.1
  have hs0 := J.1 0
  have hs1 := J.1 1
  refine jM_of (cc := cX3_needSet) (maxL := 2) (ret := none) hlt (by decide +kernel) rfl (Nat.le_of_ble_eq_true rfl) ?_
  intro X C E hXl hXR hXn
  have hinX3 : ∀ w ∈ u_ws RX3 TX3 11, w ∈ wsX3_needSet := by decide +kernel
  show jW X G 2 0 0 0 [(0, .ref xo), (1, .int p)] [] h
  refine j_iload_n C (i := 1) (x := p) 1 rfl dX3_needSet_0 (pc' := 1) rfl ?_
  refine j_if_lt C dX3_needSet_1 (tgt := 12) (by decide) (pc' := 4) rfl (fun c_1 => ?_) (fun c_1 => ?_)
  · exact j_throw C E (cls := "java/lang/IndexOutOfBoundsException") (text := "there is no such set") (ik := 232) (is := 234) (ic := 236) (by decide +kernel) (by decide +kernel) (by decide +kernel) (by decide +kernel) (by decide +kernel) jt_iob.1 jt_iob.2.1 jt_iob.2.2 dX3_needSet_12 dX3_needSet_15 dX3_needSet_16 dX3_needSet_18 dX3_needSet_21 (by rw [hXR]; exact Nat.le_of_ble_eq_true rfl) (by rw [hXR]; exact Nat.le_of_ble_eq_true rfl) (Nat.le_of_ble_eq_true rfl) (Nat.le_of_ble_eq_true rfl) (⟨rfl, rfl, inN_neg c_1⟩)
  · refine j_iload_n C (i := 1) (x := p) 1 rfl dX3_needSet_4 (pc' := 5) rfl ?_
    refine j_aload_n C (i := 0) (x := xo) 0 rfl dX3_needSet_5 (pc' := 6) rfl ?_
    refine j_get C (ref := "MapRevisions") (CN := RX3) (T := TX3) (N := 11) (ci := 4) (index := 39) (a := xo) (kf := 6) (fs := [.ref (xa 0), .ref (xa 1), .ref (xa 2), .ref (xa 3), .ref (xa 4), .ref (xa 5), .int (nI (s 2)), .int (nI (s 4)), .int (nI (s 10)), .int (nI (s 0)), .int (nI (s 1))]) (v := .int (nI (s 2))) hinX3 rfl (by decide) (by decide +kernel) rfl Q.obj rfl dX3_needSet_6 (pc' := 9) rfl ?_
    refine j_icmp_lt C dX3_needSet_9 (tgt := 22) (by decide) (pc' := 12) rfl (fun c_2 => ?_) (fun c_2 => ?_)
    · exact j_vret C E dX3_needSet_22 (Nat.le_of_ble_eq_true rfl) (Nat.le_of_ble_eq_true rfl) ⟨rfl, rfl, inN_lt (by omega) c_1 c_2⟩
    · exact j_throw C E (cls := "java/lang/IndexOutOfBoundsException") (text := "there is no such set") (ik := 232) (is := 234) (ic := 236) (by decide +kernel) (by decide +kernel) (by decide +kernel) (by decide +kernel) (by decide +kernel) jt_iob.1 jt_iob.2.1 jt_iob.2.2 dX3_needSet_12 dX3_needSet_15 dX3_needSet_16 dX3_needSet_18 dX3_needSet_21 (by rw [hXR]; exact Nat.le_of_ble_eq_true rfl) (by rw [hXR]; exact Nat.le_of_ble_eq_true rfl) (Nat.le_of_ble_eq_true rfl) (Nat.le_of_ble_eq_true rfl) (⟨rfl, rfl, inN_ge (by omega) c_2⟩)
set_option maxRecDepth 100000 in
set_option maxHeartbeats 4000000 in
theorem c_isKnown (l : Launch) (hlt : l.stackTraces = false) (G : jG) {P : Nat → Prop} {xo : Nat} {xa th va ca ma : Nat → Nat} {dat cap : Nat} {mod : Int32} {df : Nat → Option Nat} {vf dr : Nat → Int32} {mf : Nat → Nat → Int32} {s : mS} {a : mA} {h : jH} (Q : cQ G P xo xa th va ca ma dat cap mod df vf dr mf s a h) (J : IS s) (I : IA a) (p : Int32) : jM l G yX3_isKnown wsX3_isKnown 1 20 0 0 [.ref xo, .int p] h (fun r h' => r = some (.int (bI (inN p (s 6)))) ∧ h' = h) (fun _ _ => False) := by
  have h6 := J.2.1
  have h2 := J.2.2.1
  have h4 := J.2.2.2.1
  have h10 := J.2.2.2.2.1
  have hs0 := J.1 0
  have hs1 := J.1 1
  refine jM_of (cc := cX3_isKnown) (maxL := 2) (ret := (some .boolean)) hlt (by decide +kernel) rfl (Nat.le_of_ble_eq_true rfl) ?_
  intro X C E hXl hXR hXn
  have hinX3 : ∀ w ∈ u_ws RX3 TX3 11, w ∈ wsX3_isKnown := by decide +kernel
  show jW X G 2 0 0 0 [(0, .ref xo), (1, .int p)] [] h
  refine j_iload_n C (i := 1) (x := p) 1 rfl dX3_isKnown_0 (pc' := 1) rfl ?_
  refine j_if_lt C dX3_isKnown_1 (tgt := 19) (by decide) (pc' := 4) rfl (fun c_1 => ?_) (fun c_1 => ?_)
  · refine j_iconst C (v := nI 0) rfl dX3_isKnown_19 (pc' := 20) rfl ?_
    exact j_iret C E dX3_isKnown_20 rfl (Nat.le_of_ble_eq_true rfl) (Nat.le_of_ble_eq_true rfl) ⟨bI0 (inN_neg c_1), rfl⟩
  · refine j_iload_n C (i := 1) (x := p) 1 rfl dX3_isKnown_4 (pc' := 5) rfl ?_
    refine j_aload_n C (i := 0) (x := xo) 0 rfl dX3_isKnown_5 (pc' := 6) rfl ?_
    refine j_get C (ref := "MapRevisions") (CN := RX3) (T := TX3) (N := 11) (ci := 4) (index := 25) (a := xo) (kf := 2) (fs := [.ref (xa 0), .ref (xa 1), .ref (xa 2), .ref (xa 3), .ref (xa 4), .ref (xa 5), .int (nI (s 2)), .int (nI (s 4)), .int (nI (s 10)), .int (nI (s 0)), .int (nI (s 1))]) (v := .ref (xa 2)) hinX3 rfl (by decide) (by decide +kernel) rfl Q.obj rfl dX3_isKnown_6 (pc' := 9) rfl ?_
    refine j_callV C (As := []) (rest := [.int p]) (c_size X.2.1 C.2.2.2.2.2.2.2.2 G Q.lst) (cwV 0 C.2.2.2.2.1 gX3_isKnown_Jx4a65c_size_8abf5 rfl rfl rfl (by decide +kernel) (by rw [hXR]; decide)) Q.lst rfl rfl rfl (Nat.le_of_ble_eq_true rfl) dX3_isKnown_9 (pc' := 12) rfl (by rw [hXR]; exact Nat.le_of_ble_eq_true rfl) (by rw [hXR]; exact Nat.le_of_ble_eq_true rfl) (fun _ _ z => z.elim) ?_
    rintro r h' ⟨rfl, hh⟩
    have hh := hh.symm
    subst hh
    show jW X G 2 0 0 12 [(0, .ref xo), (1, .int p)] [.int (nI (s 6)), .int p] h
    refine j_icmp_ge C dX3_isKnown_12 (tgt := 19) (by decide) (pc' := 15) rfl (fun c_2 => ?_) (fun c_2 => ?_)
    · refine j_iconst C (v := nI 0) rfl dX3_isKnown_19 (pc' := 20) rfl ?_
      exact j_iret C E dX3_isKnown_20 rfl (Nat.le_of_ble_eq_true rfl) (Nat.le_of_ble_eq_true rfl) ⟨bI0 (inN_ge' (by omega) c_2), rfl⟩
    · refine j_iconst C (v := nI 1) rfl dX3_isKnown_15 (pc' := 16) rfl ?_
      refine j_goto C dX3_isKnown_16 (pc' := 20) (by decide) ?_
      exact j_iret C E dX3_isKnown_20 rfl (Nat.le_of_ble_eq_true rfl) (Nat.le_of_ble_eq_true rfl) ⟨bI1 (inN_lt' (by omega) c_1 c_2), rfl⟩
set_option maxRecDepth 100000 in
set_option maxHeartbeats 4000000 in
theorem c_needThing (l : Launch) (hlt : l.stackTraces = false) (G : jG) {P : Nat → Prop} {xo : Nat} {xa th va ca ma : Nat → Nat} {dat cap : Nat} {mod : Int32} {df : Nat → Option Nat} {vf dr : Nat → Int32} {mf : Nat → Nat → Int32} {s : mS} {a : mA} {h : jH} (Q : cQ G P xo xa th va ca ma dat cap mod df vf dr mf s a h) (J : IS s) (I : IA a) (p : Int32) : jM l G yX3_needThing wsX3_needThing 6 90 1 6 [.ref xo, .int p] h (fun r h' => r = none ∧ h' = h ∧ inN p (s 6) = true) (fun E h' => E = "java/lang/IndexOutOfBoundsException" ∧ h' = h ∧ inN p (s 6) = false) := by
  have h6 := J.2.1
  have h2 := J.2.2.1
  have h4 := J.2.2.2.1
  have h10 := J.2.2.2.2.1
  have hs0 := J.1 0
  have hs1 := J.1 1
  refine jM_of (cc := cX3_needThing) (maxL := 2) (ret := none) hlt (by decide +kernel) rfl (Nat.le_of_ble_eq_true rfl) ?_
  intro X C E hXl hXR hXn
  show jW X G 2 0 0 0 [(0, .ref xo), (1, .int p)] [] h
  refine j_aload_n C (i := 0) (x := xo) 0 rfl dX3_needThing_0 (pc' := 1) rfl ?_
  refine j_iload_n C (i := 1) (x := p) 1 rfl dX3_needThing_1 (pc' := 2) rfl ?_
  refine j_callV C (As := [.int p]) (rest := []) (c_isKnown X.2.1 C.2.2.2.2.2.2.2.2 G Q J I p) (cwV 1 C.2.2.2.2.1 gX3_needThing_X3_isKnown rfl rfl rfl (by decide +kernel) (by rw [hXR]; decide)) Q.obj rfl rfl rfl (Nat.le_of_ble_eq_true rfl) dX3_needThing_2 (pc' := 5) rfl (by rw [hXR]; exact Nat.le_of_ble_eq_true rfl) (by rw [hXR]; exact Nat.le_of_ble_eq_true rfl) (fun _ _ z => z.elim) ?_
  rintro r h' ⟨rfl, hh⟩
  have hh := hh.symm
  subst hh
  show jW X G 2 0 0 5 [(0, .ref xo), (1, .int p)] [.int (bI (inN p (s 6)))] h
  rcases hb_1 : (inN p (s 6)) with _ | _
  · show jW X G 2 0 0 5 [(0, .ref xo), (1, .int p)] [.int (nI 0)] h
    refine j_if_ne C dX3_needThing_5 (tgt := 18) (by decide) (pc' := 8) rfl (fun c_2 => absurd (by decide) c_2) (fun _ => ?_)
    exact j_throw C E (cls := "java/lang/IndexOutOfBoundsException") (text := "there is no such thing") (ik := 232) (is := 240) (ic := 236) (by decide +kernel) (by decide +kernel) (by decide +kernel) (by decide +kernel) (by decide +kernel) jt_iob.1 jt_iob.2.1 jt_iob.2.2 dX3_needThing_8 dX3_needThing_11 dX3_needThing_12 dX3_needThing_14 dX3_needThing_17 (by rw [hXR]; exact Nat.le_of_ble_eq_true rfl) (by rw [hXR]; exact Nat.le_of_ble_eq_true rfl) (Nat.le_of_ble_eq_true rfl) (Nat.le_of_ble_eq_true rfl) (⟨rfl, rfl, hb_1⟩)
  · show jW X G 2 0 0 5 [(0, .ref xo), (1, .int p)] [.int (nI 1)] h
    refine j_if_ne C dX3_needThing_5 (tgt := 18) (by decide) (pc' := 8) rfl (fun _ => ?_) (fun c_3 => absurd c_3 (by decide))
    exact j_vret C E dX3_needThing_18 (Nat.le_of_ble_eq_true rfl) (Nat.le_of_ble_eq_true rfl) ⟨rfl, rfl, hb_1⟩
set_option maxRecDepth 100000 in
set_option maxHeartbeats 4000000 in
theorem c_needPlace (l : Launch) (hlt : l.stackTraces = false) (G : jG) {P : Nat → Prop} {xo : Nat} {xa th va ca ma : Nat → Nat} {dat cap : Nat} {mod : Int32} {df : Nat → Option Nat} {vf dr : Nat → Int32} {mf : Nat → Nat → Int32} {s : mS} {a : mA} {h : jH} (Q : cQ G P xo xa th va ca ma dat cap mod df vf dr mf s a h) (J : IS s) (I : IA a) (x y : Int32) : jM l G yX3_needPlace wsX3_needPlace 6 90 1 6 [.ref xo, .int x, .int y] h (fun r h' => r = none ∧ h' = h ∧ (inR x 0 99 = true ∧ inR y 0 99 = true)) (fun E h' => E = "java/lang/IllegalArgumentException" ∧ h' = h ∧ ¬ (inR x 0 99 = true ∧ inR y 0 99 = true)) := by
  have h6 := J.2.1
  have h2 := J.2.2.1
  have h4 := J.2.2.2.1
  have h10 := J.2.2.2.2.1
  have hs0 := J.1 0
  have hs1 := J.1 1
  refine jM_of (cc := cX3_needPlace) (maxL := 3) (ret := none) hlt (by decide +kernel) rfl (Nat.le_of_ble_eq_true rfl) ?_
  intro X C E hXl hXR hXn
  show jW X G 3 0 0 0 [(0, .ref xo), (1, .int x), (2, .int y)] [] h
  refine j_iload_n C (i := 1) (x := x) 1 rfl dX3_needPlace_0 (pc' := 1) rfl ?_
  refine j_if_lt C dX3_needPlace_1 (tgt := 20) (by decide) (pc' := 4) rfl (fun c_1 => ?_) (fun c_1 => ?_)
  · exact j_throw C E (cls := "java/lang/IllegalArgumentException") (text := "x or y is out of range") (ik := 91) (is := 247) (ic := 95) (by decide +kernel) (by decide +kernel) (by decide +kernel) (by decide +kernel) (by decide +kernel) jt_iae.1 jt_iae.2.1 jt_iae.2.2 dX3_needPlace_20 dX3_needPlace_23 dX3_needPlace_24 dX3_needPlace_26 dX3_needPlace_29 (by rw [hXR]; exact Nat.le_of_ble_eq_true rfl) (by rw [hXR]; exact Nat.le_of_ble_eq_true rfl) (Nat.le_of_ble_eq_true rfl) (Nat.le_of_ble_eq_true rfl) (⟨rfl, rfl, fun z => bff (inR_lo c_1) z.1⟩)
  · refine j_iload_n C (i := 1) (x := x) 1 rfl dX3_needPlace_4 (pc' := 5) rfl ?_
    refine j_bipush C (v := nI 99) rfl dX3_needPlace_5 (pc' := 7) rfl ?_
    refine j_icmp_gt C dX3_needPlace_7 (tgt := 20) (by decide) (pc' := 10) rfl (fun c_2 => ?_) (fun c_2 => ?_)
    · exact j_throw C E (cls := "java/lang/IllegalArgumentException") (text := "x or y is out of range") (ik := 91) (is := 247) (ic := 95) (by decide +kernel) (by decide +kernel) (by decide +kernel) (by decide +kernel) (by decide +kernel) jt_iae.1 jt_iae.2.1 jt_iae.2.2 dX3_needPlace_20 dX3_needPlace_23 dX3_needPlace_24 dX3_needPlace_26 dX3_needPlace_29 (by rw [hXR]; exact Nat.le_of_ble_eq_true rfl) (by rw [hXR]; exact Nat.le_of_ble_eq_true rfl) (Nat.le_of_ble_eq_true rfl) (Nat.le_of_ble_eq_true rfl) (⟨rfl, rfl, fun z => bff (inR_hi c_2) z.1⟩)
    · refine j_iload_n C (i := 2) (x := y) 2 rfl dX3_needPlace_10 (pc' := 11) rfl ?_
      refine j_if_lt C dX3_needPlace_11 (tgt := 20) (by decide) (pc' := 14) rfl (fun c_3 => ?_) (fun c_3 => ?_)
      · exact j_throw C E (cls := "java/lang/IllegalArgumentException") (text := "x or y is out of range") (ik := 91) (is := 247) (ic := 95) (by decide +kernel) (by decide +kernel) (by decide +kernel) (by decide +kernel) (by decide +kernel) jt_iae.1 jt_iae.2.1 jt_iae.2.2 dX3_needPlace_20 dX3_needPlace_23 dX3_needPlace_24 dX3_needPlace_26 dX3_needPlace_29 (by rw [hXR]; exact Nat.le_of_ble_eq_true rfl) (by rw [hXR]; exact Nat.le_of_ble_eq_true rfl) (Nat.le_of_ble_eq_true rfl) (Nat.le_of_ble_eq_true rfl) (⟨rfl, rfl, fun z => bff (inR_lo c_3) z.2⟩)
      · refine j_iload_n C (i := 2) (x := y) 2 rfl dX3_needPlace_14 (pc' := 15) rfl ?_
        refine j_bipush C (v := nI 99) rfl dX3_needPlace_15 (pc' := 17) rfl ?_
        refine j_icmp_le C dX3_needPlace_17 (tgt := 30) (by decide) (pc' := 20) rfl (fun c_4 => ?_) (fun c_4 => ?_)
        · exact j_vret C E dX3_needPlace_30 (Nat.le_of_ble_eq_true rfl) (Nat.le_of_ble_eq_true rfl) ⟨rfl, rfl, inR_in c_1 (Int32.not_lt.mp c_2), inR_in c_3 c_4⟩
        · exact j_throw C E (cls := "java/lang/IllegalArgumentException") (text := "x or y is out of range") (ik := 91) (is := 247) (ic := 95) (by decide +kernel) (by decide +kernel) (by decide +kernel) (by decide +kernel) (by decide +kernel) jt_iae.1 jt_iae.2.1 jt_iae.2.2 dX3_needPlace_20 dX3_needPlace_23 dX3_needPlace_24 dX3_needPlace_26 dX3_needPlace_29 (by rw [hXR]; exact Nat.le_of_ble_eq_true rfl) (by rw [hXR]; exact Nat.le_of_ble_eq_true rfl) (Nat.le_of_ble_eq_true rfl) (Nat.le_of_ble_eq_true rfl) (⟨rfl, rfl, fun z => bff (inR_hi (Int32.not_le.mp c_4)) z.2⟩)
set_option maxRecDepth 100000 in
set_option maxHeartbeats 4000000 in
theorem c_needMinutes (l : Launch) (hlt : l.stackTraces = false) (G : jG) {P : Nat → Prop} {xo : Nat} {xa th va ca ma : Nat → Nat} {dat cap : Nat} {mod : Int32} {df : Nat → Option Nat} {vf dr : Nat → Int32} {mf : Nat → Nat → Int32} {s : mS} {a : mA} {h : jH} (Q : cQ G P xo xa th va ca ma dat cap mod df vf dr mf s a h) (J : IS s) (I : IA a) (x : Int32) : jM l G yX3_needMinutes wsX3_needMinutes 6 90 1 6 [.ref xo, .int x] h (fun r h' => r = none ∧ h' = h ∧ inR x 1 100 = true) (fun E h' => E = "java/lang/IllegalArgumentException" ∧ h' = h ∧ inR x 1 100 = false) := by
  have h6 := J.2.1
  have h2 := J.2.2.1
  have h4 := J.2.2.2.1
  have h10 := J.2.2.2.2.1
  have hs0 := J.1 0
  have hs1 := J.1 1
  refine jM_of (cc := cX3_needMinutes) (maxL := 2) (ret := none) hlt (by decide +kernel) rfl (Nat.le_of_ble_eq_true rfl) ?_
  intro X C E hXl hXR hXn
  show jW X G 2 0 0 0 [(0, .ref xo), (1, .int x)] [] h
  refine j_iload_n C (i := 1) (x := x) 1 rfl dX3_needMinutes_0 (pc' := 1) rfl ?_
  refine j_iconst C (v := nI 1) rfl dX3_needMinutes_1 (pc' := 2) rfl ?_
  refine j_icmp_lt C dX3_needMinutes_2 (tgt := 11) (by decide) (pc' := 5) rfl (fun c_1 => ?_) (fun c_1 => ?_)
  · exact j_throw C E (cls := "java/lang/IllegalArgumentException") (text := "the minutes are out of range") (ik := 91) (is := 249) (ic := 95) (by decide +kernel) (by decide +kernel) (by decide +kernel) (by decide +kernel) (by decide +kernel) jt_iae.1 jt_iae.2.1 jt_iae.2.2 dX3_needMinutes_11 dX3_needMinutes_14 dX3_needMinutes_15 dX3_needMinutes_17 dX3_needMinutes_20 (by rw [hXR]; exact Nat.le_of_ble_eq_true rfl) (by rw [hXR]; exact Nat.le_of_ble_eq_true rfl) (Nat.le_of_ble_eq_true rfl) (Nat.le_of_ble_eq_true rfl) (⟨rfl, rfl, inR_lo c_1⟩)
  · refine j_iload_n C (i := 1) (x := x) 1 rfl dX3_needMinutes_5 (pc' := 6) rfl ?_
    refine j_bipush C (v := nI 100) rfl dX3_needMinutes_6 (pc' := 8) rfl ?_
    refine j_icmp_le C dX3_needMinutes_8 (tgt := 21) (by decide) (pc' := 11) rfl (fun c_2 => ?_) (fun c_2 => ?_)
    · exact j_vret C E dX3_needMinutes_21 (Nat.le_of_ble_eq_true rfl) (Nat.le_of_ble_eq_true rfl) ⟨rfl, rfl, inR_in c_1 c_2⟩
    · exact j_throw C E (cls := "java/lang/IllegalArgumentException") (text := "the minutes are out of range") (ik := 91) (is := 249) (ic := 95) (by decide +kernel) (by decide +kernel) (by decide +kernel) (by decide +kernel) (by decide +kernel) jt_iae.1 jt_iae.2.1 jt_iae.2.2 dX3_needMinutes_11 dX3_needMinutes_14 dX3_needMinutes_15 dX3_needMinutes_17 dX3_needMinutes_20 (by rw [hXR]; exact Nat.le_of_ble_eq_true rfl) (by rw [hXR]; exact Nat.le_of_ble_eq_true rfl) (Nat.le_of_ble_eq_true rfl) (Nat.le_of_ble_eq_true rfl) (⟨rfl, rfl, inR_hi (Int32.not_le.mp c_2)⟩)
set_option maxRecDepth 100000 in
set_option maxHeartbeats 4000000 in
theorem c_needOpen (l : Launch) (hlt : l.stackTraces = false) (G : jG) {P : Nat → Prop} {xo : Nat} {xa th va ca ma : Nat → Nat} {dat cap : Nat} {mod : Int32} {df : Nat → Option Nat} {vf dr : Nat → Int32} {mf : Nat → Nat → Int32} {s : mS} {a : mA} {h : jH} (Q : cQ G P xo xa th va ca ma dat cap mod df vf dr mf s a h) (J : IS s) (I : IA a) (j : Nat) (hj : j < s 2) : jM l G yX3_needOpen wsX3_needOpen 6 90 1 6 [.ref xo, .int (nI j)] h (fun r h' => r = none ∧ h' = h ∧ a 3 j = 0) (fun E h' => E = "java/lang/IllegalStateException" ∧ h' = h ∧ ¬ a 3 j = 0) := by
  have h6 := J.2.1
  have h2 := J.2.2.1
  have h4 := J.2.2.2.1
  have h10 := J.2.2.2.2.1
  have hs0 := J.1 0
  have hs1 := J.1 1
  refine jM_of (cc := cX3_needOpen) (maxL := 2) (ret := none) hlt (by decide +kernel) rfl (Nat.le_of_ble_eq_true rfl) ?_
  intro X C E hXl hXR hXn
  have hinX3 : ∀ w ∈ u_ws RX3 TX3 11, w ∈ wsX3_needOpen := by decide +kernel
  show jW X G 2 0 0 0 [(0, .ref xo), (1, .int (nI j))] [] h
  refine j_aload_n C (i := 0) (x := xo) 0 rfl dX3_needOpen_0 (pc' := 1) rfl ?_
  refine j_get C (ref := "MapRevisions") (CN := RX3) (T := TX3) (N := 11) (ci := 4) (index := 29) (a := xo) (kf := 3) (fs := [.ref (xa 0), .ref (xa 1), .ref (xa 2), .ref (xa 3), .ref (xa 4), .ref (xa 5), .int (nI (s 2)), .int (nI (s 4)), .int (nI (s 10)), .int (nI (s 0)), .int (nI (s 1))]) (v := .ref (xa 3)) hinX3 rfl (by decide) (by decide +kernel) rfl Q.obj rfl dX3_needOpen_1 (pc' := 4) rfl ?_
  refine j_iload_n C (i := 1) (x := nI j) 1 rfl dX3_needOpen_4 (pc' := 5) rfl ?_
  refine j_zald C (a := xa 3) (N := 20) (j := j) Q.closed rfl (by omega) (by omega) dX3_needOpen_5 (pc' := 6) rfl ?_
  show jW X G 2 0 0 6 [(0, .ref xo), (1, .int (nI j))] [.int (nI (a 3 j))] h
  have B_1 := IA.closed I j
  refine j_if_eq C dX3_needOpen_6 (tgt := 19) (by decide) (pc' := 9) rfl (fun c_2 => ?_) (fun c_2 => ?_)
  · have c_2 := (nI_eq (a := a 3 j) (b := 0) (by omega) (by omega)).mp c_2
    have c_2 : (a 3 j) = 0 := c_2
    refine j_aload_n C (i := 0) (x := xo) 0 rfl dX3_needOpen_19 (pc' := 20) rfl ?_
    refine j_get C (ref := "MapRevisions") (CN := RX3) (T := TX3) (N := 11) (ci := 4) (index := 46) (a := xo) (kf := 8) (fs := [.ref (xa 0), .ref (xa 1), .ref (xa 2), .ref (xa 3), .ref (xa 4), .ref (xa 5), .int (nI (s 2)), .int (nI (s 4)), .int (nI (s 10)), .int (nI (s 0)), .int (nI (s 1))]) (v := .int (nI (s 10))) hinX3 rfl (by decide) (by decide +kernel) rfl Q.obj rfl dX3_needOpen_20 (pc' := 23) rfl ?_
    refine j_sipush C (v := nI 2008) rfl dX3_needOpen_23 (pc' := 26) rfl ?_
    refine j_icmp_le C dX3_needOpen_26 (tgt := 39) (by decide) (pc' := 29) rfl (fun _ => ?_) (fun c_3 => absurd (nI_le (by omega) (by omega)) c_3)
    exact j_vret C E dX3_needOpen_39 (Nat.le_of_ble_eq_true rfl) (Nat.le_of_ble_eq_true rfl) ⟨rfl, rfl, by omega⟩
  · have c_2 := fun zq => c_2 ((nI_eq (a := a 3 j) (b := 0) (by omega) (by omega)).mpr zq)
    have c_2 : ¬ (a 3 j) = 0 := c_2
    exact j_throw C E (cls := "java/lang/IllegalStateException") (text := "the set is closed") (ik := 55) (is := 66) (ic := 59) (by decide +kernel) (by decide +kernel) (by decide +kernel) (by decide +kernel) (by decide +kernel) jt_ise.1 jt_ise.2.1 jt_ise.2.2 dX3_needOpen_9 dX3_needOpen_12 dX3_needOpen_13 dX3_needOpen_15 dX3_needOpen_18 (by rw [hXR]; exact Nat.le_of_ble_eq_true rfl) (by rw [hXR]; exact Nat.le_of_ble_eq_true rfl) (Nat.le_of_ble_eq_true rfl) (Nat.le_of_ble_eq_true rfl) (⟨rfl, rfl, by omega⟩)
set_option maxRecDepth 100000 in
set_option maxHeartbeats 4000000 in
theorem c_needRoom (l : Launch) (hlt : l.stackTraces = false) (G : jG) {P : Nat → Prop} {xo : Nat} {xa th va ca ma : Nat → Nat} {dat cap : Nat} {mod : Int32} {df : Nat → Option Nat} {vf dr : Nat → Int32} {mf : Nat → Nat → Int32} {s : mS} {a : mA} {h : jH} (Q : cQ G P xo xa th va ca ma dat cap mod df vf dr mf s a h) (J : IS s) (I : IA a)  : jM l G yX3_needRoomForThing wsX3_needRoomForThing 6 90 1 6 [.ref xo] h (fun r h' => r = none ∧ h' = h ∧ s 6 < 40) (fun E h' => E = "java/lang/IllegalStateException" ∧ h' = h ∧ ¬ s 6 < 40) := by
  have h6 := J.2.1
  have h2 := J.2.2.1
  have h4 := J.2.2.2.1
  have h10 := J.2.2.2.2.1
  have hs0 := J.1 0
  have hs1 := J.1 1
  refine jM_of (cc := cX3_needRoomForThing) (maxL := 1) (ret := none) hlt (by decide +kernel) rfl (Nat.le_of_ble_eq_true rfl) ?_
  intro X C E hXl hXR hXn
  have hinX3 : ∀ w ∈ u_ws RX3 TX3 11, w ∈ wsX3_needRoomForThing := by decide +kernel
  show jW X G 1 0 0 0 [(0, .ref xo)] [] h
  refine j_aload_n C (i := 0) (x := xo) 0 rfl dX3_needRoomForThing_0 (pc' := 1) rfl ?_
  refine j_get C (ref := "MapRevisions") (CN := RX3) (T := TX3) (N := 11) (ci := 4) (index := 25) (a := xo) (kf := 2) (fs := [.ref (xa 0), .ref (xa 1), .ref (xa 2), .ref (xa 3), .ref (xa 4), .ref (xa 5), .int (nI (s 2)), .int (nI (s 4)), .int (nI (s 10)), .int (nI (s 0)), .int (nI (s 1))]) (v := .ref (xa 2)) hinX3 rfl (by decide) (by decide +kernel) rfl Q.obj rfl dX3_needRoomForThing_1 (pc' := 4) rfl ?_
  refine j_callV C (As := []) (rest := []) (c_size X.2.1 C.2.2.2.2.2.2.2.2 G Q.lst) (cwV 0 C.2.2.2.2.1 gX3_needRoomForThing_Jx4a65c_size_8abf5 rfl rfl rfl (by decide +kernel) (by rw [hXR]; decide)) Q.lst rfl rfl rfl (Nat.le_of_ble_eq_true rfl) dX3_needRoomForThing_4 (pc' := 7) rfl (by rw [hXR]; exact Nat.le_of_ble_eq_true rfl) (by rw [hXR]; exact Nat.le_of_ble_eq_true rfl) (fun _ _ z => z.elim) ?_
  rintro r h' ⟨rfl, hh⟩
  have hh := hh.symm
  subst hh
  show jW X G 1 0 0 7 [(0, .ref xo)] [.int (nI (s 6))] h
  refine j_bipush C (v := nI 40) rfl dX3_needRoomForThing_7 (pc' := 9) rfl ?_
  refine j_icmp_lt C dX3_needRoomForThing_9 (tgt := 22) (by decide) (pc' := 12) rfl (fun c_1 => ?_) (fun c_1 => ?_)
  · have c_1 := (nI_ltI (a := s 6) (b := 40) (by omega) (by omega)).mp c_1
    have c_1 : (s 6) < 40 := c_1
    exact j_vret C E dX3_needRoomForThing_22 (Nat.le_of_ble_eq_true rfl) (Nat.le_of_ble_eq_true rfl) ⟨rfl, rfl, by omega⟩
  · have c_1 := fun zq => c_1 ((nI_ltI (a := s 6) (b := 40) (by omega) (by omega)).mpr zq)
    have c_1 : ¬ (s 6) < 40 := c_1
    exact j_throw C E (cls := "java/lang/IllegalStateException") (text := "there are 40 things") (ik := 55) (is := 253) (ic := 59) (by decide +kernel) (by decide +kernel) (by decide +kernel) (by decide +kernel) (by decide +kernel) jt_ise.1 jt_ise.2.1 jt_ise.2.2 dX3_needRoomForThing_12 dX3_needRoomForThing_15 dX3_needRoomForThing_16 dX3_needRoomForThing_18 dX3_needRoomForThing_21 (by rw [hXR]; exact Nat.le_of_ble_eq_true rfl) (by rw [hXR]; exact Nat.le_of_ble_eq_true rfl) (Nat.le_of_ble_eq_true rfl) (Nat.le_of_ble_eq_true rfl) (⟨rfl, rfl, by omega⟩)
set_option maxRecDepth 100000 in
set_option maxHeartbeats 4000000 in
theorem c_things (l : Launch) (hlt : l.stackTraces = false) (G : jG) {P : Nat → Prop} {xo : Nat} {xa th va ca ma : Nat → Nat} {dat cap : Nat} {mod : Int32} {df : Nat → Option Nat} {vf dr : Nat → Int32} {mf : Nat → Nat → Int32} {s : mS} {a : mA} {h : jH} (Q : cQ G P xo xa th va ca ma dat cap mod df vf dr mf s a h) (J : IS s) (I : IA a)  : jM l G yX3_things wsX3_things 1 20 0 0 [.ref xo] h (fun r h' => r = some (.int (oThings s a).1) ∧ h' = h) (fun _ _ => False) := by
  have h6 := J.2.1
  have h2 := J.2.2.1
  have h4 := J.2.2.2.1
  have h10 := J.2.2.2.2.1
  have hs0 := J.1 0
  have hs1 := J.1 1
  refine jM_of (cc := cX3_things) (maxL := 1) (ret := (some .int)) hlt (by decide +kernel) rfl (Nat.le_of_ble_eq_true rfl) ?_
  intro X C E hXl hXR hXn
  have hinX3 : ∀ w ∈ u_ws RX3 TX3 11, w ∈ wsX3_things := by decide +kernel
  show jW X G 1 0 0 0 [(0, .ref xo)] [] h
  refine j_aload_n C (i := 0) (x := xo) 0 rfl dX3_things_0 (pc' := 1) rfl ?_
  refine j_get C (ref := "MapRevisions") (CN := RX3) (T := TX3) (N := 11) (ci := 4) (index := 25) (a := xo) (kf := 2) (fs := [.ref (xa 0), .ref (xa 1), .ref (xa 2), .ref (xa 3), .ref (xa 4), .ref (xa 5), .int (nI (s 2)), .int (nI (s 4)), .int (nI (s 10)), .int (nI (s 0)), .int (nI (s 1))]) (v := .ref (xa 2)) hinX3 rfl (by decide) (by decide +kernel) rfl Q.obj rfl dX3_things_1 (pc' := 4) rfl ?_
  refine j_callV C (As := []) (rest := []) (c_size X.2.1 C.2.2.2.2.2.2.2.2 G Q.lst) (cwV 0 C.2.2.2.2.1 gX3_things_Jx4a65c_size_8abf5 rfl rfl rfl (by decide +kernel) (by rw [hXR]; decide)) Q.lst rfl rfl rfl (Nat.le_of_ble_eq_true rfl) dX3_things_4 (pc' := 7) rfl (by rw [hXR]; exact Nat.le_of_ble_eq_true rfl) (by rw [hXR]; exact Nat.le_of_ble_eq_true rfl) (fun _ _ z => z.elim) ?_
  rintro r h' ⟨rfl, hh⟩
  have hh := hh.symm
  subst hh
  show jW X G 1 0 0 7 [(0, .ref xo)] [.int (nI (s 6))] h
  exact j_iret C E dX3_things_7 rfl (Nat.le_of_ble_eq_true rfl) (Nat.le_of_ble_eq_true rfl) ⟨rfl, rfl⟩
set_option maxRecDepth 100000 in
set_option maxHeartbeats 4000000 in
theorem c_isNow (l : Launch) (hlt : l.stackTraces = false) (G : jG) {P : Nat → Prop} {xo : Nat} {xa th va ca ma : Nat → Nat} {dat cap : Nat} {mod : Int32} {df : Nat → Option Nat} {vf dr : Nat → Int32} {mf : Nat → Nat → Int32} {s : mS} {a : mA} {h : jH} (Q : cQ G P xo xa th va ca ma dat cap mod df vf dr mf s a h) (J : IS s) (I : IA a) (p : Int32) : jM l G yX3_isNow wsX3_isNow 3 64 0 0 [.ref xo, .int p] h (fun r h' => r = some (.int (bI (inN p (s 6) && mIs a (tn p)))) ∧ h' = h) (fun _ _ => False) := by
  have h6 := J.2.1
  have h2 := J.2.2.1
  have h4 := J.2.2.2.1
  have h10 := J.2.2.2.2.1
  have hs0 := J.1 0
  have hs1 := J.1 1
  refine jM_of (cc := cX3_isNow) (maxL := 2) (ret := (some .boolean)) hlt (by decide +kernel) rfl (Nat.le_of_ble_eq_true rfl) ?_
  intro X C E hXl hXR hXn
  have hinX3 : ∀ w ∈ u_ws RX3 TX3 11, w ∈ wsX3_isNow := by decide +kernel
  have hinX1 : ∀ w ∈ u_ws RX1 TX1 2, w ∈ wsX3_isNow := by decide +kernel
  have hinX2 : ∀ w ∈ u_ws RX2 TX2 6, w ∈ wsX3_isNow := by decide +kernel
  have hinX0 : ∀ w ∈ u_ws RX0 TX0 4, w ∈ wsX3_isNow := by decide +kernel
  show jW X G 2 0 0 0 [(0, .ref xo), (1, .int p)] [] h
  refine j_aload_n C (i := 0) (x := xo) 0 rfl dX3_isNow_0 (pc' := 1) rfl ?_
  refine j_iload_n C (i := 1) (x := p) 1 rfl dX3_isNow_1 (pc' := 2) rfl ?_
  refine j_callV C (As := [.int p]) (rest := []) (c_isKnown X.2.1 C.2.2.2.2.2.2.2.2 G Q J I p) (cwV 1 C.2.2.2.2.1 gX3_isNow_X3_isKnown rfl rfl rfl (by decide +kernel) (by rw [hXR]; decide)) Q.obj rfl rfl rfl (Nat.le_of_ble_eq_true rfl) dX3_isNow_2 (pc' := 5) rfl (by rw [hXR]; exact Nat.le_of_ble_eq_true rfl) (by rw [hXR]; exact Nat.le_of_ble_eq_true rfl) (fun _ _ z => z.elim) ?_
  rintro r h' ⟨rfl, hh⟩
  have hh := hh.symm
  subst hh
  show jW X G 2 0 0 5 [(0, .ref xo), (1, .int p)] [.int (bI (inN p (s 6)))] h
  rcases hb_1 : (inN p (s 6)) with _ | _
  · show jW X G 2 0 0 5 [(0, .ref xo), (1, .int p)] [.int (nI 0)] h
    refine j_if_eq C dX3_isNow_5 (tgt := 35) (by decide) (pc' := 8) rfl (fun _ => ?_) (fun c_2 => absurd (by decide) c_2)
    refine j_iconst C (v := nI 0) rfl dX3_isNow_35 (pc' := 36) rfl ?_
    exact j_iret C E dX3_isNow_36 rfl (Nat.le_of_ble_eq_true rfl) (Nat.le_of_ble_eq_true rfl) ⟨bI0 (by rw [hb_1]; rfl), rfl⟩
  · show jW X G 2 0 0 5 [(0, .ref xo), (1, .int p)] [.int (nI 1)] h
    obtain ⟨j, hj, rfl⟩ := inN_of hb_1
    refine j_if_eq C dX3_isNow_5 (tgt := 35) (by decide) (pc' := 8) rfl (fun c_3 => absurd c_3 (by decide)) (fun _ => ?_)
    refine j_aload_n C (i := 0) (x := xo) 0 rfl dX3_isNow_8 (pc' := 9) rfl ?_
    refine j_get C (ref := "MapRevisions") (CN := RX3) (T := TX3) (N := 11) (ci := 4) (index := 25) (a := xo) (kf := 2) (fs := [.ref (xa 0), .ref (xa 1), .ref (xa 2), .ref (xa 3), .ref (xa 4), .ref (xa 5), .int (nI (s 2)), .int (nI (s 4)), .int (nI (s 10)), .int (nI (s 0)), .int (nI (s 1))]) (v := .ref (xa 2)) hinX3 rfl (by decide) (by decide +kernel) rfl Q.obj rfl dX3_isNow_9 (pc' := 12) rfl ?_
    refine j_iload_n C (i := 1) (x := nI j) 1 rfl dX3_isNow_12 (pc' := 13) rfl ?_
    have D_13 := Q.dta (t := j) (by omega)
    refine j_callV C (As := [.int (nI j)]) (rest := []) (c_get X.2.1 C.2.2.2.2.2.2.2.2 G Q.lst D_13.1 j (th j) (by omega) D_13.2.2.1 (by omega) D_13.2.1) (cwV 1 C.2.2.2.2.1 gX3_isNow_Jx4a65c_get_915e3 rfl rfl rfl (by decide +kernel) (by rw [hXR]; decide)) Q.lst rfl rfl rfl (Nat.le_of_ble_eq_true rfl) dX3_isNow_13 (pc' := 16) rfl (by rw [hXR]; exact Nat.le_of_ble_eq_true rfl) (by rw [hXR]; exact Nat.le_of_ble_eq_true rfl) (fun _ _ z => z.elim) ?_
    rintro r h' ⟨rfl, hh⟩
    have hh := hh.symm
    subst hh
    show jW X G 2 0 0 16 [(0, .ref xo), (1, .int (nI j))] [.ref (th j)] h
    refine j_cast C (CN := RX1) (T := TX1) (N := 2) (ci := 2) (index := 111) (a := th j) (fs := [.int (nI (a 7 j)), .ref (va (a 8 j))]) (Q.thing (t := j) (by omega)) rfl (by decide +kernel) dX3_isNow_16 (pc' := 19) rfl ?_
    refine j_get C (ref := "MapRevisions$Thing") (CN := RX1) (T := TX1) (N := 2) (ci := 2) (index := 138) (a := th j) (kf := 1) (fs := [.int (nI (a 7 j)), .ref (va (a 8 j))]) (v := .ref (va (a 8 j))) hinX1 rfl (by decide) (by decide +kernel) rfl (Q.thing (t := j) (by omega)) rfl dX3_isNow_19 (pc' := 22) rfl ?_
    have B_4 := Q.last (t := j) (by omega)
    refine j_get C (ref := "MapRevisions$Version") (CN := RX2) (T := TX2) (N := 6) (ci := 3) (index := 151) (a := va (a 8 j)) (kf := 4) (fs := [cP va (a 13 (a 8 j)), .int (nI (a 12 (a 8 j))), .int (nI (a 14 (a 8 j))), .int (nI (a 15 (a 8 j))), .ref (ca (a 8 j)), .int (nI (a 17 (a 8 j)))]) (v := .ref (ca (a 8 j))) hinX2 rfl (by decide) (by decide +kernel) rfl (Q.ver (v := (a 8 j)) (by omega)) rfl dX3_isNow_22 (pc' := 25) rfl ?_
    refine j_get C (ref := "MapRevisions$Content") (CN := RX0) (T := TX0) (N := 4) (ci := 1) (index := 154) (a := ca (a 8 j)) (kf := 0) (fs := [.int (nI (a 16 (a 8 j))), .int (nI (a 18 (a 8 j) / 100)), .int (nI (a 18 (a 8 j) % 100)), .ref (ma (a 8 j))]) (v := .int (nI (a 16 (a 8 j)))) hinX0 rfl (by decide) (by decide +kernel) rfl (Q.con (v := (a 8 j)) (by omega)) rfl dX3_isNow_25 (pc' := 28) rfl ?_
    have B_5 := IA.there I (a 8 j)
    refine j_if_eq C dX3_isNow_28 (tgt := 35) (by decide) (pc' := 31) rfl (fun c_6 => ?_) (fun c_6 => ?_)
    · have c_6 := (nI_eq (a := a 16 (a 8 j)) (b := 0) (by omega) (by omega)).mp c_6
      have c_6 : (a 16 (a 8 j)) = 0 := c_6
      refine j_iconst C (v := nI 0) rfl dX3_isNow_35 (pc' := 36) rfl ?_
      exact j_iret C E dX3_isNow_36 rfl (Nat.le_of_ble_eq_true rfl) (Nat.le_of_ble_eq_true rfl) ⟨bI0 (by rw [hb_1, tn_nI (j := j) (by omega)]; unfold mIs; exact decide_eq_false (show ¬ a 16 (a 8 j) = 1 by omega)), rfl⟩
    · have c_6 := fun zq => c_6 ((nI_eq (a := a 16 (a 8 j)) (b := 0) (by omega) (by omega)).mpr zq)
      have c_6 : ¬ (a 16 (a 8 j)) = 0 := c_6
      refine j_iconst C (v := nI 1) rfl dX3_isNow_31 (pc' := 32) rfl ?_
      refine j_goto C dX3_isNow_32 (pc' := 36) (by decide) ?_
      exact j_iret C E dX3_isNow_36 rfl (Nat.le_of_ble_eq_true rfl) (Nat.le_of_ble_eq_true rfl) ⟨bI1 (by rw [hb_1, tn_nI (j := j) (by omega)]; unfold mIs; exact decide_eq_true (show a 16 (a 8 j) = 1 by omega)), rfl⟩
