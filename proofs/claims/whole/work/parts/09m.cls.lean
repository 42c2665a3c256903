set_option maxRecDepth 100000 in
set_option maxHeartbeats 4000000 in
theorem c_refusal (l : Launch) (hlt : l.stackTraces = false) (G : jG) {P : Nat → Prop} {xo : Nat} {xa th va ca ma : Nat → Nat} {dat cap : Nat} {mod : Int32} {df : Nat → Option Nat} {vf dr : Nat → Int32} {mf : Nat → Nat → Int32} {s : mS} {a : mA} {h : jH} {c m N z : Nat} {x0 y0 : Int32} {f : Nat → Int32} {g : Nat → Nat} (Q : cQ G P xo xa th va ca ma dat cap mod df vf dr mf s a h) (J : IS s) (I : IA a) (hcc : h c = some (.inr (1, [.int (nI z), .int x0, .int y0, .ref m]))) (hmm : h m = some (.inl (G.2.2.1.1, N, .inl f))) (he : ∀ j, j < N → f j = nI (g j)) (hg : ∀ j, j < N → g j < 40) (hN : N ≤ 6) (hz : z ≤ 1) (t : Nat) (ht : t < s 6) : jM l G yX3_refusalOf wsX3_refusalOf 5 116 0 0 [.ref xo, .int (nI t), .ref c] h (fun r h' => r = some (.int (refF s a t z g N)) ∧ h' = h) (fun _ _ => False) := by
  have h6 := J.2.1
  have h2 := J.2.2.1
  have h4 := J.2.2.2.1
  have h10 := J.2.2.2.2.1
  have hs0 := J.1 0
  have hs1 := J.1 1
  refine jM_of (cc := cX3_refusalOf) (maxL := 4) (ret := (some .int)) hlt (by decide +kernel) rfl (Nat.le_of_ble_eq_true rfl) ?_
  intro X C E hXl hXR hXn
  have hinX0 : ∀ w ∈ u_ws RX0 TX0 4, w ∈ wsX3_refusalOf := by decide +kernel
  have hinX3 : ∀ w ∈ u_ws RX3 TX3 11, w ∈ wsX3_refusalOf := by decide +kernel
  have hinX1 : ∀ w ∈ u_ws RX1 TX1 2, w ∈ wsX3_refusalOf := by decide +kernel
  show jW X G 4 0 0 0 [(0, .ref xo), (1, .int (nI t)), (2, .ref c)] [] h
  refine j_aload_n C (i := 2) (x := c) 2 rfl dX3_refusalOf_0 (pc' := 1) rfl ?_
  refine j_get C (ref := "MapRevisions$Content") (CN := RX0) (T := TX0) (N := 4) (ci := 1) (index := 154) (a := c) (kf := 0) (fs := [.int (nI z), .int x0, .int y0, .ref m]) (v := .int (nI z)) hinX0 rfl (by decide) (by decide +kernel) rfl hcc rfl dX3_refusalOf_1 (pc' := 4) rfl ?_
  refine j_if_ne C dX3_refusalOf_4 (tgt := 27) (by decide) (pc' := 7) rfl (fun c_1 => ?_) (fun c_1 => ?_)
  · have c_1 := fun zq => c_1 ((nI_eq (a := z) (b := 0) (by omega) (by omega)).mpr zq)
    have c_1 : ¬ z = 0 := c_1
    refine j_aload_n C (i := 0) (x := xo) 0 rfl dX3_refusalOf_27 (pc' := 28) rfl ?_
    refine j_get C (ref := "MapRevisions") (CN := RX3) (T := TX3) (N := 11) (ci := 4) (index := 25) (a := xo) (kf := 2) (fs := [.ref (xa 0), .ref (xa 1), .ref (xa 2), .ref (xa 3), .ref (xa 4), .ref (xa 5), .int (nI (s 2)), .int (nI (s 4)), .int (nI (s 10)), .int (nI (s 0)), .int (nI (s 1))]) (v := .ref (xa 2)) hinX3 rfl (by decide) (by decide +kernel) rfl Q.obj rfl dX3_refusalOf_28 (pc' := 31) rfl ?_
    refine j_iload_n C (i := 1) (x := nI t) 1 rfl dX3_refusalOf_31 (pc' := 32) rfl ?_
    have D_32 := Q.dta (t := t) (by omega)
    refine j_callV C (As := [.int (nI t)]) (rest := []) (c_get X.2.1 C.2.2.2.2.2.2.2.2 G Q.lst D_32.1 t (th t) (by omega) D_32.2.2.1 (by omega) D_32.2.1) (cwV 1 C.2.2.2.2.1 gX3_refusalOf_Jx4a65c_get_915e3 rfl rfl rfl (by decide +kernel) (by rw [hXR]; decide)) Q.lst rfl rfl rfl (Nat.le_of_ble_eq_true rfl) dX3_refusalOf_32 (pc' := 35) rfl (by rw [hXR]; exact Nat.le_of_ble_eq_true rfl) (by rw [hXR]; exact Nat.le_of_ble_eq_true rfl) (fun _ _ z => z.elim) ?_
    rintro r h' ⟨rfl, hh⟩
    have hh := hh.symm
    subst hh
    show jW X G 4 0 0 35 [(0, .ref xo), (1, .int (nI t)), (2, .ref c)] [.ref (th t)] h
    refine j_cast C (CN := RX1) (T := TX1) (N := 2) (ci := 2) (index := 111) (a := th t) (fs := [.int (nI (a 7 t)), .ref (va (a 8 t))]) (Q.thing (t := t) (by omega)) rfl (by decide +kernel) dX3_refusalOf_35 (pc' := 38) rfl ?_
    refine j_get C (ref := "MapRevisions$Thing") (CN := RX1) (T := TX1) (N := 2) (ci := 2) (index := 113) (a := th t) (kf := 0) (fs := [.int (nI (a 7 t)), .ref (va (a 8 t))]) (v := .int (nI (a 7 t))) hinX1 rfl (by decide) (by decide +kernel) rfl (Q.thing (t := t) (by omega)) rfl dX3_refusalOf_38 (pc' := 41) rfl ?_
    have B_2 := IA.kind I t
    refine j_istore_n C (i := 3) (x := nI (a 7 t)) (l' := [(3, .int (nI (a 7 t))), (0, .ref xo), (1, .int (nI t)), (2, .ref c)]) dX3_refusalOf_41 (pc' := 42) rfl (by decide) rfl ?_
    refine j_iload_n C (i := 3) (x := nI (a 7 t)) 0 rfl dX3_refusalOf_42 (pc' := 43) rfl ?_
    refine j_if_ne C dX3_refusalOf_43 (tgt := 48) (by decide) (pc' := 46) rfl (fun c_3 => ?_) (fun c_3 => ?_)
    · have c_3 := fun zq => c_3 ((nI_eq (a := a 7 t) (b := 0) (by omega) (by omega)).mpr zq)
      have c_3 : ¬ (a 7 t) = 0 := c_3
      refine j_aload_n C (i := 0) (x := xo) 1 rfl dX3_refusalOf_48 (pc' := 49) rfl ?_
      refine j_iload_n C (i := 3) (x := nI (a 7 t)) 0 rfl dX3_refusalOf_49 (pc' := 50) rfl ?_
      refine j_aload_n C (i := 2) (x := c) 3 rfl dX3_refusalOf_50 (pc' := 51) rfl ?_
      refine j_get C (ref := "MapRevisions$Content") (CN := RX0) (T := TX0) (N := 4) (ci := 1) (index := 100) (a := c) (kf := 3) (fs := [.int (nI z), .int x0, .int y0, .ref m]) (v := .ref m) hinX0 rfl (by decide) (by decide +kernel) rfl hcc rfl dX3_refusalOf_51 (pc' := 54) rfl ?_
      refine j_callV C (As := [.int (nI (a 7 t)), .ref m]) (rest := []) (c_isRowFor X.2.1 C.2.2.2.2.2.2.2.2 G Q J I hmm he hg hN (a 7 t) (by omega)) (cwV 2 C.2.2.2.2.1 gX3_refusalOf_X3_isRowFor rfl rfl rfl (by decide +kernel) (by rw [hXR]; decide)) Q.obj rfl rfl rfl (Nat.le_of_ble_eq_true rfl) dX3_refusalOf_54 (pc' := 57) rfl (by rw [hXR]; exact Nat.le_of_ble_eq_true rfl) (by rw [hXR]; exact Nat.le_of_ble_eq_true rfl) (fun _ _ z => z.elim) ?_
      rintro r h' ⟨rfl, hh⟩
      have hh := hh.symm
      subst hh
      show jW X G 4 0 0 57 [(3, .int (nI (a 7 t))), (0, .ref xo), (1, .int (nI t)), (2, .ref c)] [.int (bI (rowOK s a (a 7 t) g N))] h
      rcases hb_4 : (rowOK s a (a 7 t) g N) with _ | _
      · show jW X G 4 0 0 57 [(3, .int (nI (a 7 t))), (0, .ref xo), (1, .int (nI t)), (2, .ref c)] [.int (nI 0)] h
        refine j_if_ne C dX3_refusalOf_57 (tgt := 63) (by decide) (pc' := 60) rfl (fun c_5 => absurd (by decide) c_5) (fun _ => ?_)
        refine j_bipush C (v := (-3)) rfl dX3_refusalOf_60 (pc' := 62) rfl ?_
        exact j_iret C E dX3_refusalOf_62 rfl (Nat.le_of_ble_eq_true rfl) (Nat.le_of_ble_eq_true rfl) ⟨by unfold refF; rw [if_neg (show ¬ z = 0 by omega), if_neg (show ¬ a 7 t = 0 by omega), if_pos hb_4] <;> rfl, rfl⟩
      · show jW X G 4 0 0 57 [(3, .int (nI (a 7 t))), (0, .ref xo), (1, .int (nI t)), (2, .ref c)] [.int (nI 1)] h
        refine j_if_ne C dX3_refusalOf_57 (tgt := 63) (by decide) (pc' := 60) rfl (fun _ => ?_) (fun c_6 => absurd c_6 (by decide))
        refine j_aload_n C (i := 0) (x := xo) 1 rfl dX3_refusalOf_63 (pc' := 64) rfl ?_
        refine j_aload_n C (i := 2) (x := c) 3 rfl dX3_refusalOf_64 (pc' := 65) rfl ?_
        refine j_get C (ref := "MapRevisions$Content") (CN := RX0) (T := TX0) (N := 4) (ci := 1) (index := 100) (a := c) (kf := 3) (fs := [.int (nI z), .int x0, .int y0, .ref m]) (v := .ref m) hinX0 rfl (by decide) (by decide +kernel) rfl hcc rfl dX3_refusalOf_65 (pc' := 68) rfl ?_
        refine j_iload_n C (i := 1) (x := nI t) 2 rfl dX3_refusalOf_68 (pc' := 69) rfl ?_
        refine j_callV C (As := [.ref m, .int (nI t)]) (rest := []) (c_leadsTo X.2.1 C.2.2.2.2.2.2.2.2 G Q J I hmm he hg hN t (by omega)) (cwV 2 C.2.2.2.2.1 gX3_refusalOf_X3_leadsTo rfl rfl rfl (by decide +kernel) (by rw [hXR]; decide)) Q.obj rfl rfl rfl (Nat.le_of_ble_eq_true rfl) dX3_refusalOf_69 (pc' := 72) rfl (by rw [hXR]; exact Nat.le_of_ble_eq_true rfl) (by rw [hXR]; exact Nat.le_of_ble_eq_true rfl) (fun _ _ z => z.elim) ?_
        rintro r h' ⟨rfl, hh⟩
        have hh := hh.symm
        subst hh
        show jW X G 4 0 0 72 [(3, .int (nI (a 7 t))), (0, .ref xo), (1, .int (nI t)), (2, .ref c)] [.int (bI ((ldN a (s 6) (rowM g N) (s 6)).testBit t))] h
        rcases hb_7 : ((ldN a (s 6) (rowM g N) (s 6)).testBit t) with _ | _
        · show jW X G 4 0 0 72 [(3, .int (nI (a 7 t))), (0, .ref xo), (1, .int (nI t)), (2, .ref c)] [.int (nI 0)] h
          refine j_if_eq C dX3_refusalOf_72 (tgt := 80) (by decide) (pc' := 75) rfl (fun _ => ?_) (fun c_8 => absurd (by decide) c_8)
          refine j_iconst C (v := nI 0) rfl dX3_refusalOf_80 (pc' := 81) rfl ?_
          exact j_iret C E dX3_refusalOf_81 rfl (Nat.le_of_ble_eq_true rfl) (Nat.le_of_ble_eq_true rfl) ⟨by unfold refF; rw [if_neg (show ¬ z = 0 by omega), if_neg (show ¬ a 7 t = 0 by omega), if_neg (show ¬ rowOK s a (a 7 t) g N = false by rw [hb_4]; decide), if_neg (show ¬ (ldN a (s 6) (rowM g N) (s 6)).testBit t = true by rw [hb_7]; decide)] <;> rfl, rfl⟩
        · show jW X G 4 0 0 72 [(3, .int (nI (a 7 t))), (0, .ref xo), (1, .int (nI t)), (2, .ref c)] [.int (nI 1)] h
          refine j_if_eq C dX3_refusalOf_72 (tgt := 80) (by decide) (pc' := 75) rfl (fun c_9 => absurd c_9 (by decide)) (fun _ => ?_)
          refine j_bipush C (v := (-4)) rfl dX3_refusalOf_75 (pc' := 77) rfl ?_
          refine j_goto C dX3_refusalOf_77 (pc' := 81) (by decide) ?_
          exact j_iret C E dX3_refusalOf_81 rfl (Nat.le_of_ble_eq_true rfl) (Nat.le_of_ble_eq_true rfl) ⟨by unfold refF; rw [if_neg (show ¬ z = 0 by omega), if_neg (show ¬ a 7 t = 0 by omega), if_neg (show ¬ rowOK s a (a 7 t) g N = false by rw [hb_4]; decide), if_pos hb_7] <;> rfl, rfl⟩
    · have c_3 := (nI_eq (a := a 7 t) (b := 0) (by omega) (by omega)).mp c_3
      have c_3 : (a 7 t) = 0 := c_3
      refine j_iconst C (v := nI 0) rfl dX3_refusalOf_46 (pc' := 47) rfl ?_
      exact j_iret C E dX3_refusalOf_47 rfl (Nat.le_of_ble_eq_true rfl) (Nat.le_of_ble_eq_true rfl) ⟨by unfold refF; rw [if_neg (show ¬ z = 0 by omega), if_pos (show a 7 t = 0 by omega)] <;> rfl, rfl⟩
  · have c_1 := (nI_eq (a := z) (b := 0) (by omega) (by omega)).mp c_1
    have c_1 : z = 0 := c_1
    refine j_aload_n C (i := 0) (x := xo) 0 rfl dX3_refusalOf_7 (pc' := 8) rfl ?_
    refine j_iload_n C (i := 1) (x := nI t) 1 rfl dX3_refusalOf_8 (pc' := 9) rfl ?_
    refine j_callS C (As := [.int (nI t)]) (rest := [.ref xo]) (c_bit X.2.1 C.2.2.2.2.2.2.2.2 G t (by omega)) (va_cwS 1 C.2.2.2.2.1 gX3_refusalOf_X3_bit rfl rfl rfl (by decide +kernel) (by rw [hXR]; decide)) rfl rfl (Nat.le_of_ble_eq_true rfl) dX3_refusalOf_9 (pc' := 12) rfl (by rw [hXR]; exact Nat.le_of_ble_eq_true rfl) (by rw [hXR]; exact Nat.le_of_ble_eq_true rfl) (fun _ _ z => z.elim) ?_
    rintro r h' ⟨rfl, hh⟩
    have hh := hh.symm
    subst hh
    show jW X G 4 0 0 12 [(0, .ref xo), (1, .int (nI t)), (2, .ref c)] [.long (lN (2 ^ t)), .ref xo] h
    refine j_callV C (As := [.long (lN (2 ^ t))]) (rest := []) (c_usersOf X.2.1 C.2.2.2.2.2.2.2.2 G Q J I (2 ^ t) (p40 (by omega))) (cwV 1 C.2.2.2.2.1 gX3_refusalOf_X3_usersOf rfl rfl rfl (by decide +kernel) (by rw [hXR]; decide)) Q.obj rfl rfl rfl (Nat.le_of_ble_eq_true rfl) dX3_refusalOf_12 (pc' := 15) rfl (by rw [hXR]; exact Nat.le_of_ble_eq_true rfl) (by rw [hXR]; exact Nat.le_of_ble_eq_true rfl) (fun _ _ z => z.elim) ?_
    rintro r h' ⟨rfl, hh⟩
    have hh := hh.symm
    subst hh
    show jW X G 4 0 0 15 [(0, .ref xo), (1, .int (nI t)), (2, .ref c)] [.long (lN (orN (fUse a (2 ^ t)) (s 6)))] h
    refine j_lconst C (v := lN 0) rfl dX3_refusalOf_15 (pc' := 16) rfl ?_
    refine j_lcmp C  dX3_refusalOf_16 (pc' := 17) rfl ?_
    refine jt_i (cmp_b (fUse_lt a (2 ^ t) (by omega))) ?_
    show jW X G 4 0 0 17 [(0, .ref xo), (1, .int (nI t)), (2, .ref c)] [.int (bI (!decide (orN (fUse a (2 ^ t)) (s 6) = 0)))] h
    rcases hb_10 : (!decide (orN (fUse a (2 ^ t)) (s 6) = 0)) with _ | _
    · show jW X G 4 0 0 17 [(0, .ref xo), (1, .int (nI t)), (2, .ref c)] [.int (nI 0)] h
      refine j_if_eq C dX3_refusalOf_17 (tgt := 25) (by decide) (pc' := 20) rfl (fun _ => ?_) (fun c_11 => absurd (by decide) c_11)
      refine j_iconst C (v := nI 0) rfl dX3_refusalOf_25 (pc' := 26) rfl ?_
      exact j_iret C E dX3_refusalOf_26 rfl (Nat.le_of_ble_eq_true rfl) (Nat.le_of_ble_eq_true rfl) ⟨by unfold refF; rw [if_pos (show z = 0 by omega), if_pos (nd_t hb_10)] <;> rfl, rfl⟩
    · show jW X G 4 0 0 17 [(0, .ref xo), (1, .int (nI t)), (2, .ref c)] [.int (nI 1)] h
      refine j_if_eq C dX3_refusalOf_17 (tgt := 25) (by decide) (pc' := 20) rfl (fun c_12 => absurd c_12 (by decide)) (fun _ => ?_)
      refine j_bipush C (v := (-5)) rfl dX3_refusalOf_20 (pc' := 22) rfl ?_
      refine j_goto C dX3_refusalOf_22 (pc' := 26) (by decide) ?_
      exact j_iret C E dX3_refusalOf_26 rfl (Nat.le_of_ble_eq_true rfl) (Nat.le_of_ble_eq_true rfl) ⟨by unfold refF; rw [if_pos (show z = 0 by omega), if_neg (show ¬ orN (fUse a (2 ^ t)) (s 6) = 0 from fun zz => by rw [decide_eq_true zz] at hb_10; exact Bool.noConfusion hb_10)] <;> rfl, rfl⟩
set_option maxRecDepth 100000 in
set_option maxHeartbeats 4000000 in
theorem c_edit (l : Launch) (hlt : l.stackTraces = false) (G : jG) {P : Nat → Prop} {xo : Nat} {xa th va ca ma : Nat → Nat} {dat cap : Nat} {mod : Int32} {df : Nat → Option Nat} {vf dr : Nat → Int32} {mf : Nat → Nat → Int32} {s : mS} {a : mA} {h : jH} {s' : mS} {a' : mA} {o c m : Nat} {f : Nat → Int32} (Q : cQ G P xo xa th va ca ma dat cap mod df vf dr mf s a h) (J : IS s) (I : IA a) {i : Nat} (v : Int32) (hi : i < s 6) (ho : o < 20) (g6 : s' 6 = s 6) (h7 : a' 7 i = a 7 i) (N : cNew s a s' a' i) (V : cVal s a s' a' i o (a 12 (a 8 i) + 1) (a 8 i + 1)) (hcc : h c = some (.inr (1, [.int (nI (a' 16 (s 10))), .int (nI (a' 18 (s 10) / 100)), .int (nI (a' 18 (s 10) % 100)), .ref m]))) (hmm : h m = some (.inl (G.2.2.1.1, a' 19 (s 10), .inl f))) (he : ∀ j, j < a' 19 (s 10) → f j = nI (a' 20 (6 * s 10 + j))) (hg : ∀ j, j < a' 19 (s 10) → a' 20 (6 * s 10 + j) < 40) (hN : a' 19 (s 10) ≤ 6) (hz : a' 16 (s 10) ≤ 1) (hmx : m ≠ xa 4 ∧ m ≠ xa 5) (hPn : ∀ w, P w → h w ≠ none) (hPo : ∀ v, v < s 10 → ¬ P (ma v)) (hPm : ¬ P m) : jM l G yX3_edit wsX3_edit 6 139 1 6 [.ref xo, .int (nI o), .int (nI i), .int v, .ref c] h (fun r h' => ((mIs a i = false ∧ r = some (.int (-1)) ∧ h' = h) ∨ (mIs a i = true ∧ ¬ nI (a 12 (a 8 i)) = v ∧ r = some (.int (-2)) ∧ h' = h) ∨ (mIs a i = true ∧ nI (a 12 (a 8 i)) = v ∧ ¬ refF s a i (a' 16 (s 10)) (fun j => a' 20 (6 * s 10 + j)) (a' 19 (s 10)) = 0 ∧ r = some (.int (refF s a i (a' 16 (s 10)) (fun j => a' 20 (6 * s 10 + j)) (a' 19 (s 10)))) ∧ h' = h) ∨ (mIs a i = true ∧ nI (a 12 (a 8 i)) = v ∧ refF s a i (a' 16 (s 10)) (fun j => a' 20 (6 * s 10 + j)) (a' 19 (s 10)) = 0 ∧ r = some (.int (nI (a 12 (a 8 i) + 1))) ∧ cE G P xo xa s' a' h' ∧ ∀ w, P w → h' w = h w))) (fun _ _ => False) := by
  have h6 := J.2.1
  have h2 := J.2.2.1
  have h4 := J.2.2.2.1
  have h10 := J.2.2.2.2.1
  have hs0 := J.1 0
  have hs1 := J.1 1
  have hl8 := Q.last hi
  refine jM_of (cc := cX3_edit) (maxL := 7) (ret := (some .int)) hlt (by decide +kernel) rfl (Nat.le_of_ble_eq_true rfl) ?_
  intro X C E hXl hXR hXn
  have hinX3 : ∀ w ∈ u_ws RX3 TX3 11, w ∈ wsX3_edit := by decide +kernel
  have hinX1 : ∀ w ∈ u_ws RX1 TX1 2, w ∈ wsX3_edit := by decide +kernel
  have hinX2 : ∀ w ∈ u_ws RX2 TX2 6, w ∈ wsX3_edit := by decide +kernel
  have hinX0 : ∀ w ∈ u_ws RX0 TX0 4, w ∈ wsX3_edit := by decide +kernel
  show jW X G 7 0 0 0 [(0, .ref xo), (1, .int (nI o)), (2, .int (nI i)), (3, .int v), (4, .ref c)] [] h
  refine j_aload_n C (i := 0) (x := xo) 0 rfl dX3_edit_0 (pc' := 1) rfl ?_
  refine j_get C (ref := "MapRevisions") (CN := RX3) (T := TX3) (N := 11) (ci := 4) (index := 25) (a := xo) (kf := 2) (fs := [.ref (xa 0), .ref (xa 1), .ref (xa 2), .ref (xa 3), .ref (xa 4), .ref (xa 5), .int (nI (s 2)), .int (nI (s 4)), .int (nI (s 10)), .int (nI (s 0)), .int (nI (s 1))]) (v := .ref (xa 2)) hinX3 rfl (by decide) (by decide +kernel) rfl Q.obj rfl dX3_edit_1 (pc' := 4) rfl ?_
  refine j_iload_n C (i := 2) (x := nI i) 2 rfl dX3_edit_4 (pc' := 5) rfl ?_
  have D_5 := Q.dta (t := i) (by omega)
  refine j_callV C (As := [.int (nI i)]) (rest := []) (c_get X.2.1 C.2.2.2.2.2.2.2.2 G Q.lst D_5.1 i (th i) (by omega) D_5.2.2.1 (by omega) D_5.2.1) (cwV 1 C.2.2.2.2.1 gX3_edit_Jx4a65c_get_915e3 rfl rfl rfl (by decide +kernel) (by rw [hXR]; decide)) Q.lst rfl rfl rfl (Nat.le_of_ble_eq_true rfl) dX3_edit_5 (pc' := 8) rfl (by rw [hXR]; exact Nat.le_of_ble_eq_true rfl) (by rw [hXR]; exact Nat.le_of_ble_eq_true rfl) (fun _ _ z => z.elim) ?_
  rintro r h' ⟨rfl, hh⟩
  have hh := hh.symm
  subst hh
  show jW X G 7 0 0 8 [(0, .ref xo), (1, .int (nI o)), (2, .int (nI i)), (3, .int v), (4, .ref c)] [.ref (th i)] h
  refine j_cast C (CN := RX1) (T := TX1) (N := 2) (ci := 2) (index := 111) (a := th i) (fs := [.int (nI (a 7 i)), .ref (va (a 8 i))]) (Q.thing (t := i) (by omega)) rfl (by decide +kernel) dX3_edit_8 (pc' := 11) rfl ?_
  refine j_astore C (i := 5) (x := th i) (l' := [(5, .ref (th i)), (0, .ref xo), (1, .int (nI o)), (2, .int (nI i)), (3, .int v), (4, .ref c)]) dX3_edit_11 (pc' := 13) rfl (by decide) rfl ?_
  refine j_aload C (i := 5) (x := th i) 0 rfl dX3_edit_13 (pc' := 15) rfl ?_
  refine j_get C (ref := "MapRevisions$Thing") (CN := RX1) (T := TX1) (N := 2) (ci := 2) (index := 138) (a := th i) (kf := 1) (fs := [.int (nI (a 7 i)), .ref (va (a 8 i))]) (v := .ref (va (a 8 i))) hinX1 rfl (by decide) (by decide +kernel) rfl (Q.thing (t := i) (by omega)) rfl dX3_edit_15 (pc' := 18) rfl ?_
  have B_1 := Q.last (t := i) (by omega)
  refine j_get C (ref := "MapRevisions$Version") (CN := RX2) (T := TX2) (N := 6) (ci := 3) (index := 151) (a := va (a 8 i)) (kf := 4) (fs := [cP va (a 13 (a 8 i)), .int (nI (a 12 (a 8 i))), .int (nI (a 14 (a 8 i))), .int (nI (a 15 (a 8 i))), .ref (ca (a 8 i)), .int (nI (a 17 (a 8 i)))]) (v := .ref (ca (a 8 i))) hinX2 rfl (by decide) (by decide +kernel) rfl (Q.ver (v := (a 8 i)) (by omega)) rfl dX3_edit_18 (pc' := 21) rfl ?_
  refine j_get C (ref := "MapRevisions$Content") (CN := RX0) (T := TX0) (N := 4) (ci := 1) (index := 154) (a := ca (a 8 i)) (kf := 0) (fs := [.int (nI (a 16 (a 8 i))), .int (nI (a 18 (a 8 i) / 100)), .int (nI (a 18 (a 8 i) % 100)), .ref (ma (a 8 i))]) (v := .int (nI (a 16 (a 8 i)))) hinX0 rfl (by decide) (by decide +kernel) rfl (Q.con (v := (a 8 i)) (by omega)) rfl dX3_edit_21 (pc' := 24) rfl ?_
  have B_2 := IA.there I (a 8 i)
  refine j_if_ne C dX3_edit_24 (tgt := 29) (by decide) (pc' := 27) rfl (fun c_3 => ?_) (fun c_3 => ?_)
  · have c_3 := fun zq => c_3 ((nI_eq (a := a 16 (a 8 i)) (b := 0) (by omega) (by omega)).mpr zq)
    have c_3 : ¬ (a 16 (a 8 i)) = 0 := c_3
    refine j_aload C (i := 5) (x := th i) 0 rfl dX3_edit_29 (pc' := 31) rfl ?_
    refine j_get C (ref := "MapRevisions$Thing") (CN := RX1) (T := TX1) (N := 2) (ci := 2) (index := 138) (a := th i) (kf := 1) (fs := [.int (nI (a 7 i)), .ref (va (a 8 i))]) (v := .ref (va (a 8 i))) hinX1 rfl (by decide) (by decide +kernel) rfl (Q.thing (t := i) (by omega)) rfl dX3_edit_31 (pc' := 34) rfl ?_
    have B_4 := Q.last (t := i) (by omega)
    refine j_get C (ref := "MapRevisions$Version") (CN := RX2) (T := TX2) (N := 6) (ci := 3) (index := 142) (a := va (a 8 i)) (kf := 1) (fs := [cP va (a 13 (a 8 i)), .int (nI (a 12 (a 8 i))), .int (nI (a 14 (a 8 i))), .int (nI (a 15 (a 8 i))), .ref (ca (a 8 i)), .int (nI (a 17 (a 8 i)))]) (v := .int (nI (a 12 (a 8 i)))) hinX2 rfl (by decide) (by decide +kernel) rfl (Q.ver (v := (a 8 i)) (by omega)) rfl dX3_edit_34 (pc' := 37) rfl ?_
    have B_5 := IA.big I 12 (a 8 i)
    refine j_iload_n C (i := 3) (x := v) 4 rfl dX3_edit_37 (pc' := 38) rfl ?_
    refine j_icmp_eq C dX3_edit_38 (tgt := 44) (by decide) (pc' := 41) rfl (fun c_6 => ?_) (fun c_6 => ?_)
    · refine j_aload_n C (i := 0) (x := xo) 1 rfl dX3_edit_44 (pc' := 45) rfl ?_
      refine j_iload_n C (i := 2) (x := nI i) 3 rfl dX3_edit_45 (pc' := 46) rfl ?_
      refine j_aload C (i := 4) (x := c) 5 rfl dX3_edit_46 (pc' := 48) rfl ?_
      refine j_callV C (As := [.int (nI i), .ref c]) (rest := []) (c_refusal X.2.1 C.2.2.2.2.2.2.2.2 G Q J I (g := fun j => a' 20 (6 * s 10 + j)) hcc hmm he hg hN hz i (by omega)) (cwV 2 C.2.2.2.2.1 gX3_edit_X3_refusalOf rfl rfl rfl (by decide +kernel) (by rw [hXR]; decide)) Q.obj rfl rfl rfl (Nat.le_of_ble_eq_true rfl) dX3_edit_48 (pc' := 51) rfl (by rw [hXR]; exact Nat.le_of_ble_eq_true rfl) (by rw [hXR]; exact Nat.le_of_ble_eq_true rfl) (fun _ _ z => z.elim) ?_
      rintro r h' ⟨rfl, hh⟩
      have hh := hh.symm
      subst hh
      show jW X G 7 0 0 51 [(5, .ref (th i)), (0, .ref xo), (1, .int (nI o)), (2, .int (nI i)), (3, .int v), (4, .ref c)] [.int (refF s a i (a' 16 (s 10)) (fun j => a' 20 (6 * s 10 + j)) (a' 19 (s 10)))] h
      refine j_istore C (i := 6) (x := refF s a i (a' 16 (s 10)) (fun j => a' 20 (6 * s 10 + j)) (a' 19 (s 10))) (l' := [(6, .int (refF s a i (a' 16 (s 10)) (fun j => a' 20 (6 * s 10 + j)) (a' 19 (s 10)))), (5, .ref (th i)), (0, .ref xo), (1, .int (nI o)), (2, .int (nI i)), (3, .int v), (4, .ref c)]) dX3_edit_51 (pc' := 53) rfl (by decide) rfl ?_
      refine j_iload C (i := 6) (x := refF s a i (a' 16 (s 10)) (fun j => a' 20 (6 * s 10 + j)) (a' 19 (s 10))) 0 rfl dX3_edit_53 (pc' := 55) rfl ?_
      refine j_if_eq C dX3_edit_55 (tgt := 63) (by decide) (pc' := 58) rfl (fun c_7 => ?_) (fun c_7 => ?_)
      · refine j_aload_n C (i := 0) (x := xo) 2 rfl dX3_edit_63 (pc' := 64) rfl ?_
        refine j_iload_n C (i := 1) (x := nI o) 3 rfl dX3_edit_64 (pc' := 65) rfl ?_
        refine j_aload C (i := 5) (x := th i) 1 rfl dX3_edit_65 (pc' := 67) rfl ?_
        refine j_aload C (i := 4) (x := c) 6 rfl dX3_edit_67 (pc' := 69) rfl ?_
        refine j_callV C (As := [.int (nI o), .ref (th i), .ref c]) (rest := []) (c_addV X.2.1 C.2.2.2.2.2.2.2.2 G Q J I hi ho g6 h7 N V hcc hmm he hmx hPn hPo hPm) (cwV 3 C.2.2.2.2.1 gX3_edit_X3_addVersion rfl rfl rfl (by decide +kernel) (by rw [hXR]; decide)) Q.obj rfl rfl rfl (Nat.le_of_ble_eq_true rfl) dX3_edit_69 (pc' := 72) rfl (by rw [hXR]; exact Nat.le_of_ble_eq_true rfl) (by rw [hXR]; exact Nat.le_of_ble_eq_true rfl) (fun _ _ z => z.elim) ?_
        rintro r h' ⟨rfl, hE, hF⟩
        show jW X G 7 1 6 72 [(6, .int (refF s a i (a' 16 (s 10)) (fun j => a' 20 (6 * s 10 + j)) (a' 19 (s 10)))), (5, .ref (th i)), (0, .ref xo), (1, .int (nI o)), (2, .int (nI i)), (3, .int v), (4, .ref c)] [.int (nI (a 12 (a 8 i) + 1))] (h')
        exact j_iret C E dX3_edit_72 rfl (Nat.le_of_ble_eq_true rfl) (Nat.le_of_ble_eq_true rfl) (Or.inr (Or.inr (Or.inr ⟨decide_eq_true (show a 16 (a 8 i) = 1 by omega), c_6, c_7, rfl, hE, hF⟩)))
      · refine j_iload C (i := 6) (x := refF s a i (a' 16 (s 10)) (fun j => a' 20 (6 * s 10 + j)) (a' 19 (s 10))) 0 rfl dX3_edit_58 (pc' := 60) rfl ?_
        refine j_goto C dX3_edit_60 (pc' := 72) (by decide) ?_
        exact j_iret C E dX3_edit_72 rfl (Nat.le_of_ble_eq_true rfl) (Nat.le_of_ble_eq_true rfl) (Or.inr (Or.inr (Or.inl ⟨decide_eq_true (show a 16 (a 8 i) = 1 by omega), c_6, c_7, rfl, rfl⟩)))
    · refine j_bipush C (v := (-2)) rfl dX3_edit_41 (pc' := 43) rfl ?_
      exact j_iret C E dX3_edit_43 rfl (Nat.le_of_ble_eq_true rfl) (Nat.le_of_ble_eq_true rfl) (Or.inr (Or.inl ⟨decide_eq_true (show a 16 (a 8 i) = 1 by omega), c_6, rfl, rfl⟩))
  · have c_3 := (nI_eq (a := a 16 (a 8 i)) (b := 0) (by omega) (by omega)).mp c_3
    have c_3 : (a 16 (a 8 i)) = 0 := c_3
    refine j_iconst C (v := (-1)) rfl dX3_edit_27 (pc' := 28) rfl ?_
    exact j_iret C E dX3_edit_28 rfl (Nat.le_of_ble_eq_true rfl) (Nat.le_of_ble_eq_true rfl) (Or.inl ⟨decide_eq_false (show ¬ a 16 (a 8 i) = 1 by omega), rfl, rfl⟩)
