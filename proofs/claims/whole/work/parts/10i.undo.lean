theorem und25 {s : mS} {a : mA} {b t o : Nat} : (oUndoes s a b t o).2.1 25 = s 25 := by
  have g0 : (oUnd0 s a b t).2.1 25 = s 25 := by unfold oUnd0; split <;> rfl
  unfold oUndoes
  split
  · exact g0
  · split
    · unfold oUnd1
      split
      · rfl
      · split
        · rfl
        · split <;> rfl
    · exact g0
theorem oU1_no {b o t y : Nat} {s : mS} {a : mA} (h : mHasOf s a t o = false) : oU1 b o t (y, s, a) = (y, s, a) := by
  unfold oU1
  rw [if_neg (bff h)]
theorem oU1_ne {b o t y : Nat} {s : mS} {a : mA} (h : mHasOf s a t o = true) (hl : ¬ a 14 (a 8 t) = o) : oU1 b o t (y, s, a) = (y + 1, s, a) := by
  unfold oU1
  rw [if_pos h, if_neg hl]
theorem oU1_t {b o t y : Nat} {s : mS} {a : mA} (h : mHasOf s a t o = true) (hl : a 14 (a 8 t) = o) (hu : (oUndoes s a b t o).1 = true) : oU1 b o t (y, s, a) = (y, (oUndoes s a b t o).2.1, (oUndoes s a b t o).2.2) := by
  unfold oU1
  rw [if_pos h, if_pos hl, if_pos hu]
  rfl
theorem oU1_f {b o t y : Nat} {s : mS} {a : mA} (h : mHasOf s a t o = true) (hl : a 14 (a 8 t) = o) (hu : (oUndoes s a b t o).1 = false) : oU1 b o t (y, s, a) = (y + 1, (oUndoes s a b t o).2.1, (oUndoes s a b t o).2.2) := by
  unfold oU1
  rw [if_pos h, if_pos hl, if_neg (bff hu)]
set_option maxRecDepth 100000 in
set_option maxHeartbeats 4000000 in
theorem c_undo (l : Launch) (hlt : l.stackTraces = false) (G : jG) {P : Nat → Prop} {xo : Nat} {xa th va ca ma : Nat → Nat} {dat cap : Nat} {mod : Int32} {df : Nat → Option Nat} {vf dr : Nat → Int32} {mf : Nat → Nat → Int32} {s : mS} {a : mA} {h : jH} (Q : cQ G P xo xa th va ca ma dat cap mod df vf dr mf s a h) (J : IS s) (I : IA a) {n9 : Nat} (p q : Int32) (hWW : WW n9 s a) (hn9 : n9 ≤ 512) (hPn : ∀ w, P w → h w ≠ none) (hPo : ∀ v, v < s 10 → ¬ P (ma v)) : jM l G yX3_undo wsX3_undo 7 164 43 258 [.ref xo, .int p, .int q] h (fun r h' => r = some (.int (oUndo s a p q).1) ∧ (oUndo s a p q).2.1 25 = 0 ∧ cE G P xo xa (oUndo s a p q).2.1 (oUndo s a p q).2.2 h' ∧ ∀ q, P q → h' q = h q) (fun E h' => (E = "java/lang/IndexOutOfBoundsException" ∧ h' = h ∧ (oUndo s a p q).2.1 25 = 1) ∨ (E = "java/lang/IllegalStateException" ∧ h' = h ∧ (oUndo s a p q).2.1 25 = 2)) := by
  have h6 := J.2.1
  have h2 := J.2.2.1
  have h4 := J.2.2.2.1
  have h10 := J.2.2.2.2.1
  have hs0 := J.1 0
  have hs1 := J.1 1
  refine jM_of (cc := cX3_undo) (maxL := 5) (ret := (some .int)) hlt (by decide +kernel) rfl (Nat.le_of_ble_eq_true rfl) ?_
  intro X C E hXl hXR hXn
  have hinX3 : ∀ w ∈ u_ws RX3 TX3 11, w ∈ wsX3_undo := by decide +kernel
  show jW X G 5 0 0 0 [(0, .ref xo), (1, .int p), (2, .int q)] [] h
  refine j_aload_n C (i := 0) (x := xo) 0 rfl dX3_undo_0 (pc' := 1) rfl ?_
  refine j_iload_n C (i := 1) (x := p) 1 rfl dX3_undo_1 (pc' := 2) rfl ?_
  refine j_callV C (As := [.int p]) (rest := []) (c_needSet X.2.1 C.2.2.2.2.2.2.2.2 G Q J I p) (cwV 1 C.2.2.2.2.1 gX3_undo_X3_needSet rfl rfl rfl (by decide +kernel) (by rw [hXR]; decide)) Q.obj rfl rfl rfl (Nat.le_of_ble_eq_true rfl) dX3_undo_2 (pc' := 5) rfl (by rw [hXR]; exact Nat.le_of_ble_eq_true rfl) (by rw [hXR]; exact Nat.le_of_ble_eq_true rfl) (by rintro E' h' ⟨rfl, hx, ex_1⟩; exact j_out C E (Nat.le_of_ble_eq_true rfl) (Nat.le_of_ble_eq_true rfl) (Or.inl (⟨rfl, hx, by unfold oUndo; rw [if_neg (fun z => bff ex_1 z.1)] <;> rfl⟩))) ?_
  rintro r h' ⟨rfl, hh, nd_2⟩
  have hh := hh.symm
  subst hh
  show jW X G 5 1 6 5 [(0, .ref xo), (1, .int p), (2, .int q)] [] h
  obtain ⟨j, hj, rfl⟩ := inN_of nd_2
  refine j_aload_n C (i := 0) (x := xo) 0 rfl dX3_undo_5 (pc' := 6) rfl ?_
  refine j_iload_n C (i := 2) (x := q) 2 rfl dX3_undo_6 (pc' := 7) rfl ?_
  refine j_callV C (As := [.int q]) (rest := []) (c_needSet X.2.1 C.2.2.2.2.2.2.2.2 G Q J I q) (cwV 1 C.2.2.2.2.1 gX3_undo_X3_needSet rfl rfl rfl (by decide +kernel) (by rw [hXR]; decide)) Q.obj rfl rfl rfl (Nat.le_of_ble_eq_true rfl) dX3_undo_7 (pc' := 10) rfl (by rw [hXR]; exact Nat.le_of_ble_eq_true rfl) (by rw [hXR]; exact Nat.le_of_ble_eq_true rfl) (by rintro E' h' ⟨rfl, hx, ex_3⟩; exact j_out C E (Nat.le_of_ble_eq_true rfl) (Nat.le_of_ble_eq_true rfl) (Or.inl (⟨rfl, hx, by unfold oUndo; rw [if_neg (fun z => bff ex_3 z.2)] <;> rfl⟩))) ?_
  rintro r h' ⟨rfl, hh, nd_4⟩
  have hh := hh.symm
  subst hh
  show jW X G 5 2 12 10 [(0, .ref xo), (1, .int (nI j)), (2, .int q)] [] h
  obtain ⟨l, hl, rfl⟩ := inN_of nd_4
  refine j_aload_n C (i := 0) (x := xo) 0 rfl dX3_undo_10 (pc' := 11) rfl ?_
  refine j_iload_n C (i := 1) (x := nI j) 1 rfl dX3_undo_11 (pc' := 12) rfl ?_
  refine j_callV C (As := [.int (nI j)]) (rest := []) (c_needOpen X.2.1 C.2.2.2.2.2.2.2.2 G Q J I j hj) (cwV 1 C.2.2.2.2.1 gX3_undo_X3_needOpen rfl rfl rfl (by decide +kernel) (by rw [hXR]; decide)) Q.obj rfl rfl rfl (Nat.le_of_ble_eq_true rfl) dX3_undo_12 (pc' := 15) rfl (by rw [hXR]; exact Nat.le_of_ble_eq_true rfl) (by rw [hXR]; exact Nat.le_of_ble_eq_true rfl) (by rintro E' h' ⟨rfl, hx, ex_5⟩; exact j_out C E (Nat.le_of_ble_eq_true rfl) (Nat.le_of_ble_eq_true rfl) (Or.inr (⟨rfl, hx, by unfold oUndo; rw [if_pos (show inN (nI j) (s 2) = true ∧ inN (nI l) (s 2) = true from ⟨by rw [inN_nI (by omega)]; exact decide_eq_true hj, by rw [inN_nI (by omega)]; exact decide_eq_true hl⟩), tn_nI (j := j) (by omega), if_neg (fun z => ex_5 z.1)] <;> rfl⟩))) ?_
  rintro r h' ⟨rfl, hh, nd_6⟩
  have hh := hh.symm
  subst hh
  show jW X G 5 3 18 15 [(0, .ref xo), (1, .int (nI j)), (2, .int (nI l))] [] h
  have hop := nd_6
  refine j_aload_n C (i := 0) (x := xo) 0 rfl dX3_undo_15 (pc' := 16) rfl ?_
  refine j_get C (ref := "MapRevisions") (CN := RX3) (T := TX3) (N := 11) (ci := 4) (index := 29) (a := xo) (kf := 3) (fs := [.ref (xa 0), .ref (xa 1), .ref (xa 2), .ref (xa 3), .ref (xa 4), .ref (xa 5), .int (nI (s 2)), .int (nI (s 4)), .int (nI (s 10)), .int (nI (s 0)), .int (nI (s 1))]) (v := .ref (xa 3)) hinX3 rfl (by decide) (by decide +kernel) rfl Q.obj rfl dX3_undo_16 (pc' := 19) rfl ?_
  refine j_iload_n C (i := 2) (x := nI l) 2 rfl dX3_undo_19 (pc' := 20) rfl ?_
  refine j_zald C (a := xa 3) (N := 20) (j := l) Q.closed rfl (by omega) (by omega) dX3_undo_20 (pc' := 21) rfl ?_
  show jW X G 5 3 18 21 [(0, .ref xo), (1, .int (nI j)), (2, .int (nI l))] [.int (nI (a 3 l))] h
  have B_7 := IA.closed I l
  refine j_if_ne C dX3_undo_21 (tgt := 34) (by decide) (pc' := 24) rfl (fun c_8 => ?_) (fun c_8 => ?_)
  · have c_8 := fun zq => c_8 ((nI_eq (a := a 3 l) (b := 0) (by omega) (by omega)).mpr zq)
    have c_8 : ¬ (a 3 l) = 0 := c_8
    refine j_iconst C (v := nI 0) rfl dX3_undo_34 (pc' := 35) rfl ?_
    refine j_istore_n C (i := 3) (x := nI 0) (l' := [(3, .int (nI 0)), (0, .ref xo), (1, .int (nI j)), (2, .int (nI l))]) dX3_undo_35 (pc' := 36) rfl (by decide) rfl ?_
    refine j_aload_n C (i := 0) (x := xo) 1 rfl dX3_undo_36 (pc' := 37) rfl ?_
    refine j_get C (ref := "MapRevisions") (CN := RX3) (T := TX3) (N := 11) (ci := 4) (index := 25) (a := xo) (kf := 2) (fs := [.ref (xa 0), .ref (xa 1), .ref (xa 2), .ref (xa 3), .ref (xa 4), .ref (xa 5), .int (nI (s 2)), .int (nI (s 4)), .int (nI (s 10)), .int (nI (s 0)), .int (nI (s 1))]) (v := .ref (xa 2)) hinX3 rfl (by decide) (by decide +kernel) rfl Q.obj rfl dX3_undo_37 (pc' := 40) rfl ?_
    refine j_callV C (As := []) (rest := []) (c_size X.2.1 C.2.2.2.2.2.2.2.2 G Q.lst) (cwV 0 C.2.2.2.2.1 gX3_undo_Jx4a65c_size_8abf5 rfl rfl rfl (by decide +kernel) (by rw [hXR]; decide)) Q.lst rfl rfl rfl (Nat.le_of_ble_eq_true rfl) dX3_undo_40 (pc' := 43) rfl (by rw [hXR]; exact Nat.le_of_ble_eq_true rfl) (by rw [hXR]; exact Nat.le_of_ble_eq_true rfl) (fun _ _ z => z.elim) ?_
    rintro r h' ⟨rfl, hh⟩
    have hh := hh.symm
    subst hh
    show jW X G 5 3 18 43 [(3, .int (nI 0)), (0, .ref xo), (1, .int (nI j)), (2, .int (nI l))] [.int (nI (s 6))] h
    refine j_iconst C (v := nI 1) rfl dX3_undo_43 (pc' := 44) rfl ?_
    refine j_isub C (x := nI (s 6)) (y := nI 1) dX3_undo_44 (pc' := 45) rfl ?_
    refine j_istore C (i := 4) (x := nI (s 6) - nI 1) (l' := [(4, .int (nI (s 6) - nI 1)), (3, .int (nI 0)), (0, .ref xo), (1, .int (nI j)), (2, .int (nI l))]) dX3_undo_45 (pc' := 47) rfl (by decide) rfl ?_
    obtain ⟨O, hO⟩ : ∃ O, O = oUR j l (s 6) (0, va_up s 25 0, a) := ⟨_, rfl⟩
    obtain ⟨M, hM⟩ : ∃ M, M = s 6 := ⟨_, rfl⟩
    have hOU : oUndo s a (nI j) (nI l) = (nI O.1, O.2.1, O.2.2) := by
      unfold oUndo
      rw [if_pos (show inN (nI j) (s 2) = true ∧ inN (nI l) (s 2) = true from ⟨by rw [inN_nI (by omega)]; exact decide_eq_true hj, by rw [inN_nI (by omega)]; exact decide_eq_true hl⟩), tn_nI (j := j) (by omega), tn_nI (j := l) (by omega), if_pos (show a 3 j = 0 ∧ a 3 l = 1 from ⟨hop, by omega⟩), hO]
    have hU0 : WU n9 j l M (va_up s 25 0) a := by
      have z := hWW.toU (p := nI j) (q := nI l) ((show inN (nI j) (s 2) = true ∧ inN (nI l) (s 2) = true from ⟨by rw [inN_nI (by omega)]; exact decide_eq_true hj, by rw [inN_nI (by omega)]; exact decide_eq_true hl⟩)) (by rw [tn_nI (by omega), tn_nI (by omega)]; exact ⟨hop, by omega⟩)
      rw [tn_nI (by omega), tn_nI (by omega), ← hM] at z
      exact z
    rw [← hM] at hO
    have hMM : M ≤ 40 := by omega
    have hl20 : l < 20 := by omega
    have hj20 : j < 20 := by omega
    have hE0 : cE G P xo xa (va_up s 25 0) a h := (Q.same (s' := va_up s 25 0) (a' := a) (fun f h25 _ => up_n h25) (fun f _ _ _ _ _ => rfl)).e hPo
    have L47 : ∀ (t y : Nat) (s : mS) (a : mA) (g : jH) (k n : Nat), t ≤ M → y + t ≤ M → WU n9 j l M s a → cE G P xo xa s a g → (∀ w, P w → g w = h w) → s 25 = 0 → oUR j l t (y, s, a) = O → k + t ≤ 43 → n + 6 * t ≤ 258 → jW X G 5 k n 47 [(4, .int (mP t)), (3, .int (nI y)), (0, .ref xo), (1, .int (nI j)), (2, .int (nI l))] [] g := by
      clear Q J I hPo hE0 hU0 hO hWW h6 h2 h4 h10 hs0 hs1 hM
      intro t
      induction t with
      | zero =>
        intro y s a g k n ht hy hU hE hF h25 hR hk hn
        have hR : O = (y, s, a) := hR.symm
        subst hR
        refine jt_loc (l' := [(4, .int ((-1))), (3, .int (nI y)), (0, .ref xo), (1, .int (nI j)), (2, .int (nI l))]) (by rw [mP_0]) ?_
        refine j_iload C (i := 4) (x := (-1)) 0 rfl dX3_undo_47 (pc' := 49) rfl ?_
        refine j_if_lt C dX3_undo_49 (tgt := 82) (by decide) (pc' := 52) rfl (fun _ => ?_) (fun c_9 => absurd (by decide) c_9)
        refine j_iload_n C (i := 3) (x := nI y) 1 rfl dX3_undo_82 (pc' := 83) rfl ?_
        exact j_iret C E dX3_undo_83 rfl (by omega) (by omega) (by rw [hOU]; exact ⟨rfl, h25, hE, hF⟩)
      | succ u ih =>
        intro y s a g k n ht hy hU hE hF h25 hR hk hn
        have hR1 : ∀ {z : mZ3}, oU1 j l u (y, s, a) = z → oUR j l u z = O := fun hz => by rw [← hz]; exact hR
        have hE2 := hE
        obtain ⟨th, va, ca, ma, dat, cap, mod, df, vf, dr, mf, Q, hPo⟩ := hE2
        have W := hU.1
        have J := W.J
        have I := W.I
        have hs6 : s 6 = M := hU.2.2.2.2.2.2
        have hu6 : u < s 6 := by omega
        have hPn1 : ∀ w, P w → g w ≠ none := fun w hw z => hPn w hw (by rw [← hF w hw]; exact z)
        refine jt_loc (l' := [(4, .int (nI u)), (3, .int (nI y)), (0, .ref xo), (1, .int (nI j)), (2, .int (nI l))]) (by rw [mP_s]) ?_
        refine j_iload C (i := 4) (x := nI u) 0 rfl dX3_undo_47 (pc' := 49) rfl ?_
        refine j_if_lt C dX3_undo_49 (tgt := 82) (by decide) (pc' := 52) rfl (fun c_10 => ?_) (fun c_10 => ?_)
        · have c_10 := (nI_ltI (a := u) (b := 0) (by omega) (by omega)).mp c_10
          have c_10 : u < 0 := c_10
          omega
        · have c_10 := fun zq => c_10 ((nI_ltI (a := u) (b := 0) (by omega) (by omega)).mpr zq)
          have c_10 : ¬ u < 0 := c_10
          refine j_aload_n C (i := 0) (x := xo) 2 rfl dX3_undo_52 (pc' := 53) rfl ?_
          refine j_iload C (i := 4) (x := nI u) 0 rfl dX3_undo_53 (pc' := 55) rfl ?_
          refine j_iload_n C (i := 2) (x := nI l) 4 rfl dX3_undo_55 (pc' := 56) rfl ?_
          refine j_callV C (As := [.int (nI u), .int (nI l)]) (rest := []) (c_hvo X.2.1 C.2.2.2.2.2.2.2.2 G Q J I u l hu6 (by omega)) (cwV 2 C.2.2.2.2.1 gX3_undo_X3_hasVersionOf rfl rfl rfl (by decide +kernel) (by rw [hXR]; decide)) Q.obj rfl rfl rfl (Nat.le_of_ble_eq_true rfl) dX3_undo_56 (pc' := 59) rfl (by rw [hXR]; show k + 0 ≤ 43; omega) (by rw [hXR]; show n + 0 ≤ 258; omega) (fun _ _ z => z.elim) ?_
          rintro r h' ⟨rfl, hh⟩
          have hh := hh.symm
          subst hh
          show jW X G 5 k n 59 [(4, .int (nI u)), (3, .int (nI y)), (0, .ref xo), (1, .int (nI j)), (2, .int (nI l))] [.int (bI (mChH a u l))] g
          rcases hb_11 : (mChH a u l) with _ | _
          · show jW X G 5 k n 59 [(4, .int (nI u)), (3, .int (nI y)), (0, .ref xo), (1, .int (nI j)), (2, .int (nI l))] [.int (nI 0)] g
            have hmh : mHasOf s a u l = false := (has_of W hu6).symm.trans hb_11
            refine j_if_eq C dX3_undo_59 (tgt := 76) (by decide) (pc' := 62) rfl (fun _ => ?_) (fun c_12 => absurd (by decide) c_12)
            refine j_iinc C (i := 4) (q := 0) (x := nI u) (v := mP u) (l' := [(4, .int (mP u)), (3, .int (nI y)), (0, .ref xo), (1, .int (nI j)), (2, .int (nI l))]) dX3_undo_76 (pc' := 79) rfl rfl (mP_dec _) (by decide) rfl ?_
            refine j_goto C dX3_undo_79 (pc' := 47) (by decide) ?_
            exact jW.locals [0, 1, 2, 3, 4] rfl (ih y s a g k n (by omega) (by omega) hU hE hF h25 (hR1 (oU1_no hmh)) (by omega) (by omega))
          · show jW X G 5 k n 59 [(4, .int (nI u)), (3, .int (nI y)), (0, .ref xo), (1, .int (nI j)), (2, .int (nI l))] [.int (nI 1)] g
            have hmh : mHasOf s a u l = true := (has_of W hu6).symm.trans hb_11
            refine j_if_eq C dX3_undo_59 (tgt := 76) (by decide) (pc' := 62) rfl (fun c_13 => absurd c_13 (by decide)) (fun _ => ?_)
            refine j_aload_n C (i := 0) (x := xo) 2 rfl dX3_undo_62 (pc' := 63) rfl ?_
            refine j_iload_n C (i := 1) (x := nI j) 3 rfl dX3_undo_63 (pc' := 64) rfl ?_
            refine j_iload C (i := 4) (x := nI u) 0 rfl dX3_undo_64 (pc' := 66) rfl ?_
            refine j_iload_n C (i := 2) (x := nI l) 4 rfl dX3_undo_66 (pc' := 67) rfl ?_
            refine j_callV C (As := [.int (nI j), .int (nI u), .int (nI l)]) (rest := []) (c_undoT X.2.1 C.2.2.2.2.2.2.2.2 G Q J I j u l W hu6 (by omega) (by omega) hPn1 hPo) (cwV 3 C.2.2.2.2.1 gX3_undo_X3_undoThing rfl rfl rfl (by decide +kernel) (by rw [hXR]; decide)) Q.obj rfl rfl rfl (Nat.le_of_ble_eq_true rfl) dX3_undo_67 (pc' := 70) rfl (by rw [hXR]; show k + 1 ≤ 43; omega) (by rw [hXR]; show n + 6 ≤ 258; omega) (fun _ _ z => z.elim) ?_
            rintro r h' (⟨hne, rfl, hh⟩ | ⟨hel, rfl, hE', hF'⟩)
            · have hh := hh.symm
              subst hh
              show jW X G 5 (k + 1) (n + 6) 70 [(4, .int (nI u)), (3, .int (nI y)), (0, .ref xo), (1, .int (nI j)), (2, .int (nI l))] [.int (nI 0)] g
              refine j_if_ne C dX3_undo_70 (tgt := 76) (by decide) (pc' := 73) rfl (fun c_14 => absurd (by decide) c_14) (fun _ => ?_)
              refine j_iinc C (i := 3) (q := 1) (x := nI y) (v := nI (y + 1)) (l' := [(3, .int (nI (y + 1))), (4, .int (nI u)), (0, .ref xo), (1, .int (nI j)), (2, .int (nI l))]) dX3_undo_73 (pc' := 76) rfl rfl (nI_add _ _) (by decide) rfl ?_
              refine j_iinc C (i := 4) (q := 1) (x := nI u) (v := mP u) (l' := [(4, .int (mP u)), (3, .int (nI (y + 1))), (0, .ref xo), (1, .int (nI j)), (2, .int (nI l))]) dX3_undo_76 (pc' := 79) rfl rfl (mP_dec _) (by decide) rfl ?_
              refine j_goto C dX3_undo_79 (pc' := 47) (by decide) ?_
              exact jW.locals [0, 1, 2, 3, 4] rfl (ih (y + 1) s a g (k + 1) (n + 6) (by omega) (by omega) hU hE hF h25 (hR1 (oU1_ne hmh hne)) (by omega) (by omega))
            · show jW X G 5 (k + 1) (n + 6) 70 [(4, .int (nI u)), (3, .int (nI y)), (0, .ref xo), (1, .int (nI j)), (2, .int (nI l))] [.int (bI ((oUndoes s a j u l).1))] (h')
              rcases hb_15 : ((oUndoes s a j u l).1) with _ | _
              · show jW X G 5 (k + 1) (n + 6) 70 [(4, .int (nI u)), (3, .int (nI y)), (0, .ref xo), (1, .int (nI j)), (2, .int (nI l))] [.int (nI 0)] (h')
                have hut := hb_15
                refine j_if_ne C dX3_undo_70 (tgt := 76) (by decide) (pc' := 73) rfl (fun c_16 => absurd (by decide) c_16) (fun _ => ?_)
                refine j_iinc C (i := 3) (q := 1) (x := nI y) (v := nI (y + 1)) (l' := [(3, .int (nI (y + 1))), (4, .int (nI u)), (0, .ref xo), (1, .int (nI j)), (2, .int (nI l))]) dX3_undo_73 (pc' := 76) rfl rfl (nI_add _ _) (by decide) rfl ?_
                refine j_iinc C (i := 4) (q := 1) (x := nI u) (v := mP u) (l' := [(4, .int (mP u)), (3, .int (nI (y + 1))), (0, .ref xo), (1, .int (nI j)), (2, .int (nI l))]) dX3_undo_76 (pc' := 79) rfl rfl (mP_dec _) (by decide) rfl ?_
                refine j_goto C dX3_undo_79 (pc' := 47) (by decide) ?_
                exact jW.locals [0, 1, 2, 3, 4] rfl (ih (y + 1) (oUndoes s a j u l).2.1 (oUndoes s a j u l).2.2 h' (k + 1) (n + 6) (by omega) (by omega) (hU.undoes hn9 (by omega) hel) hE' (fun w hw => (hF' w hw).trans (hF w hw)) (und25.trans h25) (hR1 (oU1_f hmh hel hut)) (by omega) (by omega))
              · show jW X G 5 (k + 1) (n + 6) 70 [(4, .int (nI u)), (3, .int (nI y)), (0, .ref xo), (1, .int (nI j)), (2, .int (nI l))] [.int (nI 1)] (h')
                have hut := hb_15
                refine j_if_ne C dX3_undo_70 (tgt := 76) (by decide) (pc' := 73) rfl (fun _ => ?_) (fun c_17 => absurd c_17 (by decide))
                refine j_iinc C (i := 4) (q := 0) (x := nI u) (v := mP u) (l' := [(4, .int (mP u)), (3, .int (nI y)), (0, .ref xo), (1, .int (nI j)), (2, .int (nI l))]) dX3_undo_76 (pc' := 79) rfl rfl (mP_dec _) (by decide) rfl ?_
                refine j_goto C dX3_undo_79 (pc' := 47) (by decide) ?_
                exact jW.locals [0, 1, 2, 3, 4] rfl (ih y (oUndoes s a j u l).2.1 (oUndoes s a j u l).2.2 h' (k + 1) (n + 6) (by omega) (by omega) (hU.undoes hn9 (by omega) hel) hE' (fun w hw => (hF' w hw).trans (hF w hw)) (und25.trans h25) (hR1 (oU1_t hmh hel hut)) (by omega) (by omega))
    have h6M : mP (s 6) = nI (s 6) - nI 1 := rfl
    refine jt_loc (l' := [(4, .int (mP M)), (3, .int (nI 0)), (0, .ref xo), (1, .int (nI j)), (2, .int (nI l))]) (by rw [hM, h6M]) ?_
    exact L47 M 0 (va_up s 25 0) a h 3 18 (Nat.le_refl _) (by omega) hU0 hE0 (fun w hw => rfl) rfl hO.symm (by omega) (by omega)
  · have c_8 := (nI_eq (a := a 3 l) (b := 0) (by omega) (by omega)).mp c_8
    have c_8 : (a 3 l) = 0 := c_8
    exact j_throw C E (cls := "java/lang/IllegalStateException") (text := "the set to undo is open") (ik := 55) (is := 124) (ic := 59) (by decide +kernel) (by decide +kernel) (by decide +kernel) (by decide +kernel) (by decide +kernel) jt_ise.1 jt_ise.2.1 jt_ise.2.2 dX3_undo_24 dX3_undo_27 dX3_undo_28 dX3_undo_30 dX3_undo_33 (by rw [hXR]; exact Nat.le_of_ble_eq_true rfl) (by rw [hXR]; exact Nat.le_of_ble_eq_true rfl) (Nat.le_of_ble_eq_true rfl) (Nat.le_of_ble_eq_true rfl) ((Or.inr ⟨rfl, rfl, by unfold oUndo; rw [if_pos (show inN (nI j) (s 2) = true ∧ inN (nI l) (s 2) = true from ⟨by rw [inN_nI (by omega)]; exact decide_eq_true hj, by rw [inN_nI (by omega)]; exact decide_eq_true hl⟩), tn_nI (j := j) (by omega), tn_nI (j := l) (by omega), if_neg (fun z => by omega)] <;> rfl⟩))
