set_option maxRecDepth 100000 in
set_option maxHeartbeats 4000000 in
theorem c_move (l : Launch) (hlt : l.stackTraces = false) (G : jG) {P : Nat → Prop} {xo : Nat} {xa th va ca ma : Nat → Nat} {dat cap : Nat} {mod : Int32} {df : Nat → Option Nat} {vf dr : Nat → Int32} {mf : Nat → Nat → Int32} {s : mS} {a : mA} {h : jH} (Q : cQ G P xo xa th va ca ma dat cap mod df vf dr mf s a h) (J : IS s) (I : IA a) (p t v x y : Int32) (hPn : ∀ w, P w → h w ≠ none) (hPo : ∀ v, v < s 10 → ¬ P (ma v)) (K : mCh s a) : jM l G yX3_move wsX3_move 7 165 6 34 [.ref xo, .int p, .int t, .int v, .int x, .int y] h (fun r h' => r = some (.int (oMove s a p t v x y).1) ∧ (oMove s a p t v x y).2.1 25 = 0 ∧ cE G P xo xa (oMove s a p t v x y).2.1 (oMove s a p t v x y).2.2 h' ∧ ∀ q, P q → h' q = h q) (fun E h' => (E = "java/lang/IndexOutOfBoundsException" ∧ h' = h ∧ (oMove s a p t v x y).2.1 25 = 1) ∨ (E = "java/lang/IllegalArgumentException" ∧ h' = h ∧ (oMove s a p t v x y).2.1 25 = 2) ∨ (E = "java/lang/IllegalStateException" ∧ h' = h ∧ (oMove s a p t v x y).2.1 25 = 3)) := by
  have h6 := J.2.1
  have h2 := J.2.2.1
  have h4 := J.2.2.2.1
  have h10 := J.2.2.2.2.1
  have hs0 := J.1 0
  have hs1 := J.1 1
  refine jM_of (cc := cX3_move) (maxL := 6) (ret := (some .int)) hlt (by decide +kernel) rfl (Nat.le_of_ble_eq_true rfl) ?_
  intro X C E hXl hXR hXn
  have hinX3 : ∀ w ∈ u_ws RX3 TX3 11, w ∈ wsX3_move := by decide +kernel
  have hinX1 : ∀ w ∈ u_ws RX1 TX1 2, w ∈ wsX3_move := by decide +kernel
  show jW X G 6 0 0 0 [(0, .ref xo), (1, .int p), (2, .int t), (3, .int v), (4, .int x), (5, .int y)] [] h
  refine j_aload_n C (i := 0) (x := xo) 0 rfl dX3_move_0 (pc' := 1) rfl ?_
  refine j_iload_n C (i := 1) (x := p) 1 rfl dX3_move_1 (pc' := 2) rfl ?_
  refine j_callV C (As := [.int p]) (rest := []) (c_needSet X.2.1 C.2.2.2.2.2.2.2.2 G Q J I p) (cwV 1 C.2.2.2.2.1 gX3_move_X3_needSet rfl rfl rfl (by decide +kernel) (by rw [hXR]; decide)) Q.obj rfl rfl rfl (Nat.le_of_ble_eq_true rfl) dX3_move_2 (pc' := 5) rfl (by rw [hXR]; exact Nat.le_of_ble_eq_true rfl) (by rw [hXR]; exact Nat.le_of_ble_eq_true rfl) (by rintro E' h' ⟨rfl, hx, ex_1⟩; exact j_out C E (Nat.le_of_ble_eq_true rfl) (Nat.le_of_ble_eq_true rfl) (Or.inl (⟨rfl, hx, by unfold oMove; rw [if_neg (fun z => bff ex_1 z.1)] <;> rfl⟩))) ?_
  rintro r h' ⟨rfl, hh, nd_2⟩
  have hh := hh.symm
  subst hh
  show jW X G 6 1 6 5 [(0, .ref xo), (1, .int p), (2, .int t), (3, .int v), (4, .int x), (5, .int y)] [] h
  obtain ⟨j, hj, rfl⟩ := inN_of nd_2
  refine j_aload_n C (i := 0) (x := xo) 0 rfl dX3_move_5 (pc' := 6) rfl ?_
  refine j_iload_n C (i := 2) (x := t) 2 rfl dX3_move_6 (pc' := 7) rfl ?_
  refine j_callV C (As := [.int t]) (rest := []) (c_needThing X.2.1 C.2.2.2.2.2.2.2.2 G Q J I t) (cwV 1 C.2.2.2.2.1 gX3_move_X3_needThing rfl rfl rfl (by decide +kernel) (by rw [hXR]; decide)) Q.obj rfl rfl rfl (Nat.le_of_ble_eq_true rfl) dX3_move_7 (pc' := 10) rfl (by rw [hXR]; exact Nat.le_of_ble_eq_true rfl) (by rw [hXR]; exact Nat.le_of_ble_eq_true rfl) (by rintro E' h' ⟨rfl, hx, ex_3⟩; exact j_out C E (Nat.le_of_ble_eq_true rfl) (Nat.le_of_ble_eq_true rfl) (Or.inl (⟨rfl, hx, by unfold oMove; rw [if_neg (fun z => bff ex_3 z.2)] <;> rfl⟩))) ?_
  rintro r h' ⟨rfl, hh, nd_4⟩
  have hh := hh.symm
  subst hh
  show jW X G 6 2 12 10 [(0, .ref xo), (1, .int (nI j)), (2, .int t), (3, .int v), (4, .int x), (5, .int y)] [] h
  obtain ⟨i, hi, rfl⟩ := inN_of nd_4
  refine j_aload_n C (i := 0) (x := xo) 0 rfl dX3_move_10 (pc' := 11) rfl ?_
  refine j_get C (ref := "MapRevisions") (CN := RX3) (T := TX3) (N := 11) (ci := 4) (index := 25) (a := xo) (kf := 2) (fs := [.ref (xa 0), .ref (xa 1), .ref (xa 2), .ref (xa 3), .ref (xa 4), .ref (xa 5), .int (nI (s 2)), .int (nI (s 4)), .int (nI (s 10)), .int (nI (s 0)), .int (nI (s 1))]) (v := .ref (xa 2)) hinX3 rfl (by decide) (by decide +kernel) rfl Q.obj rfl dX3_move_11 (pc' := 14) rfl ?_
  refine j_iload_n C (i := 2) (x := nI i) 2 rfl dX3_move_14 (pc' := 15) rfl ?_
  have D_15 := Q.dta (t := i) (by omega)
  refine j_callV C (As := [.int (nI i)]) (rest := []) (c_get X.2.1 C.2.2.2.2.2.2.2.2 G Q.lst D_15.1 i (th i) (by omega) D_15.2.2.1 (by omega) D_15.2.1) (cwV 1 C.2.2.2.2.1 gX3_move_Jx4a65c_get_915e3 rfl rfl rfl (by decide +kernel) (by rw [hXR]; decide)) Q.lst rfl rfl rfl (Nat.le_of_ble_eq_true rfl) dX3_move_15 (pc' := 18) rfl (by rw [hXR]; exact Nat.le_of_ble_eq_true rfl) (by rw [hXR]; exact Nat.le_of_ble_eq_true rfl) (fun _ _ z => z.elim) ?_
  rintro r h' ⟨rfl, hh⟩
  have hh := hh.symm
  subst hh
  show jW X G 6 2 12 18 [(0, .ref xo), (1, .int (nI j)), (2, .int (nI i)), (3, .int v), (4, .int x), (5, .int y)] [.ref (th i)] h
  refine j_cast C (CN := RX1) (T := TX1) (N := 2) (ci := 2) (index := 111) (a := th i) (fs := [.int (nI (a 7 i)), .ref (va (a 8 i))]) (Q.thing (t := i) (by omega)) rfl (by decide +kernel) dX3_move_18 (pc' := 21) rfl ?_
  refine j_get C (ref := "MapRevisions$Thing") (CN := RX1) (T := TX1) (N := 2) (ci := 2) (index := 113) (a := th i) (kf := 0) (fs := [.int (nI (a 7 i)), .ref (va (a 8 i))]) (v := .int (nI (a 7 i))) hinX1 rfl (by decide) (by decide +kernel) rfl (Q.thing (t := i) (by omega)) rfl dX3_move_21 (pc' := 24) rfl ?_
  have B_5 := IA.kind I i
  refine j_if_eq C dX3_move_24 (tgt := 37) (by decide) (pc' := 27) rfl (fun c_6 => ?_) (fun c_6 => ?_)
  · have c_6 := (nI_eq (a := a 7 i) (b := 0) (by omega) (by omega)).mp c_6
    have c_6 : (a 7 i) = 0 := c_6
    refine j_aload_n C (i := 0) (x := xo) 0 rfl dX3_move_37 (pc' := 38) rfl ?_
    refine j_iload C (i := 4) (x := x) 4 rfl dX3_move_38 (pc' := 40) rfl ?_
    refine j_iload C (i := 5) (x := y) 5 rfl dX3_move_40 (pc' := 42) rfl ?_
    refine j_callV C (As := [.int x, .int y]) (rest := []) (c_needPlace X.2.1 C.2.2.2.2.2.2.2.2 G Q J I x y) (cwV 2 C.2.2.2.2.1 gX3_move_X3_needPlace rfl rfl rfl (by decide +kernel) (by rw [hXR]; decide)) Q.obj rfl rfl rfl (Nat.le_of_ble_eq_true rfl) dX3_move_42 (pc' := 45) rfl (by rw [hXR]; exact Nat.le_of_ble_eq_true rfl) (by rw [hXR]; exact Nat.le_of_ble_eq_true rfl) (by rintro E' h' ⟨rfl, hx, ex_7⟩; exact j_out C E (Nat.le_of_ble_eq_true rfl) (Nat.le_of_ble_eq_true rfl) (Or.inr (Or.inl (⟨rfl, hx, by unfold oMove; rw [if_pos (show inN (nI j) (s 2) = true ∧ inN (nI i) (s 6) = true from ⟨by rw [inN_nI (by omega)]; exact decide_eq_true hj, by rw [inN_nI (by omega)]; exact decide_eq_true hi⟩), tn_nI (j := i) (by omega), if_neg (fun z => ex_7 ⟨z.2.1, z.2.2⟩)] <;> rfl⟩)))) ?_
    rintro r h' ⟨rfl, hh, nd_8⟩
    have hh := hh.symm
    subst hh
    show jW X G 6 3 18 45 [(0, .ref xo), (1, .int (nI j)), (2, .int (nI i)), (3, .int v), (4, .int x), (5, .int y)] [] h
    obtain ⟨i1, li1, hi1, rfl⟩ := inR_of (v := x) (lo := 0) (hi := 99) (by omega) (by omega) nd_8.1
    obtain ⟨i2, li2, hi2, rfl⟩ := inR_of (v := y) (lo := 0) (hi := 99) (by omega) (by omega) nd_8.2
    refine j_aload_n C (i := 0) (x := xo) 0 rfl dX3_move_45 (pc' := 46) rfl ?_
    refine j_iload_n C (i := 1) (x := nI j) 1 rfl dX3_move_46 (pc' := 47) rfl ?_
    refine j_callV C (As := [.int (nI j)]) (rest := []) (c_needOpen X.2.1 C.2.2.2.2.2.2.2.2 G Q J I j hj) (cwV 1 C.2.2.2.2.1 gX3_move_X3_needOpen rfl rfl rfl (by decide +kernel) (by rw [hXR]; decide)) Q.obj rfl rfl rfl (Nat.le_of_ble_eq_true rfl) dX3_move_47 (pc' := 50) rfl (by rw [hXR]; exact Nat.le_of_ble_eq_true rfl) (by rw [hXR]; exact Nat.le_of_ble_eq_true rfl) (by rintro E' h' ⟨rfl, hx, ex_9⟩; exact j_out C E (Nat.le_of_ble_eq_true rfl) (Nat.le_of_ble_eq_true rfl) (Or.inr (Or.inr (⟨rfl, hx, by unfold oMove; rw [if_pos (show inN (nI j) (s 2) = true ∧ inN (nI i) (s 6) = true from ⟨by rw [inN_nI (by omega)]; exact decide_eq_true hj, by rw [inN_nI (by omega)]; exact decide_eq_true hi⟩), tn_nI (j := i) (by omega), if_pos (show a 7 i = 0 ∧ inR (nI i1) 0 99 = true ∧ inR (nI i2) 0 99 = true from ⟨by omega, inR_nI (by omega) hi1 (by omega), inR_nI (by omega) hi2 (by omega)⟩), if_neg (fun z => by rw [mOpen_nI hj h2] at z; exact ex_9 (of_decide_eq_true z))] <;> rfl⟩)))) ?_
    rintro r h' ⟨rfl, hh, nd_10⟩
    have hh := hh.symm
    subst hh
    show jW X G 6 4 24 50 [(0, .ref xo), (1, .int (nI j)), (2, .int (nI i)), (3, .int v), (4, .int (nI i1)), (5, .int (nI i2))] [] h
    have hop := nd_10
    refine j_aload_n C (i := 0) (x := xo) 0 rfl dX3_move_50 (pc' := 51) rfl ?_
    refine j_iload_n C (i := 1) (x := nI j) 1 rfl dX3_move_51 (pc' := 52) rfl ?_
    refine j_iload_n C (i := 2) (x := nI i) 2 rfl dX3_move_52 (pc' := 53) rfl ?_
    refine j_iload_n C (i := 3) (x := v) 3 rfl dX3_move_53 (pc' := 54) rfl ?_
    refine j_aload_n C (i := 0) (x := xo) 0 rfl dX3_move_54 (pc' := 55) rfl ?_
    refine j_iload C (i := 4) (x := nI i1) 4 rfl dX3_move_55 (pc' := 57) rfl ?_
    refine j_iload C (i := 5) (x := nI i2) 5 rfl dX3_move_57 (pc' := 59) rfl ?_
    refine j_callV C (As := [.int (nI i1), .int (nI i2)]) (rest := [.int v, .int (nI i), .int (nI j), .ref xo]) (c_cPoint X.2.1 C.2.2.2.2.2.2.2.2 G Q J I (nI i1) (nI i2)) (cwV 2 C.2.2.2.2.1 gX3_move_X3_contentOfPoint rfl rfl rfl (by decide +kernel) (by rw [hXR]; decide)) Q.obj rfl rfl rfl (Nat.le_of_ble_eq_true rfl) dX3_move_59 (pc' := 62) rfl (by rw [hXR]; exact Nat.le_of_ble_eq_true rfl) (by rw [hXR]; exact Nat.le_of_ble_eq_true rfl) (fun _ _ z => z.elim) ?_
    rintro r h' ⟨c, rfl, hc, rfl⟩
    have Q1 := Q.mono (h' := jup h c (.inr (1, [.int (nI 1), .int (nI i1), .int (nI i2), .ref (xa 0)]))) (fun w e hw => jup_some hc hw)
    have hPn1 : ∀ w, P w → (jup h c (.inr (1, [.int (nI 1), .int (nI i1), .int (nI i2), .ref (xa 0)]))) w ≠ none := fun w hw z => hPn w hw (jup_none z)
    have k := k9 K hi
    have hA : ∀ f, f ≠ 24 → f ≠ 21 → f ≠ 7 → (a) f = a f := fun f _ _ _ => rfl
    have hN : cNew s a (va_up (va_up (va_up s 25 0) 23 0) 10 (s 10 + 1)) (mkA (va_up (va_up s 25 0) 23 0) a j i 1 (100 * i1 + i2)) i := mkA_cNew rfl rfl rfl hA (fun t _ => rfl) (fun _ => Q.last hi)
    have hV : cVal s a (va_up (va_up (va_up s 25 0) 23 0) 10 (s 10 + 1)) (mkA (va_up (va_up s 25 0) 23 0) a j i 1 (100 * i1 + i2)) i j (a 12 (a 8 i) + 1) (a 8 i + 1) := by
      have z := mkA_cVal (s := s) (a := a) (s1 := (va_up (va_up s 25 0) 23 0)) (s' := (va_up (va_up (va_up s 25 0) 23 0) 10 (s 10 + 1))) (a1 := a) (b := j) (i := i) (th := 1) (at_ := (100 * i1 + i2)) rfl rfl rfl rfl rfl hA
      rw [if_neg k.1, ← k.2] at z
      exact z
    have hcc : (jup h c (.inr (1, [.int (nI 1), .int (nI i1), .int (nI i2), .ref (xa 0)]))) c = some (.inr (1, [.int (nI ((mkA (va_up (va_up s 25 0) 23 0) a j i 1 (100 * i1 + i2)) 16 (s 10))), .int (nI ((mkA (va_up (va_up s 25 0) 23 0) a j i 1 (100 * i1 + i2)) 18 (s 10) / 100)), .int (nI ((mkA (va_up (va_up s 25 0) 23 0) a j i 1 (100 * i1 + i2)) 18 (s 10) % 100)), .ref (xa 0)])) := by
      rw [mkA_c16 (show (va_up (va_up s 25 0) 23 0) 10 = s 10 from rfl), mkA_c18 (show (va_up (va_up s 25 0) 23 0) 10 = s 10 from rfl), show (100 * i1 + i2) / 100 = i1 by omega, show (100 * i1 + i2) % 100 = i2 by omega]
      exact jup_self _ _ _
    have hmm : (jup h c (.inr (1, [.int (nI 1), .int (nI i1), .int (nI i2), .ref (xa 0)]))) (xa 0) = some (.inl (G.2.2.1.1, (mkA (va_up (va_up s 25 0) 23 0) a j i 1 (100 * i1 + i2)) 19 (s 10), .inl (fun _ => 0))) := by
      rw [mkA_c19 (show (va_up (va_up s 25 0) 23 0) 10 = s 10 from rfl)]
      exact jup_some hc Q.2.1
    have hme : ∀ z, z < (mkA (va_up (va_up s 25 0) 23 0) a j i 1 (100 * i1 + i2)) 19 (s 10) → (fun _ => 0 : Nat → Int32) z = nI ((mkA (va_up (va_up s 25 0) 23 0) a j i 1 (100 * i1 + i2)) 20 (6 * s 10 + z)) := by
      intro z hz
      rw [mkA_c19 (show (va_up (va_up s 25 0) 23 0) 10 = s 10 from rfl)] at hz
      exact absurd hz (Nat.not_lt_zero z)
    have hmx : xa 0 ≠ xa 4 ∧ xa 0 ≠ xa 5 := ⟨Q.xa_ne (by decide) (by decide) (by decide), Q.xa_ne (by decide) (by decide) (by decide)⟩
    show jW X G 6 5 28 62 [(0, .ref xo), (1, .int (nI j)), (2, .int (nI i)), (3, .int v), (4, .int (nI i1)), (5, .int (nI i2))] [.ref c, .int v, .int (nI i), .int (nI j), .ref xo] (jup h c (.inr (1, [.int (nI 1), .int (nI i1), .int (nI i2), .ref (xa 0)])))
    refine j_callV C (As := [.int (nI j), .int (nI i), .int v, .ref c]) (rest := []) (c_edit X.2.1 C.2.2.2.2.2.2.2.2 G (s' := (va_up (va_up (va_up s 25 0) 23 0) 10 (s 10 + 1))) (a' := (mkA (va_up (va_up s 25 0) 23 0) a j i 1 (100 * i1 + i2))) Q1 J I v hi (by omega) rfl rfl hN hV hcc hmm (fun z hz => by rw [mkA_c19 (show (va_up (va_up s 25 0) 23 0) 10 = s 10 from rfl)] at hz; exact absurd hz (Nat.not_lt_zero z)) (fun z hz => by rw [mkA_c19 (show (va_up (va_up s 25 0) 23 0) 10 = s 10 from rfl)] at hz; exact absurd hz (Nat.not_lt_zero z)) (by rw [mkA_c19 (show (va_up (va_up s 25 0) 23 0) 10 = s 10 from rfl)]; exact Nat.zero_le _) (by rw [mkA_c16 (show (va_up (va_up s 25 0) 23 0) 10 = s 10 from rfl)]; exact Nat.le_refl _) hmx hPn1 hPo (Q.np.2.1 0 (by decide))) (cwV 4 C.2.2.2.2.1 gX3_move_X3_edit rfl rfl rfl (by decide +kernel) (by rw [hXR]; decide)) Q1.obj rfl rfl rfl (Nat.le_of_ble_eq_true rfl) dX3_move_62 (pc' := 65) rfl (by rw [hXR]; exact Nat.le_of_ble_eq_true rfl) (by rw [hXR]; exact Nat.le_of_ble_eq_true rfl) (fun _ _ z => z.elim) ?_
    rintro r h' (⟨em, rfl, rfl⟩ | ⟨em, ev, rfl, rfl⟩ | ⟨em, ev, er, rfl, rfl⟩ | ⟨em, ev, er, rfl, hE, hF⟩)
    · show jW X G 6 6 34 65 [(0, .ref xo), (1, .int (nI j)), (2, .int (nI i)), (3, .int v), (4, .int (nI i1)), (5, .int (nI i2))] [.int ((-1))] (jup h c (.inr (1, [.int (nI 1), .int (nI i1), .int (nI i2), .ref (xa 0)])))
      exact j_iret C E dX3_move_65 rfl (Nat.le_of_ble_eq_true rfl) (Nat.le_of_ble_eq_true rfl) (by rw [show oMove s a (nI j) (nI i) v (nI i1) (nI i2) = ((-1), (va_up (va_up s 25 0) 23 0), a) from by unfold oMove; rw [if_pos (show inN (nI j) (s 2) = true ∧ inN (nI i) (s 6) = true from ⟨by rw [inN_nI (by omega)]; exact decide_eq_true hj, by rw [inN_nI (by omega)]; exact decide_eq_true hi⟩), tn_nI (j := i) (by omega), if_pos (show a 7 i = 0 ∧ inR (nI i1) 0 99 = true ∧ inR (nI i2) 0 99 = true from ⟨by omega, inR_nI (by omega) hi1 (by omega), inR_nI (by omega) hi2 (by omega)⟩), if_pos (show mOpen s a (nI j) = true from (by rw [mOpen_nI hj h2]; exact decide_eq_true hop)), if_neg (bff em)] <;> rfl]; exact ⟨rfl, rfl, (Q1.same (s' := (va_up (va_up s 25 0) 23 0)) (a' := a) (fun f h25 h23 => by rw [up_n h23, up_n h25]) (fun f _ _ _ _ _ => rfl)).e hPo, fun w hw => jup_ne (pne (fun z => hPn c z hc) hw)⟩)
    · show jW X G 6 6 34 65 [(0, .ref xo), (1, .int (nI j)), (2, .int (nI i)), (3, .int v), (4, .int (nI i1)), (5, .int (nI i2))] [.int ((-2))] (jup h c (.inr (1, [.int (nI 1), .int (nI i1), .int (nI i2), .ref (xa 0)])))
      exact j_iret C E dX3_move_65 rfl (Nat.le_of_ble_eq_true rfl) (Nat.le_of_ble_eq_true rfl) (by rw [show oMove s a (nI j) (nI i) v (nI i1) (nI i2) = ((-2), (va_up (va_up s 25 0) 23 0), a) from by unfold oMove; rw [if_pos (show inN (nI j) (s 2) = true ∧ inN (nI i) (s 6) = true from ⟨by rw [inN_nI (by omega)]; exact decide_eq_true hj, by rw [inN_nI (by omega)]; exact decide_eq_true hi⟩), tn_nI (j := i) (by omega), if_pos (show a 7 i = 0 ∧ inR (nI i1) 0 99 = true ∧ inR (nI i2) 0 99 = true from ⟨by omega, inR_nI (by omega) hi1 (by omega), inR_nI (by omega) hi2 (by omega)⟩), if_pos (show mOpen s a (nI j) = true from (by rw [mOpen_nI hj h2]; exact decide_eq_true hop)), if_pos em, if_neg (fun z => ev (by rw [k.2]; exact z.symm))] <;> rfl]; exact ⟨rfl, rfl, (Q1.same (s' := (va_up (va_up s 25 0) 23 0)) (a' := a) (fun f h25 h23 => by rw [up_n h23, up_n h25]) (fun f _ _ _ _ _ => rfl)).e hPo, fun w hw => jup_ne (pne (fun z => hPn c z hc) hw)⟩)
    · show jW X G 6 6 34 65 [(0, .ref xo), (1, .int (nI j)), (2, .int (nI i)), (3, .int v), (4, .int (nI i1)), (5, .int (nI i2))] [.int (refF s a i ((mkA (va_up (va_up s 25 0) 23 0) a j i 1 (100 * i1 + i2)) 16 (s 10)) (fun z => (mkA (va_up (va_up s 25 0) 23 0) a j i 1 (100 * i1 + i2)) 20 (6 * s 10 + z)) ((mkA (va_up (va_up s 25 0) 23 0) a j i 1 (100 * i1 + i2)) 19 (s 10)))] (jup h c (.inr (1, [.int (nI 1), .int (nI i1), .int (nI i2), .ref (xa 0)])))
      exact j_iret C E dX3_move_65 rfl (Nat.le_of_ble_eq_true rfl) (Nat.le_of_ble_eq_true rfl) (absurd (refF_pt (mkA_c16 (show (va_up (va_up s 25 0) 23 0) 10 = s 10 from rfl)) (by omega)) er)
    · show jW X G 6 6 34 65 [(0, .ref xo), (1, .int (nI j)), (2, .int (nI i)), (3, .int v), (4, .int (nI i1)), (5, .int (nI i2))] [.int (nI (a 12 (a 8 i) + 1))] (h')
      exact j_iret C E dX3_move_65 rfl (Nat.le_of_ble_eq_true rfl) (Nat.le_of_ble_eq_true rfl) (by rw [show oMove s a (nI j) (nI i) v (nI i1) (nI i2) = (nI (a 9 i + 1), (va_up (va_up (va_up s 25 0) 23 0) 10 (s 10 + 1)), (mkA (va_up (va_up s 25 0) 23 0) a j i 1 (100 * i1 + i2))) from by unfold oMove; rw [if_pos (show inN (nI j) (s 2) = true ∧ inN (nI i) (s 6) = true from ⟨by rw [inN_nI (by omega)]; exact decide_eq_true hj, by rw [inN_nI (by omega)]; exact decide_eq_true hi⟩), tn_nI (j := i) (by omega), if_pos (show a 7 i = 0 ∧ inR (nI i1) 0 99 = true ∧ inR (nI i2) 0 99 = true from ⟨by omega, inR_nI (by omega) hi1 (by omega), inR_nI (by omega) hi2 (by omega)⟩), if_pos (show mOpen s a (nI j) = true from (by rw [mOpen_nI hj h2]; exact decide_eq_true hop)), tn_nI (j := j) (by omega), tn_nI (j := i1) (by omega), tn_nI (j := i2) (by omega), if_pos em, if_pos (show v = nI (a 9 i) by rw [← ev, k.2])] <;> rfl]; exact ⟨by rw [k.2], rfl, hE, fun w hw => (hF w hw).trans (jup_ne (pne (fun z => hPn c z hc) hw))⟩)
  · have c_6 := fun zq => c_6 ((nI_eq (a := a 7 i) (b := 0) (by omega) (by omega)).mpr zq)
    have c_6 : ¬ (a 7 i) = 0 := c_6
    exact j_throw C E (cls := "java/lang/IllegalArgumentException") (text := "the thing is no point") (ik := 91) (is := 116) (ic := 95) (by decide +kernel) (by decide +kernel) (by decide +kernel) (by decide +kernel) (by decide +kernel) jt_iae.1 jt_iae.2.1 jt_iae.2.2 dX3_move_27 dX3_move_30 dX3_move_31 dX3_move_33 dX3_move_36 (by rw [hXR]; exact Nat.le_of_ble_eq_true rfl) (by rw [hXR]; exact Nat.le_of_ble_eq_true rfl) (Nat.le_of_ble_eq_true rfl) (Nat.le_of_ble_eq_true rfl) ((Or.inr (Or.inl ⟨rfl, rfl, by unfold oMove; rw [if_pos (show inN (nI j) (s 2) = true ∧ inN (nI i) (s 6) = true from ⟨by rw [inN_nI (by omega)]; exact decide_eq_true hj, by rw [inN_nI (by omega)]; exact decide_eq_true hi⟩), tn_nI (j := i) (by omega), if_neg (fun z => absurd z.1 (by omega))] <;> rfl⟩)))
set_option maxRecDepth 100000 in
set_option maxHeartbeats 4000000 in
theorem c_delete (l : Launch) (hlt : l.stackTraces = false) (G : jG) {P : Nat → Prop} {xo : Nat} {xa th va ca ma : Nat → Nat} {dat cap : Nat} {mod : Int32} {df : Nat → Option Nat} {vf dr : Nat → Int32} {mf : Nat → Nat → Int32} {s : mS} {a : mA} {h : jH} (Q : cQ G P xo xa th va ca ma dat cap mod df vf dr mf s a h) (J : IS s) (I : IA a) (p t v : Int32) (hPn : ∀ w, P w → h w ≠ none) (hPo : ∀ v, v < s 10 → ¬ P (ma v)) (K : mCh s a) (hG : mGone s a) : jM l G yX3_delete wsX3_delete 7 165 4 24 [.ref xo, .int p, .int t, .int v] h (fun r h' => r = some (.int (oDelete s a p t v).1) ∧ (oDelete s a p t v).2.1 25 = 0 ∧ cE G P xo xa (oDelete s a p t v).2.1 (oDelete s a p t v).2.2 h' ∧ ∀ q, P q → h' q = h q) (fun E h' => (E = "java/lang/IndexOutOfBoundsException" ∧ h' = h ∧ (oDelete s a p t v).2.1 25 = 1) ∨ (E = "java/lang/IllegalStateException" ∧ h' = h ∧ (oDelete s a p t v).2.1 25 = 2)) := by
  have h6 := J.2.1
  have h2 := J.2.2.1
  have h4 := J.2.2.2.1
  have h10 := J.2.2.2.2.1
  have hs0 := J.1 0
  have hs1 := J.1 1
  refine jM_of (cc := cX3_delete) (maxL := 4) (ret := (some .int)) hlt (by decide +kernel) rfl (Nat.le_of_ble_eq_true rfl) ?_
  intro X C E hXl hXR hXn
  have hinX3 : ∀ w ∈ u_ws RX3 TX3 11, w ∈ wsX3_delete := by decide +kernel
  show jW X G 4 0 0 0 [(0, .ref xo), (1, .int p), (2, .int t), (3, .int v)] [] h
  refine j_aload_n C (i := 0) (x := xo) 0 rfl dX3_delete_0 (pc' := 1) rfl ?_
  refine j_iload_n C (i := 1) (x := p) 1 rfl dX3_delete_1 (pc' := 2) rfl ?_
  refine j_callV C (As := [.int p]) (rest := []) (c_needSet X.2.1 C.2.2.2.2.2.2.2.2 G Q J I p) (cwV 1 C.2.2.2.2.1 gX3_delete_X3_needSet rfl rfl rfl (by decide +kernel) (by rw [hXR]; decide)) Q.obj rfl rfl rfl (Nat.le_of_ble_eq_true rfl) dX3_delete_2 (pc' := 5) rfl (by rw [hXR]; exact Nat.le_of_ble_eq_true rfl) (by rw [hXR]; exact Nat.le_of_ble_eq_true rfl) (by rintro E' h' ⟨rfl, hx, ex_1⟩; exact j_out C E (Nat.le_of_ble_eq_true rfl) (Nat.le_of_ble_eq_true rfl) (Or.inl (⟨rfl, hx, by unfold oDelete; rw [if_neg (fun z => bff ex_1 z.1)] <;> rfl⟩))) ?_
  rintro r h' ⟨rfl, hh, nd_2⟩
  have hh := hh.symm
  subst hh
  show jW X G 4 1 6 5 [(0, .ref xo), (1, .int p), (2, .int t), (3, .int v)] [] h
  obtain ⟨j, hj, rfl⟩ := inN_of nd_2
  refine j_aload_n C (i := 0) (x := xo) 0 rfl dX3_delete_5 (pc' := 6) rfl ?_
  refine j_iload_n C (i := 2) (x := t) 2 rfl dX3_delete_6 (pc' := 7) rfl ?_
  refine j_callV C (As := [.int t]) (rest := []) (c_needThing X.2.1 C.2.2.2.2.2.2.2.2 G Q J I t) (cwV 1 C.2.2.2.2.1 gX3_delete_X3_needThing rfl rfl rfl (by decide +kernel) (by rw [hXR]; decide)) Q.obj rfl rfl rfl (Nat.le_of_ble_eq_true rfl) dX3_delete_7 (pc' := 10) rfl (by rw [hXR]; exact Nat.le_of_ble_eq_true rfl) (by rw [hXR]; exact Nat.le_of_ble_eq_true rfl) (by rintro E' h' ⟨rfl, hx, ex_3⟩; exact j_out C E (Nat.le_of_ble_eq_true rfl) (Nat.le_of_ble_eq_true rfl) (Or.inl (⟨rfl, hx, by unfold oDelete; rw [if_neg (fun z => bff ex_3 z.2)] <;> rfl⟩))) ?_
  rintro r h' ⟨rfl, hh, nd_4⟩
  have hh := hh.symm
  subst hh
  show jW X G 4 2 12 10 [(0, .ref xo), (1, .int (nI j)), (2, .int t), (3, .int v)] [] h
  obtain ⟨i, hi, rfl⟩ := inN_of nd_4
  refine j_aload_n C (i := 0) (x := xo) 0 rfl dX3_delete_10 (pc' := 11) rfl ?_
  refine j_iload_n C (i := 1) (x := nI j) 1 rfl dX3_delete_11 (pc' := 12) rfl ?_
  refine j_callV C (As := [.int (nI j)]) (rest := []) (c_needOpen X.2.1 C.2.2.2.2.2.2.2.2 G Q J I j hj) (cwV 1 C.2.2.2.2.1 gX3_delete_X3_needOpen rfl rfl rfl (by decide +kernel) (by rw [hXR]; decide)) Q.obj rfl rfl rfl (Nat.le_of_ble_eq_true rfl) dX3_delete_12 (pc' := 15) rfl (by rw [hXR]; exact Nat.le_of_ble_eq_true rfl) (by rw [hXR]; exact Nat.le_of_ble_eq_true rfl) (by rintro E' h' ⟨rfl, hx, ex_5⟩; exact j_out C E (Nat.le_of_ble_eq_true rfl) (Nat.le_of_ble_eq_true rfl) (Or.inr (⟨rfl, hx, by unfold oDelete; rw [if_pos (show inN (nI j) (s 2) = true ∧ inN (nI i) (s 6) = true from ⟨by rw [inN_nI (by omega)]; exact decide_eq_true hj, by rw [inN_nI (by omega)]; exact decide_eq_true hi⟩), if_neg (fun z => by rw [mOpen_nI hj h2] at z; exact ex_5 (of_decide_eq_true z))] <;> rfl⟩))) ?_
  rintro r h' ⟨rfl, hh, nd_6⟩
  have hh := hh.symm
  subst hh
  show jW X G 4 3 18 15 [(0, .ref xo), (1, .int (nI j)), (2, .int (nI i)), (3, .int v)] [] h
  have hop := nd_6
  refine j_aload_n C (i := 0) (x := xo) 0 rfl dX3_delete_15 (pc' := 16) rfl ?_
  refine j_iload_n C (i := 1) (x := nI j) 1 rfl dX3_delete_16 (pc' := 17) rfl ?_
  refine j_iload_n C (i := 2) (x := nI i) 2 rfl dX3_delete_17 (pc' := 18) rfl ?_
  refine j_iload_n C (i := 3) (x := v) 3 rfl dX3_delete_18 (pc' := 19) rfl ?_
  refine j_aload_n C (i := 0) (x := xo) 0 rfl dX3_delete_19 (pc' := 20) rfl ?_
  refine j_get C (ref := "MapRevisions") (CN := RX3) (T := TX3) (N := 11) (ci := 4) (index := 18) (a := xo) (kf := 1) (fs := [.ref (xa 0), .ref (xa 1), .ref (xa 2), .ref (xa 3), .ref (xa 4), .ref (xa 5), .int (nI (s 2)), .int (nI (s 4)), .int (nI (s 10)), .int (nI (s 0)), .int (nI (s 1))]) (v := .ref (xa 1)) hinX3 rfl (by decide) (by decide +kernel) rfl Q.obj rfl dX3_delete_20 (pc' := 23) rfl ?_
  have k := k9 K hi
  have hA : ∀ f, f ≠ 24 → f ≠ 21 → f ≠ 7 → (a) f = a f := fun f _ _ _ => rfl
  have hN : cNew s a (va_up (va_up s 25 0) 10 (s 10 + 1)) (mkA (va_up s 25 0) a j i 0 0) i := mkA_cNew rfl rfl rfl hA (fun t _ => rfl) (fun _ => Q.last hi)
  have hV : cVal s a (va_up (va_up s 25 0) 10 (s 10 + 1)) (mkA (va_up s 25 0) a j i 0 0) i j (a 12 (a 8 i) + 1) (a 8 i + 1) := by
    have z := mkA_cVal (s := s) (a := a) (s1 := (va_up s 25 0)) (s' := (va_up (va_up s 25 0) 10 (s 10 + 1))) (a1 := a) (b := j) (i := i) (th := 0) (at_ := 0) rfl rfl rfl rfl rfl hA
    rw [if_neg k.1, ← k.2] at z
    exact z
  have hcc : h (xa 1) = some (.inr (1, [.int (nI ((mkA (va_up s 25 0) a j i 0 0) 16 (s 10))), .int (nI ((mkA (va_up s 25 0) a j i 0 0) 18 (s 10) / 100)), .int (nI ((mkA (va_up s 25 0) a j i 0 0) 18 (s 10) % 100)), .ref (xa 0)])) := by
    rw [mkA_c16 (show (va_up s 25 0) 10 = s 10 from rfl), mkA_c18 (show (va_up s 25 0) 10 = s 10 from rfl)]
    exact Q.2.2.1
  have hmm : h (xa 0) = some (.inl (G.2.2.1.1, (mkA (va_up s 25 0) a j i 0 0) 19 (s 10), .inl (fun _ => 0))) := by
    rw [mkA_c19 (show (va_up s 25 0) 10 = s 10 from rfl)]
    exact Q.2.1
  have hmx : xa 0 ≠ xa 4 ∧ xa 0 ≠ xa 5 := ⟨Q.xa_ne (by decide) (by decide) (by decide), Q.xa_ne (by decide) (by decide) (by decide)⟩
  refine j_callV C (As := [.int (nI j), .int (nI i), .int v, .ref (xa 1)]) (rest := []) (c_edit X.2.1 C.2.2.2.2.2.2.2.2 G (s' := (va_up (va_up s 25 0) 10 (s 10 + 1))) (a' := (mkA (va_up s 25 0) a j i 0 0)) Q J I v hi (by omega) rfl rfl hN hV hcc hmm (fun z hz => by rw [mkA_c19 (show (va_up s 25 0) 10 = s 10 from rfl)] at hz; exact absurd hz (Nat.not_lt_zero z)) (fun z hz => by rw [mkA_c19 (show (va_up s 25 0) 10 = s 10 from rfl)] at hz; exact absurd hz (Nat.not_lt_zero z)) (by rw [mkA_c19 (show (va_up s 25 0) 10 = s 10 from rfl)]; exact Nat.zero_le _) (by rw [mkA_c16 (show (va_up s 25 0) 10 = s 10 from rfl)]; exact Nat.zero_le _) hmx hPn hPo (Q.np.2.1 0 (by decide))) (cwV 4 C.2.2.2.2.1 gX3_delete_X3_edit rfl rfl rfl (by decide +kernel) (by rw [hXR]; decide)) Q.obj rfl rfl rfl (Nat.le_of_ble_eq_true rfl) dX3_delete_23 (pc' := 26) rfl (by rw [hXR]; exact Nat.le_of_ble_eq_true rfl) (by rw [hXR]; exact Nat.le_of_ble_eq_true rfl) (fun _ _ z => z.elim) ?_
  rintro r h' (⟨em, rfl, hh⟩ | ⟨em, ev, rfl, hh⟩ | ⟨em, ev, er, rfl, hh⟩ | ⟨em, ev, er, rfl, hE, hF⟩)
  · have hh := hh.symm
    subst hh
    show jW X G 4 4 24 26 [(0, .ref xo), (1, .int (nI j)), (2, .int (nI i)), (3, .int v)] [.int ((-1))] h
    exact j_iret C E dX3_delete_26 rfl (Nat.le_of_ble_eq_true rfl) (Nat.le_of_ble_eq_true rfl) (by rw [show oDelete s a (nI j) (nI i) v = ((-1), (va_up s 25 0), a) from by unfold oDelete; rw [if_pos (show inN (nI j) (s 2) = true ∧ inN (nI i) (s 6) = true from ⟨by rw [inN_nI (by omega)]; exact decide_eq_true hj, by rw [inN_nI (by omega)]; exact decide_eq_true hi⟩), if_pos (show mOpen s a (nI j) = true from (by rw [mOpen_nI hj h2]; exact decide_eq_true hop)), tn_nI (j := i) (by omega), if_neg (bff em)] <;> rfl]; exact ⟨rfl, rfl, (Q.same (s' := (va_up s 25 0)) (a' := a) (fun f h25 h23 => up_n h25) (fun f _ _ _ _ _ => rfl)).e hPo, fun w hw => rfl⟩)
  · have hh := hh.symm
    subst hh
    show jW X G 4 4 24 26 [(0, .ref xo), (1, .int (nI j)), (2, .int (nI i)), (3, .int v)] [.int ((-2))] h
    exact j_iret C E dX3_delete_26 rfl (Nat.le_of_ble_eq_true rfl) (Nat.le_of_ble_eq_true rfl) (by rw [show oDelete s a (nI j) (nI i) v = ((-2), (va_up s 25 0), a) from by unfold oDelete; rw [if_pos (show inN (nI j) (s 2) = true ∧ inN (nI i) (s 6) = true from ⟨by rw [inN_nI (by omega)]; exact decide_eq_true hj, by rw [inN_nI (by omega)]; exact decide_eq_true hi⟩), if_pos (show mOpen s a (nI j) = true from (by rw [mOpen_nI hj h2]; exact decide_eq_true hop)), tn_nI (j := i) (by omega), if_pos em, if_neg (fun z => ev (by rw [k.2]; exact z.symm))] <;> rfl]; exact ⟨rfl, rfl, (Q.same (s' := (va_up s 25 0)) (a' := a) (fun f h25 h23 => up_n h25) (fun f _ _ _ _ _ => rfl)).e hPo, fun w hw => rfl⟩)
  · have hh := hh.symm
    subst hh
    show jW X G 4 4 24 26 [(0, .ref xo), (1, .int (nI j)), (2, .int (nI i)), (3, .int v)] [.int (refF s a i ((mkA (va_up s 25 0) a j i 0 0) 16 (s 10)) (fun z => (mkA (va_up s 25 0) a j i 0 0) 20 (6 * s 10 + z)) ((mkA (va_up s 25 0) a j i 0 0) 19 (s 10)))] h
    exact j_iret C E dX3_delete_26 rfl (Nat.le_of_ble_eq_true rfl) (Nat.le_of_ble_eq_true rfl) (by
      rcases refF_g (s := s) (a := a) (t := i) (z := (mkA (va_up s 25 0) a j i 0 0) 16 (s 10)) (N := (mkA (va_up s 25 0) a j i 0 0) 19 (s 10)) (g := fun z => (mkA (va_up s 25 0) a j i 0 0) 20 (6 * s 10 + z)) (mkA_c16 (show (va_up s 25 0) 10 = s 10 from rfl)) with ⟨-, e⟩ | ⟨e0, e⟩
      · exact absurd e er
      · rw [show oDelete s a (nI j) (nI i) v = ((-5), (va_up s 25 0), a) from by unfold oDelete; rw [if_pos (show inN (nI j) (s 2) = true ∧ inN (nI i) (s 6) = true from ⟨by rw [inN_nI (by omega)]; exact decide_eq_true hj, by rw [inN_nI (by omega)]; exact decide_eq_true hi⟩), if_pos (show mOpen s a (nI j) = true from (by rw [mOpen_nI hj h2]; exact decide_eq_true hop)), tn_nI (j := i) (by omega), if_pos em, if_pos (show v = nI (a 9 i) by rw [← ev, k.2]), if_pos (Nat.pos_of_ne_zero (fun z => e0 ((use_zero hG (by omega) i).mpr z)))] <;> rfl]
        exact ⟨congrArg (fun z => some (Value.int z)) e, rfl, (Q.same (s' := (va_up s 25 0)) (a' := a) (fun f h25 h23 => up_n h25) (fun f _ _ _ _ _ => rfl)).e hPo, fun w hw => rfl⟩)
  · show jW X G 4 4 24 26 [(0, .ref xo), (1, .int (nI j)), (2, .int (nI i)), (3, .int v)] [.int (nI (a 12 (a 8 i) + 1))] (h')
    have hnu : ¬ 0 < mUsers a (s 6) i := by
      rcases refF_g (s := s) (a := a) (t := i) (z := (mkA (va_up s 25 0) a j i 0 0) 16 (s 10)) (N := (mkA (va_up s 25 0) a j i 0 0) 19 (s 10)) (g := fun z => (mkA (va_up s 25 0) a j i 0 0) 20 (6 * s 10 + z)) (mkA_c16 (show (va_up s 25 0) 10 = s 10 from rfl)) with ⟨e0, -⟩ | ⟨-, e⟩
      · rw [(use_zero hG (by omega) i).mp e0]; exact Nat.lt_irrefl 0
      · exact absurd (er.symm.trans e) (by decide)
    exact j_iret C E dX3_delete_26 rfl (Nat.le_of_ble_eq_true rfl) (Nat.le_of_ble_eq_true rfl) (by rw [show oDelete s a (nI j) (nI i) v = (nI (a 9 i + 1), (va_up (va_up s 25 0) 10 (s 10 + 1)), (mkA (va_up s 25 0) a j i 0 0)) from by unfold oDelete; rw [if_pos (show inN (nI j) (s 2) = true ∧ inN (nI i) (s 6) = true from ⟨by rw [inN_nI (by omega)]; exact decide_eq_true hj, by rw [inN_nI (by omega)]; exact decide_eq_true hi⟩), if_pos (show mOpen s a (nI j) = true from (by rw [mOpen_nI hj h2]; exact decide_eq_true hop)), tn_nI (j := i) (by omega), if_pos em, if_pos (show v = nI (a 9 i) by rw [← ev, k.2]), if_neg hnu, tn_nI (j := j) (by omega)] <;> rfl]; exact ⟨by rw [k.2], rfl, hE, hF⟩)
