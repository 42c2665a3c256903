set_option maxRecDepth 100000 in
set_option maxHeartbeats 4000000 in
theorem c_change (l : Launch) (hlt : l.stackTraces = false) (G : jG) {P : Nat → Prop} {xo : Nat} {xa th va ca ma : Nat → Nat} {dat cap : Nat} {mod : Int32} {df : Nat → Option Nat} {vf dr : Nat → Int32} {mf : Nat → Nat → Int32} {s : mS} {a : mA} {h : jH} (Q : cQ G P xo xa th va ca ma dat cap mod df vf dr mf s a h) (J : IS s) (I : IA a) (p t v : Int32) (hPn : ∀ w, P w → h w ≠ none) (hPo : ∀ v, v < s 10 → ¬ P (ma v)) (K : mCh s a) (hRow : mRowD s a) (hRing : mRingD s a) : jM l G yX3_change wsX3_change 7 165 6 34 [.ref xo, .int p, .int t, .int v] h (fun r h' => r = some (.int (oChange s a p t v).1) ∧ (oChange s a p t v).2.1 25 = 0 ∧ cE G P xo xa (oChange s a p t v).2.1 (oChange s a p t v).2.2 h' ∧ ∀ q, P q → h' q = h q) (fun E h' => (E = "java/lang/IndexOutOfBoundsException" ∧ h' = h ∧ (oChange s a p t v).2.1 25 = 1) ∨ (E = "java/lang/IllegalArgumentException" ∧ h' = h ∧ (oChange s a p t v).2.1 25 = 2) ∨ (E = "java/lang/IllegalStateException" ∧ h' = h ∧ (oChange s a p t v).2.1 25 = 3)) := by
  have h6 := J.2.1
  have h2 := J.2.2.1
  have h4 := J.2.2.2.1
  have h10 := J.2.2.2.2.1
  have hs0 := J.1 0
  have hs1 := J.1 1
  refine jM_of (cc := cX3_change) (maxL := 4) (ret := (some .int)) hlt (by decide +kernel) rfl (Nat.le_of_ble_eq_true rfl) ?_
  intro X C E hXl hXR hXn
  have hinX3 : ∀ w ∈ u_ws RX3 TX3 11, w ∈ wsX3_change := by decide +kernel
  have hinX1 : ∀ w ∈ u_ws RX1 TX1 2, w ∈ wsX3_change := by decide +kernel
  show jW X G 4 0 0 0 [(0, .ref xo), (1, .int p), (2, .int t), (3, .int v)] [] h
  refine j_aload_n C (i := 0) (x := xo) 0 rfl dX3_change_0 (pc' := 1) rfl ?_
  refine j_iload_n C (i := 1) (x := p) 1 rfl dX3_change_1 (pc' := 2) rfl ?_
  refine j_callV C (As := [.int p]) (rest := []) (c_needSet X.2.1 C.2.2.2.2.2.2.2.2 G Q J I p) (cwV 1 C.2.2.2.2.1 gX3_change_X3_needSet rfl rfl rfl (by decide +kernel) (by rw [hXR]; decide)) Q.obj rfl rfl rfl (Nat.le_of_ble_eq_true rfl) dX3_change_2 (pc' := 5) rfl (by rw [hXR]; exact Nat.le_of_ble_eq_true rfl) (by rw [hXR]; exact Nat.le_of_ble_eq_true rfl) (by rintro E' h' ⟨rfl, hx, ex_1⟩; exact j_out C E (Nat.le_of_ble_eq_true rfl) (Nat.le_of_ble_eq_true rfl) (Or.inl (⟨rfl, hx, by unfold oChange; rw [if_neg (fun z => bff ex_1 z.1)] <;> rfl⟩))) ?_
  rintro r h' ⟨rfl, hh, nd_2⟩
  have hh := hh.symm
  subst hh
  show jW X G 4 1 6 5 [(0, .ref xo), (1, .int p), (2, .int t), (3, .int v)] [] h
  obtain ⟨j, hj, rfl⟩ := inN_of nd_2
  refine j_aload_n C (i := 0) (x := xo) 0 rfl dX3_change_5 (pc' := 6) rfl ?_
  refine j_iload_n C (i := 2) (x := t) 2 rfl dX3_change_6 (pc' := 7) rfl ?_
  refine j_callV C (As := [.int t]) (rest := []) (c_needThing X.2.1 C.2.2.2.2.2.2.2.2 G Q J I t) (cwV 1 C.2.2.2.2.1 gX3_change_X3_needThing rfl rfl rfl (by decide +kernel) (by rw [hXR]; decide)) Q.obj rfl rfl rfl (Nat.le_of_ble_eq_true rfl) dX3_change_7 (pc' := 10) rfl (by rw [hXR]; exact Nat.le_of_ble_eq_true rfl) (by rw [hXR]; exact Nat.le_of_ble_eq_true rfl) (by rintro E' h' ⟨rfl, hx, ex_3⟩; exact j_out C E (Nat.le_of_ble_eq_true rfl) (Nat.le_of_ble_eq_true rfl) (Or.inl (⟨rfl, hx, by unfold oChange; rw [if_neg (fun z => bff ex_3 z.2)] <;> rfl⟩))) ?_
  rintro r h' ⟨rfl, hh, nd_4⟩
  have hh := hh.symm
  subst hh
  show jW X G 4 2 12 10 [(0, .ref xo), (1, .int (nI j)), (2, .int t), (3, .int v)] [] h
  obtain ⟨i, hi, rfl⟩ := inN_of nd_4
  refine j_aload_n C (i := 0) (x := xo) 0 rfl dX3_change_10 (pc' := 11) rfl ?_
  refine j_get C (ref := "MapRevisions") (CN := RX3) (T := TX3) (N := 11) (ci := 4) (index := 25) (a := xo) (kf := 2) (fs := [.ref (xa 0), .ref (xa 1), .ref (xa 2), .ref (xa 3), .ref (xa 4), .ref (xa 5), .int (nI (s 2)), .int (nI (s 4)), .int (nI (s 10)), .int (nI (s 0)), .int (nI (s 1))]) (v := .ref (xa 2)) hinX3 rfl (by decide) (by decide +kernel) rfl Q.obj rfl dX3_change_11 (pc' := 14) rfl ?_
  refine j_iload_n C (i := 2) (x := nI i) 2 rfl dX3_change_14 (pc' := 15) rfl ?_
  have D_15 := Q.dta (t := i) (by omega)
  refine j_callV C (As := [.int (nI i)]) (rest := []) (c_get X.2.1 C.2.2.2.2.2.2.2.2 G Q.lst D_15.1 i (th i) (by omega) D_15.2.2.1 (by omega) D_15.2.1) (cwV 1 C.2.2.2.2.1 gX3_change_Jx4a65c_get_915e3 rfl rfl rfl (by decide +kernel) (by rw [hXR]; decide)) Q.lst rfl rfl rfl (Nat.le_of_ble_eq_true rfl) dX3_change_15 (pc' := 18) rfl (by rw [hXR]; exact Nat.le_of_ble_eq_true rfl) (by rw [hXR]; exact Nat.le_of_ble_eq_true rfl) (fun _ _ z => z.elim) ?_
  rintro r h' ⟨rfl, hh⟩
  have hh := hh.symm
  subst hh
  show jW X G 4 2 12 18 [(0, .ref xo), (1, .int (nI j)), (2, .int (nI i)), (3, .int v)] [.ref (th i)] h
  refine j_cast C (CN := RX1) (T := TX1) (N := 2) (ci := 2) (index := 111) (a := th i) (fs := [.int (nI (a 7 i)), .ref (va (a 8 i))]) (Q.thing (t := i) (by omega)) rfl (by decide +kernel) dX3_change_18 (pc' := 21) rfl ?_
  refine j_get C (ref := "MapRevisions$Thing") (CN := RX1) (T := TX1) (N := 2) (ci := 2) (index := 113) (a := th i) (kf := 0) (fs := [.int (nI (a 7 i)), .ref (va (a 8 i))]) (v := .int (nI (a 7 i))) hinX1 rfl (by decide) (by decide +kernel) rfl (Q.thing (t := i) (by omega)) rfl dX3_change_21 (pc' := 24) rfl ?_
  have B_5 := IA.kind I i
  refine j_if_ne C dX3_change_24 (tgt := 37) (by decide) (pc' := 27) rfl (fun c_6 => ?_) (fun c_6 => ?_)
  · have c_6 := fun zq => c_6 ((nI_eq (a := a 7 i) (b := 0) (by omega) (by omega)).mpr zq)
    have c_6 : ¬ (a 7 i) = 0 := c_6
    refine j_aload_n C (i := 0) (x := xo) 0 rfl dX3_change_37 (pc' := 38) rfl ?_
    refine j_iload_n C (i := 1) (x := nI j) 1 rfl dX3_change_38 (pc' := 39) rfl ?_
    refine j_callV C (As := [.int (nI j)]) (rest := []) (c_needOpen X.2.1 C.2.2.2.2.2.2.2.2 G Q J I j hj) (cwV 1 C.2.2.2.2.1 gX3_change_X3_needOpen rfl rfl rfl (by decide +kernel) (by rw [hXR]; decide)) Q.obj rfl rfl rfl (Nat.le_of_ble_eq_true rfl) dX3_change_39 (pc' := 42) rfl (by rw [hXR]; exact Nat.le_of_ble_eq_true rfl) (by rw [hXR]; exact Nat.le_of_ble_eq_true rfl) (by rintro E' h' ⟨rfl, hx, ex_7⟩; exact j_out C E (Nat.le_of_ble_eq_true rfl) (Nat.le_of_ble_eq_true rfl) (Or.inr (Or.inr (⟨rfl, hx, by unfold oChange; rw [if_pos (show inN (nI j) (s 2) = true ∧ inN (nI i) (s 6) = true from ⟨by rw [inN_nI (by omega)]; exact decide_eq_true hj, by rw [inN_nI (by omega)]; exact decide_eq_true hi⟩), tn_nI (j := i) (by omega), if_neg (show ¬ a 7 i = 0 by omega), if_neg (fun z => by rw [mOpen_nI hj h2] at z; exact ex_7 (of_decide_eq_true z))] <;> rfl⟩)))) ?_
    rintro r h' ⟨rfl, hh, nd_8⟩
    have hh := hh.symm
    subst hh
    show jW X G 4 3 18 42 [(0, .ref xo), (1, .int (nI j)), (2, .int (nI i)), (3, .int v)] [] h
    have hop := nd_8
    refine j_aload_n C (i := 0) (x := xo) 0 rfl dX3_change_42 (pc' := 43) rfl ?_
    refine j_iload_n C (i := 1) (x := nI j) 1 rfl dX3_change_43 (pc' := 44) rfl ?_
    refine j_iload_n C (i := 2) (x := nI i) 2 rfl dX3_change_44 (pc' := 45) rfl ?_
    refine j_iload_n C (i := 3) (x := v) 3 rfl dX3_change_45 (pc' := 46) rfl ?_
    refine j_aload_n C (i := 0) (x := xo) 0 rfl dX3_change_46 (pc' := 47) rfl ?_
    refine j_callV C (As := []) (rest := [.int v, .int (nI i), .int (nI j), .ref xo]) (c_cDraft X.2.1 C.2.2.2.2.2.2.2.2 G Q J I) (cwV 0 C.2.2.2.2.1 gX3_change_X3_contentOfDraft rfl rfl rfl (by decide +kernel) (by rw [hXR]; decide)) Q.obj rfl rfl rfl (Nat.le_of_ble_eq_true rfl) dX3_change_47 (pc' := 50) rfl (by rw [hXR]; exact Nat.le_of_ble_eq_true rfl) (by rw [hXR]; exact Nat.le_of_ble_eq_true rfl) (fun _ _ z => z.elim) ?_
    rintro r h' ⟨c, b, f', rfl, hcb, hc, hb0, rfl, hf'⟩
    have Q1 := Q.mono (h' := jup (jup h b (.inl (G.2.2.1.1, s 4, .inl f'))) c (.inr (1, [.int (nI 1), .int (nI 0), .int (nI 0), .ref b]))) (fun w e hw => (jup_ne (ne_none hw hc)).trans (jup_some hb0 hw))
    have hPn1 : ∀ w, P w → (jup (jup h b (.inl (G.2.2.1.1, s 4, .inl f'))) c (.inr (1, [.int (nI 1), .int (nI 0), .int (nI 0), .ref b]))) w ≠ none := fun w hw z => hPn w hw (jup_none (jup_none z))
    have hF1 : ∀ w, P w → (jup (jup h b (.inl (G.2.2.1.1, s 4, .inl f'))) c (.inr (1, [.int (nI 1), .int (nI 0), .int (nI 0), .ref b]))) w = h w := fun w hw => (jup_ne (pne (fun z => hPn c z hc) hw)).trans (jup_ne (pne (fun z => hPn b z hb0) hw))
    have k := k9 K hi
    have hA : ∀ f, f ≠ 24 → f ≠ 21 → f ≠ 7 → ((mRingA (va_up (va_up s 25 0) 23 (s 4)) (aDr a (s 4)) i)) f = a f := fun f h24 h21 _ => by rw [mRingA_k h21]; unfold aDr; exact up_n h24
    have hN : cNew s a (va_up (va_up (va_up s 25 0) 23 (s 4)) 10 (s 10 + 1)) (mkA (va_up (va_up s 25 0) 23 (s 4)) (mRingA (va_up (va_up s 25 0) 23 (s 4)) (aDr a (s 4)) i) j i 1 0) i := mkA_cNew rfl rfl rfl hA (fun t _ => by rw [mRingA_k (by decide)]; rfl) (fun _ => Q.last hi)
    have hV : cVal s a (va_up (va_up (va_up s 25 0) 23 (s 4)) 10 (s 10 + 1)) (mkA (va_up (va_up s 25 0) 23 (s 4)) (mRingA (va_up (va_up s 25 0) 23 (s 4)) (aDr a (s 4)) i) j i 1 0) i j (a 12 (a 8 i) + 1) (a 8 i + 1) := by
      have z := mkA_cVal (s := s) (a := a) (s1 := (va_up (va_up s 25 0) 23 (s 4))) (s' := (va_up (va_up (va_up s 25 0) 23 (s 4)) 10 (s 10 + 1))) (a1 := (mRingA (va_up (va_up s 25 0) 23 (s 4)) (aDr a (s 4)) i)) (b := j) (i := i) (th := 1) (at_ := 0) rfl rfl rfl rfl rfl hA
      rw [if_neg k.1, ← k.2] at z
      exact z
    have hcc : (jup (jup h b (.inl (G.2.2.1.1, s 4, .inl f'))) c (.inr (1, [.int (nI 1), .int (nI 0), .int (nI 0), .ref b]))) c = some (.inr (1, [.int (nI ((mkA (va_up (va_up s 25 0) 23 (s 4)) (mRingA (va_up (va_up s 25 0) 23 (s 4)) (aDr a (s 4)) i) j i 1 0) 16 (s 10))), .int (nI ((mkA (va_up (va_up s 25 0) 23 (s 4)) (mRingA (va_up (va_up s 25 0) 23 (s 4)) (aDr a (s 4)) i) j i 1 0) 18 (s 10) / 100)), .int (nI ((mkA (va_up (va_up s 25 0) 23 (s 4)) (mRingA (va_up (va_up s 25 0) 23 (s 4)) (aDr a (s 4)) i) j i 1 0) 18 (s 10) % 100)), .ref b])) := by
      rw [mkA_c16 (show (va_up (va_up s 25 0) 23 (s 4)) 10 = s 10 from rfl), mkA_c18 (show (va_up (va_up s 25 0) 23 (s 4)) 10 = s 10 from rfl)]
      exact jup_self _ _ _
    have hmm : (jup (jup h b (.inl (G.2.2.1.1, s 4, .inl f'))) c (.inr (1, [.int (nI 1), .int (nI 0), .int (nI 0), .ref b]))) b = some (.inl (G.2.2.1.1, (mkA (va_up (va_up s 25 0) 23 (s 4)) (mRingA (va_up (va_up s 25 0) 23 (s 4)) (aDr a (s 4)) i) j i 1 0) 19 (s 10), .inl f')) := by
      rw [mkA_c19 (show (va_up (va_up s 25 0) 23 (s 4)) 10 = s 10 from rfl)]
      exact (jup_ne hcb.symm).trans (jup_self _ _ _)
    have hsz : (mkA (va_up (va_up s 25 0) 23 (s 4)) (mRingA (va_up (va_up s 25 0) 23 (s 4)) (aDr a (s 4)) i) j i 1 0) 19 (s 10) = s 4 := mkA_c19 (show (va_up (va_up s 25 0) 23 (s 4)) 10 = s 10 from rfl)
    have h20 : ∀ z, z < s 4 → (mkA (va_up (va_up s 25 0) 23 (s 4)) (mRingA (va_up (va_up s 25 0) 23 (s 4)) (aDr a (s 4)) i) j i 1 0) 20 (6 * s 10 + z) = a 5 z := by
      intro z hz
      rw [mkA_c20 (show (va_up (va_up s 25 0) 23 (s 4)) 10 = s 10 from rfl) (show z < if 1 = 0 then 0 else (va_up (va_up s 25 0) 23 (s 4)) 23 from hz)]
      rw [mRingA_k (by decide)]
      show (if z < s 4 then a 5 z else a 24 z) = a 5 z
      exact if_pos hz
    have hme : ∀ z, z < (mkA (va_up (va_up s 25 0) 23 (s 4)) (mRingA (va_up (va_up s 25 0) 23 (s 4)) (aDr a (s 4)) i) j i 1 0) 19 (s 10) → f' z = nI ((mkA (va_up (va_up s 25 0) 23 (s 4)) (mRingA (va_up (va_up s 25 0) 23 (s 4)) (aDr a (s 4)) i) j i 1 0) 20 (6 * s 10 + z)) := by
      intro z hz
      rw [hsz] at hz
      rw [h20 z hz, hf' z hz]
      exact Q.dre hz
    have hmx : b ≠ xa 4 ∧ b ≠ xa 5 := ⟨(ne_none Q.vof hb0).symm, (ne_none Q.draft hb0).symm⟩
    have hRf : refF s a i ((mkA (va_up (va_up s 25 0) 23 (s 4)) (mRingA (va_up (va_up s 25 0) 23 (s 4)) (aDr a (s 4)) i) j i 1 0) 16 (s 10)) (fun z => (mkA (va_up (va_up s 25 0) 23 (s 4)) (mRingA (va_up (va_up s 25 0) 23 (s 4)) (aDr a (s 4)) i) j i 1 0) 20 (6 * s 10 + z)) ((mkA (va_up (va_up s 25 0) 23 (s 4)) (mRingA (va_up (va_up s 25 0) 23 (s 4)) (aDr a (s 4)) i) j i 1 0) 19 (s 10)) = refF s a i ((mkA (va_up (va_up s 25 0) 23 (s 4)) (mRingA (va_up (va_up s 25 0) 23 (s 4)) (aDr a (s 4)) i) j i 1 0) 16 (s 10)) (a 5) (s 4) := refF_congr hsz (fun z hz => h20 z (by rw [hsz] at hz; exact hz))
    show jW X G 4 5 28 50 [(0, .ref xo), (1, .int (nI j)), (2, .int (nI i)), (3, .int v)] [.ref c, .int v, .int (nI i), .int (nI j), .ref xo] (jup (jup h b (.inl (G.2.2.1.1, s 4, .inl f'))) c (.inr (1, [.int (nI 1), .int (nI 0), .int (nI 0), .ref b])))
    refine j_callV C (As := [.int (nI j), .int (nI i), .int v, .ref c]) (rest := []) (c_edit X.2.1 C.2.2.2.2.2.2.2.2 G (s' := (va_up (va_up (va_up s 25 0) 23 (s 4)) 10 (s 10 + 1))) (a' := (mkA (va_up (va_up s 25 0) 23 (s 4)) (mRingA (va_up (va_up s 25 0) 23 (s 4)) (aDr a (s 4)) i) j i 1 0)) Q1 J I v hi (by omega) rfl (by rw [mkA_7, mRingA_k (by decide)]; rfl) hN hV hcc hmm (fun z hz => by rw [hsz] at hz; rw [h20 z hz, hf' z hz]; exact Q.dre hz) (fun z hz => by rw [hsz] at hz; rw [h20 z hz]; exact I.draft z) (by rw [hsz]; exact h4) (by rw [mkA_c16 (show (va_up (va_up s 25 0) 23 (s 4)) 10 = s 10 from rfl)]; exact Nat.le_refl _) hmx hPn1 hPo (fun z => hPn b z hb0)) (cwV 4 C.2.2.2.2.1 gX3_change_X3_edit rfl rfl rfl (by decide +kernel) (by rw [hXR]; decide)) Q1.obj rfl rfl rfl (Nat.le_of_ble_eq_true rfl) dX3_change_50 (pc' := 53) rfl (by rw [hXR]; exact Nat.le_of_ble_eq_true rfl) (by rw [hXR]; exact Nat.le_of_ble_eq_true rfl) (fun _ _ z => z.elim) ?_
    rintro r h' (⟨em, rfl, rfl⟩ | ⟨em, ev, rfl, rfl⟩ | ⟨em, ev, er, rfl, rfl⟩ | ⟨em, ev, er, rfl, hE, hF⟩)
    · show jW X G 4 6 34 53 [(0, .ref xo), (1, .int (nI j)), (2, .int (nI i)), (3, .int v)] [.int ((-1))] (jup (jup h b (.inl (G.2.2.1.1, s 4, .inl f'))) c (.inr (1, [.int (nI 1), .int (nI 0), .int (nI 0), .ref b])))
      exact j_iret C E dX3_change_53 rfl (Nat.le_of_ble_eq_true rfl) (Nat.le_of_ble_eq_true rfl) (by rw [show oChange s a (nI j) (nI i) v = ((-1), (va_up (va_up s 25 0) 23 (s 4)), (aDr a (s 4))) from by unfold oChange; rw [if_pos (show inN (nI j) (s 2) = true ∧ inN (nI i) (s 6) = true from ⟨by rw [inN_nI (by omega)]; exact decide_eq_true hj, by rw [inN_nI (by omega)]; exact decide_eq_true hi⟩), tn_nI (j := i) (by omega), if_neg (show ¬ a 7 i = 0 by omega), if_pos (show mOpen s a (nI j) = true from (by rw [mOpen_nI hj h2]; exact decide_eq_true hop)), if_neg (bff em)] <;> rfl]; exact ⟨rfl, rfl, (Q1.same (s' := (va_up (va_up s 25 0) 23 (s 4))) (a' := (aDr a (s 4))) (fun f h25 h23 => by rw [up_n h23, up_n h25]) (fun f h24 _ _ _ _ => by unfold aDr; exact up_n h24)).e hPo, hF1⟩)
    · show jW X G 4 6 34 53 [(0, .ref xo), (1, .int (nI j)), (2, .int (nI i)), (3, .int v)] [.int ((-2))] (jup (jup h b (.inl (G.2.2.1.1, s 4, .inl f'))) c (.inr (1, [.int (nI 1), .int (nI 0), .int (nI 0), .ref b])))
      exact j_iret C E dX3_change_53 rfl (Nat.le_of_ble_eq_true rfl) (Nat.le_of_ble_eq_true rfl) (by rw [show oChange s a (nI j) (nI i) v = ((-2), (va_up (va_up s 25 0) 23 (s 4)), (aDr a (s 4))) from by unfold oChange; rw [if_pos (show inN (nI j) (s 2) = true ∧ inN (nI i) (s 6) = true from ⟨by rw [inN_nI (by omega)]; exact decide_eq_true hj, by rw [inN_nI (by omega)]; exact decide_eq_true hi⟩), tn_nI (j := i) (by omega), if_neg (show ¬ a 7 i = 0 by omega), if_pos (show mOpen s a (nI j) = true from (by rw [mOpen_nI hj h2]; exact decide_eq_true hop)), if_pos em, if_neg (fun z => ev (by rw [k.2]; exact z.symm))] <;> rfl]; exact ⟨rfl, rfl, (Q1.same (s' := (va_up (va_up s 25 0) 23 (s 4))) (a' := (aDr a (s 4))) (fun f h25 h23 => by rw [up_n h23, up_n h25]) (fun f h24 _ _ _ _ => by unfold aDr; exact up_n h24)).e hPo, hF1⟩)
    · show jW X G 4 6 34 53 [(0, .ref xo), (1, .int (nI j)), (2, .int (nI i)), (3, .int v)] [.int (refF s a i ((mkA (va_up (va_up s 25 0) 23 (s 4)) (mRingA (va_up (va_up s 25 0) 23 (s 4)) (aDr a (s 4)) i) j i 1 0) 16 (s 10)) (fun z => (mkA (va_up (va_up s 25 0) 23 (s 4)) (mRingA (va_up (va_up s 25 0) 23 (s 4)) (aDr a (s 4)) i) j i 1 0) 20 (6 * s 10 + z)) ((mkA (va_up (va_up s 25 0) 23 (s 4)) (mRingA (va_up (va_up s 25 0) 23 (s 4)) (aDr a (s 4)) i) j i 1 0) 19 (s 10)))] (jup (jup h b (.inl (G.2.2.1.1, s 4, .inl f'))) c (.inr (1, [.int (nI 1), .int (nI 0), .int (nI 0), .ref b])))
      exact j_iret C E dX3_change_53 rfl (Nat.le_of_ble_eq_true rfl) (Nat.le_of_ble_eq_true rfl) (by
        rw [hRf] at er ⊢
        rcases refF_w (s := s) (a := a) (t := i) (z := (mkA (va_up (va_up s 25 0) 23 (s 4)) (mRingA (va_up (va_up s 25 0) 23 (s 4)) (aDr a (s 4)) i) j i 1 0) 16 (s 10)) (N := s 4) (g := a 5) (mkA_c16 (show (va_up (va_up s 25 0) 23 (s 4)) 10 = s 10 from rfl)) (by omega) with ⟨e1, e⟩ | ⟨e1, e2, e⟩ | ⟨-, -, e⟩
        · rw [e, show oChange s a (nI j) (nI i) v = ((-3), (va_up (va_up s 25 0) 23 (s 4)), (aDr a (s 4))) from by unfold oChange; rw [if_pos (show inN (nI j) (s 2) = true ∧ inN (nI i) (s 6) = true from ⟨by rw [inN_nI (by omega)]; exact decide_eq_true hj, by rw [inN_nI (by omega)]; exact decide_eq_true hi⟩), tn_nI (j := i) (by omega), if_neg (show ¬ a 7 i = 0 by omega), if_pos (show mOpen s a (nI j) = true from (by rw [mOpen_nI hj h2]; exact decide_eq_true hop)), if_pos em, if_pos (show v = nI (a 9 i) by rw [← ev, k.2]), if_pos (nn_t (e1.symm.trans (hRow _)))] <;> rfl]
          exact ⟨rfl, rfl, (Q1.same (s' := (va_up (va_up s 25 0) 23 (s 4))) (a' := (aDr a (s 4))) (fun f h25 h23 => by rw [up_n h23, up_n h25]) (fun f h24 _ _ _ _ => by unfold aDr; exact up_n h24)).e hPo, hF1⟩
        · rw [e, show oChange s a (nI j) (nI i) v = ((-4), (va_up (va_up s 25 0) 23 (s 4)), (mRingA (va_up (va_up s 25 0) 23 (s 4)) (aDr a (s 4)) i)) from by unfold oChange; rw [if_pos (show inN (nI j) (s 2) = true ∧ inN (nI i) (s 6) = true from ⟨by rw [inN_nI (by omega)]; exact decide_eq_true hj, by rw [inN_nI (by omega)]; exact decide_eq_true hi⟩), tn_nI (j := i) (by omega), if_neg (show ¬ a 7 i = 0 by omega), if_pos (show mOpen s a (nI j) = true from (by rw [mOpen_nI hj h2]; exact decide_eq_true hop)), if_pos em, if_pos (show v = nI (a 9 i) by rw [← ev, k.2]), if_neg (bff (nn_f (e1.symm.trans (hRow _)))), if_pos ((hRing i hi (by omega) e1).symm.trans e2)] <;> rfl]
          exact ⟨rfl, rfl, (Q1.same (s' := (va_up (va_up s 25 0) 23 (s 4))) (a' := (mRingA (va_up (va_up s 25 0) 23 (s 4)) (aDr a (s 4)) i)) (fun f h25 h23 => by rw [up_n h23, up_n h25]) (fun f h24 h21 _ _ _ => by rw [mRingA_k h21]; unfold aDr; exact up_n h24)).e hPo, hF1⟩
        · exact absurd e er)
    · show jW X G 4 6 34 53 [(0, .ref xo), (1, .int (nI j)), (2, .int (nI i)), (3, .int v)] [.int (nI (a 12 (a 8 i) + 1))] (h')
      have hu1 : ¬ mUnl (va_up (va_up s 25 0) 23 (s 4)) (aDr a (s 4)) (a 7 i) = true := by
        rw [hRf] at er
        rcases refF_w (s := s) (a := a) (t := i) (z := (mkA (va_up (va_up s 25 0) 23 (s 4)) (mRingA (va_up (va_up s 25 0) 23 (s 4)) (aDr a (s 4)) i) j i 1 0) 16 (s 10)) (N := s 4) (g := a 5) (mkA_c16 (show (va_up (va_up s 25 0) 23 (s 4)) 10 = s 10 from rfl)) (by omega) with ⟨-, e⟩ | ⟨-, -, e⟩ | ⟨e1, -, -⟩
        · exact absurd (er.symm.trans e) (by decide)
        · exact absurd (er.symm.trans e) (by decide)
        · exact bff (nn_f (e1.symm.trans (hRow _)))
      have hu2 : ¬ mRing (va_up (va_up s 25 0) 23 (s 4)) (aDr a (s 4)) i = true := by
        rw [hRf] at er
        rcases refF_w (s := s) (a := a) (t := i) (z := (mkA (va_up (va_up s 25 0) 23 (s 4)) (mRingA (va_up (va_up s 25 0) 23 (s 4)) (aDr a (s 4)) i) j i 1 0) 16 (s 10)) (N := s 4) (g := a 5) (mkA_c16 (show (va_up (va_up s 25 0) 23 (s 4)) 10 = s 10 from rfl)) (by omega) with ⟨-, e⟩ | ⟨-, -, e⟩ | ⟨e1, e2, -⟩
        · exact absurd (er.symm.trans e) (by decide)
        · exact absurd (er.symm.trans e) (by decide)
        · exact bff ((hRing i hi (by omega) e1).symm.trans e2)
      exact j_iret C E dX3_change_53 rfl (Nat.le_of_ble_eq_true rfl) (Nat.le_of_ble_eq_true rfl) (by rw [show oChange s a (nI j) (nI i) v = (nI (a 9 i + 1), (va_up (va_up (va_up s 25 0) 23 (s 4)) 10 (s 10 + 1)), (mkA (va_up (va_up s 25 0) 23 (s 4)) (mRingA (va_up (va_up s 25 0) 23 (s 4)) (aDr a (s 4)) i) j i 1 0)) from by unfold oChange; rw [if_pos (show inN (nI j) (s 2) = true ∧ inN (nI i) (s 6) = true from ⟨by rw [inN_nI (by omega)]; exact decide_eq_true hj, by rw [inN_nI (by omega)]; exact decide_eq_true hi⟩), tn_nI (j := i) (by omega), if_neg (show ¬ a 7 i = 0 by omega), if_pos (show mOpen s a (nI j) = true from (by rw [mOpen_nI hj h2]; exact decide_eq_true hop)), if_pos em, if_pos (show v = nI (a 9 i) by rw [← ev, k.2]), if_neg hu1, if_neg hu2, tn_nI (j := j) (by omega)] <;> rfl]; exact ⟨by rw [k.2], rfl, hE, fun w hw => (hF w hw).trans (hF1 w hw)⟩)
  · have c_6 := (nI_eq (a := a 7 i) (b := 0) (by omega) (by omega)).mp c_6
    have c_6 : (a 7 i) = 0 := c_6
    exact j_throw C E (cls := "java/lang/IllegalArgumentException") (text := "the thing is a point") (ik := 91) (is := 122) (ic := 95) (by decide +kernel) (by decide +kernel) (by decide +kernel) (by decide +kernel) (by decide +kernel) jt_iae.1 jt_iae.2.1 jt_iae.2.2 dX3_change_27 dX3_change_30 dX3_change_31 dX3_change_33 dX3_change_36 (by rw [hXR]; exact Nat.le_of_ble_eq_true rfl) (by rw [hXR]; exact Nat.le_of_ble_eq_true rfl) (Nat.le_of_ble_eq_true rfl) (Nat.le_of_ble_eq_true rfl) ((Or.inr (Or.inl ⟨rfl, rfl, by unfold oChange; rw [if_pos (show inN (nI j) (s 2) = true ∧ inN (nI i) (s 6) = true from ⟨by rw [inN_nI (by omega)]; exact decide_eq_true hj, by rw [inN_nI (by omega)]; exact decide_eq_true hi⟩), tn_nI (j := i) (by omega), if_pos (show a 7 i = 0 by omega)] <;> rfl⟩)))
