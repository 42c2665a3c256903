set_option maxRecDepth 100000 in
set_option maxHeartbeats 4000000 in
theorem c_undoT (l : Launch) (hlt : l.stackTraces = false) (G : jG) {P : Nat → Prop} {xo : Nat} {xa th va ca ma : Nat → Nat} {dat cap : Nat} {mod : Int32} {df : Nat → Option Nat} {vf dr : Nat → Int32} {mf : Nat → Nat → Int32} {s : mS} {a : mA} {h : jH} (Q : cQ G P xo xa th va ca ma dat cap mod df vf dr mf s a h) (J : IS s) (I : IA a) (b i o : Nat) (W : WI s a) (hi : i < s 6) (hb : b < 20) (ho : o < 20) (hPn : ∀ w, P w → h w ≠ none) (hPo : ∀ v, v < s 10 → ¬ P (ma v)) : jM l G yX3_undoThing wsX3_undoThing 6 139 1 6 [.ref xo, .int (nI b), .int (nI i), .int (nI o)] h (fun r h' => ((¬ a 14 (a 8 i) = o ∧ r = some (.int (bI false)) ∧ h' = h) ∨ (a 14 (a 8 i) = o ∧ r = some (.int (bI (oUndoes s a b i o).1)) ∧ cE G P xo xa (oUndoes s a b i o).2.1 (oUndoes s a b i o).2.2 h' ∧ ∀ w, P w → h' w = h w))) (fun _ _ => False) := by
  have h6 := J.2.1
  have h2 := J.2.2.1
  have h4 := J.2.2.2.1
  have h10 := J.2.2.2.2.1
  have hs0 := J.1 0
  have hs1 := J.1 1
  have hp8 := Q.last hi
  refine jM_of (cc := cX3_undoThing) (maxL := 6) (ret := (some .boolean)) hlt (by decide +kernel) rfl (Nat.le_of_ble_eq_true rfl) ?_
  intro X C E hXl hXR hXn
  have hinX3 : ∀ w ∈ u_ws RX3 TX3 11, w ∈ wsX3_undoThing := by decide +kernel
  have hinX1 : ∀ w ∈ u_ws RX1 TX1 2, w ∈ wsX3_undoThing := by decide +kernel
  have hinX2 : ∀ w ∈ u_ws RX2 TX2 6, w ∈ wsX3_undoThing := by decide +kernel
  show jW X G 6 0 0 0 [(0, .ref xo), (1, .int (nI b)), (2, .int (nI i)), (3, .int (nI o))] [] h
  refine j_aload_n C (i := 0) (x := xo) 0 rfl dX3_undoThing_0 (pc' := 1) rfl ?_
  refine j_get C (ref := "MapRevisions") (CN := RX3) (T := TX3) (N := 11) (ci := 4) (index := 25) (a := xo) (kf := 2) (fs := [.ref (xa 0), .ref (xa 1), .ref (xa 2), .ref (xa 3), .ref (xa 4), .ref (xa 5), .int (nI (s 2)), .int (nI (s 4)), .int (nI (s 10)), .int (nI (s 0)), .int (nI (s 1))]) (v := .ref (xa 2)) hinX3 rfl (by decide) (by decide +kernel) rfl Q.obj rfl dX3_undoThing_1 (pc' := 4) rfl ?_
  refine j_iload_n C (i := 2) (x := nI i) 2 rfl dX3_undoThing_4 (pc' := 5) rfl ?_
  have D_5 := Q.dta (t := i) (by omega)
  refine j_callV C (As := [.int (nI i)]) (rest := []) (c_get X.2.1 C.2.2.2.2.2.2.2.2 G Q.lst D_5.1 i (th i) (by omega) D_5.2.2.1 (by omega) D_5.2.1) (cwV 1 C.2.2.2.2.1 gX3_undoThing_Jx4a65c_get_915e3 rfl rfl rfl (by decide +kernel) (by rw [hXR]; decide)) Q.lst rfl rfl rfl (Nat.le_of_ble_eq_true rfl) dX3_undoThing_5 (pc' := 8) rfl (by rw [hXR]; exact Nat.le_of_ble_eq_true rfl) (by rw [hXR]; exact Nat.le_of_ble_eq_true rfl) (fun _ _ z => z.elim) ?_
  rintro r h' ⟨rfl, hh⟩
  have hh := hh.symm
  subst hh
  show jW X G 6 0 0 8 [(0, .ref xo), (1, .int (nI b)), (2, .int (nI i)), (3, .int (nI o))] [.ref (th i)] h
  refine j_cast C (CN := RX1) (T := TX1) (N := 2) (ci := 2) (index := 111) (a := th i) (fs := [.int (nI (a 7 i)), .ref (va (a 8 i))]) (Q.thing (t := i) (by omega)) rfl (by decide +kernel) dX3_undoThing_8 (pc' := 11) rfl ?_
  refine j_astore C (i := 4) (x := th i) (l' := [(4, .ref (th i)), (0, .ref xo), (1, .int (nI b)), (2, .int (nI i)), (3, .int (nI o))]) dX3_undoThing_11 (pc' := 13) rfl (by decide) rfl ?_
  refine j_aload C (i := 4) (x := th i) 0 rfl dX3_undoThing_13 (pc' := 15) rfl ?_
  refine j_get C (ref := "MapRevisions$Thing") (CN := RX1) (T := TX1) (N := 2) (ci := 2) (index := 138) (a := th i) (kf := 1) (fs := [.int (nI (a 7 i)), .ref (va (a 8 i))]) (v := .ref (va (a 8 i))) hinX1 rfl (by decide) (by decide +kernel) rfl (Q.thing (t := i) (by omega)) rfl dX3_undoThing_15 (pc' := 18) rfl ?_
  have B_1 := Q.last (t := i) (by omega)
  refine j_get C (ref := "MapRevisions$Version") (CN := RX2) (T := TX2) (N := 6) (ci := 3) (index := 198) (a := va (a 8 i)) (kf := 2) (fs := [cP va (a 13 (a 8 i)), .int (nI (a 12 (a 8 i))), .int (nI (a 14 (a 8 i))), .int (nI (a 15 (a 8 i))), .ref (ca (a 8 i)), .int (nI (a 17 (a 8 i)))]) (v := .int (nI (a 14 (a 8 i)))) hinX2 rfl (by decide) (by decide +kernel) rfl (Q.ver (v := (a 8 i)) (by omega)) rfl dX3_undoThing_18 (pc' := 21) rfl ?_
  have B_2 := IA.big I 14 (a 8 i)
  refine j_iload_n C (i := 3) (x := nI o) 4 rfl dX3_undoThing_21 (pc' := 22) rfl ?_
  refine j_icmp_eq C dX3_undoThing_22 (tgt := 27) (by decide) (pc' := 25) rfl (fun c_3 => ?_) (fun c_3 => ?_)
  · have c_3 := (nI_eq (a := a 14 (a 8 i)) (b := o) (by omega) (by omega)).mp c_3
    have c_3 : (a 14 (a 8 i)) = o := c_3
    refine j_aload_n C (i := 0) (x := xo) 1 rfl dX3_undoThing_27 (pc' := 28) rfl ?_
    refine j_aload C (i := 4) (x := th i) 0 rfl dX3_undoThing_28 (pc' := 30) rfl ?_
    refine j_get C (ref := "MapRevisions$Thing") (CN := RX1) (T := TX1) (N := 2) (ci := 2) (index := 138) (a := th i) (kf := 1) (fs := [.int (nI (a 7 i)), .ref (va (a 8 i))]) (v := .ref (va (a 8 i))) hinX1 rfl (by decide) (by decide +kernel) rfl (Q.thing (t := i) (by omega)) rfl dX3_undoThing_30 (pc' := 33) rfl ?_
    have B_4 := Q.last (t := i) (by omega)
    refine j_iload_n C (i := 3) (x := nI o) 4 rfl dX3_undoThing_33 (pc' := 34) rfl ?_
    refine j_callV C (As := [.ref (va (a 8 i)), .int (nI o)]) (rest := []) (c_contentAhead X.2.1 C.2.2.2.2.2.2.2.2 G Q J I (a 8 i) o hp8 (by omega)) (cwV 2 C.2.2.2.2.1 gX3_undoThing_X3_contentAheadOf rfl rfl rfl (by decide +kernel) (by rw [hXR]; decide)) Q.obj rfl rfl rfl (Nat.le_of_ble_eq_true rfl) dX3_undoThing_34 (pc' := 37) rfl (by rw [hXR]; exact Nat.le_of_ble_eq_true rfl) (by rw [hXR]; exact Nat.le_of_ble_eq_true rfl) (fun _ _ z => z.elim) ?_
    rintro r h' ⟨rfl, hh⟩
    have hh := hh.symm
    subst hh
    show jW X G 6 0 0 37 [(4, .ref (th i)), (0, .ref xo), (1, .int (nI b)), (2, .int (nI i)), (3, .int (nI o))] [.ref (cC xa ca (caF a o 1400 (a 13 (a 8 i))))] h
    refine j_astore C (i := 5) (x := cC xa ca (caF a o 1400 (a 13 (a 8 i)))) (l' := [(5, .ref (cC xa ca (caF a o 1400 (a 13 (a 8 i))))), (4, .ref (th i)), (0, .ref xo), (1, .int (nI b)), (2, .int (nI i)), (3, .int (nI o))]) dX3_undoThing_37 (pc' := 39) rfl (by decide) rfl ?_
    have hl : a 14 (a 8 i) = o := c_3
    have hbu := bu_ca W hi hl
    have hof := mBU_of (o := o) W hi
    obtain ⟨x, hx⟩ : ∃ x, x = caF a o 1400 (a 13 (a 8 i)) := ⟨_, rfl⟩
    rw [← hx] at hbu
    rw [← hx]
    rw [hbu] at hof
    rcases x with _ | p
    · clear hof
      have k := k9 W.K hi
      have hA : ∀ f, f ≠ 24 → f ≠ 21 → f ≠ 7 → (a) f = a f := fun f _ _ _ => rfl
      have hN : cNew s a (va_up (va_up s 23 0) 10 (s 10 + 1)) (mkA (va_up s 23 0) a b i 0 0) i := mkA_cNew rfl rfl rfl hA (fun t _ => rfl) (fun _ => Q.last hi)
      have hV : cVal s a (va_up (va_up s 23 0) 10 (s 10 + 1)) (mkA (va_up s 23 0) a b i 0 0) i b (a 12 (a 8 i) + 1) (a 8 i + 1) := by
        have z := mkA_cVal (s := s) (a := a) (s1 := (va_up s 23 0)) (s' := (va_up (va_up s 23 0) 10 (s 10 + 1))) (a1 := a) (b := b) (i := i) (th := 0) (at_ := 0) rfl rfl rfl rfl rfl hA
        rw [if_neg k.1, ← k.2] at z
        exact z
      have hcc : h (xa 1) = some (.inr (1, [.int (nI ((mkA (va_up s 23 0) a b i 0 0) 16 (s 10))), .int (nI ((mkA (va_up s 23 0) a b i 0 0) 18 (s 10) / 100)), .int (nI ((mkA (va_up s 23 0) a b i 0 0) 18 (s 10) % 100)), .ref (xa 0)])) := by
        rw [mkA_c16 (show (va_up s 23 0) 10 = s 10 from rfl), mkA_c18 (show (va_up s 23 0) 10 = s 10 from rfl)]
        exact Q.2.2.1
      have hmm : h (xa 0) = some (.inl (G.2.2.1.1, (mkA (va_up s 23 0) a b i 0 0) 19 (s 10), .inl (fun _ => 0))) := by
        rw [mkA_c19 (show (va_up s 23 0) 10 = s 10 from rfl)]
        exact Q.2.1
      have hmx : xa 0 ≠ xa 4 ∧ xa 0 ≠ xa 5 := ⟨Q.xa_ne (by decide) (by decide) (by decide), Q.xa_ne (by decide) (by decide) (by decide)⟩
      have he : ∀ z, z < (mkA (va_up s 23 0) a b i 0 0) 19 (s 10) → (fun _ => 0 : Nat → Int32) z = nI ((mkA (va_up s 23 0) a b i 0 0) 20 (6 * s 10 + z)) := by
        intro z hz
        rw [mkA_c19 (show (va_up s 23 0) 10 = s 10 from rfl)] at hz
        exact absurd hz (Nat.not_lt_zero z)
      have hg : ∀ z, z < (mkA (va_up s 23 0) a b i 0 0) 19 (s 10) → (mkA (va_up s 23 0) a b i 0 0) 20 (6 * s 10 + z) < 40 := by
        intro z hz
        rw [mkA_c19 (show (va_up s 23 0) 10 = s 10 from rfl)] at hz
        exact absurd hz (Nat.not_lt_zero z)
      have hN9 : (mkA (va_up s 23 0) a b i 0 0) 19 (s 10) ≤ 6 := by
        rw [mkA_c19 (show (va_up s 23 0) 10 = s 10 from rfl)]
        exact Nat.zero_le _
      have hz9 : (mkA (va_up s 23 0) a b i 0 0) 16 (s 10) ≤ 1 := by
        rw [mkA_c16 (show (va_up s 23 0) 10 = s 10 from rfl)]
        exact Nat.zero_le _
      show jW X G 6 0 0 39 [(5, .ref (xa 1)), (4, .ref (th i)), (0, .ref xo), (1, .int (nI b)), (2, .int (nI i)), (3, .int (nI o))] [] h
      refine j_aload_n C (i := 0) (x := xo) 2 rfl dX3_undoThing_39 (pc' := 40) rfl ?_
      refine j_iload_n C (i := 2) (x := nI i) 4 rfl dX3_undoThing_40 (pc' := 41) rfl ?_
      refine j_aload C (i := 5) (x := xa 1) 0 rfl dX3_undoThing_41 (pc' := 43) rfl ?_
      refine j_callV C (As := [.int (nI i), .ref (xa 1)]) (rest := []) (c_refusal X.2.1 C.2.2.2.2.2.2.2.2 G Q J I (g := fun z => (mkA (va_up s 23 0) a b i 0 0) 20 (6 * s 10 + z)) hcc hmm he hg hN9 hz9 i (by omega)) (cwV 2 C.2.2.2.2.1 gX3_undoThing_X3_refusalOf rfl rfl rfl (by decide +kernel) (by rw [hXR]; decide)) Q.obj rfl rfl rfl (Nat.le_of_ble_eq_true rfl) dX3_undoThing_43 (pc' := 46) rfl (by rw [hXR]; exact Nat.le_of_ble_eq_true rfl) (by rw [hXR]; exact Nat.le_of_ble_eq_true rfl) (fun _ _ z => z.elim) ?_
      rintro r h' ⟨rfl, hh⟩
      have hh := hh.symm
      subst hh
      show jW X G 6 0 0 46 [(5, .ref (xa 1)), (4, .ref (th i)), (0, .ref xo), (1, .int (nI b)), (2, .int (nI i)), (3, .int (nI o))] [.int (refF s a i ((mkA (va_up s 23 0) a b i 0 0) 16 (s 10)) (fun z => (mkA (va_up s 23 0) a b i 0 0) 20 (6 * s 10 + z)) ((mkA (va_up s 23 0) a b i 0 0) 19 (s 10)))] h
      refine j_if_eq C dX3_undoThing_46 (tgt := 51) (by decide) (pc' := 49) rfl (fun c_5 => ?_) (fun c_5 => ?_)
      · refine j_aload_n C (i := 0) (x := xo) 2 rfl dX3_undoThing_51 (pc' := 52) rfl ?_
        refine j_iload_n C (i := 1) (x := nI b) 3 rfl dX3_undoThing_52 (pc' := 53) rfl ?_
        refine j_aload C (i := 4) (x := th i) 1 rfl dX3_undoThing_53 (pc' := 55) rfl ?_
        refine j_aload C (i := 5) (x := xa 1) 0 rfl dX3_undoThing_55 (pc' := 57) rfl ?_
        refine j_callV C (As := [.int (nI b), .ref (th i), .ref (xa 1)]) (rest := []) (c_addV X.2.1 C.2.2.2.2.2.2.2.2 G (s' := (va_up (va_up s 23 0) 10 (s 10 + 1))) (a' := (mkA (va_up s 23 0) a b i 0 0)) Q J I hi hb rfl rfl hN hV hcc hmm he hmx hPn hPo (Q.np.2.1 0 (by decide))) (cwV 3 C.2.2.2.2.1 gX3_undoThing_X3_addVersion rfl rfl rfl (by decide +kernel) (by rw [hXR]; decide)) Q.obj rfl rfl rfl (Nat.le_of_ble_eq_true rfl) dX3_undoThing_57 (pc' := 60) rfl (by rw [hXR]; exact Nat.le_of_ble_eq_true rfl) (by rw [hXR]; exact Nat.le_of_ble_eq_true rfl) (fun _ _ z => z.elim) ?_
        rintro r h' ⟨rfl, hE, hF⟩
        show jW X G 6 1 6 60 [(5, .ref (xa 1)), (4, .ref (th i)), (0, .ref xo), (1, .int (nI b)), (2, .int (nI i)), (3, .int (nI o))] [.int (nI (a 12 (a 8 i) + 1))] (h')
        refine j_pop C rfl dX3_undoThing_60 (pc' := 61) rfl ?_
        refine j_iconst C (v := nI 1) rfl dX3_undoThing_61 (pc' := 62) rfl ?_
        have hgu : ¬ 0 < mUsers a (s 6) i := by
          rcases refF_g (s := s) (a := a) (t := i) (z := (mkA (va_up s 23 0) a b i 0 0) 16 (s 10)) (N := (mkA (va_up s 23 0) a b i 0 0) 19 (s 10)) (g := fun z => (mkA (va_up s 23 0) a b i 0 0) 20 (6 * s 10 + z)) (mkA_c16 (show (va_up s 23 0) 10 = s 10 from rfl)) with ⟨e0, -⟩ | ⟨-, e⟩
          · rw [(use_zero W.gone (by omega) i).mp e0]; exact Nat.lt_irrefl 0
          · exact absurd ((c_5).symm.trans e) (by decide)
        exact j_iret C E dX3_undoThing_62 rfl (Nat.le_of_ble_eq_true rfl) (Nat.le_of_ble_eq_true rfl) (by rw [show oUndoes s a b i o = (true, (va_up (va_up s 23 0) 10 (s 10 + 1)), (mkA (va_up s 23 0) a b i 0 0)) from oUndoes_0 hbu (by unfold oUnd0; rw [if_neg hgu])]; exact Or.inr ⟨hl, rfl, hE, hF⟩)
      · refine j_iconst C (v := nI 0) rfl dX3_undoThing_49 (pc' := 50) rfl ?_
        have hgu : 0 < mUsers a (s 6) i := by
          rcases refF_g (s := s) (a := a) (t := i) (z := (mkA (va_up s 23 0) a b i 0 0) 16 (s 10)) (N := (mkA (va_up s 23 0) a b i 0 0) 19 (s 10)) (g := fun z => (mkA (va_up s 23 0) a b i 0 0) 20 (6 * s 10 + z)) (mkA_c16 (show (va_up s 23 0) 10 = s 10 from rfl)) with ⟨-, e⟩ | ⟨e0, -⟩
          · exact absurd e c_5
          · exact Nat.pos_of_ne_zero (fun z => e0 ((use_zero W.gone (by omega) i).mpr z))
        exact j_iret C E dX3_undoThing_50 rfl (Nat.le_of_ble_eq_true rfl) (Nat.le_of_ble_eq_true rfl) (by rw [show oUndoes s a b i o = (false, s, a) from oUndoes_0 hbu (by unfold oUnd0; rw [if_pos hgu])]; exact Or.inr ⟨hl, rfl, Q.e hPo, fun w hw => rfl⟩)
    · have hp9 : p < s 10 := (hof (Nat.succ_ne_zero p)).1
      have hpt : a 11 p = i := (hof (Nat.succ_ne_zero p)).2
      by_cases c16 : a 16 p = 1
      · by_cases c7 : a 7 i = 0
        · skip
          have k := k9 W.K hi
          have hVp := W.V p hp9
          rw [hpt] at hVp
          have hA : ∀ f, f ≠ 24 → f ≠ 21 → f ≠ 7 → ((aVr a p (a 19 p))) f = a f := fun f h24 _ _ => by unfold aVr; exact up_n h24
          have hN : cNew s a (va_up (va_up (va_up s 23 0) 23 (a 19 p)) 10 (s 10 + 1)) (mkA (va_up (va_up s 23 0) 23 (a 19 p)) (aVr a p (a 19 p)) b i 1 (a 18 p)) i := mkA_cNew rfl rfl rfl hA (fun t _ => rfl) (fun _ => Q.last hi)
          have hV : cVal s a (va_up (va_up (va_up s 23 0) 23 (a 19 p)) 10 (s 10 + 1)) (mkA (va_up (va_up s 23 0) 23 (a 19 p)) (aVr a p (a 19 p)) b i 1 (a 18 p)) i b (a 12 (a 8 i) + 1) (a 8 i + 1) := by
            have z := mkA_cVal (s := s) (a := a) (s1 := (va_up (va_up s 23 0) 23 (a 19 p))) (s' := (va_up (va_up (va_up s 23 0) 23 (a 19 p)) 10 (s 10 + 1))) (a1 := (aVr a p (a 19 p))) (b := b) (i := i) (th := 1) (at_ := (a 18 p)) rfl rfl rfl rfl rfl hA
            rw [if_neg k.1, ← k.2] at z
            exact z
          have hcc : h (ca p) = some (.inr (1, [.int (nI ((mkA (va_up (va_up s 23 0) 23 (a 19 p)) (aVr a p (a 19 p)) b i 1 (a 18 p)) 16 (s 10))), .int (nI ((mkA (va_up (va_up s 23 0) 23 (a 19 p)) (aVr a p (a 19 p)) b i 1 (a 18 p)) 18 (s 10) / 100)), .int (nI ((mkA (va_up (va_up s 23 0) 23 (a 19 p)) (aVr a p (a 19 p)) b i 1 (a 18 p)) 18 (s 10) % 100)), .ref (ma p)])) := by
            rw [mkA_c16 (show (va_up (va_up s 23 0) 23 (a 19 p)) 10 = s 10 from rfl), mkA_c18 (show (va_up (va_up s 23 0) 23 (a 19 p)) 10 = s 10 from rfl)]
            have z := Q.con hp9
            rw [c16] at z
            exact z
          have hmm : h (ma p) = some (.inl (G.2.2.1.1, (mkA (va_up (va_up s 23 0) 23 (a 19 p)) (aVr a p (a 19 p)) b i 1 (a 18 p)) 19 (s 10), .inl (mf p))) := by
            rw [mkA_c19 (show (va_up (va_up s 23 0) 23 (a 19 p)) 10 = s 10 from rfl)]
            exact Q.mem hp9
          have hmx : ma p ≠ xa 4 ∧ ma p ≠ xa 5 := Q.2.2.2.2.2.2.2.2.2.2.2.2.2.2.2.2.1 p hp9
          have hsz : (mkA (va_up (va_up s 23 0) 23 (a 19 p)) (aVr a p (a 19 p)) b i 1 (a 18 p)) 19 (s 10) = a 19 p := mkA_c19 (show (va_up (va_up s 23 0) 23 (a 19 p)) 10 = s 10 from rfl)
          have h20 : ∀ z, z < a 19 p → (mkA (va_up (va_up s 23 0) 23 (a 19 p)) (aVr a p (a 19 p)) b i 1 (a 18 p)) 20 (6 * s 10 + z) = a 20 (6 * p + z) := by
            intro z hz
            rw [mkA_c20 (show (va_up (va_up s 23 0) 23 (a 19 p)) 10 = s 10 from rfl) (show z < if 1 = 0 then 0 else (va_up (va_up s 23 0) 23 (a 19 p)) 23 from hz)]
            exact if_pos hz
          have he : ∀ z, z < (mkA (va_up (va_up s 23 0) 23 (a 19 p)) (aVr a p (a 19 p)) b i 1 (a 18 p)) 19 (s 10) → mf p z = nI ((mkA (va_up (va_up s 23 0) 23 (a 19 p)) (aVr a p (a 19 p)) b i 1 (a 18 p)) 20 (6 * s 10 + z)) := by
            intro z hz
            rw [hsz] at hz
            rw [h20 z hz]
            exact Q.mfe hp9 hz
          have hg : ∀ z, z < (mkA (va_up (va_up s 23 0) 23 (a 19 p)) (aVr a p (a 19 p)) b i 1 (a 18 p)) 19 (s 10) → (mkA (va_up (va_up s 23 0) 23 (a 19 p)) (aVr a p (a 19 p)) b i 1 (a 18 p)) 20 (6 * s 10 + z) < 40 := by
            intro z hz
            rw [hsz] at hz
            rw [h20 z hz]
            exact W.I.member _
          have hN9 : (mkA (va_up (va_up s 23 0) 23 (a 19 p)) (aVr a p (a 19 p)) b i 1 (a 18 p)) 19 (s 10) ≤ 6 := by
            rw [hsz]
            exact W.I.size p
          have hz9 : (mkA (va_up (va_up s 23 0) 23 (a 19 p)) (aVr a p (a 19 p)) b i 1 (a 18 p)) 16 (s 10) ≤ 1 := by
            rw [mkA_c16 (show (va_up (va_up s 23 0) 23 (a 19 p)) 10 = s 10 from rfl)]
            exact Nat.le_refl _
          show jW X G 6 0 0 39 [(5, .ref (ca p)), (4, .ref (th i)), (0, .ref xo), (1, .int (nI b)), (2, .int (nI i)), (3, .int (nI o))] [] h
          refine j_aload_n C (i := 0) (x := xo) 2 rfl dX3_undoThing_39 (pc' := 40) rfl ?_
          refine j_iload_n C (i := 2) (x := nI i) 4 rfl dX3_undoThing_40 (pc' := 41) rfl ?_
          refine j_aload C (i := 5) (x := ca p) 0 rfl dX3_undoThing_41 (pc' := 43) rfl ?_
          refine j_callV C (As := [.int (nI i), .ref (ca p)]) (rest := []) (c_refusal X.2.1 C.2.2.2.2.2.2.2.2 G Q J I (g := fun z => (mkA (va_up (va_up s 23 0) 23 (a 19 p)) (aVr a p (a 19 p)) b i 1 (a 18 p)) 20 (6 * s 10 + z)) hcc hmm he hg hN9 hz9 i (by omega)) (cwV 2 C.2.2.2.2.1 gX3_undoThing_X3_refusalOf rfl rfl rfl (by decide +kernel) (by rw [hXR]; decide)) Q.obj rfl rfl rfl (Nat.le_of_ble_eq_true rfl) dX3_undoThing_43 (pc' := 46) rfl (by rw [hXR]; exact Nat.le_of_ble_eq_true rfl) (by rw [hXR]; exact Nat.le_of_ble_eq_true rfl) (fun _ _ z => z.elim) ?_
          rintro r h' ⟨rfl, hh⟩
          have hh := hh.symm
          subst hh
          show jW X G 6 0 0 46 [(5, .ref (ca p)), (4, .ref (th i)), (0, .ref xo), (1, .int (nI b)), (2, .int (nI i)), (3, .int (nI o))] [.int (refF s a i ((mkA (va_up (va_up s 23 0) 23 (a 19 p)) (aVr a p (a 19 p)) b i 1 (a 18 p)) 16 (s 10)) (fun z => (mkA (va_up (va_up s 23 0) 23 (a 19 p)) (aVr a p (a 19 p)) b i 1 (a 18 p)) 20 (6 * s 10 + z)) ((mkA (va_up (va_up s 23 0) 23 (a 19 p)) (aVr a p (a 19 p)) b i 1 (a 18 p)) 19 (s 10)))] h
          refine j_if_eq C dX3_undoThing_46 (tgt := 51) (by decide) (pc' := 49) rfl (fun c_6 => ?_) (fun c_6 => ?_)
          · refine j_aload_n C (i := 0) (x := xo) 2 rfl dX3_undoThing_51 (pc' := 52) rfl ?_
            refine j_iload_n C (i := 1) (x := nI b) 3 rfl dX3_undoThing_52 (pc' := 53) rfl ?_
            refine j_aload C (i := 4) (x := th i) 1 rfl dX3_undoThing_53 (pc' := 55) rfl ?_
            refine j_aload C (i := 5) (x := ca p) 0 rfl dX3_undoThing_55 (pc' := 57) rfl ?_
            refine j_callV C (As := [.int (nI b), .ref (th i), .ref (ca p)]) (rest := []) (c_addV X.2.1 C.2.2.2.2.2.2.2.2 G (s' := (va_up (va_up (va_up s 23 0) 23 (a 19 p)) 10 (s 10 + 1))) (a' := (mkA (va_up (va_up s 23 0) 23 (a 19 p)) (aVr a p (a 19 p)) b i 1 (a 18 p))) Q J I hi hb rfl rfl hN hV hcc hmm he hmx hPn hPo (hPo p hp9)) (cwV 3 C.2.2.2.2.1 gX3_undoThing_X3_addVersion rfl rfl rfl (by decide +kernel) (by rw [hXR]; decide)) Q.obj rfl rfl rfl (Nat.le_of_ble_eq_true rfl) dX3_undoThing_57 (pc' := 60) rfl (by rw [hXR]; exact Nat.le_of_ble_eq_true rfl) (by rw [hXR]; exact Nat.le_of_ble_eq_true rfl) (fun _ _ z => z.elim) ?_
            rintro r h' ⟨rfl, hE, hF⟩
            show jW X G 6 1 6 60 [(5, .ref (ca p)), (4, .ref (th i)), (0, .ref xo), (1, .int (nI b)), (2, .int (nI i)), (3, .int (nI o))] [.int (nI (a 12 (a 8 i) + 1))] (h')
            refine j_pop C rfl dX3_undoThing_60 (pc' := 61) rfl ?_
            refine j_iconst C (v := nI 1) rfl dX3_undoThing_61 (pc' := 62) rfl ?_
            exact j_iret C E dX3_undoThing_62 rfl (Nat.le_of_ble_eq_true rfl) (Nat.le_of_ble_eq_true rfl) (by rw [show oUndoes s a b i o = (true, (va_up (va_up (va_up s 23 0) 23 (a 19 p)) 10 (s 10 + 1)), (mkA (va_up (va_up s 23 0) 23 (a 19 p)) (aVr a p (a 19 p)) b i 1 (a 18 p))) from oUndoes_1 hbu c16 (by unfold oUnd1; rw [if_pos c7])]; exact Or.inr ⟨hl, rfl, hE, hF⟩)
          · refine j_iconst C (v := nI 0) rfl dX3_undoThing_49 (pc' := 50) rfl ?_
            exact j_iret C E dX3_undoThing_50 rfl (Nat.le_of_ble_eq_true rfl) (Nat.le_of_ble_eq_true rfl) (absurd (refF_pt (mkA_c16 (show (va_up (va_up s 23 0) 23 (a 19 p)) 10 = s 10 from rfl)) c7) c_6)
        · skip
          have k := k9 W.K hi
          have hVp := W.V p hp9
          rw [hpt] at hVp
          have hA : ∀ f, f ≠ 24 → f ≠ 21 → f ≠ 7 → ((mRingA (va_up (va_up s 23 0) 23 (a 19 p)) (aVr a p (a 19 p)) i)) f = a f := fun f h24 h21 _ => by rw [mRingA_k h21]; unfold aVr; exact up_n h24
          have hN : cNew s a (va_up (va_up (va_up s 23 0) 23 (a 19 p)) 10 (s 10 + 1)) (mkA (va_up (va_up s 23 0) 23 (a 19 p)) (mRingA (va_up (va_up s 23 0) 23 (a 19 p)) (aVr a p (a 19 p)) i) b i 1 (a 18 p)) i := mkA_cNew rfl rfl rfl hA (fun t _ => by rw [mRingA_k (by decide)]; rfl) (fun _ => Q.last hi)
          have hV : cVal s a (va_up (va_up (va_up s 23 0) 23 (a 19 p)) 10 (s 10 + 1)) (mkA (va_up (va_up s 23 0) 23 (a 19 p)) (mRingA (va_up (va_up s 23 0) 23 (a 19 p)) (aVr a p (a 19 p)) i) b i 1 (a 18 p)) i b (a 12 (a 8 i) + 1) (a 8 i + 1) := by
            have z := mkA_cVal (s := s) (a := a) (s1 := (va_up (va_up s 23 0) 23 (a 19 p))) (s' := (va_up (va_up (va_up s 23 0) 23 (a 19 p)) 10 (s 10 + 1))) (a1 := (mRingA (va_up (va_up s 23 0) 23 (a 19 p)) (aVr a p (a 19 p)) i)) (b := b) (i := i) (th := 1) (at_ := (a 18 p)) rfl rfl rfl rfl rfl hA
            rw [if_neg k.1, ← k.2] at z
            exact z
          have hcc : h (ca p) = some (.inr (1, [.int (nI ((mkA (va_up (va_up s 23 0) 23 (a 19 p)) (mRingA (va_up (va_up s 23 0) 23 (a 19 p)) (aVr a p (a 19 p)) i) b i 1 (a 18 p)) 16 (s 10))), .int (nI ((mkA (va_up (va_up s 23 0) 23 (a 19 p)) (mRingA (va_up (va_up s 23 0) 23 (a 19 p)) (aVr a p (a 19 p)) i) b i 1 (a 18 p)) 18 (s 10) / 100)), .int (nI ((mkA (va_up (va_up s 23 0) 23 (a 19 p)) (mRingA (va_up (va_up s 23 0) 23 (a 19 p)) (aVr a p (a 19 p)) i) b i 1 (a 18 p)) 18 (s 10) % 100)), .ref (ma p)])) := by
            rw [mkA_c16 (show (va_up (va_up s 23 0) 23 (a 19 p)) 10 = s 10 from rfl), mkA_c18 (show (va_up (va_up s 23 0) 23 (a 19 p)) 10 = s 10 from rfl)]
            have z := Q.con hp9
            rw [c16] at z
            exact z
          have hmm : h (ma p) = some (.inl (G.2.2.1.1, (mkA (va_up (va_up s 23 0) 23 (a 19 p)) (mRingA (va_up (va_up s 23 0) 23 (a 19 p)) (aVr a p (a 19 p)) i) b i 1 (a 18 p)) 19 (s 10), .inl (mf p))) := by
            rw [mkA_c19 (show (va_up (va_up s 23 0) 23 (a 19 p)) 10 = s 10 from rfl)]
            exact Q.mem hp9
          have hmx : ma p ≠ xa 4 ∧ ma p ≠ xa 5 := Q.2.2.2.2.2.2.2.2.2.2.2.2.2.2.2.2.1 p hp9
          have hsz : (mkA (va_up (va_up s 23 0) 23 (a 19 p)) (mRingA (va_up (va_up s 23 0) 23 (a 19 p)) (aVr a p (a 19 p)) i) b i 1 (a 18 p)) 19 (s 10) = a 19 p := mkA_c19 (show (va_up (va_up s 23 0) 23 (a 19 p)) 10 = s 10 from rfl)
          have h20 : ∀ z, z < a 19 p → (mkA (va_up (va_up s 23 0) 23 (a 19 p)) (mRingA (va_up (va_up s 23 0) 23 (a 19 p)) (aVr a p (a 19 p)) i) b i 1 (a 18 p)) 20 (6 * s 10 + z) = a 20 (6 * p + z) := by
            intro z hz
            rw [mkA_c20 (show (va_up (va_up s 23 0) 23 (a 19 p)) 10 = s 10 from rfl) (show z < if 1 = 0 then 0 else (va_up (va_up s 23 0) 23 (a 19 p)) 23 from hz)]
            rw [mRingA_k (by decide)]
            exact if_pos hz
          have he : ∀ z, z < (mkA (va_up (va_up s 23 0) 23 (a 19 p)) (mRingA (va_up (va_up s 23 0) 23 (a 19 p)) (aVr a p (a 19 p)) i) b i 1 (a 18 p)) 19 (s 10) → mf p z = nI ((mkA (va_up (va_up s 23 0) 23 (a 19 p)) (mRingA (va_up (va_up s 23 0) 23 (a 19 p)) (aVr a p (a 19 p)) i) b i 1 (a 18 p)) 20 (6 * s 10 + z)) := by
            intro z hz
            rw [hsz] at hz
            rw [h20 z hz]
            exact Q.mfe hp9 hz
          have hg : ∀ z, z < (mkA (va_up (va_up s 23 0) 23 (a 19 p)) (mRingA (va_up (va_up s 23 0) 23 (a 19 p)) (aVr a p (a 19 p)) i) b i 1 (a 18 p)) 19 (s 10) → (mkA (va_up (va_up s 23 0) 23 (a 19 p)) (mRingA (va_up (va_up s 23 0) 23 (a 19 p)) (aVr a p (a 19 p)) i) b i 1 (a 18 p)) 20 (6 * s 10 + z) < 40 := by
            intro z hz
            rw [hsz] at hz
            rw [h20 z hz]
            exact W.I.member _
          have hN9 : (mkA (va_up (va_up s 23 0) 23 (a 19 p)) (mRingA (va_up (va_up s 23 0) 23 (a 19 p)) (aVr a p (a 19 p)) i) b i 1 (a 18 p)) 19 (s 10) ≤ 6 := by
            rw [hsz]
            exact W.I.size p
          have hz9 : (mkA (va_up (va_up s 23 0) 23 (a 19 p)) (mRingA (va_up (va_up s 23 0) 23 (a 19 p)) (aVr a p (a 19 p)) i) b i 1 (a 18 p)) 16 (s 10) ≤ 1 := by
            rw [mkA_c16 (show (va_up (va_up s 23 0) 23 (a 19 p)) 10 = s 10 from rfl)]
            exact Nat.le_refl _
          have hRf : refF s a i ((mkA (va_up (va_up s 23 0) 23 (a 19 p)) (mRingA (va_up (va_up s 23 0) 23 (a 19 p)) (aVr a p (a 19 p)) i) b i 1 (a 18 p)) 16 (s 10)) (fun z => (mkA (va_up (va_up s 23 0) 23 (a 19 p)) (mRingA (va_up (va_up s 23 0) 23 (a 19 p)) (aVr a p (a 19 p)) i) b i 1 (a 18 p)) 20 (6 * s 10 + z)) ((mkA (va_up (va_up s 23 0) 23 (a 19 p)) (mRingA (va_up (va_up s 23 0) 23 (a 19 p)) (aVr a p (a 19 p)) i) b i 1 (a 18 p)) 19 (s 10)) = refF s a i ((mkA (va_up (va_up s 23 0) 23 (a 19 p)) (mRingA (va_up (va_up s 23 0) 23 (a 19 p)) (aVr a p (a 19 p)) i) b i 1 (a 18 p)) 16 (s 10)) (fun z => a 20 (6 * p + z)) (a 19 p) := refF_congr hsz (fun z hz => h20 z (by rw [hsz] at hz; exact hz))
          have hrow : rowOK s a (a 7 i) (fun z => a 20 (6 * p + z)) (a 19 p) = !mUnl (va_up (va_up s 23 0) 23 (a 19 p)) (aVr a p (a 19 p)) (a 7 i) := row_unl rfl (fun j hj => if_pos hj) rfl rfl rfl (fun j hj => (hVp.2.2.2.2.2 j hj).1)
          have hring : rowOK s a (a 7 i) (fun z => a 20 (6 * p + z)) (a 19 p) = true → (ldN a (s 6) (rowM (fun z => a 20 (6 * p + z)) (a 19 p)) (s 6)).testBit i = mRing (va_up (va_up s 23 0) 23 (a 19 p)) (aVr a p (a 19 p)) i := fun row => ring_eq W hi c7 rfl rfl (fun j hj => if_pos hj) rfl rfl rfl rfl rfl (fun j hj => (hVp.2.2.2.2.2 j hj).1) row
          have hW := refF_w (s := s) (a := a) (t := i) (z := (mkA (va_up (va_up s 23 0) 23 (a 19 p)) (mRingA (va_up (va_up s 23 0) 23 (a 19 p)) (aVr a p (a 19 p)) i) b i 1 (a 18 p)) 16 (s 10)) (N := a 19 p) (g := (fun z => a 20 (6 * p + z))) (mkA_c16 (show (va_up (va_up s 23 0) 23 (a 19 p)) 10 = s 10 from rfl)) c7
          show jW X G 6 0 0 39 [(5, .ref (ca p)), (4, .ref (th i)), (0, .ref xo), (1, .int (nI b)), (2, .int (nI i)), (3, .int (nI o))] [] h
          refine j_aload_n C (i := 0) (x := xo) 2 rfl dX3_undoThing_39 (pc' := 40) rfl ?_
          refine j_iload_n C (i := 2) (x := nI i) 4 rfl dX3_undoThing_40 (pc' := 41) rfl ?_
          refine j_aload C (i := 5) (x := ca p) 0 rfl dX3_undoThing_41 (pc' := 43) rfl ?_
          refine j_callV C (As := [.int (nI i), .ref (ca p)]) (rest := []) (c_refusal X.2.1 C.2.2.2.2.2.2.2.2 G Q J I (g := fun z => (mkA (va_up (va_up s 23 0) 23 (a 19 p)) (mRingA (va_up (va_up s 23 0) 23 (a 19 p)) (aVr a p (a 19 p)) i) b i 1 (a 18 p)) 20 (6 * s 10 + z)) hcc hmm he hg hN9 hz9 i (by omega)) (cwV 2 C.2.2.2.2.1 gX3_undoThing_X3_refusalOf rfl rfl rfl (by decide +kernel) (by rw [hXR]; decide)) Q.obj rfl rfl rfl (Nat.le_of_ble_eq_true rfl) dX3_undoThing_43 (pc' := 46) rfl (by rw [hXR]; exact Nat.le_of_ble_eq_true rfl) (by rw [hXR]; exact Nat.le_of_ble_eq_true rfl) (fun _ _ z => z.elim) ?_
          rintro r h' ⟨rfl, hh⟩
          have hh := hh.symm
          subst hh
          show jW X G 6 0 0 46 [(5, .ref (ca p)), (4, .ref (th i)), (0, .ref xo), (1, .int (nI b)), (2, .int (nI i)), (3, .int (nI o))] [.int (refF s a i ((mkA (va_up (va_up s 23 0) 23 (a 19 p)) (mRingA (va_up (va_up s 23 0) 23 (a 19 p)) (aVr a p (a 19 p)) i) b i 1 (a 18 p)) 16 (s 10)) (fun z => (mkA (va_up (va_up s 23 0) 23 (a 19 p)) (mRingA (va_up (va_up s 23 0) 23 (a 19 p)) (aVr a p (a 19 p)) i) b i 1 (a 18 p)) 20 (6 * s 10 + z)) ((mkA (va_up (va_up s 23 0) 23 (a 19 p)) (mRingA (va_up (va_up s 23 0) 23 (a 19 p)) (aVr a p (a 19 p)) i) b i 1 (a 18 p)) 19 (s 10)))] h
          refine j_if_eq C dX3_undoThing_46 (tgt := 51) (by decide) (pc' := 49) rfl (fun c_7 => ?_) (fun c_7 => ?_)
          · refine j_aload_n C (i := 0) (x := xo) 2 rfl dX3_undoThing_51 (pc' := 52) rfl ?_
            refine j_iload_n C (i := 1) (x := nI b) 3 rfl dX3_undoThing_52 (pc' := 53) rfl ?_
            refine j_aload C (i := 4) (x := th i) 1 rfl dX3_undoThing_53 (pc' := 55) rfl ?_
            refine j_aload C (i := 5) (x := ca p) 0 rfl dX3_undoThing_55 (pc' := 57) rfl ?_
            refine j_callV C (As := [.int (nI b), .ref (th i), .ref (ca p)]) (rest := []) (c_addV X.2.1 C.2.2.2.2.2.2.2.2 G (s' := (va_up (va_up (va_up s 23 0) 23 (a 19 p)) 10 (s 10 + 1))) (a' := (mkA (va_up (va_up s 23 0) 23 (a 19 p)) (mRingA (va_up (va_up s 23 0) 23 (a 19 p)) (aVr a p (a 19 p)) i) b i 1 (a 18 p))) Q J I hi hb rfl (by rw [mkA_7, mRingA_k (by decide)]; rfl) hN hV hcc hmm he hmx hPn hPo (hPo p hp9)) (cwV 3 C.2.2.2.2.1 gX3_undoThing_X3_addVersion rfl rfl rfl (by decide +kernel) (by rw [hXR]; decide)) Q.obj rfl rfl rfl (Nat.le_of_ble_eq_true rfl) dX3_undoThing_57 (pc' := 60) rfl (by rw [hXR]; exact Nat.le_of_ble_eq_true rfl) (by rw [hXR]; exact Nat.le_of_ble_eq_true rfl) (fun _ _ z => z.elim) ?_
            rintro r h' ⟨rfl, hE, hF⟩
            show jW X G 6 1 6 60 [(5, .ref (ca p)), (4, .ref (th i)), (0, .ref xo), (1, .int (nI b)), (2, .int (nI i)), (3, .int (nI o))] [.int (nI (a 12 (a 8 i) + 1))] (h')
            refine j_pop C rfl dX3_undoThing_60 (pc' := 61) rfl ?_
            refine j_iconst C (v := nI 1) rfl dX3_undoThing_61 (pc' := 62) rfl ?_
            have er := c_7
            rw [hRf] at er
            exact j_iret C E dX3_undoThing_62 rfl (Nat.le_of_ble_eq_true rfl) (Nat.le_of_ble_eq_true rfl) (by
              rcases hW with ⟨-, e⟩ | ⟨-, -, e⟩ | ⟨e1, e2, -⟩
              · exact absurd (er.symm.trans e) (by decide)
              · exact absurd (er.symm.trans e) (by decide)
              · rw [show oUndoes s a b i o = (true, (va_up (va_up (va_up s 23 0) 23 (a 19 p)) 10 (s 10 + 1)), (mkA (va_up (va_up s 23 0) 23 (a 19 p)) (mRingA (va_up (va_up s 23 0) 23 (a 19 p)) (aVr a p (a 19 p)) i) b i 1 (a 18 p))) from oUndoes_1 hbu c16 (by unfold oUnd1; rw [if_neg c7, if_neg (bff (nn_f (e1.symm.trans hrow))), if_neg (bff ((hring e1).symm.trans e2))])]
                exact Or.inr ⟨hl, rfl, hE, hF⟩)
          · refine j_iconst C (v := nI 0) rfl dX3_undoThing_49 (pc' := 50) rfl ?_
            have er := c_7
            rw [hRf] at er
            exact j_iret C E dX3_undoThing_50 rfl (Nat.le_of_ble_eq_true rfl) (Nat.le_of_ble_eq_true rfl) (by
              rcases hW with ⟨e1, -⟩ | ⟨e1, e2, -⟩ | ⟨-, -, e⟩
              · rw [show oUndoes s a b i o = (false, (va_up (va_up s 23 0) 23 (a 19 p)), (aVr a p (a 19 p))) from oUndoes_1 hbu c16 (by unfold oUnd1; rw [if_neg c7, if_pos (nn_t (e1.symm.trans hrow))])]
                exact Or.inr ⟨hl, rfl, (Q.same (s' := (va_up (va_up s 23 0) 23 (a 19 p))) (a' := (aVr a p (a 19 p))) (fun f _ h23 => by rw [up_n h23, up_n h23]) (fun f h24 h21 _ _ _ => by unfold aVr; exact up_n h24)).e hPo, fun w hw => rfl⟩
              · rw [show oUndoes s a b i o = (false, (va_up (va_up s 23 0) 23 (a 19 p)), (mRingA (va_up (va_up s 23 0) 23 (a 19 p)) (aVr a p (a 19 p)) i)) from oUndoes_1 hbu c16 (by unfold oUnd1; rw [if_neg c7, if_neg (bff (nn_f (e1.symm.trans hrow))), if_pos ((hring e1).symm.trans e2)])]
                exact Or.inr ⟨hl, rfl, (Q.same (s' := (va_up (va_up s 23 0) 23 (a 19 p))) (a' := (mRingA (va_up (va_up s 23 0) 23 (a 19 p)) (aVr a p (a 19 p)) i)) (fun f _ h23 => by rw [up_n h23, up_n h23]) (fun f h24 h21 _ _ _ => by rw [mRingA_k h21]; unfold aVr; exact up_n h24)).e hPo, fun w hw => rfl⟩
              · exact absurd e er)
      · skip
        have h16 : a 16 p = 0 := by have := W.I.there p; omega
        have h189 := (W.V p hp9).2.2.2.1 h16
        have k := k9 W.K hi
        have hA : ∀ f, f ≠ 24 → f ≠ 21 → f ≠ 7 → (a) f = a f := fun f _ _ _ => rfl
        have hN : cNew s a (va_up (va_up s 23 0) 10 (s 10 + 1)) (mkA (va_up s 23 0) a b i 0 0) i := mkA_cNew rfl rfl rfl hA (fun t _ => rfl) (fun _ => Q.last hi)
        have hV : cVal s a (va_up (va_up s 23 0) 10 (s 10 + 1)) (mkA (va_up s 23 0) a b i 0 0) i b (a 12 (a 8 i) + 1) (a 8 i + 1) := by
          have z := mkA_cVal (s := s) (a := a) (s1 := (va_up s 23 0)) (s' := (va_up (va_up s 23 0) 10 (s 10 + 1))) (a1 := a) (b := b) (i := i) (th := 0) (at_ := 0) rfl rfl rfl rfl rfl hA
          rw [if_neg k.1, ← k.2] at z
          exact z
        have hcc : h (ca p) = some (.inr (1, [.int (nI ((mkA (va_up s 23 0) a b i 0 0) 16 (s 10))), .int (nI ((mkA (va_up s 23 0) a b i 0 0) 18 (s 10) / 100)), .int (nI ((mkA (va_up s 23 0) a b i 0 0) 18 (s 10) % 100)), .ref (ma p)])) := by
          rw [mkA_c16 (show (va_up s 23 0) 10 = s 10 from rfl), mkA_c18 (show (va_up s 23 0) 10 = s 10 from rfl)]
          have z := Q.con hp9
          rw [h16, h189.1] at z
          exact z
        have hmm : h (ma p) = some (.inl (G.2.2.1.1, (mkA (va_up s 23 0) a b i 0 0) 19 (s 10), .inl (mf p))) := by
          rw [mkA_c19 (show (va_up s 23 0) 10 = s 10 from rfl)]
          have z := Q.mem hp9
          rw [h189.2] at z
          exact z
        have hmx : ma p ≠ xa 4 ∧ ma p ≠ xa 5 := Q.2.2.2.2.2.2.2.2.2.2.2.2.2.2.2.2.1 p hp9
        have he : ∀ z, z < (mkA (va_up s 23 0) a b i 0 0) 19 (s 10) → mf p z = nI ((mkA (va_up s 23 0) a b i 0 0) 20 (6 * s 10 + z)) := by
          intro z hz
          rw [mkA_c19 (show (va_up s 23 0) 10 = s 10 from rfl)] at hz
          exact absurd hz (Nat.not_lt_zero z)
        have hg : ∀ z, z < (mkA (va_up s 23 0) a b i 0 0) 19 (s 10) → (mkA (va_up s 23 0) a b i 0 0) 20 (6 * s 10 + z) < 40 := by
          intro z hz
          rw [mkA_c19 (show (va_up s 23 0) 10 = s 10 from rfl)] at hz
          exact absurd hz (Nat.not_lt_zero z)
        have hN9 : (mkA (va_up s 23 0) a b i 0 0) 19 (s 10) ≤ 6 := by
          rw [mkA_c19 (show (va_up s 23 0) 10 = s 10 from rfl)]
          exact Nat.zero_le _
        have hz9 : (mkA (va_up s 23 0) a b i 0 0) 16 (s 10) ≤ 1 := by
          rw [mkA_c16 (show (va_up s 23 0) 10 = s 10 from rfl)]
          exact Nat.zero_le _
        show jW X G 6 0 0 39 [(5, .ref (ca p)), (4, .ref (th i)), (0, .ref xo), (1, .int (nI b)), (2, .int (nI i)), (3, .int (nI o))] [] h
        refine j_aload_n C (i := 0) (x := xo) 2 rfl dX3_undoThing_39 (pc' := 40) rfl ?_
        refine j_iload_n C (i := 2) (x := nI i) 4 rfl dX3_undoThing_40 (pc' := 41) rfl ?_
        refine j_aload C (i := 5) (x := ca p) 0 rfl dX3_undoThing_41 (pc' := 43) rfl ?_
        refine j_callV C (As := [.int (nI i), .ref (ca p)]) (rest := []) (c_refusal X.2.1 C.2.2.2.2.2.2.2.2 G Q J I (g := fun z => (mkA (va_up s 23 0) a b i 0 0) 20 (6 * s 10 + z)) hcc hmm he hg hN9 hz9 i (by omega)) (cwV 2 C.2.2.2.2.1 gX3_undoThing_X3_refusalOf rfl rfl rfl (by decide +kernel) (by rw [hXR]; decide)) Q.obj rfl rfl rfl (Nat.le_of_ble_eq_true rfl) dX3_undoThing_43 (pc' := 46) rfl (by rw [hXR]; exact Nat.le_of_ble_eq_true rfl) (by rw [hXR]; exact Nat.le_of_ble_eq_true rfl) (fun _ _ z => z.elim) ?_
        rintro r h' ⟨rfl, hh⟩
        have hh := hh.symm
        subst hh
        show jW X G 6 0 0 46 [(5, .ref (ca p)), (4, .ref (th i)), (0, .ref xo), (1, .int (nI b)), (2, .int (nI i)), (3, .int (nI o))] [.int (refF s a i ((mkA (va_up s 23 0) a b i 0 0) 16 (s 10)) (fun z => (mkA (va_up s 23 0) a b i 0 0) 20 (6 * s 10 + z)) ((mkA (va_up s 23 0) a b i 0 0) 19 (s 10)))] h
        refine j_if_eq C dX3_undoThing_46 (tgt := 51) (by decide) (pc' := 49) rfl (fun c_8 => ?_) (fun c_8 => ?_)
        · refine j_aload_n C (i := 0) (x := xo) 2 rfl dX3_undoThing_51 (pc' := 52) rfl ?_
          refine j_iload_n C (i := 1) (x := nI b) 3 rfl dX3_undoThing_52 (pc' := 53) rfl ?_
          refine j_aload C (i := 4) (x := th i) 1 rfl dX3_undoThing_53 (pc' := 55) rfl ?_
          refine j_aload C (i := 5) (x := ca p) 0 rfl dX3_undoThing_55 (pc' := 57) rfl ?_
          refine j_callV C (As := [.int (nI b), .ref (th i), .ref (ca p)]) (rest := []) (c_addV X.2.1 C.2.2.2.2.2.2.2.2 G (s' := (va_up (va_up s 23 0) 10 (s 10 + 1))) (a' := (mkA (va_up s 23 0) a b i 0 0)) Q J I hi hb rfl rfl hN hV hcc hmm he hmx hPn hPo (hPo p hp9)) (cwV 3 C.2.2.2.2.1 gX3_undoThing_X3_addVersion rfl rfl rfl (by decide +kernel) (by rw [hXR]; decide)) Q.obj rfl rfl rfl (Nat.le_of_ble_eq_true rfl) dX3_undoThing_57 (pc' := 60) rfl (by rw [hXR]; exact Nat.le_of_ble_eq_true rfl) (by rw [hXR]; exact Nat.le_of_ble_eq_true rfl) (fun _ _ z => z.elim) ?_
          rintro r h' ⟨rfl, hE, hF⟩
          show jW X G 6 1 6 60 [(5, .ref (ca p)), (4, .ref (th i)), (0, .ref xo), (1, .int (nI b)), (2, .int (nI i)), (3, .int (nI o))] [.int (nI (a 12 (a 8 i) + 1))] (h')
          refine j_pop C rfl dX3_undoThing_60 (pc' := 61) rfl ?_
          refine j_iconst C (v := nI 1) rfl dX3_undoThing_61 (pc' := 62) rfl ?_
          have hgu : ¬ 0 < mUsers a (s 6) i := by
            rcases refF_g (s := s) (a := a) (t := i) (z := (mkA (va_up s 23 0) a b i 0 0) 16 (s 10)) (N := (mkA (va_up s 23 0) a b i 0 0) 19 (s 10)) (g := fun z => (mkA (va_up s 23 0) a b i 0 0) 20 (6 * s 10 + z)) (mkA_c16 (show (va_up s 23 0) 10 = s 10 from rfl)) with ⟨e0, -⟩ | ⟨-, e⟩
            · rw [(use_zero W.gone (by omega) i).mp e0]; exact Nat.lt_irrefl 0
            · exact absurd ((c_8).symm.trans e) (by decide)
          exact j_iret C E dX3_undoThing_62 rfl (Nat.le_of_ble_eq_true rfl) (Nat.le_of_ble_eq_true rfl) (by rw [show oUndoes s a b i o = (true, (va_up (va_up s 23 0) 10 (s 10 + 1)), (mkA (va_up s 23 0) a b i 0 0)) from oUndoes_2 hbu c16 (by unfold oUnd0; rw [if_neg hgu])]; exact Or.inr ⟨hl, rfl, hE, hF⟩)
        · refine j_iconst C (v := nI 0) rfl dX3_undoThing_49 (pc' := 50) rfl ?_
          have hgu : 0 < mUsers a (s 6) i := by
            rcases refF_g (s := s) (a := a) (t := i) (z := (mkA (va_up s 23 0) a b i 0 0) 16 (s 10)) (N := (mkA (va_up s 23 0) a b i 0 0) 19 (s 10)) (g := fun z => (mkA (va_up s 23 0) a b i 0 0) 20 (6 * s 10 + z)) (mkA_c16 (show (va_up s 23 0) 10 = s 10 from rfl)) with ⟨-, e⟩ | ⟨e0, -⟩
            · exact absurd e c_8
            · exact Nat.pos_of_ne_zero (fun z => e0 ((use_zero W.gone (by omega) i).mpr z))
          exact j_iret C E dX3_undoThing_50 rfl (Nat.le_of_ble_eq_true rfl) (Nat.le_of_ble_eq_true rfl) (by rw [show oUndoes s a b i o = (false, s, a) from oUndoes_2 hbu c16 (by unfold oUnd0; rw [if_pos hgu])]; exact Or.inr ⟨hl, rfl, Q.e hPo, fun w hw => rfl⟩)
  · have c_3 := fun zq => c_3 ((nI_eq (a := a 14 (a 8 i)) (b := o) (by omega) (by omega)).mpr zq)
    have c_3 : ¬ (a 14 (a 8 i)) = o := c_3
    refine j_iconst C (v := nI 0) rfl dX3_undoThing_25 (pc' := 26) rfl ?_
    exact j_iret C E dX3_undoThing_26 rfl (Nat.le_of_ble_eq_true rfl) (Nat.le_of_ble_eq_true rfl) (Or.inl ⟨c_3, rfl, rfl⟩)
