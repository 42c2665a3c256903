theorem nn_t {b : Bool} (h : false = !b) : b = true := by
  cases b
  · exact Bool.noConfusion h
  · rfl
theorem nn_f {b : Bool} (h : true = !b) : b = false := by
  cases b
  · rfl
  · exact Bool.noConfusion h
theorem k9 {s : mS} {a : mA} (K : mCh s a) {i : Nat} (hi : i < s 6) : a 9 i ≠ 0 ∧ a 12 (a 8 i) = a 9 i := by
  have h := K.2 i hi
  refine ⟨fun z => ?_, h.2⟩
  rcases K.1 (a 8 i) h.1 with ⟨-, e⟩ | ⟨-, e⟩ <;> omega
theorem all_congr {P R : Nat → Bool} {n : Nat} (h : ∀ k, k < n → P k = R k) : allN P n = allN R n := by
  induction n with
  | zero => rfl
  | succ n ih => rw [allN_s, allN_s, ih (fun k hk => h k (by omega)), h n (by omega)]
theorem refF_congr {s : mS} {a : mA} {t z N N' : Nat} {g g' : Nat → Nat} (hN : N = N') (hg : ∀ j, j < N → g j = g' j) : refF s a t z g N = refF s a t z g' N' := by
  subst hN
  have e1 : ∀ w, rowOK s a w g N = rowOK s a w g' N := fun w => by
    unfold rowOK
    rw [all_congr (R := gOK s a w g') (fun k hk => by unfold gOK; rw [hg k hk])]
  have e2 : rowM g N = rowM g' N := orN_congr (fun k hk => by rw [hg k hk])
  unfold refF
  rw [e1, e2]
theorem refF_pt {s : mS} {a : mA} {t z N : Nat} {g : Nat → Nat} (hz : z = 1) (h7 : a 7 t = 0) : refF s a t z g N = 0 := by
  unfold refF
  rw [hz, if_neg (by decide), if_pos h7]
theorem refF_w {s : mS} {a : mA} {t z N : Nat} {g : Nat → Nat} (hz : z = 1) (h7 : ¬ a 7 t = 0) : (rowOK s a (a 7 t) g N = false ∧ refF s a t z g N = -3) ∨ (rowOK s a (a 7 t) g N = true ∧ (ldN a (s 6) (rowM g N) (s 6)).testBit t = true ∧ refF s a t z g N = -4) ∨ (rowOK s a (a 7 t) g N = true ∧ (ldN a (s 6) (rowM g N) (s 6)).testBit t = false ∧ refF s a t z g N = 0) := by
  unfold refF
  rw [hz, if_neg (by decide), if_neg h7]
  cases h1 : rowOK s a (a 7 t) g N with
  | false => exact Or.inl ⟨rfl, if_pos rfl⟩
  | true =>
    rw [if_neg (by decide)]
    cases h2 : (ldN a (s 6) (rowM g N) (s 6)).testBit t with
    | true => exact Or.inr (Or.inl ⟨rfl, rfl, if_pos rfl⟩)
    | false => exact Or.inr (Or.inr ⟨rfl, rfl, if_neg (by decide)⟩)
theorem refF_g {s : mS} {a : mA} {t z N : Nat} {g : Nat → Nat} (hz : z = 0) : (orN (fUse a (2 ^ t)) (s 6) = 0 ∧ refF s a t z g N = 0) ∨ (¬ orN (fUse a (2 ^ t)) (s 6) = 0 ∧ refF s a t z g N = -5) := by
  unfold refF
  rw [hz, if_pos rfl]
  by_cases e : orN (fUse a (2 ^ t)) (s 6) = 0
  · exact Or.inl ⟨e, if_pos e⟩
  · exact Or.inr ⟨e, if_neg e⟩
/-- the rows that the draft, or an old version, would make are judged alike -/
def mRowD (s : mS) (a : mA) : Prop := ∀ w, rowOK s a w (a 5) (s 4) = !mUnl (va_up (va_up s 25 0) 23 (s 4)) (aDr a (s 4)) w
def mRingD (s : mS) (a : mA) : Prop := ∀ i, i < s 6 → ¬ a 7 i = 0 → rowOK s a (a 7 i) (a 5) (s 4) = true → (ldN a (s 6) (rowM (a 5) (s 4)) (s 6)).testBit i = mRing (va_up (va_up s 25 0) 23 (s 4)) (aDr a (s 4)) i
set_option maxRecDepth 100000 in
set_option maxHeartbeats 4000000 in
theorem c_make (l : Launch) (hlt : l.stackTraces = false) (G : jG) {P : Nat → Prop} {xo : Nat} {xa th va ca ma : Nat → Nat} {dat cap : Nat} {mod : Int32} {df : Nat → Option Nat} {vf dr : Nat → Int32} {mf : Nat → Nat → Int32} {s : mS} {a : mA} {h : jH} (Q : cQ G P xo xa th va ca ma dat cap mod df vf dr mf s a h) (J : IS s) (I : IA a) (p w : Int32) (hPn : ∀ w, P w → h w ≠ none) (hPo : ∀ v, v < s 10 → ¬ P (ma v)) (h9a : s 6 < 40 → a 9 (s 6) = 0) (hRow : mRowD s a) : jM l G yX3_make wsX3_make 8 224 8 136 [.ref xo, .int p, .int w] h (fun r h' => r = some (.int (oMake s a p w).1) ∧ (oMake s a p w).2.1 25 = 0 ∧ cE G P xo xa (oMake s a p w).2.1 (oMake s a p w).2.2 h' ∧ ∀ q, P q → h' q = h q) (fun E h' => (E = "java/lang/IndexOutOfBoundsException" ∧ h' = h ∧ (oMake s a p w).2.1 25 = 1) ∨ (E = "java/lang/IllegalArgumentException" ∧ h' = h ∧ (oMake s a p w).2.1 25 = 2) ∨ (E = "java/lang/IllegalStateException" ∧ h' = h ∧ (oMake s a p w).2.1 25 = 3)) := by
  have h6 := J.2.1
  have h2 := J.2.2.1
  have h4 := J.2.2.2.1
  have h10 := J.2.2.2.2.1
  have hs0 := J.1 0
  have hs1 := J.1 1
  refine jM_of (cc := cX3_make) (maxL := 4) (ret := (some .int)) hlt (by decide +kernel) rfl (Nat.le_of_ble_eq_true rfl) ?_
  intro X C E hXl hXR hXn
  have hinX0 : ∀ w ∈ u_ws RX0 TX0 4, w ∈ wsX3_make := by decide +kernel
  show jW X G 4 0 0 0 [(0, .ref xo), (1, .int p), (2, .int w)] [] h
  refine j_aload_n C (i := 0) (x := xo) 0 rfl dX3_make_0 (pc' := 1) rfl ?_
  refine j_iload_n C (i := 1) (x := p) 1 rfl dX3_make_1 (pc' := 2) rfl ?_
  refine j_callV C (As := [.int p]) (rest := []) (c_needSet X.2.1 C.2.2.2.2.2.2.2.2 G Q J I p) (cwV 1 C.2.2.2.2.1 gX3_make_X3_needSet rfl rfl rfl (by decide +kernel) (by rw [hXR]; decide)) Q.obj rfl rfl rfl (Nat.le_of_ble_eq_true rfl) dX3_make_2 (pc' := 5) rfl (by rw [hXR]; exact Nat.le_of_ble_eq_true rfl) (by rw [hXR]; exact Nat.le_of_ble_eq_true rfl) (by rintro E' h' ⟨rfl, hx, ex_1⟩; exact j_out C E (Nat.le_of_ble_eq_true rfl) (Nat.le_of_ble_eq_true rfl) (Or.inl (⟨rfl, hx, by unfold oMake; rw [if_neg (bff ex_1)] <;> rfl⟩))) ?_
  rintro r h' ⟨rfl, hh, nd_2⟩
  have hh := hh.symm
  subst hh
  show jW X G 4 1 6 5 [(0, .ref xo), (1, .int p), (2, .int w)] [] h
  obtain ⟨j, hj, rfl⟩ := inN_of nd_2
  refine j_iload_n C (i := 2) (x := w) 2 rfl dX3_make_5 (pc' := 6) rfl ?_
  refine j_iconst C (v := nI 1) rfl dX3_make_6 (pc' := 7) rfl ?_
  refine j_icmp_eq C dX3_make_7 (tgt := 25) (by decide) (pc' := 10) rfl (fun c_3 => ?_) (fun c_3 => ?_)
  · obtain ⟨d, ld, hd2, rfl⟩ : ∃ d : Nat, 1 ≤ d ∧ d ≤ 2 ∧ w = nI d := ⟨1, by omega, by omega, c_3⟩
    refine j_aload_n C (i := 0) (x := xo) 0 rfl dX3_make_25 (pc' := 26) rfl ?_
    refine j_iload_n C (i := 1) (x := nI j) 1 rfl dX3_make_26 (pc' := 27) rfl ?_
    refine j_callV C (As := [.int (nI j)]) (rest := []) (c_needOpen X.2.1 C.2.2.2.2.2.2.2.2 G Q J I j hj) (cwV 1 C.2.2.2.2.1 gX3_make_X3_needOpen rfl rfl rfl (by decide +kernel) (by rw [hXR]; decide)) Q.obj rfl rfl rfl (Nat.le_of_ble_eq_true rfl) dX3_make_27 (pc' := 30) rfl (by rw [hXR]; exact Nat.le_of_ble_eq_true rfl) (by rw [hXR]; exact Nat.le_of_ble_eq_true rfl) (by rintro E' h' ⟨rfl, hx, ex_4⟩; exact j_out C E (Nat.le_of_ble_eq_true rfl) (Nat.le_of_ble_eq_true rfl) (Or.inr (Or.inr (⟨rfl, hx, by unfold oMake; rw [if_pos (show inN (nI j) (s 2) = true by rw [inN_nI (by omega)]; exact decide_eq_true hj), if_pos (inR_nI (i := d) (lo := 1) (hi := 2) ld hd2 (by omega)), if_neg (fun z => by rw [mOpen_nI hj h2] at z; exact ex_4 (of_decide_eq_true z.1))] <;> rfl⟩)))) ?_
    rintro r h' ⟨rfl, hh, nd_5⟩
    have hh := hh.symm
    subst hh
    show jW X G 4 2 12 30 [(0, .ref xo), (1, .int (nI j)), (2, .int (nI d))] [] h
    have hop := nd_5
    refine j_aload_n C (i := 0) (x := xo) 0 rfl dX3_make_30 (pc' := 31) rfl ?_
    refine j_callV C (As := []) (rest := []) (c_needRoom X.2.1 C.2.2.2.2.2.2.2.2 G Q J I) (cwV 0 C.2.2.2.2.1 gX3_make_X3_needRoomForThing rfl rfl rfl (by decide +kernel) (by rw [hXR]; decide)) Q.obj rfl rfl rfl (Nat.le_of_ble_eq_true rfl) dX3_make_31 (pc' := 34) rfl (by rw [hXR]; exact Nat.le_of_ble_eq_true rfl) (by rw [hXR]; exact Nat.le_of_ble_eq_true rfl) (by rintro E' h' ⟨rfl, hx, ex_6⟩; exact j_out C E (Nat.le_of_ble_eq_true rfl) (Nat.le_of_ble_eq_true rfl) (Or.inr (Or.inr (⟨rfl, hx, by unfold oMake; rw [if_pos (show inN (nI j) (s 2) = true by rw [inN_nI (by omega)]; exact decide_eq_true hj), if_pos (inR_nI (i := d) (lo := 1) (hi := 2) ld hd2 (by omega)), if_neg (fun z => ex_6 z.2)] <;> rfl⟩)))) ?_
    rintro r h' ⟨rfl, hh, nd_7⟩
    have hh := hh.symm
    subst hh
    show jW X G 4 3 18 34 [(0, .ref xo), (1, .int (nI j)), (2, .int (nI d))] [] h
    have hrm := nd_7
    refine j_aload_n C (i := 0) (x := xo) 0 rfl dX3_make_34 (pc' := 35) rfl ?_
    refine j_callV C (As := []) (rest := []) (c_cDraft X.2.1 C.2.2.2.2.2.2.2.2 G Q J I) (cwV 0 C.2.2.2.2.1 gX3_make_X3_contentOfDraft rfl rfl rfl (by decide +kernel) (by rw [hXR]; decide)) Q.obj rfl rfl rfl (Nat.le_of_ble_eq_true rfl) dX3_make_35 (pc' := 38) rfl (by rw [hXR]; exact Nat.le_of_ble_eq_true rfl) (by rw [hXR]; exact Nat.le_of_ble_eq_true rfl) (fun _ _ z => z.elim) ?_
    rintro r h' ⟨c, b, f', rfl, hcb, hc, hb0, rfl, hf'⟩
    have Q1 := Q.mono (h' := jup (jup h b (.inl (G.2.2.1.1, s 4, .inl f'))) c (.inr (1, [.int (nI 1), .int (nI 0), .int (nI 0), .ref b]))) (fun w e hw => (jup_ne (ne_none hw hc)).trans (jup_some hb0 hw))
    have hPn1 : ∀ w, P w → (jup (jup h b (.inl (G.2.2.1.1, s 4, .inl f'))) c (.inr (1, [.int (nI 1), .int (nI 0), .int (nI 0), .ref b]))) w ≠ none := fun w hw z => hPn w hw (jup_none (jup_none z))
    have hF1 : ∀ w, P w → (jup (jup h b (.inl (G.2.2.1.1, s 4, .inl f'))) c (.inr (1, [.int (nI 1), .int (nI 0), .int (nI 0), .ref b]))) w = h w := fun w hw => (jup_ne (pne (fun z => hPn c z hc) hw)).trans (jup_ne (pne (fun z => hPn b z hb0) hw))
    have h9 := h9a hrm
    have hA : ∀ f, f ≠ 24 → f ≠ 21 → f ≠ 7 → ((va_up2 (aDr a (s 4)) 7 (s 6) d)) f = a f := fun f h24 _ h7 => by unfold va_up2 aDr; rw [up_n h7, up_n h24]
    have hN : cNew s a (va_up (va_up (va_up (va_up s 25 0) 23 (s 4)) 10 (s 10 + 1)) 6 (s 6 + 1)) (mkA (va_up (va_up s 25 0) 23 (s 4)) (va_up2 (aDr a (s 4)) 7 (s 6) d) j (s 6) 1 0) (s 6) := mkA_cNew rfl rfl rfl hA (fun t ht => by unfold va_up2; rw [up_s, up_n ht]; rfl) (fun z => absurd h9 z)
    have hV : cVal s a (va_up (va_up (va_up (va_up s 25 0) 23 (s 4)) 10 (s 10 + 1)) 6 (s 6 + 1)) (mkA (va_up (va_up s 25 0) 23 (s 4)) (va_up2 (aDr a (s 4)) 7 (s 6) d) j (s 6) 1 0) (s 6) j 1 0 := by
      have z := mkA_cVal (s := s) (a := a) (s1 := (va_up (va_up s 25 0) 23 (s 4))) (s' := (va_up (va_up (va_up (va_up s 25 0) 23 (s 4)) 10 (s 10 + 1)) 6 (s 6 + 1))) (a1 := (va_up2 (aDr a (s 4)) 7 (s 6) d)) (b := j) (i := (s 6)) (th := 1) (at_ := 0) rfl rfl rfl rfl rfl hA
      rw [h9, if_pos rfl, Nat.zero_add] at z
      exact z
    have hcc : (jup (jup h b (.inl (G.2.2.1.1, s 4, .inl f'))) c (.inr (1, [.int (nI 1), .int (nI 0), .int (nI 0), .ref b]))) c = some (.inr (1, [.int (nI ((mkA (va_up (va_up s 25 0) 23 (s 4)) (va_up2 (aDr a (s 4)) 7 (s 6) d) j (s 6) 1 0) 16 (s 10))), .int (nI ((mkA (va_up (va_up s 25 0) 23 (s 4)) (va_up2 (aDr a (s 4)) 7 (s 6) d) j (s 6) 1 0) 18 (s 10) / 100)), .int (nI ((mkA (va_up (va_up s 25 0) 23 (s 4)) (va_up2 (aDr a (s 4)) 7 (s 6) d) j (s 6) 1 0) 18 (s 10) % 100)), .ref b])) := by
      rw [mkA_c16 (show (va_up (va_up s 25 0) 23 (s 4)) 10 = s 10 from rfl), mkA_c18 (show (va_up (va_up s 25 0) 23 (s 4)) 10 = s 10 from rfl)]
      exact jup_self _ _ _
    have hmm : (jup (jup h b (.inl (G.2.2.1.1, s 4, .inl f'))) c (.inr (1, [.int (nI 1), .int (nI 0), .int (nI 0), .ref b]))) b = some (.inl (G.2.2.1.1, (mkA (va_up (va_up s 25 0) 23 (s 4)) (va_up2 (aDr a (s 4)) 7 (s 6) d) j (s 6) 1 0) 19 (s 10), .inl f')) := by
      rw [mkA_c19 (show (va_up (va_up s 25 0) 23 (s 4)) 10 = s 10 from rfl)]
      exact (jup_ne hcb.symm).trans (jup_self _ _ _)
    have hsz : (mkA (va_up (va_up s 25 0) 23 (s 4)) (va_up2 (aDr a (s 4)) 7 (s 6) d) j (s 6) 1 0) 19 (s 10) = s 4 := mkA_c19 (show (va_up (va_up s 25 0) 23 (s 4)) 10 = s 10 from rfl)
    have h20 : ∀ z, z < s 4 → (mkA (va_up (va_up s 25 0) 23 (s 4)) (va_up2 (aDr a (s 4)) 7 (s 6) d) j (s 6) 1 0) 20 (6 * s 10 + z) = a 5 z := by
      intro z hz
      rw [mkA_c20 (show (va_up (va_up s 25 0) 23 (s 4)) 10 = s 10 from rfl) (show z < if 1 = 0 then 0 else (va_up (va_up s 25 0) 23 (s 4)) 23 from hz)]
      show (if z < s 4 then a 5 z else a 24 z) = a 5 z
      exact if_pos hz
    have hme : ∀ z, z < (mkA (va_up (va_up s 25 0) 23 (s 4)) (va_up2 (aDr a (s 4)) 7 (s 6) d) j (s 6) 1 0) 19 (s 10) → f' z = nI ((mkA (va_up (va_up s 25 0) 23 (s 4)) (va_up2 (aDr a (s 4)) 7 (s 6) d) j (s 6) 1 0) 20 (6 * s 10 + z)) := by
      intro z hz
      rw [hsz] at hz
      rw [h20 z hz, hf' z hz]
      exact Q.dre hz
    have hmx : b ≠ xa 4 ∧ b ≠ xa 5 := ⟨(ne_none Q.vof hb0).symm, (ne_none Q.draft hb0).symm⟩
    show jW X G 4 5 28 38 [(0, .ref xo), (1, .int (nI j)), (2, .int (nI d))] [.ref c] (jup (jup h b (.inl (G.2.2.1.1, s 4, .inl f'))) c (.inr (1, [.int (nI 1), .int (nI 0), .int (nI 0), .ref b])))
    refine j_astore_n C (i := 3) (x := c) (l' := [(3, .ref c), (0, .ref xo), (1, .int (nI j)), (2, .int (nI d))]) dX3_make_38 (pc' := 39) rfl (by decide) rfl ?_
    refine j_aload_n C (i := 0) (x := xo) 1 rfl dX3_make_39 (pc' := 40) rfl ?_
    refine j_iload_n C (i := 2) (x := nI d) 3 rfl dX3_make_40 (pc' := 41) rfl ?_
    refine j_aload_n C (i := 3) (x := c) 0 rfl dX3_make_41 (pc' := 42) rfl ?_
    refine j_get C (ref := "MapRevisions$Content") (CN := RX0) (T := TX0) (N := 4) (ci := 1) (index := 100) (a := c) (kf := 3) (fs := [.int (nI 1), .int (nI 0), .int (nI 0), .ref b]) (v := .ref b) hinX0 rfl (by decide) (by decide +kernel) rfl (jup_self _ _ _) rfl dX3_make_42 (pc' := 45) rfl ?_
    refine j_callV C (As := [.int (nI d), .ref b]) (rest := []) (c_isRowFor X.2.1 C.2.2.2.2.2.2.2.2 G Q1 J I (g := a 5) (N := s 4) (f := f') ((jup_ne hcb.symm).trans (jup_self _ _ _)) (fun z hz => (hf' z hz).trans (Q.dre hz)) (fun z _ => I.draft z) h4 d (by omega)) (cwV 2 C.2.2.2.2.1 gX3_make_X3_isRowFor rfl rfl rfl (by decide +kernel) (by rw [hXR]; decide)) Q1.obj rfl rfl rfl (Nat.le_of_ble_eq_true rfl) dX3_make_45 (pc' := 48) rfl (by rw [hXR]; exact Nat.le_of_ble_eq_true rfl) (by rw [hXR]; exact Nat.le_of_ble_eq_true rfl) (fun _ _ z => z.elim) ?_
    rintro r h' ⟨rfl, hh⟩
    have hh := hh.symm
    subst hh
    show jW X G 4 5 28 48 [(3, .ref c), (0, .ref xo), (1, .int (nI j)), (2, .int (nI d))] [.int (bI (rowOK s a d (a 5) (s 4)))] (jup (jup h b (.inl (G.2.2.1.1, s 4, .inl f'))) c (.inr (1, [.int (nI 1), .int (nI 0), .int (nI 0), .ref b])))
    rcases hb_8 : (rowOK s a d (a 5) (s 4)) with _ | _
    · show jW X G 4 5 28 48 [(3, .ref c), (0, .ref xo), (1, .int (nI j)), (2, .int (nI d))] [.int (nI 0)] (jup (jup h b (.inl (G.2.2.1.1, s 4, .inl f'))) c (.inr (1, [.int (nI 1), .int (nI 0), .int (nI 0), .ref b])))
      refine j_if_ne C dX3_make_48 (tgt := 54) (by decide) (pc' := 51) rfl (fun c_9 => absurd (by decide) c_9) (fun _ => ?_)
      refine j_bipush C (v := (-3)) rfl dX3_make_51 (pc' := 53) rfl ?_
      exact j_iret C E dX3_make_53 rfl (Nat.le_of_ble_eq_true rfl) (Nat.le_of_ble_eq_true rfl) (by rw [show oMake s a (nI j) (nI d) = ((-3), (va_up (va_up s 25 0) 23 (s 4)), aDr a (s 4)) from by unfold oMake; rw [if_pos (show inN (nI j) (s 2) = true by rw [inN_nI (by omega)]; exact decide_eq_true hj), if_pos (inR_nI (i := d) (lo := 1) (hi := 2) ld hd2 (by omega)), if_pos (show mOpen s a (nI j) = true ∧ s 6 < 40 from ⟨(by rw [mOpen_nI hj h2]; exact decide_eq_true hop), hrm⟩), tn_nI (j := d) (by omega), if_pos (nn_t (hb_8.symm.trans (hRow d)))] <;> rfl]; exact ⟨rfl, rfl, (Q1.same (s' := (va_up (va_up s 25 0) 23 (s 4))) (a' := aDr a (s 4)) (fun f h25 h23 => by rw [up_n h23, up_n h25]) (fun f h24 _ _ _ _ => by unfold aDr; exact up_n h24)).e hPo, hF1⟩)
    · show jW X G 4 5 28 48 [(3, .ref c), (0, .ref xo), (1, .int (nI j)), (2, .int (nI d))] [.int (nI 1)] (jup (jup h b (.inl (G.2.2.1.1, s 4, .inl f'))) c (.inr (1, [.int (nI 1), .int (nI 0), .int (nI 0), .ref b])))
      refine j_if_ne C dX3_make_48 (tgt := 54) (by decide) (pc' := 51) rfl (fun _ => ?_) (fun c_10 => absurd c_10 (by decide))
      refine j_aload_n C (i := 0) (x := xo) 1 rfl dX3_make_54 (pc' := 55) rfl ?_
      refine j_iload_n C (i := 1) (x := nI j) 2 rfl dX3_make_55 (pc' := 56) rfl ?_
      refine j_iload_n C (i := 2) (x := nI d) 3 rfl dX3_make_56 (pc' := 57) rfl ?_
      refine j_aload_n C (i := 3) (x := c) 0 rfl dX3_make_57 (pc' := 58) rfl ?_
      refine j_callV C (As := [.int (nI j), .int (nI d), .ref c]) (rest := []) (c_addT X.2.1 C.2.2.2.2.2.2.2.2 G Q1 J I (by omega) hrm rfl (by rw [mkA_7]; unfold va_up2; rw [up_s, up_s]) hN hV hcc hmm hme hmx hPn1 hPo (fun z => hPn b z hb0)) (cwV 3 C.2.2.2.2.1 gX3_make_X3_addThing rfl rfl rfl (by decide +kernel) (by rw [hXR]; decide)) Q1.obj rfl rfl rfl (Nat.le_of_ble_eq_true rfl) dX3_make_58 (pc' := 61) rfl (by rw [hXR]; exact Nat.le_of_ble_eq_true rfl) (by rw [hXR]; exact Nat.le_of_ble_eq_true rfl) (fun _ _ z => z.elim) ?_
      rintro r h' ⟨rfl, hE, hF⟩
      show jW X G 4 8 136 61 [(3, .ref c), (0, .ref xo), (1, .int (nI j)), (2, .int (nI d))] [.int (nI (s 6))] (h')
      exact j_iret C E dX3_make_61 rfl (Nat.le_of_ble_eq_true rfl) (Nat.le_of_ble_eq_true rfl) (by rw [show oMake s a (nI j) (nI d) = (nI (s 6), (va_up (va_up (va_up (va_up s 25 0) 23 (s 4)) 10 (s 10 + 1)) 6 (s 6 + 1)), (mkA (va_up (va_up s 25 0) 23 (s 4)) (va_up2 (aDr a (s 4)) 7 (s 6) d) j (s 6) 1 0)) from by unfold oMake; rw [if_pos (show inN (nI j) (s 2) = true by rw [inN_nI (by omega)]; exact decide_eq_true hj), if_pos (inR_nI (i := d) (lo := 1) (hi := 2) ld hd2 (by omega)), if_pos (show mOpen s a (nI j) = true ∧ s 6 < 40 from ⟨(by rw [mOpen_nI hj h2]; exact decide_eq_true hop), hrm⟩), tn_nI (j := d) (by omega), if_neg (bff (nn_f (hb_8.symm.trans (hRow d)))), tn_nI (j := j) (by omega)] <;> rfl]; exact ⟨rfl, rfl, hE, fun w hw => (hF w hw).trans (hF1 w hw)⟩)
  · refine j_iload_n C (i := 2) (x := w) 2 rfl dX3_make_10 (pc' := 11) rfl ?_
    refine j_iconst C (v := nI 2) rfl dX3_make_11 (pc' := 12) rfl ?_
    refine j_icmp_eq C dX3_make_12 (tgt := 25) (by decide) (pc' := 15) rfl (fun c_11 => ?_) (fun c_11 => ?_)
    · obtain ⟨d, ld, hd2, rfl⟩ : ∃ d : Nat, 1 ≤ d ∧ d ≤ 2 ∧ w = nI d := ⟨2, by omega, by omega, c_11⟩
      refine j_aload_n C (i := 0) (x := xo) 0 rfl dX3_make_25 (pc' := 26) rfl ?_
      refine j_iload_n C (i := 1) (x := nI j) 1 rfl dX3_make_26 (pc' := 27) rfl ?_
      refine j_callV C (As := [.int (nI j)]) (rest := []) (c_needOpen X.2.1 C.2.2.2.2.2.2.2.2 G Q J I j hj) (cwV 1 C.2.2.2.2.1 gX3_make_X3_needOpen rfl rfl rfl (by decide +kernel) (by rw [hXR]; decide)) Q.obj rfl rfl rfl (Nat.le_of_ble_eq_true rfl) dX3_make_27 (pc' := 30) rfl (by rw [hXR]; exact Nat.le_of_ble_eq_true rfl) (by rw [hXR]; exact Nat.le_of_ble_eq_true rfl) (by rintro E' h' ⟨rfl, hx, ex_12⟩; exact j_out C E (Nat.le_of_ble_eq_true rfl) (Nat.le_of_ble_eq_true rfl) (Or.inr (Or.inr (⟨rfl, hx, by unfold oMake; rw [if_pos (show inN (nI j) (s 2) = true by rw [inN_nI (by omega)]; exact decide_eq_true hj), if_pos (inR_nI (i := d) (lo := 1) (hi := 2) ld hd2 (by omega)), if_neg (fun z => by rw [mOpen_nI hj h2] at z; exact ex_12 (of_decide_eq_true z.1))] <;> rfl⟩)))) ?_
      rintro r h' ⟨rfl, hh, nd_13⟩
      have hh := hh.symm
      subst hh
      show jW X G 4 2 12 30 [(0, .ref xo), (1, .int (nI j)), (2, .int (nI d))] [] h
      have hop := nd_13
      refine j_aload_n C (i := 0) (x := xo) 0 rfl dX3_make_30 (pc' := 31) rfl ?_
      refine j_callV C (As := []) (rest := []) (c_needRoom X.2.1 C.2.2.2.2.2.2.2.2 G Q J I) (cwV 0 C.2.2.2.2.1 gX3_make_X3_needRoomForThing rfl rfl rfl (by decide +kernel) (by rw [hXR]; decide)) Q.obj rfl rfl rfl (Nat.le_of_ble_eq_true rfl) dX3_make_31 (pc' := 34) rfl (by rw [hXR]; exact Nat.le_of_ble_eq_true rfl) (by rw [hXR]; exact Nat.le_of_ble_eq_true rfl) (by rintro E' h' ⟨rfl, hx, ex_14⟩; exact j_out C E (Nat.le_of_ble_eq_true rfl) (Nat.le_of_ble_eq_true rfl) (Or.inr (Or.inr (⟨rfl, hx, by unfold oMake; rw [if_pos (show inN (nI j) (s 2) = true by rw [inN_nI (by omega)]; exact decide_eq_true hj), if_pos (inR_nI (i := d) (lo := 1) (hi := 2) ld hd2 (by omega)), if_neg (fun z => ex_14 z.2)] <;> rfl⟩)))) ?_
      rintro r h' ⟨rfl, hh, nd_15⟩
      have hh := hh.symm
      subst hh
      show jW X G 4 3 18 34 [(0, .ref xo), (1, .int (nI j)), (2, .int (nI d))] [] h
      have hrm := nd_15
      refine j_aload_n C (i := 0) (x := xo) 0 rfl dX3_make_34 (pc' := 35) rfl ?_
      refine j_callV C (As := []) (rest := []) (c_cDraft X.2.1 C.2.2.2.2.2.2.2.2 G Q J I) (cwV 0 C.2.2.2.2.1 gX3_make_X3_contentOfDraft rfl rfl rfl (by decide +kernel) (by rw [hXR]; decide)) Q.obj rfl rfl rfl (Nat.le_of_ble_eq_true rfl) dX3_make_35 (pc' := 38) rfl (by rw [hXR]; exact Nat.le_of_ble_eq_true rfl) (by rw [hXR]; exact Nat.le_of_ble_eq_true rfl) (fun _ _ z => z.elim) ?_
      rintro r h' ⟨c, b, f', rfl, hcb, hc, hb0, rfl, hf'⟩
      have Q1 := Q.mono (h' := jup (jup h b (.inl (G.2.2.1.1, s 4, .inl f'))) c (.inr (1, [.int (nI 1), .int (nI 0), .int (nI 0), .ref b]))) (fun w e hw => (jup_ne (ne_none hw hc)).trans (jup_some hb0 hw))
      have hPn1 : ∀ w, P w → (jup (jup h b (.inl (G.2.2.1.1, s 4, .inl f'))) c (.inr (1, [.int (nI 1), .int (nI 0), .int (nI 0), .ref b]))) w ≠ none := fun w hw z => hPn w hw (jup_none (jup_none z))
      have hF1 : ∀ w, P w → (jup (jup h b (.inl (G.2.2.1.1, s 4, .inl f'))) c (.inr (1, [.int (nI 1), .int (nI 0), .int (nI 0), .ref b]))) w = h w := fun w hw => (jup_ne (pne (fun z => hPn c z hc) hw)).trans (jup_ne (pne (fun z => hPn b z hb0) hw))
      have h9 := h9a hrm
      have hA : ∀ f, f ≠ 24 → f ≠ 21 → f ≠ 7 → ((va_up2 (aDr a (s 4)) 7 (s 6) d)) f = a f := fun f h24 _ h7 => by unfold va_up2 aDr; rw [up_n h7, up_n h24]
      have hN : cNew s a (va_up (va_up (va_up (va_up s 25 0) 23 (s 4)) 10 (s 10 + 1)) 6 (s 6 + 1)) (mkA (va_up (va_up s 25 0) 23 (s 4)) (va_up2 (aDr a (s 4)) 7 (s 6) d) j (s 6) 1 0) (s 6) := mkA_cNew rfl rfl rfl hA (fun t ht => by unfold va_up2; rw [up_s, up_n ht]; rfl) (fun z => absurd h9 z)
      have hV : cVal s a (va_up (va_up (va_up (va_up s 25 0) 23 (s 4)) 10 (s 10 + 1)) 6 (s 6 + 1)) (mkA (va_up (va_up s 25 0) 23 (s 4)) (va_up2 (aDr a (s 4)) 7 (s 6) d) j (s 6) 1 0) (s 6) j 1 0 := by
        have z := mkA_cVal (s := s) (a := a) (s1 := (va_up (va_up s 25 0) 23 (s 4))) (s' := (va_up (va_up (va_up (va_up s 25 0) 23 (s 4)) 10 (s 10 + 1)) 6 (s 6 + 1))) (a1 := (va_up2 (aDr a (s 4)) 7 (s 6) d)) (b := j) (i := (s 6)) (th := 1) (at_ := 0) rfl rfl rfl rfl rfl hA
        rw [h9, if_pos rfl, Nat.zero_add] at z
        exact z
      have hcc : (jup (jup h b (.inl (G.2.2.1.1, s 4, .inl f'))) c (.inr (1, [.int (nI 1), .int (nI 0), .int (nI 0), .ref b]))) c = some (.inr (1, [.int (nI ((mkA (va_up (va_up s 25 0) 23 (s 4)) (va_up2 (aDr a (s 4)) 7 (s 6) d) j (s 6) 1 0) 16 (s 10))), .int (nI ((mkA (va_up (va_up s 25 0) 23 (s 4)) (va_up2 (aDr a (s 4)) 7 (s 6) d) j (s 6) 1 0) 18 (s 10) / 100)), .int (nI ((mkA (va_up (va_up s 25 0) 23 (s 4)) (va_up2 (aDr a (s 4)) 7 (s 6) d) j (s 6) 1 0) 18 (s 10) % 100)), .ref b])) := by
        rw [mkA_c16 (show (va_up (va_up s 25 0) 23 (s 4)) 10 = s 10 from rfl), mkA_c18 (show (va_up (va_up s 25 0) 23 (s 4)) 10 = s 10 from rfl)]
        exact jup_self _ _ _
      have hmm : (jup (jup h b (.inl (G.2.2.1.1, s 4, .inl f'))) c (.inr (1, [.int (nI 1), .int (nI 0), .int (nI 0), .ref b]))) b = some (.inl (G.2.2.1.1, (mkA (va_up (va_up s 25 0) 23 (s 4)) (va_up2 (aDr a (s 4)) 7 (s 6) d) j (s 6) 1 0) 19 (s 10), .inl f')) := by
        rw [mkA_c19 (show (va_up (va_up s 25 0) 23 (s 4)) 10 = s 10 from rfl)]
        exact (jup_ne hcb.symm).trans (jup_self _ _ _)
      have hsz : (mkA (va_up (va_up s 25 0) 23 (s 4)) (va_up2 (aDr a (s 4)) 7 (s 6) d) j (s 6) 1 0) 19 (s 10) = s 4 := mkA_c19 (show (va_up (va_up s 25 0) 23 (s 4)) 10 = s 10 from rfl)
      have h20 : ∀ z, z < s 4 → (mkA (va_up (va_up s 25 0) 23 (s 4)) (va_up2 (aDr a (s 4)) 7 (s 6) d) j (s 6) 1 0) 20 (6 * s 10 + z) = a 5 z := by
        intro z hz
        rw [mkA_c20 (show (va_up (va_up s 25 0) 23 (s 4)) 10 = s 10 from rfl) (show z < if 1 = 0 then 0 else (va_up (va_up s 25 0) 23 (s 4)) 23 from hz)]
        show (if z < s 4 then a 5 z else a 24 z) = a 5 z
        exact if_pos hz
      have hme : ∀ z, z < (mkA (va_up (va_up s 25 0) 23 (s 4)) (va_up2 (aDr a (s 4)) 7 (s 6) d) j (s 6) 1 0) 19 (s 10) → f' z = nI ((mkA (va_up (va_up s 25 0) 23 (s 4)) (va_up2 (aDr a (s 4)) 7 (s 6) d) j (s 6) 1 0) 20 (6 * s 10 + z)) := by
        intro z hz
        rw [hsz] at hz
        rw [h20 z hz, hf' z hz]
        exact Q.dre hz
      have hmx : b ≠ xa 4 ∧ b ≠ xa 5 := ⟨(ne_none Q.vof hb0).symm, (ne_none Q.draft hb0).symm⟩
      show jW X G 4 5 28 38 [(0, .ref xo), (1, .int (nI j)), (2, .int (nI d))] [.ref c] (jup (jup h b (.inl (G.2.2.1.1, s 4, .inl f'))) c (.inr (1, [.int (nI 1), .int (nI 0), .int (nI 0), .ref b])))
      refine j_astore_n C (i := 3) (x := c) (l' := [(3, .ref c), (0, .ref xo), (1, .int (nI j)), (2, .int (nI d))]) dX3_make_38 (pc' := 39) rfl (by decide) rfl ?_
      refine j_aload_n C (i := 0) (x := xo) 1 rfl dX3_make_39 (pc' := 40) rfl ?_
      refine j_iload_n C (i := 2) (x := nI d) 3 rfl dX3_make_40 (pc' := 41) rfl ?_
      refine j_aload_n C (i := 3) (x := c) 0 rfl dX3_make_41 (pc' := 42) rfl ?_
      refine j_get C (ref := "MapRevisions$Content") (CN := RX0) (T := TX0) (N := 4) (ci := 1) (index := 100) (a := c) (kf := 3) (fs := [.int (nI 1), .int (nI 0), .int (nI 0), .ref b]) (v := .ref b) hinX0 rfl (by decide) (by decide +kernel) rfl (jup_self _ _ _) rfl dX3_make_42 (pc' := 45) rfl ?_
      refine j_callV C (As := [.int (nI d), .ref b]) (rest := []) (c_isRowFor X.2.1 C.2.2.2.2.2.2.2.2 G Q1 J I (g := a 5) (N := s 4) (f := f') ((jup_ne hcb.symm).trans (jup_self _ _ _)) (fun z hz => (hf' z hz).trans (Q.dre hz)) (fun z _ => I.draft z) h4 d (by omega)) (cwV 2 C.2.2.2.2.1 gX3_make_X3_isRowFor rfl rfl rfl (by decide +kernel) (by rw [hXR]; decide)) Q1.obj rfl rfl rfl (Nat.le_of_ble_eq_true rfl) dX3_make_45 (pc' := 48) rfl (by rw [hXR]; exact Nat.le_of_ble_eq_true rfl) (by rw [hXR]; exact Nat.le_of_ble_eq_true rfl) (fun _ _ z => z.elim) ?_
      rintro r h' ⟨rfl, hh⟩
      have hh := hh.symm
      subst hh
      show jW X G 4 5 28 48 [(3, .ref c), (0, .ref xo), (1, .int (nI j)), (2, .int (nI d))] [.int (bI (rowOK s a d (a 5) (s 4)))] (jup (jup h b (.inl (G.2.2.1.1, s 4, .inl f'))) c (.inr (1, [.int (nI 1), .int (nI 0), .int (nI 0), .ref b])))
      rcases hb_16 : (rowOK s a d (a 5) (s 4)) with _ | _
      · show jW X G 4 5 28 48 [(3, .ref c), (0, .ref xo), (1, .int (nI j)), (2, .int (nI d))] [.int (nI 0)] (jup (jup h b (.inl (G.2.2.1.1, s 4, .inl f'))) c (.inr (1, [.int (nI 1), .int (nI 0), .int (nI 0), .ref b])))
        refine j_if_ne C dX3_make_48 (tgt := 54) (by decide) (pc' := 51) rfl (fun c_17 => absurd (by decide) c_17) (fun _ => ?_)
        refine j_bipush C (v := (-3)) rfl dX3_make_51 (pc' := 53) rfl ?_
        exact j_iret C E dX3_make_53 rfl (Nat.le_of_ble_eq_true rfl) (Nat.le_of_ble_eq_true rfl) (by rw [show oMake s a (nI j) (nI d) = ((-3), (va_up (va_up s 25 0) 23 (s 4)), aDr a (s 4)) from by unfold oMake; rw [if_pos (show inN (nI j) (s 2) = true by rw [inN_nI (by omega)]; exact decide_eq_true hj), if_pos (inR_nI (i := d) (lo := 1) (hi := 2) ld hd2 (by omega)), if_pos (show mOpen s a (nI j) = true ∧ s 6 < 40 from ⟨(by rw [mOpen_nI hj h2]; exact decide_eq_true hop), hrm⟩), tn_nI (j := d) (by omega), if_pos (nn_t (hb_16.symm.trans (hRow d)))] <;> rfl]; exact ⟨rfl, rfl, (Q1.same (s' := (va_up (va_up s 25 0) 23 (s 4))) (a' := aDr a (s 4)) (fun f h25 h23 => by rw [up_n h23, up_n h25]) (fun f h24 _ _ _ _ => by unfold aDr; exact up_n h24)).e hPo, hF1⟩)
      · show jW X G 4 5 28 48 [(3, .ref c), (0, .ref xo), (1, .int (nI j)), (2, .int (nI d))] [.int (nI 1)] (jup (jup h b (.inl (G.2.2.1.1, s 4, .inl f'))) c (.inr (1, [.int (nI 1), .int (nI 0), .int (nI 0), .ref b])))
        refine j_if_ne C dX3_make_48 (tgt := 54) (by decide) (pc' := 51) rfl (fun _ => ?_) (fun c_18 => absurd c_18 (by decide))
        refine j_aload_n C (i := 0) (x := xo) 1 rfl dX3_make_54 (pc' := 55) rfl ?_
        refine j_iload_n C (i := 1) (x := nI j) 2 rfl dX3_make_55 (pc' := 56) rfl ?_
        refine j_iload_n C (i := 2) (x := nI d) 3 rfl dX3_make_56 (pc' := 57) rfl ?_
        refine j_aload_n C (i := 3) (x := c) 0 rfl dX3_make_57 (pc' := 58) rfl ?_
        refine j_callV C (As := [.int (nI j), .int (nI d), .ref c]) (rest := []) (c_addT X.2.1 C.2.2.2.2.2.2.2.2 G Q1 J I (by omega) hrm rfl (by rw [mkA_7]; unfold va_up2; rw [up_s, up_s]) hN hV hcc hmm hme hmx hPn1 hPo (fun z => hPn b z hb0)) (cwV 3 C.2.2.2.2.1 gX3_make_X3_addThing rfl rfl rfl (by decide +kernel) (by rw [hXR]; decide)) Q1.obj rfl rfl rfl (Nat.le_of_ble_eq_true rfl) dX3_make_58 (pc' := 61) rfl (by rw [hXR]; exact Nat.le_of_ble_eq_true rfl) (by rw [hXR]; exact Nat.le_of_ble_eq_true rfl) (fun _ _ z => z.elim) ?_
        rintro r h' ⟨rfl, hE, hF⟩
        show jW X G 4 8 136 61 [(3, .ref c), (0, .ref xo), (1, .int (nI j)), (2, .int (nI d))] [.int (nI (s 6))] (h')
        exact j_iret C E dX3_make_61 rfl (Nat.le_of_ble_eq_true rfl) (Nat.le_of_ble_eq_true rfl) (by rw [show oMake s a (nI j) (nI d) = (nI (s 6), (va_up (va_up (va_up (va_up s 25 0) 23 (s 4)) 10 (s 10 + 1)) 6 (s 6 + 1)), (mkA (va_up (va_up s 25 0) 23 (s 4)) (va_up2 (aDr a (s 4)) 7 (s 6) d) j (s 6) 1 0)) from by unfold oMake; rw [if_pos (show inN (nI j) (s 2) = true by rw [inN_nI (by omega)]; exact decide_eq_true hj), if_pos (inR_nI (i := d) (lo := 1) (hi := 2) ld hd2 (by omega)), if_pos (show mOpen s a (nI j) = true ∧ s 6 < 40 from ⟨(by rw [mOpen_nI hj h2]; exact decide_eq_true hop), hrm⟩), tn_nI (j := d) (by omega), if_neg (bff (nn_f (hb_16.symm.trans (hRow d)))), tn_nI (j := j) (by omega)] <;> rfl]; exact ⟨rfl, rfl, hE, fun w hw => (hF w hw).trans (hF1 w hw)⟩)
    · exact j_throw C E (cls := "java/lang/IllegalArgumentException") (text := "the kind is neither WAY nor RELATION") (ik := 91) (is := 93) (ic := 95) (by decide +kernel) (by decide +kernel) (by decide +kernel) (by decide +kernel) (by decide +kernel) jt_iae.1 jt_iae.2.1 jt_iae.2.2 dX3_make_15 dX3_make_18 dX3_make_19 dX3_make_21 dX3_make_24 (by rw [hXR]; exact Nat.le_of_ble_eq_true rfl) (by rw [hXR]; exact Nat.le_of_ble_eq_true rfl) (Nat.le_of_ble_eq_true rfl) (Nat.le_of_ble_eq_true rfl) ((Or.inr (Or.inl ⟨rfl, rfl, by unfold oMake; rw [if_pos (show inN (nI j) (s 2) = true by rw [inN_nI (by omega)]; exact decide_eq_true hj), if_neg (fun z => (inR12 z).elim c_3 c_11)] <;> rfl⟩)))
