theorem inR12 {w : Int32} (h : inR w 1 2 = true) : w = nI 1 ∨ w = nI 2 := by
  obtain ⟨i, l, u, rfl⟩ := inR_of (v := w) (lo := 1) (hi := 2) (by omega) (by omega) h
  rcases (show i = 1 ∨ i = 2 by omega) with rfl | rfl
  · exact Or.inl rfl
  · exact Or.inr rfl
theorem pop_zero {x : Nat} (h : x < 2 ^ 40) : pop x = 0 ↔ x = 0 := by
  constructor
  · intro e
    apply Nat.eq_of_testBit_eq
    intro i
    rw [Nat.zero_testBit]
    by_cases hi : i < 40
    · cases hb : x.testBit i with
      | false => rfl
      | true =>
        have h1 : cnt (fun k => x.testBit k) (i + 1) ≤ cnt (fun k => x.testBit k) 40 := cnt_mono _ (by omega)
        have h2 : cnt (fun k => x.testBit k) (i + 1) = cnt (fun k => x.testBit k) i + 1 := by rw [cnt_s, hb]; rfl
        have h3 : cnt (fun k => x.testBit k) 40 = 0 := e
        omega
    · exact Nat.testBit_lt_two_pow (Nat.lt_of_lt_of_le h (Nat.pow_le_pow_right (by decide) (by omega)))
  · intro e
    subst e
    exact cnt_f (fun k _ => Nat.zero_testBit k)
theorem use_zero {s : mS} {a : mA} (Z : mGone s a) (hn : s 6 ≤ 40) (o : Nat) : orN (fUse a (2 ^ o)) (s 6) = 0 ↔ mUsers a (s 6) o = 0 := by
  rw [← use_users Z hn o]
  exact (pop_zero (fUse_lt a (2 ^ o) hn)).symm
set_option maxRecDepth 100000 in
set_option maxHeartbeats 4000000 in
theorem c_point (l : Launch) (hlt : l.stackTraces = false) (G : jG) {P : Nat → Prop} {xo : Nat} {xa th va ca ma : Nat → Nat} {dat cap : Nat} {mod : Int32} {df : Nat → Option Nat} {vf dr : Nat → Int32} {mf : Nat → Nat → Int32} {s : mS} {a : mA} {h : jH} (Q : cQ G P xo xa th va ca ma dat cap mod df vf dr mf s a h) (J : IS s) (I : IA a) (p x y : Int32) (hPn : ∀ w, P w → h w ≠ none) (hPo : ∀ v, v < s 10 → ¬ P (ma v)) (h9a : s 6 < 40 → a 9 (s 6) = 0) : jM l G yX3_point wsX3_point 8 224 8 136 [.ref xo, .int p, .int x, .int y] h (fun r h' => r = some (.int (oPoint s a p x y).1) ∧ (oPoint s a p x y).2.1 25 = 0 ∧ cE G P xo xa (oPoint s a p x y).2.1 (oPoint s a p x y).2.2 h' ∧ ∀ q, P q → h' q = h q) (fun E h' => (E = "java/lang/IndexOutOfBoundsException" ∧ h' = h ∧ (oPoint s a p x y).2.1 25 = 1) ∨ (E = "java/lang/IllegalArgumentException" ∧ h' = h ∧ (oPoint s a p x y).2.1 25 = 2) ∨ (E = "java/lang/IllegalStateException" ∧ h' = h ∧ (oPoint s a p x y).2.1 25 = 3)) := by
  have h6 := J.2.1
  have h2 := J.2.2.1
  have h4 := J.2.2.2.1
  have h10 := J.2.2.2.2.1
  have hs0 := J.1 0
  have hs1 := J.1 1
  refine jM_of (cc := cX3_point) (maxL := 4) (ret := (some .int)) hlt (by decide +kernel) rfl (Nat.le_of_ble_eq_true rfl) ?_
  intro X C E hXl hXR hXn
  show jW X G 4 0 0 0 [(0, .ref xo), (1, .int p), (2, .int x), (3, .int y)] [] h
  refine j_aload_n C (i := 0) (x := xo) 0 rfl dX3_point_0 (pc' := 1) rfl ?_
  refine j_iload_n C (i := 1) (x := p) 1 rfl dX3_point_1 (pc' := 2) rfl ?_
  refine j_callV C (As := [.int p]) (rest := []) (c_needSet X.2.1 C.2.2.2.2.2.2.2.2 G Q J I p) (cwV 1 C.2.2.2.2.1 gX3_point_X3_needSet rfl rfl rfl (by decide +kernel) (by rw [hXR]; decide)) Q.obj rfl rfl rfl (Nat.le_of_ble_eq_true rfl) dX3_point_2 (pc' := 5) rfl (by rw [hXR]; exact Nat.le_of_ble_eq_true rfl) (by rw [hXR]; exact Nat.le_of_ble_eq_true rfl) (by rintro E' h' ⟨rfl, hx, ex_1⟩; exact j_out C E (Nat.le_of_ble_eq_true rfl) (Nat.le_of_ble_eq_true rfl) (Or.inl (⟨rfl, hx, by unfold oPoint; rw [if_neg (bff ex_1)] <;> rfl⟩))) ?_
  rintro r h' ⟨rfl, hh, nd_2⟩
  have hh := hh.symm
  subst hh
  show jW X G 4 1 6 5 [(0, .ref xo), (1, .int p), (2, .int x), (3, .int y)] [] h
  obtain ⟨j, hj, rfl⟩ := inN_of nd_2
  refine j_aload_n C (i := 0) (x := xo) 0 rfl dX3_point_5 (pc' := 6) rfl ?_
  refine j_iload_n C (i := 2) (x := x) 2 rfl dX3_point_6 (pc' := 7) rfl ?_
  refine j_iload_n C (i := 3) (x := y) 3 rfl dX3_point_7 (pc' := 8) rfl ?_
  refine j_callV C (As := [.int x, .int y]) (rest := []) (c_needPlace X.2.1 C.2.2.2.2.2.2.2.2 G Q J I x y) (cwV 2 C.2.2.2.2.1 gX3_point_X3_needPlace rfl rfl rfl (by decide +kernel) (by rw [hXR]; decide)) Q.obj rfl rfl rfl (Nat.le_of_ble_eq_true rfl) dX3_point_8 (pc' := 11) rfl (by rw [hXR]; exact Nat.le_of_ble_eq_true rfl) (by rw [hXR]; exact Nat.le_of_ble_eq_true rfl) (by rintro E' h' ⟨rfl, hx, ex_3⟩; exact j_out C E (Nat.le_of_ble_eq_true rfl) (Nat.le_of_ble_eq_true rfl) (Or.inr (Or.inl (⟨rfl, hx, by unfold oPoint; rw [if_pos (show inN (nI j) (s 2) = true by rw [inN_nI (by omega)]; exact decide_eq_true hj), if_neg ex_3] <;> rfl⟩)))) ?_
  rintro r h' ⟨rfl, hh, nd_4⟩
  have hh := hh.symm
  subst hh
  show jW X G 4 2 12 11 [(0, .ref xo), (1, .int (nI j)), (2, .int x), (3, .int y)] [] h
  obtain ⟨i1, li1, hi1, rfl⟩ := inR_of (v := x) (lo := 0) (hi := 99) (by omega) (by omega) nd_4.1
  obtain ⟨i2, li2, hi2, rfl⟩ := inR_of (v := y) (lo := 0) (hi := 99) (by omega) (by omega) nd_4.2
  refine j_aload_n C (i := 0) (x := xo) 0 rfl dX3_point_11 (pc' := 12) rfl ?_
  refine j_iload_n C (i := 1) (x := nI j) 1 rfl dX3_point_12 (pc' := 13) rfl ?_
  refine j_callV C (As := [.int (nI j)]) (rest := []) (c_needOpen X.2.1 C.2.2.2.2.2.2.2.2 G Q J I j hj) (cwV 1 C.2.2.2.2.1 gX3_point_X3_needOpen rfl rfl rfl (by decide +kernel) (by rw [hXR]; decide)) Q.obj rfl rfl rfl (Nat.le_of_ble_eq_true rfl) dX3_point_13 (pc' := 16) rfl (by rw [hXR]; exact Nat.le_of_ble_eq_true rfl) (by rw [hXR]; exact Nat.le_of_ble_eq_true rfl) (by rintro E' h' ⟨rfl, hx, ex_5⟩; exact j_out C E (Nat.le_of_ble_eq_true rfl) (Nat.le_of_ble_eq_true rfl) (Or.inr (Or.inr (⟨rfl, hx, by unfold oPoint; rw [if_pos (show inN (nI j) (s 2) = true by rw [inN_nI (by omega)]; exact decide_eq_true hj), if_pos (show inR (nI i1) 0 99 = true ∧ inR (nI i2) 0 99 = true from ⟨inR_nI (by omega) hi1 (by omega), inR_nI (by omega) hi2 (by omega)⟩), if_neg (fun z => by rw [mOpen_nI hj h2] at z; exact ex_5 (of_decide_eq_true z.1))] <;> rfl⟩)))) ?_
  rintro r h' ⟨rfl, hh, nd_6⟩
  have hh := hh.symm
  subst hh
  show jW X G 4 3 18 16 [(0, .ref xo), (1, .int (nI j)), (2, .int (nI i1)), (3, .int (nI i2))] [] h
  have hop := nd_6
  refine j_aload_n C (i := 0) (x := xo) 0 rfl dX3_point_16 (pc' := 17) rfl ?_
  refine j_callV C (As := []) (rest := []) (c_needRoom X.2.1 C.2.2.2.2.2.2.2.2 G Q J I) (cwV 0 C.2.2.2.2.1 gX3_point_X3_needRoomForThing rfl rfl rfl (by decide +kernel) (by rw [hXR]; decide)) Q.obj rfl rfl rfl (Nat.le_of_ble_eq_true rfl) dX3_point_17 (pc' := 20) rfl (by rw [hXR]; exact Nat.le_of_ble_eq_true rfl) (by rw [hXR]; exact Nat.le_of_ble_eq_true rfl) (by rintro E' h' ⟨rfl, hx, ex_7⟩; exact j_out C E (Nat.le_of_ble_eq_true rfl) (Nat.le_of_ble_eq_true rfl) (Or.inr (Or.inr (⟨rfl, hx, by unfold oPoint; rw [if_pos (show inN (nI j) (s 2) = true by rw [inN_nI (by omega)]; exact decide_eq_true hj), if_pos (show inR (nI i1) 0 99 = true ∧ inR (nI i2) 0 99 = true from ⟨inR_nI (by omega) hi1 (by omega), inR_nI (by omega) hi2 (by omega)⟩), if_neg (fun z => ex_7 z.2)] <;> rfl⟩)))) ?_
  rintro r h' ⟨rfl, hh, nd_8⟩
  have hh := hh.symm
  subst hh
  show jW X G 4 4 24 20 [(0, .ref xo), (1, .int (nI j)), (2, .int (nI i1)), (3, .int (nI i2))] [] h
  have hrm := nd_8
  refine j_aload_n C (i := 0) (x := xo) 0 rfl dX3_point_20 (pc' := 21) rfl ?_
  refine j_iload_n C (i := 1) (x := nI j) 1 rfl dX3_point_21 (pc' := 22) rfl ?_
  refine j_iconst C (v := nI 0) rfl dX3_point_22 (pc' := 23) rfl ?_
  refine j_aload_n C (i := 0) (x := xo) 0 rfl dX3_point_23 (pc' := 24) rfl ?_
  refine j_iload_n C (i := 2) (x := nI i1) 2 rfl dX3_point_24 (pc' := 25) rfl ?_
  refine j_iload_n C (i := 3) (x := nI i2) 3 rfl dX3_point_25 (pc' := 26) rfl ?_
  refine j_callV C (As := [.int (nI i1), .int (nI i2)]) (rest := [.int (nI 0), .int (nI j), .ref xo]) (c_cPoint X.2.1 C.2.2.2.2.2.2.2.2 G Q J I (nI i1) (nI i2)) (cwV 2 C.2.2.2.2.1 gX3_point_X3_contentOfPoint rfl rfl rfl (by decide +kernel) (by rw [hXR]; decide)) Q.obj rfl rfl rfl (Nat.le_of_ble_eq_true rfl) dX3_point_26 (pc' := 29) rfl (by rw [hXR]; exact Nat.le_of_ble_eq_true rfl) (by rw [hXR]; exact Nat.le_of_ble_eq_true rfl) (fun _ _ z => z.elim) ?_
  rintro r h' ⟨c, rfl, hc, rfl⟩
  have Q1 := Q.mono (h' := jup h c (.inr (1, [.int (nI 1), .int (nI i1), .int (nI i2), .ref (xa 0)]))) (fun w e hw => jup_some hc hw)
  have hPn1 : ∀ w, P w → (jup h c (.inr (1, [.int (nI 1), .int (nI i1), .int (nI i2), .ref (xa 0)]))) w ≠ none := fun w hw z => hPn w hw (jup_none z)
  have h9 := h9a hrm
  have hA : ∀ f, f ≠ 24 → f ≠ 21 → f ≠ 7 → ((va_up2 a 7 (s 6) 0)) f = a f := fun f _ _ h7 => by unfold va_up2; exact up_n h7
  have hN : cNew s a (va_up (va_up (va_up (va_up s 25 0) 23 0) 10 (s 10 + 1)) 6 (s 6 + 1)) (mkA (va_up (va_up s 25 0) 23 0) (va_up2 a 7 (s 6) 0) j (s 6) 1 (100 * i1 + i2)) (s 6) := mkA_cNew rfl rfl rfl hA (fun t ht => by unfold va_up2; rw [up_s, up_n ht]) (fun z => absurd h9 z)
  have hV : cVal s a (va_up (va_up (va_up (va_up s 25 0) 23 0) 10 (s 10 + 1)) 6 (s 6 + 1)) (mkA (va_up (va_up s 25 0) 23 0) (va_up2 a 7 (s 6) 0) j (s 6) 1 (100 * i1 + i2)) (s 6) j 1 0 := by
    have z := mkA_cVal (s := s) (a := a) (s1 := (va_up (va_up s 25 0) 23 0)) (s' := (va_up (va_up (va_up (va_up s 25 0) 23 0) 10 (s 10 + 1)) 6 (s 6 + 1))) (a1 := (va_up2 a 7 (s 6) 0)) (b := j) (i := (s 6)) (th := 1) (at_ := (100 * i1 + i2)) rfl rfl rfl rfl rfl hA
    rw [h9, if_pos rfl, Nat.zero_add] at z
    exact z
  have hcc : (jup h c (.inr (1, [.int (nI 1), .int (nI i1), .int (nI i2), .ref (xa 0)]))) c = some (.inr (1, [.int (nI ((mkA (va_up (va_up s 25 0) 23 0) (va_up2 a 7 (s 6) 0) j (s 6) 1 (100 * i1 + i2)) 16 (s 10))), .int (nI ((mkA (va_up (va_up s 25 0) 23 0) (va_up2 a 7 (s 6) 0) j (s 6) 1 (100 * i1 + i2)) 18 (s 10) / 100)), .int (nI ((mkA (va_up (va_up s 25 0) 23 0) (va_up2 a 7 (s 6) 0) j (s 6) 1 (100 * i1 + i2)) 18 (s 10) % 100)), .ref (xa 0)])) := by
    rw [mkA_c16 (show (va_up (va_up s 25 0) 23 0) 10 = s 10 from rfl), mkA_c18 (show (va_up (va_up s 25 0) 23 0) 10 = s 10 from rfl), show (100 * i1 + i2) / 100 = i1 by omega, show (100 * i1 + i2) % 100 = i2 by omega]
    exact jup_self _ _ _
  have hmm : (jup h c (.inr (1, [.int (nI 1), .int (nI i1), .int (nI i2), .ref (xa 0)]))) (xa 0) = some (.inl (G.2.2.1.1, (mkA (va_up (va_up s 25 0) 23 0) (va_up2 a 7 (s 6) 0) j (s 6) 1 (100 * i1 + i2)) 19 (s 10), .inl (fun _ => 0))) := by
    rw [mkA_c19 (show (va_up (va_up s 25 0) 23 0) 10 = s 10 from rfl)]
    exact jup_some hc Q.2.1
  have hme : ∀ z, z < (mkA (va_up (va_up s 25 0) 23 0) (va_up2 a 7 (s 6) 0) j (s 6) 1 (100 * i1 + i2)) 19 (s 10) → (fun _ => 0 : Nat → Int32) z = nI ((mkA (va_up (va_up s 25 0) 23 0) (va_up2 a 7 (s 6) 0) j (s 6) 1 (100 * i1 + i2)) 20 (6 * s 10 + z)) := by
    intro z hz
    rw [mkA_c19 (show (va_up (va_up s 25 0) 23 0) 10 = s 10 from rfl)] at hz
    exact absurd hz (Nat.not_lt_zero z)
  have hmx : xa 0 ≠ xa 4 ∧ xa 0 ≠ xa 5 := ⟨Q.xa_ne (by decide) (by decide) (by decide), Q.xa_ne (by decide) (by decide) (by decide)⟩
  show jW X G 4 5 28 29 [(0, .ref xo), (1, .int (nI j)), (2, .int (nI i1)), (3, .int (nI i2))] [.ref c, .int (nI 0), .int (nI j), .ref xo] (jup h c (.inr (1, [.int (nI 1), .int (nI i1), .int (nI i2), .ref (xa 0)])))
  refine j_callV C (As := [.int (nI j), .int (nI 0), .ref c]) (rest := []) (c_addT X.2.1 C.2.2.2.2.2.2.2.2 G Q1 J I (by omega) hrm rfl (by rw [mkA_7]; unfold va_up2; rw [up_s, up_s]) hN hV hcc hmm hme hmx hPn1 hPo (Q.np.2.1 0 (by decide))) (cwV 3 C.2.2.2.2.1 gX3_point_X3_addThing rfl rfl rfl (by decide +kernel) (by rw [hXR]; decide)) Q1.obj rfl rfl rfl (Nat.le_of_ble_eq_true rfl) dX3_point_29 (pc' := 32) rfl (by rw [hXR]; exact Nat.le_of_ble_eq_true rfl) (by rw [hXR]; exact Nat.le_of_ble_eq_true rfl) (fun _ _ z => z.elim) ?_
  rintro r h' ⟨rfl, hE, hF⟩
  show jW X G 4 8 136 32 [(0, .ref xo), (1, .int (nI j)), (2, .int (nI i1)), (3, .int (nI i2))] [.int (nI (s 6))] (h')
  exact j_iret C E dX3_point_32 rfl (Nat.le_of_ble_eq_true rfl) (Nat.le_of_ble_eq_true rfl) (by rw [show oPoint s a (nI j) (nI i1) (nI i2) = (nI (s 6), (va_up (va_up (va_up (va_up s 25 0) 23 0) 10 (s 10 + 1)) 6 (s 6 + 1)), (mkA (va_up (va_up s 25 0) 23 0) (va_up2 a 7 (s 6) 0) j (s 6) 1 (100 * i1 + i2))) from by unfold oPoint; rw [if_pos (show inN (nI j) (s 2) = true by rw [inN_nI (by omega)]; exact decide_eq_true hj), if_pos (show inR (nI i1) 0 99 = true ∧ inR (nI i2) 0 99 = true from ⟨inR_nI (by omega) hi1 (by omega), inR_nI (by omega) hi2 (by omega)⟩), if_pos (show mOpen s a (nI j) = true ∧ s 6 < 40 from ⟨(by rw [mOpen_nI hj h2]; exact decide_eq_true hop), hrm⟩), tn_nI (j := j) (by omega), tn_nI (j := i1) (by omega), tn_nI (j := i2) (by omega)] <;> rfl]; exact ⟨rfl, rfl, hE, fun w hw => (hF w hw).trans (jup_ne (pne (fun z => hPn c z hc) hw))⟩)
