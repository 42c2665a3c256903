theorem inR_wk {v : Int32} {lo hi : Nat} (h1 : lo < 1048576) (h2 : hi < 1048576) (h : inR v lo hi = true) : inR v 0 hi = true := by
  obtain ⟨i, -, hi', rfl⟩ := inR_of (v := v) (lo := lo) (hi := hi) (by omega) (by omega) h
  exact inR_in (nI_nlt (by omega) (by omega)) (nI_le hi' (by omega))
theorem inR_nI {i lo hi : Nat} (h1 : lo ≤ i) (h2 : i ≤ hi) (h3 : hi < 1048576) : inR (nI i) lo hi = true := inR_in (nI_nlt h1 (by omega)) (nI_le h2 (by omega))
def iWay (a : mA) (n u : Nat) : Nat := orN (fUse a u) n &&& orN (fKind a 1) n
def iPts (a : mA) (n u v : Nat) : Nat := u ||| orN (fMem a v) n
def iRel (a : mA) (n p v : Nat) : Nat := orN (fUse a (p ||| v)) n &&& orN (fKind a 2) n
def iAns (a : mA) (n x y x2 y2 w : Nat) : Nat :=
  if w = 0 then iPts a n (orN (fBox a x y x2 y2) n) (iWay a n (orN (fBox a x y x2 y2) n))
  else if w = 1 then iWay a n (orN (fBox a x y x2 y2) n)
  else iRel a n (iPts a n (orN (fBox a x y x2 y2) n) (iWay a n (orN (fBox a x y x2 y2) n))) (iWay a n (orN (fBox a x y x2 y2) n))
set_option maxRecDepth 100000 in
set_option maxHeartbeats 4000000 in
theorem c_inBox (l : Launch) (hlt : l.stackTraces = false) (G : jG) {P : Nat → Prop} {xo : Nat} {xa th va ca ma : Nat → Nat} {dat cap : Nat} {mod : Int32} {df : Nat → Option Nat} {vf dr : Nat → Int32} {mf : Nat → Nat → Int32} {s : mS} {a : mA} {h : jH} (Q : cQ G P xo xa th va ca ma dat cap mod df vf dr mf s a h) (J : IS s) (I : IA a) (x y tx ty w : Int32) : jM l G yX3_inBox wsX3_inBox 7 112 3 18 [.ref xo, .int x, .int y, .int tx, .int ty, .int w] h (fun r h' => (∃ i1 i2 i3 i4 m : Nat, i1 ≤ 99 ∧ i2 ≤ 99 ∧ i3 ≤ 99 ∧ i4 ≤ 99 ∧ m ≤ 2 ∧ i1 ≤ i3 ∧ i2 ≤ i4 ∧ x = nI i1 ∧ y = nI i2 ∧ tx = nI i3 ∧ ty = nI i4 ∧ w = nI m ∧ r = some (.int (nI (pop (iAns a (s 6) i1 i2 i3 i4 m))))) ∧ h' = h) (fun E h' => E = "java/lang/IllegalArgumentException" ∧ h' = h ∧ (oInBox s a x y tx ty w).2.1 25 = 1) := by
  have h6 := J.2.1
  have h2 := J.2.2.1
  have h4 := J.2.2.2.1
  have h10 := J.2.2.2.2.1
  have hs0 := J.1 0
  have hs1 := J.1 1
  refine jM_of (cc := cX3_inBox) (maxL := 14) (ret := (some .int)) hlt (by decide +kernel) rfl (Nat.le_of_ble_eq_true rfl) ?_
  intro X C E hXl hXR hXn
  show jW X G 14 0 0 0 [(0, .ref xo), (1, .int x), (2, .int y), (3, .int tx), (4, .int ty), (5, .int w)] [] h
  refine j_aload_n C (i := 0) (x := xo) 0 rfl dX3_inBox_0 (pc' := 1) rfl ?_
  refine j_iload_n C (i := 1) (x := x) 1 rfl dX3_inBox_1 (pc' := 2) rfl ?_
  refine j_iload_n C (i := 2) (x := y) 2 rfl dX3_inBox_2 (pc' := 3) rfl ?_
  refine j_callV C (As := [.int x, .int y]) (rest := []) (c_needPlace X.2.1 C.2.2.2.2.2.2.2.2 G Q J I x y) (cwV 2 C.2.2.2.2.1 gX3_inBox_X3_needPlace rfl rfl rfl (by decide +kernel) (by rw [hXR]; decide)) Q.obj rfl rfl rfl (Nat.le_of_ble_eq_true rfl) dX3_inBox_3 (pc' := 6) rfl (by rw [hXR]; exact Nat.le_of_ble_eq_true rfl) (by rw [hXR]; exact Nat.le_of_ble_eq_true rfl) (by rintro E' h' ⟨rfl, hx, ex_1⟩; exact j_out C E (Nat.le_of_ble_eq_true rfl) (Nat.le_of_ble_eq_true rfl) ⟨rfl, hx, by unfold oInBox; rw [if_neg (fun z => ex_1 ⟨z.1, z.2.1⟩)] <;> rfl⟩) ?_
  rintro r h' ⟨rfl, hh, nd_2⟩
  have hh := hh.symm
  subst hh
  show jW X G 14 1 6 6 [(0, .ref xo), (1, .int x), (2, .int y), (3, .int tx), (4, .int ty), (5, .int w)] [] h
  obtain ⟨i1, li1, hi1, rfl⟩ := inR_of (v := x) (lo := 0) (hi := 99) (by omega) (by omega) nd_2.1
  obtain ⟨i2, li2, hi2, rfl⟩ := inR_of (v := y) (lo := 0) (hi := 99) (by omega) (by omega) nd_2.2
  refine j_aload_n C (i := 0) (x := xo) 0 rfl dX3_inBox_6 (pc' := 7) rfl ?_
  refine j_iload_n C (i := 3) (x := tx) 3 rfl dX3_inBox_7 (pc' := 8) rfl ?_
  refine j_iload C (i := 4) (x := ty) 4 rfl dX3_inBox_8 (pc' := 10) rfl ?_
  refine j_callV C (As := [.int tx, .int ty]) (rest := []) (c_needPlace X.2.1 C.2.2.2.2.2.2.2.2 G Q J I tx ty) (cwV 2 C.2.2.2.2.1 gX3_inBox_X3_needPlace rfl rfl rfl (by decide +kernel) (by rw [hXR]; decide)) Q.obj rfl rfl rfl (Nat.le_of_ble_eq_true rfl) dX3_inBox_10 (pc' := 13) rfl (by rw [hXR]; exact Nat.le_of_ble_eq_true rfl) (by rw [hXR]; exact Nat.le_of_ble_eq_true rfl) (by rintro E' h' ⟨rfl, hx, ex_3⟩; exact j_out C E (Nat.le_of_ble_eq_true rfl) (Nat.le_of_ble_eq_true rfl) ⟨rfl, hx, by unfold oInBox; rw [if_neg (fun z => ex_3 ⟨inR_wk (by rw [tn_nI (by omega)]; omega) (by omega) z.2.2.1, inR_wk (by rw [tn_nI (by omega)]; omega) (by omega) z.2.2.2.1⟩)] <;> rfl⟩) ?_
  rintro r h' ⟨rfl, hh, nd_4⟩
  have hh := hh.symm
  subst hh
  show jW X G 14 2 12 13 [(0, .ref xo), (1, .int (nI i1)), (2, .int (nI i2)), (3, .int tx), (4, .int ty), (5, .int w)] [] h
  obtain ⟨i3, li3, hi3, rfl⟩ := inR_of (v := tx) (lo := 0) (hi := 99) (by omega) (by omega) nd_4.1
  obtain ⟨i4, li4, hi4, rfl⟩ := inR_of (v := ty) (lo := 0) (hi := 99) (by omega) (by omega) nd_4.2
  refine j_iload_n C (i := 3) (x := nI i3) 3 rfl dX3_inBox_13 (pc' := 14) rfl ?_
  refine j_iload_n C (i := 1) (x := nI i1) 1 rfl dX3_inBox_14 (pc' := 15) rfl ?_
  refine j_icmp_lt C dX3_inBox_15 (tgt := 35) (by decide) (pc' := 18) rfl (fun c_5 => ?_) (fun c_5 => ?_)
  · have c_5 := (nI_ltI (a := i3) (b := i1) (by omega) (by omega)).mp c_5
    have c_5 : i3 < i1 := c_5
    exact j_throw C E (cls := "java/lang/IllegalArgumentException") (text := "the box or the kind is out of range") (ik := 91) (is := 207) (ic := 95) (by decide +kernel) (by decide +kernel) (by decide +kernel) (by decide +kernel) (by decide +kernel) jt_iae.1 jt_iae.2.1 jt_iae.2.2 dX3_inBox_35 dX3_inBox_38 dX3_inBox_39 dX3_inBox_41 dX3_inBox_44 (by rw [hXR]; exact Nat.le_of_ble_eq_true rfl) (by rw [hXR]; exact Nat.le_of_ble_eq_true rfl) (Nat.le_of_ble_eq_true rfl) (Nat.le_of_ble_eq_true rfl) (⟨rfl, rfl, by unfold oInBox; rw [if_neg (fun z => absurd z.2.2.1 (bff (by rw [tn_nI (by omega)]; exact inR_lo (nI_lt (by omega) (by omega)))))] <;> rfl⟩)
  · have c_5 := fun zq => c_5 ((nI_ltI (a := i3) (b := i1) (by omega) (by omega)).mpr zq)
    have c_5 : ¬ i3 < i1 := c_5
    refine j_iload C (i := 4) (x := nI i4) 4 rfl dX3_inBox_18 (pc' := 20) rfl ?_
    refine j_iload_n C (i := 2) (x := nI i2) 2 rfl dX3_inBox_20 (pc' := 21) rfl ?_
    refine j_icmp_lt C dX3_inBox_21 (tgt := 35) (by decide) (pc' := 24) rfl (fun c_6 => ?_) (fun c_6 => ?_)
    · have c_6 := (nI_ltI (a := i4) (b := i2) (by omega) (by omega)).mp c_6
      have c_6 : i4 < i2 := c_6
      exact j_throw C E (cls := "java/lang/IllegalArgumentException") (text := "the box or the kind is out of range") (ik := 91) (is := 207) (ic := 95) (by decide +kernel) (by decide +kernel) (by decide +kernel) (by decide +kernel) (by decide +kernel) jt_iae.1 jt_iae.2.1 jt_iae.2.2 dX3_inBox_35 dX3_inBox_38 dX3_inBox_39 dX3_inBox_41 dX3_inBox_44 (by rw [hXR]; exact Nat.le_of_ble_eq_true rfl) (by rw [hXR]; exact Nat.le_of_ble_eq_true rfl) (Nat.le_of_ble_eq_true rfl) (Nat.le_of_ble_eq_true rfl) (⟨rfl, rfl, by unfold oInBox; rw [if_neg (fun z => absurd z.2.2.2.1 (bff (by rw [tn_nI (by omega)]; exact inR_lo (nI_lt (by omega) (by omega)))))] <;> rfl⟩)
    · have c_6 := fun zq => c_6 ((nI_ltI (a := i4) (b := i2) (by omega) (by omega)).mpr zq)
      have c_6 : ¬ i4 < i2 := c_6
      refine j_iload C (i := 5) (x := w) 5 rfl dX3_inBox_24 (pc' := 26) rfl ?_
      refine j_if_lt C dX3_inBox_26 (tgt := 35) (by decide) (pc' := 29) rfl (fun c_7 => ?_) (fun c_7 => ?_)
      · exact j_throw C E (cls := "java/lang/IllegalArgumentException") (text := "the box or the kind is out of range") (ik := 91) (is := 207) (ic := 95) (by decide +kernel) (by decide +kernel) (by decide +kernel) (by decide +kernel) (by decide +kernel) jt_iae.1 jt_iae.2.1 jt_iae.2.2 dX3_inBox_35 dX3_inBox_38 dX3_inBox_39 dX3_inBox_41 dX3_inBox_44 (by rw [hXR]; exact Nat.le_of_ble_eq_true rfl) (by rw [hXR]; exact Nat.le_of_ble_eq_true rfl) (Nat.le_of_ble_eq_true rfl) (Nat.le_of_ble_eq_true rfl) (⟨rfl, rfl, by unfold oInBox; rw [if_neg (fun z => absurd z.2.2.2.2 (bff (inR_lo c_7)))] <;> rfl⟩)
      · refine j_iload C (i := 5) (x := w) 5 rfl dX3_inBox_29 (pc' := 31) rfl ?_
        refine j_iconst C (v := nI 2) rfl dX3_inBox_31 (pc' := 32) rfl ?_
        refine j_icmp_le C dX3_inBox_32 (tgt := 45) (by decide) (pc' := 35) rfl (fun c_8 => ?_) (fun c_8 => ?_)
        · obtain ⟨m, lm, hm, rfl⟩ := inR_of (v := w) (lo := 0) (hi := 2) (by omega) (by omega) (inR_in c_7 c_8)
          refine j_aload_n C (i := 0) (x := xo) 0 rfl dX3_inBox_45 (pc' := 46) rfl ?_
          refine j_iload_n C (i := 1) (x := nI i1) 1 rfl dX3_inBox_46 (pc' := 47) rfl ?_
          refine j_iload_n C (i := 2) (x := nI i2) 2 rfl dX3_inBox_47 (pc' := 48) rfl ?_
          refine j_iload_n C (i := 3) (x := nI i3) 3 rfl dX3_inBox_48 (pc' := 49) rfl ?_
          refine j_iload C (i := 4) (x := nI i4) 4 rfl dX3_inBox_49 (pc' := 51) rfl ?_
          refine j_callV C (As := [.int (nI i1), .int (nI i2), .int (nI i3), .int (nI i4)]) (rest := []) (c_pointsWithin X.2.1 C.2.2.2.2.2.2.2.2 G Q J I i1 i2 i3 i4 (by omega) (by omega) (by omega) (by omega)) (cwV 4 C.2.2.2.2.1 gX3_inBox_X3_pointsWithin rfl rfl rfl (by decide +kernel) (by rw [hXR]; decide)) Q.obj rfl rfl rfl (Nat.le_of_ble_eq_true rfl) dX3_inBox_51 (pc' := 54) rfl (by rw [hXR]; exact Nat.le_of_ble_eq_true rfl) (by rw [hXR]; exact Nat.le_of_ble_eq_true rfl) (fun _ _ z => z.elim) ?_
          rintro r h' ⟨rfl, hh⟩
          have hh := hh.symm
          subst hh
          show jW X G 14 2 12 54 [(0, .ref xo), (1, .int (nI i1)), (2, .int (nI i2)), (3, .int (nI i3)), (4, .int (nI i4)), (5, .int (nI m))] [.long (lN (orN (fBox a i1 i2 i3 i4) (s 6)))] h
          obtain ⟨u, hu⟩ : ∃ u, u = orN (fBox a i1 i2 i3 i4) (s 6) := ⟨_, rfl⟩
          rw [← hu]
          have hub : u < 2 ^ 40 := by rw [hu]; exact fBox_lt a i1 i2 i3 i4 (by omega)
          show jW X G 14 2 12 54 [(0, .ref xo), (1, .int (nI i1)), (2, .int (nI i2)), (3, .int (nI i3)), (4, .int (nI i4)), (5, .int (nI m))] [.long (lN u)] h
          refine j_lstore C (i := 6) (x := lN u) (l' := [(6, .long (lN u)), (0, .ref xo), (1, .int (nI i1)), (2, .int (nI i2)), (3, .int (nI i3)), (4, .int (nI i4)), (5, .int (nI m))]) dX3_inBox_54 (pc' := 56) rfl (by decide) rfl ?_
          refine j_aload_n C (i := 0) (x := xo) 1 rfl dX3_inBox_56 (pc' := 57) rfl ?_
          refine j_lload C (i := 6) (x := lN u) 0 rfl dX3_inBox_57 (pc' := 59) rfl ?_
          refine j_callV C (As := [.long (lN u)]) (rest := []) (c_usersOf X.2.1 C.2.2.2.2.2.2.2.2 G Q J I u hub) (cwV 1 C.2.2.2.2.1 gX3_inBox_X3_usersOf rfl rfl rfl (by decide +kernel) (by rw [hXR]; decide)) Q.obj rfl rfl rfl (Nat.le_of_ble_eq_true rfl) dX3_inBox_59 (pc' := 62) rfl (by rw [hXR]; exact Nat.le_of_ble_eq_true rfl) (by rw [hXR]; exact Nat.le_of_ble_eq_true rfl) (fun _ _ z => z.elim) ?_
          rintro r h' ⟨rfl, hh⟩
          have hh := hh.symm
          subst hh
          show jW X G 14 2 12 62 [(6, .long (lN u)), (0, .ref xo), (1, .int (nI i1)), (2, .int (nI i2)), (3, .int (nI i3)), (4, .int (nI i4)), (5, .int (nI m))] [.long (lN (orN (fUse a u) (s 6)))] h
          refine j_aload_n C (i := 0) (x := xo) 1 rfl dX3_inBox_62 (pc' := 63) rfl ?_
          refine j_iconst C (v := nI 1) rfl dX3_inBox_63 (pc' := 64) rfl ?_
          refine j_callV C (As := [.int (nI 1)]) (rest := [.long (lN (orN (fUse a u) (s 6)))]) (c_thingsOf X.2.1 C.2.2.2.2.2.2.2.2 G Q J I 1 (by omega)) (cwV 1 C.2.2.2.2.1 gX3_inBox_X3_thingsOf rfl rfl rfl (by decide +kernel) (by rw [hXR]; decide)) Q.obj rfl rfl rfl (Nat.le_of_ble_eq_true rfl) dX3_inBox_64 (pc' := 67) rfl (by rw [hXR]; exact Nat.le_of_ble_eq_true rfl) (by rw [hXR]; exact Nat.le_of_ble_eq_true rfl) (fun _ _ z => z.elim) ?_
          rintro r h' ⟨rfl, hh⟩
          have hh := hh.symm
          subst hh
          show jW X G 14 2 12 67 [(6, .long (lN u)), (0, .ref xo), (1, .int (nI i1)), (2, .int (nI i2)), (3, .int (nI i3)), (4, .int (nI i4)), (5, .int (nI m))] [.long (lN (orN (fKind a 1) (s 6))), .long (lN (orN (fUse a u) (s 6)))] h
          refine j_land C (x := lN (orN (fUse a u) (s 6))) (y := lN (orN (fKind a 1) (s 6))) dX3_inBox_67 (pc' := 68) rfl ?_
          refine jt_l (jl_and (fUse_lt a u (by omega)) (fKind_lt a 1 (by omega))) ?_
          obtain ⟨v, hv⟩ : ∃ v, v = (orN (fUse a u) (s 6)) &&& (orN (fKind a 1) (s 6)) := ⟨_, rfl⟩
          rw [← hv]
          have hvb : v < 2 ^ 40 := by rw [hv]; exact land40 (fUse_lt a u (by omega))
          show jW X G 14 2 12 68 [(6, .long (lN u)), (0, .ref xo), (1, .int (nI i1)), (2, .int (nI i2)), (3, .int (nI i3)), (4, .int (nI i4)), (5, .int (nI m))] [.long (lN v)] h
          refine j_lstore C (i := 8) (x := lN v) (l' := [(8, .long (lN v)), (6, .long (lN u)), (0, .ref xo), (1, .int (nI i1)), (2, .int (nI i2)), (3, .int (nI i3)), (4, .int (nI i4)), (5, .int (nI m))]) dX3_inBox_68 (pc' := 70) rfl (by decide) rfl ?_
          refine j_lload C (i := 6) (x := lN u) 1 rfl dX3_inBox_70 (pc' := 72) rfl ?_
          refine j_aload_n C (i := 0) (x := xo) 2 rfl dX3_inBox_72 (pc' := 73) rfl ?_
          refine j_lload C (i := 8) (x := lN v) 0 rfl dX3_inBox_73 (pc' := 75) rfl ?_
          refine j_callV C (As := [.long (lN v)]) (rest := [.long (lN u)]) (c_membersOf X.2.1 C.2.2.2.2.2.2.2.2 G Q J I v hvb) (cwV 1 C.2.2.2.2.1 gX3_inBox_X3_membersOf rfl rfl rfl (by decide +kernel) (by rw [hXR]; decide)) Q.obj rfl rfl rfl (Nat.le_of_ble_eq_true rfl) dX3_inBox_75 (pc' := 78) rfl (by rw [hXR]; exact Nat.le_of_ble_eq_true rfl) (by rw [hXR]; exact Nat.le_of_ble_eq_true rfl) (fun _ _ z => z.elim) ?_
          rintro r h' ⟨rfl, hh⟩
          have hh := hh.symm
          subst hh
          show jW X G 14 2 12 78 [(8, .long (lN v)), (6, .long (lN u)), (0, .ref xo), (1, .int (nI i1)), (2, .int (nI i2)), (3, .int (nI i3)), (4, .int (nI i4)), (5, .int (nI m))] [.long (lN (orN (fMem a v) (s 6))), .long (lN u)] h
          refine j_lor C (x := lN u) (y := lN (orN (fMem a v) (s 6))) dX3_inBox_78 (pc' := 79) rfl ?_
          refine jt_l (jl_or hub (fMem_lt I v (s 6))) ?_
          obtain ⟨p, hp⟩ : ∃ p, p = u ||| (orN (fMem a v) (s 6)) := ⟨_, rfl⟩
          rw [← hp]
          have hpb : p < 2 ^ 40 := by rw [hp]; exact or40 hub (fMem_lt I v (s 6))
          show jW X G 14 2 12 79 [(8, .long (lN v)), (6, .long (lN u)), (0, .ref xo), (1, .int (nI i1)), (2, .int (nI i2)), (3, .int (nI i3)), (4, .int (nI i4)), (5, .int (nI m))] [.long (lN p)] h
          refine j_lstore C (i := 10) (x := lN p) (l' := [(10, .long (lN p)), (8, .long (lN v)), (6, .long (lN u)), (0, .ref xo), (1, .int (nI i1)), (2, .int (nI i2)), (3, .int (nI i3)), (4, .int (nI i4)), (5, .int (nI m))]) dX3_inBox_79 (pc' := 81) rfl (by decide) rfl ?_
          refine j_aload_n C (i := 0) (x := xo) 3 rfl dX3_inBox_81 (pc' := 82) rfl ?_
          refine j_lload C (i := 10) (x := lN p) 0 rfl dX3_inBox_82 (pc' := 84) rfl ?_
          refine j_lload C (i := 8) (x := lN v) 1 rfl dX3_inBox_84 (pc' := 86) rfl ?_
          refine j_lor C (x := lN p) (y := lN v) dX3_inBox_86 (pc' := 87) rfl ?_
          refine jt_l (jl_or hpb hvb) ?_
          refine j_callV C (As := [.long (lN (p ||| v))]) (rest := []) (c_usersOf X.2.1 C.2.2.2.2.2.2.2.2 G Q J I (p ||| v) (or40 hpb hvb)) (cwV 1 C.2.2.2.2.1 gX3_inBox_X3_usersOf rfl rfl rfl (by decide +kernel) (by rw [hXR]; decide)) Q.obj rfl rfl rfl (Nat.le_of_ble_eq_true rfl) dX3_inBox_87 (pc' := 90) rfl (by rw [hXR]; exact Nat.le_of_ble_eq_true rfl) (by rw [hXR]; exact Nat.le_of_ble_eq_true rfl) (fun _ _ z => z.elim) ?_
          rintro r h' ⟨rfl, hh⟩
          have hh := hh.symm
          subst hh
          show jW X G 14 2 12 90 [(10, .long (lN p)), (8, .long (lN v)), (6, .long (lN u)), (0, .ref xo), (1, .int (nI i1)), (2, .int (nI i2)), (3, .int (nI i3)), (4, .int (nI i4)), (5, .int (nI m))] [.long (lN (orN (fUse a (p ||| v)) (s 6)))] h
          refine j_aload_n C (i := 0) (x := xo) 3 rfl dX3_inBox_90 (pc' := 91) rfl ?_
          refine j_iconst C (v := nI 2) rfl dX3_inBox_91 (pc' := 92) rfl ?_
          refine j_callV C (As := [.int (nI 2)]) (rest := [.long (lN (orN (fUse a (p ||| v)) (s 6)))]) (c_thingsOf X.2.1 C.2.2.2.2.2.2.2.2 G Q J I 2 (by omega)) (cwV 1 C.2.2.2.2.1 gX3_inBox_X3_thingsOf rfl rfl rfl (by decide +kernel) (by rw [hXR]; decide)) Q.obj rfl rfl rfl (Nat.le_of_ble_eq_true rfl) dX3_inBox_92 (pc' := 95) rfl (by rw [hXR]; exact Nat.le_of_ble_eq_true rfl) (by rw [hXR]; exact Nat.le_of_ble_eq_true rfl) (fun _ _ z => z.elim) ?_
          rintro r h' ⟨rfl, hh⟩
          have hh := hh.symm
          subst hh
          show jW X G 14 2 12 95 [(10, .long (lN p)), (8, .long (lN v)), (6, .long (lN u)), (0, .ref xo), (1, .int (nI i1)), (2, .int (nI i2)), (3, .int (nI i3)), (4, .int (nI i4)), (5, .int (nI m))] [.long (lN (orN (fKind a 2) (s 6))), .long (lN (orN (fUse a (p ||| v)) (s 6)))] h
          refine j_land C (x := lN (orN (fUse a (p ||| v)) (s 6))) (y := lN (orN (fKind a 2) (s 6))) dX3_inBox_95 (pc' := 96) rfl ?_
          refine jt_l (jl_and (fUse_lt a (p ||| v) (by omega)) (fKind_lt a 2 (by omega))) ?_
          obtain ⟨q, hq⟩ : ∃ q, q = (orN (fUse a (p ||| v)) (s 6)) &&& (orN (fKind a 2) (s 6)) := ⟨_, rfl⟩
          rw [← hq]
          have hqb : q < 2 ^ 40 := by rw [hq]; exact land40 (fUse_lt a (p ||| v) (by omega))
          show jW X G 14 2 12 96 [(10, .long (lN p)), (8, .long (lN v)), (6, .long (lN u)), (0, .ref xo), (1, .int (nI i1)), (2, .int (nI i2)), (3, .int (nI i3)), (4, .int (nI i4)), (5, .int (nI m))] [.long (lN q)] h
          refine j_lstore C (i := 12) (x := lN q) (l' := [(12, .long (lN q)), (10, .long (lN p)), (8, .long (lN v)), (6, .long (lN u)), (0, .ref xo), (1, .int (nI i1)), (2, .int (nI i2)), (3, .int (nI i3)), (4, .int (nI i4)), (5, .int (nI m))]) dX3_inBox_96 (pc' := 98) rfl (by decide) rfl ?_
          refine j_iload C (i := 5) (x := nI m) 9 rfl dX3_inBox_98 (pc' := 100) rfl ?_
          refine j_if_ne C dX3_inBox_100 (tgt := 109) (by decide) (pc' := 103) rfl (fun c_9 => ?_) (fun c_9 => ?_)
          · have c_9 := fun zq => c_9 ((nI_eq (a := m) (b := 0) (by omega) (by omega)).mpr zq)
            have c_9 : ¬ m = 0 := c_9
            refine j_iload C (i := 5) (x := nI m) 9 rfl dX3_inBox_109 (pc' := 111) rfl ?_
            refine j_iconst C (v := nI 1) rfl dX3_inBox_111 (pc' := 112) rfl ?_
            refine j_icmp_ne C dX3_inBox_112 (tgt := 120) (by decide) (pc' := 115) rfl (fun c_10 => ?_) (fun c_10 => ?_)
            · have c_10 := fun zq => c_10 ((nI_eq (a := m) (b := 1) (by omega) (by omega)).mpr zq)
              have c_10 : ¬ m = 1 := c_10
              refine j_lload C (i := 12) (x := lN q) 0 rfl dX3_inBox_120 (pc' := 122) rfl ?_
              refine j_callS C (As := [.long (lN q)]) (rest := []) (c_bitCount X.2.1 C.2.2.2.2.2.2.2.2 G q hqb) (va_cwS 1 C.2.2.2.2.1 gX3_inBox_J13_bitCount_95d88 rfl rfl rfl (by decide +kernel) (by rw [hXR]; decide)) rfl rfl (Nat.le_of_ble_eq_true rfl) dX3_inBox_122 (pc' := 125) rfl (by rw [hXR]; exact Nat.le_of_ble_eq_true rfl) (by rw [hXR]; exact Nat.le_of_ble_eq_true rfl) (fun _ _ z => z.elim) ?_
              rintro r h' ⟨rfl, hh⟩
              have hh := hh.symm
              subst hh
              show jW X G 14 2 12 125 [(12, .long (lN q)), (10, .long (lN p)), (8, .long (lN v)), (6, .long (lN u)), (0, .ref xo), (1, .int (nI i1)), (2, .int (nI i2)), (3, .int (nI i3)), (4, .int (nI i4)), (5, .int (nI m))] [.int (nI (pop q))] h
              exact j_iret C E dX3_inBox_125 rfl (Nat.le_of_ble_eq_true rfl) (Nat.le_of_ble_eq_true rfl) ⟨⟨i1, i2, i3, i4, m, hi1, hi2, hi3, hi4, hm, by omega, by omega, rfl, rfl, rfl, rfl, rfl, by rw [show q = iAns a (s 6) i1 i2 i3 i4 m from by unfold iAns; rw [if_neg (show ¬ m = 0 by omega), if_neg (show ¬ m = 1 by omega), hq, hp, hv, hu] <;> rfl]⟩, rfl⟩
            · have c_10 := (nI_eq (a := m) (b := 1) (by omega) (by omega)).mp c_10
              have c_10 : m = 1 := c_10
              refine j_lload C (i := 8) (x := lN v) 2 rfl dX3_inBox_115 (pc' := 117) rfl ?_
              refine j_goto C dX3_inBox_117 (pc' := 122) (by decide) ?_
              refine j_callS C (As := [.long (lN v)]) (rest := []) (c_bitCount X.2.1 C.2.2.2.2.2.2.2.2 G v hvb) (va_cwS 1 C.2.2.2.2.1 gX3_inBox_J13_bitCount_95d88 rfl rfl rfl (by decide +kernel) (by rw [hXR]; decide)) rfl rfl (Nat.le_of_ble_eq_true rfl) dX3_inBox_122 (pc' := 125) rfl (by rw [hXR]; exact Nat.le_of_ble_eq_true rfl) (by rw [hXR]; exact Nat.le_of_ble_eq_true rfl) (fun _ _ z => z.elim) ?_
              rintro r h' ⟨rfl, hh⟩
              have hh := hh.symm
              subst hh
              show jW X G 14 2 12 125 [(12, .long (lN q)), (10, .long (lN p)), (8, .long (lN v)), (6, .long (lN u)), (0, .ref xo), (1, .int (nI i1)), (2, .int (nI i2)), (3, .int (nI i3)), (4, .int (nI i4)), (5, .int (nI m))] [.int (nI (pop v))] h
              exact j_iret C E dX3_inBox_125 rfl (Nat.le_of_ble_eq_true rfl) (Nat.le_of_ble_eq_true rfl) ⟨⟨i1, i2, i3, i4, m, hi1, hi2, hi3, hi4, hm, by omega, by omega, rfl, rfl, rfl, rfl, rfl, by rw [show v = iAns a (s 6) i1 i2 i3 i4 m from by unfold iAns; rw [if_neg (show ¬ m = 0 by omega), if_pos (show m = 1 by omega), hv, hu] <;> rfl]⟩, rfl⟩
          · have c_9 := (nI_eq (a := m) (b := 0) (by omega) (by omega)).mp c_9
            have c_9 : m = 0 := c_9
            refine j_lload C (i := 10) (x := lN p) 1 rfl dX3_inBox_103 (pc' := 105) rfl ?_
            refine j_callS C (As := [.long (lN p)]) (rest := []) (c_bitCount X.2.1 C.2.2.2.2.2.2.2.2 G p hpb) (va_cwS 1 C.2.2.2.2.1 gX3_inBox_J13_bitCount_95d88 rfl rfl rfl (by decide +kernel) (by rw [hXR]; decide)) rfl rfl (Nat.le_of_ble_eq_true rfl) dX3_inBox_105 (pc' := 108) rfl (by rw [hXR]; exact Nat.le_of_ble_eq_true rfl) (by rw [hXR]; exact Nat.le_of_ble_eq_true rfl) (fun _ _ z => z.elim) ?_
            rintro r h' ⟨rfl, hh⟩
            have hh := hh.symm
            subst hh
            show jW X G 14 2 12 108 [(12, .long (lN q)), (10, .long (lN p)), (8, .long (lN v)), (6, .long (lN u)), (0, .ref xo), (1, .int (nI i1)), (2, .int (nI i2)), (3, .int (nI i3)), (4, .int (nI i4)), (5, .int (nI m))] [.int (nI (pop p))] h
            exact j_iret C E dX3_inBox_108 rfl (Nat.le_of_ble_eq_true rfl) (Nat.le_of_ble_eq_true rfl) ⟨⟨i1, i2, i3, i4, m, hi1, hi2, hi3, hi4, hm, by omega, by omega, rfl, rfl, rfl, rfl, rfl, by rw [show p = iAns a (s 6) i1 i2 i3 i4 m from by unfold iAns; rw [if_pos (show m = 0 by omega), hp, hv, hu] <;> rfl]⟩, rfl⟩
        · exact j_throw C E (cls := "java/lang/IllegalArgumentException") (text := "the box or the kind is out of range") (ik := 91) (is := 207) (ic := 95) (by decide +kernel) (by decide +kernel) (by decide +kernel) (by decide +kernel) (by decide +kernel) jt_iae.1 jt_iae.2.1 jt_iae.2.2 dX3_inBox_35 dX3_inBox_38 dX3_inBox_39 dX3_inBox_41 dX3_inBox_44 (by rw [hXR]; exact Nat.le_of_ble_eq_true rfl) (by rw [hXR]; exact Nat.le_of_ble_eq_true rfl) (Nat.le_of_ble_eq_true rfl) (Nat.le_of_ble_eq_true rfl) (⟨rfl, rfl, by unfold oInBox; rw [if_neg (fun z => absurd z.2.2.2.2 (bff (inR_hi (Int32.not_le.mp c_8))))] <;> rfl⟩)
