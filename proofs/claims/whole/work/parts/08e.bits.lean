def rowM (g : Nat → Nat) (N : Nat) : Nat := orN (fun j => 2 ^ g j) N
theorem rowM_lt {g : Nat → Nat} {N : Nat} (h : ∀ j, j < N → g j < 40) : rowM g N < 2 ^ 40 := orN_lt (fun j hj => p40 (h j hj))
/-- the members reached after so many steps -/
def ldN (a : mA) (n m : Nat) : Nat → Nat
  | 0 => m
  | j + 1 => ldN a n m j ||| orN (fMem a (ldN a n m j)) n
theorem ldN_lt {a : mA} (I : IA a) {n m : Nat} (h : m < 2 ^ 40) : ∀ j, ldN a n m j < 2 ^ 40
  | 0 => h
  | j + 1 => or40 (ldN_lt I h j) (fMem_lt I _ n)
theorem ld_fix {a : mA} {n M m k : Nat} (hR : m = ldN a n M k) (h : m ||| orN (fMem a m) n = m) {j : Nat} (hj : k ≤ j) : m = ldN a n M j := by
  induction j with
  | zero => rw [show k = 0 by omega] at hR; exact hR
  | succ j ih =>
    by_cases e : k = j + 1
    · rw [← e]; exact hR
    · show m = ldN a n M j ||| orN (fMem a (ldN a n M j)) n
      rw [← ih (by omega)]; exact h.symm
theorem cmp_ge {x y : Nat} (h : x < 2 ^ 40) (hy : y ≤ x) : lg_cmp (lN x) (lN y) = bI (!decide (x = y)) := by
  have e1 := lN_toI40 h
  have e2 := lN_toI40 (show y < 2 ^ 40 by omega)
  by_cases e : x = y
  · subst e
    rw [decide_eq_true rfl]
    unfold lg_cmp
    rw [if_neg (fun z => by rw [gt_iff_lt, Int64.lt_iff_toInt_lt] at z; omega), if_pos rfl]; rfl
  · have h1 : lN y < lN x := by rw [Int64.lt_iff_toInt_lt]; omega
    rw [decide_eq_false e]
    unfold lg_cmp
    rw [if_pos h1]; rfl
set_option maxRecDepth 100000 in
set_option maxHeartbeats 4000000 in
theorem c_leadsTo (l : Launch) (hlt : l.stackTraces = false) (G : jG) {P : Nat → Prop} {xo : Nat} {xa th va ca ma : Nat → Nat} {dat cap : Nat} {mod : Int32} {df : Nat → Option Nat} {vf dr : Nat → Int32} {mf : Nat → Nat → Int32} {s : mS} {a : mA} {h : jH} {q N : Nat} {f : Nat → Int32} {g : Nat → Nat} (Q : cQ G P xo xa th va ca ma dat cap mod df vf dr mf s a h) (J : IS s) (I : IA a) (hq : h q = some (.inl (G.2.2.1.1, N, .inl f))) (he : ∀ j, j < N → f j = nI (g j)) (hg : ∀ j, j < N → g j < 40) (hN : N ≤ 6) (t : Nat) (ht : t < 40) : jM l G yX3_leadsTo wsX3_leadsTo 4 89 0 0 [.ref xo, .ref q, .int (nI t)] h (fun r h' => r = some (.int (bI ((ldN a (s 6) (rowM g N) (s 6)).testBit t))) ∧ h' = h) (fun _ _ => False) := by
  have h6 := J.2.1
  have h2 := J.2.2.1
  have h4 := J.2.2.2.1
  have h10 := J.2.2.2.2.1
  have hs0 := J.1 0
  have hs1 := J.1 1
  refine jM_of (cc := cX3_leadsTo) (maxL := 8) (ret := (some .boolean)) hlt (by decide +kernel) rfl (Nat.le_of_ble_eq_true rfl) ?_
  intro X C E hXl hXR hXn
  have hinX3 : ∀ w ∈ u_ws RX3 TX3 11, w ∈ wsX3_leadsTo := by decide +kernel
  show jW X G 8 0 0 0 [(0, .ref xo), (1, .ref q), (2, .int (nI t))] [] h
  refine j_aload_n C (i := 1) (x := q) 1 rfl dX3_leadsTo_0 (pc' := 1) rfl ?_
  refine j_callS C (As := [.ref q]) (rest := []) (c_bitsOf X.2.1 C.2.2.2.2.2.2.2.2 G hq he hg hN) (va_cwS 1 C.2.2.2.2.1 gX3_leadsTo_X3_bitsOf rfl rfl rfl (by decide +kernel) (by rw [hXR]; decide)) rfl rfl (Nat.le_of_ble_eq_true rfl) dX3_leadsTo_1 (pc' := 4) rfl (by rw [hXR]; exact Nat.le_of_ble_eq_true rfl) (by rw [hXR]; exact Nat.le_of_ble_eq_true rfl) (fun _ _ z => z.elim) ?_
  rintro r h' ⟨rfl, hh⟩
  have hh := hh.symm
  subst hh
  show jW X G 8 0 0 4 [(0, .ref xo), (1, .ref q), (2, .int (nI t))] [.long (lN (rowM g N))] h
  refine j_lstore_n C (i := 3) (x := lN (rowM g N)) (l' := [(3, .long (lN (rowM g N))), (0, .ref xo), (1, .ref q), (2, .int (nI t))]) dX3_leadsTo_4 (pc' := 5) rfl (by decide) rfl ?_
  refine j_iconst C (v := nI 0) rfl dX3_leadsTo_5 (pc' := 6) rfl ?_
  refine j_istore C (i := 5) (x := nI 0) (l' := [(5, .int (nI 0)), (3, .long (lN (rowM g N))), (0, .ref xo), (1, .ref q), (2, .int (nI t))]) dX3_leadsTo_6 (pc' := 8) rfl (by decide) rfl ?_
  have L_8 : ∀ (N_8 : Nat) (k m : Nat), (s 6 - k) < N_8 → (k ≤ s 6) → (m = ldN a (s 6) (rowM g N) k) → jW X G 8 0 0 8 [(5, .int (nI k)), (3, .long (lN m)), (0, .ref xo), (1, .ref q), (2, .int (nI t))] [] h := by
    intro N_8
    induction N_8 with
    | zero => intro k m hm_8 hk6 hR; omega
    | succ N_8 ih_8 =>
      intro k m hm_8 hk6 hR
      have hm40 : m < 2 ^ 40 := by rw [hR]; exact ldN_lt I (rowM_lt hg) k
      refine j_iload C (i := 5) (x := nI k) 0 rfl dX3_leadsTo_8 (pc' := 10) rfl ?_
      refine j_aload_n C (i := 0) (x := xo) 2 rfl dX3_leadsTo_10 (pc' := 11) rfl ?_
      refine j_get C (ref := "MapRevisions") (CN := RX3) (T := TX3) (N := 11) (ci := 4) (index := 25) (a := xo) (kf := 2) (fs := [.ref (xa 0), .ref (xa 1), .ref (xa 2), .ref (xa 3), .ref (xa 4), .ref (xa 5), .int (nI (s 2)), .int (nI (s 4)), .int (nI (s 10)), .int (nI (s 0)), .int (nI (s 1))]) (v := .ref (xa 2)) hinX3 rfl (by decide) (by decide +kernel) rfl Q.obj rfl dX3_leadsTo_11 (pc' := 14) rfl ?_
      refine j_callV C (As := []) (rest := [.int (nI k)]) (c_size X.2.1 C.2.2.2.2.2.2.2.2 G Q.lst) (cwV 0 C.2.2.2.2.1 gX3_leadsTo_Jx4a65c_size_8abf5 rfl rfl rfl (by decide +kernel) (by rw [hXR]; decide)) Q.lst rfl rfl rfl (Nat.le_of_ble_eq_true rfl) dX3_leadsTo_14 (pc' := 17) rfl (by rw [hXR]; exact Nat.le_of_ble_eq_true rfl) (by rw [hXR]; exact Nat.le_of_ble_eq_true rfl) (fun _ _ z => z.elim) ?_
      rintro r h' ⟨rfl, hh⟩
      have hh := hh.symm
      subst hh
      show jW X G 8 0 0 17 [(5, .int (nI k)), (3, .long (lN m)), (0, .ref xo), (1, .ref q), (2, .int (nI t))] [.int (nI (s 6)), .int (nI k)] h
      refine j_icmp_ge C dX3_leadsTo_17 (tgt := 48) (by decide) (pc' := 20) rfl (fun c_1 => ?_) (fun c_1 => ?_)
      · have c_1 := (nI_leI (a := s 6) (b := k) (by omega) (by omega)).mp c_1
        have c_1 : (s 6) ≤ k := c_1
        refine j_lload_n C (i := 3) (x := lN m) 1 rfl dX3_leadsTo_48 (pc' := 49) rfl ?_
        refine j_iload_n C (i := 2) (x := nI t) 4 rfl dX3_leadsTo_49 (pc' := 50) rfl ?_
        refine j_callS C (As := [.long (lN m), .int (nI t)]) (rest := []) (c_has X.2.1 C.2.2.2.2.2.2.2.2 G m t hm40 ht) (va_cwS 2 C.2.2.2.2.1 gX3_leadsTo_X3_has rfl rfl rfl (by decide +kernel) (by rw [hXR]; decide)) rfl rfl (Nat.le_of_ble_eq_true rfl) dX3_leadsTo_50 (pc' := 53) rfl (by rw [hXR]; exact Nat.le_of_ble_eq_true rfl) (by rw [hXR]; exact Nat.le_of_ble_eq_true rfl) (fun _ _ z => z.elim) ?_
        rintro r h' ⟨rfl, hh⟩
        have hh := hh.symm
        subst hh
        show jW X G 8 0 0 53 [(5, .int (nI k)), (3, .long (lN m)), (0, .ref xo), (1, .ref q), (2, .int (nI t))] [.int (bI (m.testBit t))] h
        exact j_iret C E dX3_leadsTo_53 (bI_nar _) (Nat.le_of_ble_eq_true rfl) (Nat.le_of_ble_eq_true rfl) ⟨by rw [← (show m = ldN a (s 6) (rowM g N) (s 6) from hR.trans (by rw [show k = s 6 by omega]))], rfl⟩
      · have c_1 := fun zq => c_1 ((nI_leI (a := s 6) (b := k) (by omega) (by omega)).mpr zq)
        have c_1 : ¬ (s 6) ≤ k := c_1
        refine j_lload_n C (i := 3) (x := lN m) 1 rfl dX3_leadsTo_20 (pc' := 21) rfl ?_
        refine j_aload_n C (i := 0) (x := xo) 2 rfl dX3_leadsTo_21 (pc' := 22) rfl ?_
        refine j_lload_n C (i := 3) (x := lN m) 1 rfl dX3_leadsTo_22 (pc' := 23) rfl ?_
        refine j_callV C (As := [.long (lN m)]) (rest := [.long (lN m)]) (c_membersOf X.2.1 C.2.2.2.2.2.2.2.2 G Q J I m hm40) (cwV 1 C.2.2.2.2.1 gX3_leadsTo_X3_membersOf rfl rfl rfl (by decide +kernel) (by rw [hXR]; decide)) Q.obj rfl rfl rfl (Nat.le_of_ble_eq_true rfl) dX3_leadsTo_23 (pc' := 26) rfl (by rw [hXR]; exact Nat.le_of_ble_eq_true rfl) (by rw [hXR]; exact Nat.le_of_ble_eq_true rfl) (fun _ _ z => z.elim) ?_
        rintro r h' ⟨rfl, hh⟩
        have hh := hh.symm
        subst hh
        show jW X G 8 0 0 26 [(5, .int (nI k)), (3, .long (lN m)), (0, .ref xo), (1, .ref q), (2, .int (nI t))] [.long (lN (orN (fMem a m) (s 6))), .long (lN m)] h
        refine j_lor C (x := lN m) (y := lN (orN (fMem a m) (s 6))) dX3_leadsTo_26 (pc' := 27) rfl ?_
        refine jt_l (jl_or hm40 (fMem_lt I m (s 6))) ?_
        refine j_lstore C (i := 6) (x := lN (m ||| (orN (fMem a m) (s 6)))) (l' := [(6, .long (lN (m ||| (orN (fMem a m) (s 6))))), (5, .int (nI k)), (3, .long (lN m)), (0, .ref xo), (1, .ref q), (2, .int (nI t))]) dX3_leadsTo_27 (pc' := 29) rfl (by decide) rfl ?_
        refine j_lload C (i := 6) (x := lN (m ||| (orN (fMem a m) (s 6)))) 0 rfl dX3_leadsTo_29 (pc' := 31) rfl ?_
        refine j_lload_n C (i := 3) (x := lN m) 2 rfl dX3_leadsTo_31 (pc' := 32) rfl ?_
        refine j_lcmp C  dX3_leadsTo_32 (pc' := 33) rfl ?_
        refine jt_i (cmp_ge (or40 hm40 (fMem_lt I m (s 6))) Nat.left_le_or) ?_
        show jW X G 8 0 0 33 [(6, .long (lN (m ||| (orN (fMem a m) (s 6))))), (5, .int (nI k)), (3, .long (lN m)), (0, .ref xo), (1, .ref q), (2, .int (nI t))] [.int (bI (!decide ((m ||| orN (fMem a m) (s 6)) = m)))] h
        rcases hb_2 : (!decide ((m ||| orN (fMem a m) (s 6)) = m)) with _ | _
        · show jW X G 8 0 0 33 [(6, .long (lN (m ||| (orN (fMem a m) (s 6))))), (5, .int (nI k)), (3, .long (lN m)), (0, .ref xo), (1, .ref q), (2, .int (nI t))] [.int (nI 0)] h
          refine j_if_ne C dX3_leadsTo_33 (tgt := 39) (by decide) (pc' := 36) rfl (fun c_3 => absurd (by decide) c_3) (fun _ => ?_)
          refine j_goto C dX3_leadsTo_36 (pc' := 48) (by decide) ?_
          refine j_lload_n C (i := 3) (x := lN m) 2 rfl dX3_leadsTo_48 (pc' := 49) rfl ?_
          refine j_iload_n C (i := 2) (x := nI t) 5 rfl dX3_leadsTo_49 (pc' := 50) rfl ?_
          refine j_callS C (As := [.long (lN m), .int (nI t)]) (rest := []) (c_has X.2.1 C.2.2.2.2.2.2.2.2 G m t hm40 ht) (va_cwS 2 C.2.2.2.2.1 gX3_leadsTo_X3_has rfl rfl rfl (by decide +kernel) (by rw [hXR]; decide)) rfl rfl (Nat.le_of_ble_eq_true rfl) dX3_leadsTo_50 (pc' := 53) rfl (by rw [hXR]; exact Nat.le_of_ble_eq_true rfl) (by rw [hXR]; exact Nat.le_of_ble_eq_true rfl) (fun _ _ z => z.elim) ?_
          rintro r h' ⟨rfl, hh⟩
          have hh := hh.symm
          subst hh
          show jW X G 8 0 0 53 [(6, .long (lN (m ||| (orN (fMem a m) (s 6))))), (5, .int (nI k)), (3, .long (lN m)), (0, .ref xo), (1, .ref q), (2, .int (nI t))] [.int (bI (m.testBit t))] h
          exact j_iret C E dX3_leadsTo_53 (bI_nar _) (Nat.le_of_ble_eq_true rfl) (Nat.le_of_ble_eq_true rfl) ⟨by rw [← (show m = ldN a (s 6) (rowM g N) (s 6) from ld_fix hR (nd_t hb_2) (by omega))], rfl⟩
        · show jW X G 8 0 0 33 [(6, .long (lN (m ||| (orN (fMem a m) (s 6))))), (5, .int (nI k)), (3, .long (lN m)), (0, .ref xo), (1, .ref q), (2, .int (nI t))] [.int (nI 1)] h
          refine j_if_ne C dX3_leadsTo_33 (tgt := 39) (by decide) (pc' := 36) rfl (fun _ => ?_) (fun c_4 => absurd c_4 (by decide))
          refine j_lload C (i := 6) (x := lN (m ||| (orN (fMem a m) (s 6)))) 0 rfl dX3_leadsTo_39 (pc' := 41) rfl ?_
          refine j_lstore_n C (i := 3) (x := lN (m ||| (orN (fMem a m) (s 6)))) (l' := [(3, .long (lN (m ||| (orN (fMem a m) (s 6))))), (6, .long (lN (m ||| (orN (fMem a m) (s 6))))), (5, .int (nI k)), (0, .ref xo), (1, .ref q), (2, .int (nI t))]) dX3_leadsTo_41 (pc' := 42) rfl (by decide) rfl ?_
          refine j_iinc C (i := 5) (q := 2) (x := nI k) (v := nI (k + 1)) (l' := [(5, .int (nI (k + 1))), (3, .long (lN (m ||| (orN (fMem a m) (s 6))))), (6, .long (lN (m ||| (orN (fMem a m) (s 6))))), (0, .ref xo), (1, .ref q), (2, .int (nI t))]) dX3_leadsTo_42 (pc' := 45) rfl rfl (nI_add _ _) (by decide) rfl ?_
          refine j_goto C dX3_leadsTo_45 (pc' := 8) (by decide) ?_
          refine jt_loc (l' := [(5, .int (nI (k + 1))), (3, .long (lN (m ||| orN (fMem a m) (s 6)))), (6, .long (lN (m ||| (orN (fMem a m) (s 6))))), (0, .ref xo), (1, .ref q), (2, .int (nI t))]) (by rfl) ?_
          exact jW.locals [0, 1, 3, 4, 5] rfl (ih_8 (k + 1) (m ||| orN (fMem a m) (s 6)) (by omega) (by omega) (by rw [hR]; rfl))
  exact jW.locals [0, 1, 2, 3, 4] rfl (L_8 ((s 6 - (0)) + 1) 0 (rowM g N) (by omega) (by omega) rfl)
