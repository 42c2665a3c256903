set_option maxRecDepth 100000 in
set_option maxHeartbeats 4000000 in
theorem c_bit (l : Launch) (hlt : l.stackTraces = false) (G : jG) {h : jH}  (k : Nat) (hk : k < 40) : jM l G yX3_bit wsX3_bit 0 0 0 0 [.int (nI k)] h (fun r h' => r = some (.long (lN (2 ^ k))) ∧ h' = h) (fun _ _ => False) := by
  refine jM_of (cc := cX3_bit) (maxL := 1) (ret := (some .long)) hlt (by decide +kernel) rfl (Nat.le_of_ble_eq_true rfl) ?_
  intro X C E hXl hXR hXn
  show jW X G 1 0 0 0 [(0, .int (nI k))] [] h
  refine j_lconst C (v := lN 1) rfl dX3_bit_0 (pc' := 1) rfl ?_
  refine j_iload_n C (i := 0) (x := nI k) 0 rfl dX3_bit_1 (pc' := 2) rfl ?_
  refine j_lshl C (v := lN (2 ^ k)) (jl_bit (by omega)) dX3_bit_2 (pc' := 3) rfl ?_
  exact j_lret C E dX3_bit_3 (Nat.le_of_ble_eq_true rfl) (Nat.le_of_ble_eq_true rfl) ⟨rfl, rfl⟩
set_option maxRecDepth 100000 in
set_option maxHeartbeats 4000000 in
theorem c_has (l : Launch) (hlt : l.stackTraces = false) (G : jG) {h : jH}  (m k : Nat) (hm : m < 2 ^ 40) (hk : k < 40) : jM l G yX3_has wsX3_has 1 20 0 0 [.long (lN m), .int (nI k)] h (fun r h' => r = some (.int (bI (m.testBit k))) ∧ h' = h) (fun _ _ => False) := by
  refine jM_of (cc := cX3_has) (maxL := 3) (ret := (some .boolean)) hlt (by decide +kernel) rfl (Nat.le_of_ble_eq_true rfl) ?_
  intro X C E hXl hXR hXn
  show jW X G 3 0 0 0 [(0, .long (lN m)), (2, .int (nI k))] [] h
  refine j_lload_n C (i := 0) (x := lN m) 0 rfl dX3_has_0 (pc' := 1) rfl ?_
  refine j_iload_n C (i := 2) (x := nI k) 1 rfl dX3_has_1 (pc' := 2) rfl ?_
  refine j_callS C (As := [.int (nI k)]) (rest := [.long (lN m)]) (c_bit X.2.1 C.2.2.2.2.2.2.2.2 G k (by omega)) (va_cwS 1 C.2.2.2.2.1 gX3_has_X3_bit rfl rfl rfl (by decide +kernel) (by rw [hXR]; decide)) rfl rfl (Nat.le_of_ble_eq_true rfl) dX3_has_2 (pc' := 5) rfl (by rw [hXR]; exact Nat.le_of_ble_eq_true rfl) (by rw [hXR]; exact Nat.le_of_ble_eq_true rfl) (fun _ _ z => z.elim) ?_
  rintro r h' ⟨rfl, hh⟩
  have hh := hh.symm
  subst hh
  show jW X G 3 0 0 5 [(0, .long (lN m)), (2, .int (nI k))] [.long (lN (2 ^ k)), .long (lN m)] h
  refine j_land C (x := lN m) (y := lN (2 ^ k)) dX3_has_5 (pc' := 6) rfl ?_
  refine jt_l (jl_and hm (p40 (by omega))) ?_
  refine j_lconst C (v := lN 0) rfl dX3_has_6 (pc' := 7) rfl ?_
  refine j_lcmp C  dX3_has_7 (pc' := 8) rfl ?_
  refine jt_i (cmp_has hm) ?_
  show jW X G 3 0 0 8 [(0, .long (lN m)), (2, .int (nI k))] [.int (bI (m.testBit k))] h
  rcases hb_1 : (m.testBit k) with _ | _
  · show jW X G 3 0 0 8 [(0, .long (lN m)), (2, .int (nI k))] [.int (nI 0)] h
    refine j_if_eq C dX3_has_8 (tgt := 15) (by decide) (pc' := 11) rfl (fun _ => ?_) (fun c_2 => absurd (by decide) c_2)
    refine j_iconst C (v := nI 0) rfl dX3_has_15 (pc' := 16) rfl ?_
    exact j_iret C E dX3_has_16 rfl (Nat.le_of_ble_eq_true rfl) (Nat.le_of_ble_eq_true rfl) ⟨bI0 hb_1, rfl⟩
  · show jW X G 3 0 0 8 [(0, .long (lN m)), (2, .int (nI k))] [.int (nI 1)] h
    refine j_if_eq C dX3_has_8 (tgt := 15) (by decide) (pc' := 11) rfl (fun c_3 => absurd c_3 (by decide)) (fun _ => ?_)
    refine j_iconst C (v := nI 1) rfl dX3_has_11 (pc' := 12) rfl ?_
    refine j_goto C dX3_has_12 (pc' := 16) (by decide) ?_
    exact j_iret C E dX3_has_16 rfl (Nat.le_of_ble_eq_true rfl) (Nat.le_of_ble_eq_true rfl) ⟨bI1 hb_1, rfl⟩
set_option maxRecDepth 100000 in
set_option maxHeartbeats 4000000 in
theorem c_bitsOf (l : Launch) (hlt : l.stackTraces = false) (G : jG) {q N : Nat} {f : Nat → Int32} {g : Nat → Nat} {h : jH} (hq : h q = some (.inl (G.2.2.1.1, N, .inl f))) (he : ∀ j, j < N → f j = nI (g j)) (hg : ∀ j, j < N → g j < 40) (hN : N ≤ 6)  : jM l G yX3_bitsOf wsX3_bitsOf 1 20 0 0 [.ref q] h (fun r h' => r = some (.long (lN (orN (fun j => 2 ^ g j) N))) ∧ h' = h) (fun _ _ => False) := by
  refine jM_of (cc := cX3_bitsOf) (maxL := 7) (ret := (some .long)) hlt (by decide +kernel) rfl (Nat.le_of_ble_eq_true rfl) ?_
  intro X C E hXl hXR hXn
  show jW X G 7 0 0 0 [(0, .ref q)] [] h
  refine j_lconst C (v := lN 0) rfl dX3_bitsOf_0 (pc' := 1) rfl ?_
  refine j_lstore_n C (i := 1) (x := lN 0) (l' := [(1, .long (lN 0)), (0, .ref q)]) dX3_bitsOf_1 (pc' := 2) rfl (by decide) rfl ?_
  refine j_aload_n C (i := 0) (x := q) 1 rfl dX3_bitsOf_2 (pc' := 3) rfl ?_
  refine j_astore_n C (i := 3) (x := q) (l' := [(3, .ref q), (1, .long (lN 0)), (0, .ref q)]) dX3_bitsOf_3 (pc' := 4) rfl (by decide) rfl ?_
  refine j_aload_n C (i := 3) (x := q) 0 rfl dX3_bitsOf_4 (pc' := 5) rfl ?_
  refine j_alen C (a := q) (t0 := 0) (v := nI N) hq rfl rfl dX3_bitsOf_5 (pc' := 6) rfl ?_
  refine j_istore C (i := 4) (x := nI N) (l' := [(4, .int (nI N)), (3, .ref q), (1, .long (lN 0)), (0, .ref q)]) dX3_bitsOf_6 (pc' := 8) rfl (by decide) rfl ?_
  refine j_iconst C (v := nI 0) rfl dX3_bitsOf_8 (pc' := 9) rfl ?_
  refine j_istore C (i := 5) (x := nI 0) (l' := [(5, .int (nI 0)), (4, .int (nI N)), (3, .ref q), (1, .long (lN 0)), (0, .ref q)]) dX3_bitsOf_9 (pc' := 11) rfl (by decide) rfl ?_
  have L_11 : ∀ (N_11 : Nat) (k m : Nat), (N - k) < N_11 → (k ≤ N) → (m = orN (fun j => 2 ^ g j) k) → jW X G 7 0 0 11 [(5, .int (nI k)), (4, .int (nI N)), (3, .ref q), (1, .long (lN m)), (0, .ref q)] [] h := by
    intro N_11
    induction N_11 with
    | zero => intro k m hm_11 hkN hR; omega
    | succ N_11 ih_11 =>
      intro k m hm_11 hkN hR
      have hm40 : m < 2 ^ 40 := by rw [hR]; exact orN_lt (fun j hj => p40 (hg j (by omega)))
      refine j_iload C (i := 5) (x := nI k) 0 rfl dX3_bitsOf_11 (pc' := 13) rfl ?_
      refine j_iload C (i := 4) (x := nI N) 1 rfl dX3_bitsOf_13 (pc' := 15) rfl ?_
      refine j_icmp_ge C dX3_bitsOf_15 (tgt := 38) (by decide) (pc' := 18) rfl (fun c_1 => ?_) (fun c_1 => ?_)
      · have c_1 := (nI_leI (a := N) (b := k) (by omega) (by omega)).mp c_1
        have c_1 : N ≤ k := c_1
        refine j_lload_n C (i := 1) (x := lN m) 3 rfl dX3_bitsOf_38 (pc' := 39) rfl ?_
        exact j_lret C E dX3_bitsOf_39 (Nat.le_of_ble_eq_true rfl) (Nat.le_of_ble_eq_true rfl) ⟨by rw [hR, show k = N by omega], rfl⟩
      · have c_1 := fun zq => c_1 ((nI_leI (a := N) (b := k) (by omega) (by omega)).mpr zq)
        have c_1 : ¬ N ≤ k := c_1
        refine j_aload_n C (i := 3) (x := q) 2 rfl dX3_bitsOf_18 (pc' := 19) rfl ?_
        refine j_iload C (i := 5) (x := nI k) 0 rfl dX3_bitsOf_19 (pc' := 21) rfl ?_
        refine j_iald C (a := q) (N := N) (j := k) hq rfl (by omega) (by omega) dX3_bitsOf_21 (pc' := 22) rfl ?_
        refine jt_i (he k (by omega)) ?_
        show jW X G 7 0 0 22 [(5, .int (nI k)), (4, .int (nI N)), (3, .ref q), (1, .long (lN m)), (0, .ref q)] [.int (nI (g k))] h
        have B_2 := hg k (by omega)
        refine j_istore C (i := 6) (x := nI (g k)) (l' := [(6, .int (nI (g k))), (5, .int (nI k)), (4, .int (nI N)), (3, .ref q), (1, .long (lN m)), (0, .ref q)]) dX3_bitsOf_22 (pc' := 24) rfl (by decide) rfl ?_
        refine j_lload_n C (i := 1) (x := lN m) 4 rfl dX3_bitsOf_24 (pc' := 25) rfl ?_
        refine j_iload C (i := 6) (x := nI (g k)) 0 rfl dX3_bitsOf_25 (pc' := 27) rfl ?_
        refine j_callS C (As := [.int (nI (g k))]) (rest := [.long (lN m)]) (c_bit X.2.1 C.2.2.2.2.2.2.2.2 G (g k) (by omega)) (va_cwS 1 C.2.2.2.2.1 gX3_bitsOf_X3_bit rfl rfl rfl (by decide +kernel) (by rw [hXR]; decide)) rfl rfl (Nat.le_of_ble_eq_true rfl) dX3_bitsOf_27 (pc' := 30) rfl (by rw [hXR]; exact Nat.le_of_ble_eq_true rfl) (by rw [hXR]; exact Nat.le_of_ble_eq_true rfl) (fun _ _ z => z.elim) ?_
        rintro r h' ⟨rfl, hh⟩
        have hh := hh.symm
        subst hh
        show jW X G 7 0 0 30 [(6, .int (nI (g k))), (5, .int (nI k)), (4, .int (nI N)), (3, .ref q), (1, .long (lN m)), (0, .ref q)] [.long (lN (2 ^ (g k))), .long (lN m)] h
        refine j_lor C (x := lN m) (y := lN (2 ^ (g k))) dX3_bitsOf_30 (pc' := 31) rfl ?_
        refine jt_l (jl_or hm40 (p40 (by omega))) ?_
        refine j_lstore_n C (i := 1) (x := lN (m ||| 2 ^ (g k))) (l' := [(1, .long (lN (m ||| 2 ^ (g k)))), (6, .int (nI (g k))), (5, .int (nI k)), (4, .int (nI N)), (3, .ref q), (0, .ref q)]) dX3_bitsOf_31 (pc' := 32) rfl (by decide) rfl ?_
        refine j_iinc C (i := 5) (q := 2) (x := nI k) (v := nI (k + 1)) (l' := [(5, .int (nI (k + 1))), (1, .long (lN (m ||| 2 ^ (g k)))), (6, .int (nI (g k))), (4, .int (nI N)), (3, .ref q), (0, .ref q)]) dX3_bitsOf_32 (pc' := 35) rfl rfl (nI_add _ _) (by decide) rfl ?_
        refine j_goto C dX3_bitsOf_35 (pc' := 11) (by decide) ?_
        refine jt_loc (l' := [(5, .int (nI (k + 1))), (1, .long (lN (m ||| 2 ^ g k))), (6, .int (nI (g k))), (4, .int (nI N)), (3, .ref q), (0, .ref q)]) (by rfl) ?_
        exact jW.locals [0, 3, 4, 1, 5] rfl (ih_11 (k + 1) (m ||| 2 ^ g k) (by omega) (by omega) (by rw [hR]; rfl))
  exact jW.locals [0, 1, 2, 3, 4] rfl (L_11 ((N - (0)) + 1) 0 0 (by omega) (by omega) rfl)
