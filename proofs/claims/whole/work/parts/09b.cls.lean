def gOK (s : mS) (a : mA) (w : Nat) (g : Nat → Nat) (j : Nat) : Bool := (decide (g j < s 6) && mIs a (g j)) && !(decide (w = 1) && !decide (a 7 (g j) = 0))
def rowOK (s : mS) (a : mA) (w : Nat) (g : Nat → Nat) (N : Nat) : Bool := !decide (N < if w = 1 then 2 else 1) && allN (gOK s a w g) N
theorem isn_eq {s : mS} {a : mA} {x : Nat} (h : x < 40) : (inN (nI x) (s 6) && mIs a (tn (nI x))) = (decide (x < s 6) && mIs a x) := by rw [inN_nI (by omega), tn_nI (by omega)]
theorem isn_lt {s : mS} {a : mA} {x : Nat} (h : (decide (x < s 6) && mIs a x) = true) : x < s 6 := of_decide_eq_true (Bool.and_eq_true _ _ ▸ h).1
theorem all_f {P : Nat → Bool} {n k : Nat} (hk : k < n) (h : P k = false) : allN P n = false := Bool.eq_false_iff.mpr (fun z => by have := allN_iff.mp z k hk; rw [h] at this; exact Bool.noConfusion this)
set_option maxRecDepth 100000 in
set_option maxHeartbeats 4000000 in
theorem c_isRowFor (l : Launch) (hlt : l.stackTraces = false) (G : jG) {P : Nat → Prop} {xo : Nat} {xa th va ca ma : Nat → Nat} {dat cap : Nat} {mod : Int32} {df : Nat → Option Nat} {vf dr : Nat → Int32} {mf : Nat → Nat → Int32} {s : mS} {a : mA} {h : jH} {q N : Nat} {f : Nat → Int32} {g : Nat → Nat} (Q : cQ G P xo xa th va ca ma dat cap mod df vf dr mf s a h) (J : IS s) (I : IA a) (hq : h q = some (.inl (G.2.2.1.1, N, .inl f))) (he : ∀ j, j < N → f j = nI (g j)) (hg : ∀ j, j < N → g j < 40) (hN : N ≤ 6) (d : Nat) (hd : d < 1048576) : jM l G yX3_isRowFor wsX3_isRowFor 4 85 0 0 [.ref xo, .int (nI d), .ref q] h (fun r h' => r = some (.int (bI (rowOK s a d g N))) ∧ h' = h) (fun _ _ => False) := by
  have h6 := J.2.1
  have h2 := J.2.2.1
  have h4 := J.2.2.2.1
  have h10 := J.2.2.2.2.1
  have hs0 := J.1 0
  have hs1 := J.1 1
  refine jM_of (cc := cX3_isRowFor) (maxL := 7) (ret := (some .boolean)) hlt (by decide +kernel) rfl (Nat.le_of_ble_eq_true rfl) ?_
  intro X C E hXl hXR hXn
  have hinX3 : ∀ w ∈ u_ws RX3 TX3 11, w ∈ wsX3_isRowFor := by decide +kernel
  have hinX1 : ∀ w ∈ u_ws RX1 TX1 2, w ∈ wsX3_isRowFor := by decide +kernel
  show jW X G 7 0 0 0 [(0, .ref xo), (1, .int (nI d)), (2, .ref q)] [] h
  refine j_aload_n C (i := 2) (x := q) 2 rfl dX3_isRowFor_0 (pc' := 1) rfl ?_
  refine j_alen C (a := q) (t0 := 0) (v := nI N) hq rfl rfl dX3_isRowFor_1 (pc' := 2) rfl ?_
  refine j_iload_n C (i := 1) (x := nI d) 1 rfl dX3_isRowFor_2 (pc' := 3) rfl ?_
  refine j_iconst C (v := nI 1) rfl dX3_isRowFor_3 (pc' := 4) rfl ?_
  refine j_icmp_ne C dX3_isRowFor_4 (tgt := 11) (by decide) (pc' := 7) rfl (fun c_1 => ?_) (fun c_1 => ?_)
  · have c_1 := fun zq => c_1 ((nI_eq (a := d) (b := 1) (by omega) (by omega)).mpr zq)
    have c_1 : ¬ d = 1 := c_1
    refine j_iconst C (v := nI 1) rfl dX3_isRowFor_11 (pc' := 12) rfl ?_
    refine j_icmp_ge C dX3_isRowFor_12 (tgt := 17) (by decide) (pc' := 15) rfl (fun c_2 => ?_) (fun c_2 => ?_)
    · have c_2 := (nI_leI (a := 1) (b := N) (by omega) (by omega)).mp c_2
      have c_2 : 1 ≤ N := c_2
      refine j_aload_n C (i := 2) (x := q) 2 rfl dX3_isRowFor_17 (pc' := 18) rfl ?_
      refine j_astore_n C (i := 3) (x := q) (l' := [(3, .ref q), (0, .ref xo), (1, .int (nI d)), (2, .ref q)]) dX3_isRowFor_18 (pc' := 19) rfl (by decide) rfl ?_
      refine j_aload_n C (i := 3) (x := q) 0 rfl dX3_isRowFor_19 (pc' := 20) rfl ?_
      refine j_alen C (a := q) (t0 := 0) (v := nI N) hq rfl rfl dX3_isRowFor_20 (pc' := 21) rfl ?_
      refine j_istore C (i := 4) (x := nI N) (l' := [(4, .int (nI N)), (3, .ref q), (0, .ref xo), (1, .int (nI d)), (2, .ref q)]) dX3_isRowFor_21 (pc' := 23) rfl (by decide) rfl ?_
      refine j_iconst C (v := nI 0) rfl dX3_isRowFor_23 (pc' := 24) rfl ?_
      refine j_istore C (i := 5) (x := nI 0) (l' := [(5, .int (nI 0)), (4, .int (nI N)), (3, .ref q), (0, .ref xo), (1, .int (nI d)), (2, .ref q)]) dX3_isRowFor_24 (pc' := 26) rfl (by decide) rfl ?_
      have L_26 : ∀ (N_26 : Nat) (k : Nat), (N - k) < N_26 → (k ≤ N) → (allN (gOK s a d g) k = true) → jW X G 7 0 0 26 [(5, .int (nI k)), (4, .int (nI N)), (3, .ref q), (0, .ref xo), (1, .int (nI d)), (2, .ref q)] [] h := by
        intro N_26
        induction N_26 with
        | zero => intro k hm_26 hkN hR; omega
        | succ N_26 ih_26 =>
          intro k hm_26 hkN hR
          refine j_iload C (i := 5) (x := nI k) 0 rfl dX3_isRowFor_26 (pc' := 28) rfl ?_
          refine j_iload C (i := 4) (x := nI N) 1 rfl dX3_isRowFor_28 (pc' := 30) rfl ?_
          refine j_icmp_ge C dX3_isRowFor_30 (tgt := 79) (by decide) (pc' := 33) rfl (fun c_3 => ?_) (fun c_3 => ?_)
          · have c_3 := (nI_leI (a := N) (b := k) (by omega) (by omega)).mp c_3
            have c_3 : N ≤ k := c_3
            refine j_iconst C (v := nI 1) rfl dX3_isRowFor_79 (pc' := 80) rfl ?_
            exact j_iret C E dX3_isRowFor_80 rfl (Nat.le_of_ble_eq_true rfl) (Nat.le_of_ble_eq_true rfl) ⟨bI1 (by unfold rowOK; rw [(show (if d = 1 then 2 else 1 : Nat) = 1 from if_neg (show ¬ d = 1 by omega)), decide_eq_false (by omega), show N = k by omega, hR]; rfl), rfl⟩
          · have c_3 := fun zq => c_3 ((nI_leI (a := N) (b := k) (by omega) (by omega)).mpr zq)
            have c_3 : ¬ N ≤ k := c_3
            refine j_aload_n C (i := 3) (x := q) 2 rfl dX3_isRowFor_33 (pc' := 34) rfl ?_
            refine j_iload C (i := 5) (x := nI k) 0 rfl dX3_isRowFor_34 (pc' := 36) rfl ?_
            refine j_iald C (a := q) (N := N) (j := k) hq rfl (by omega) (by omega) dX3_isRowFor_36 (pc' := 37) rfl ?_
            refine jt_i (he k (by omega)) ?_
            show jW X G 7 0 0 37 [(5, .int (nI k)), (4, .int (nI N)), (3, .ref q), (0, .ref xo), (1, .int (nI d)), (2, .ref q)] [.int (nI (g k))] h
            have B_4 := hg k (by omega)
            refine j_istore C (i := 6) (x := nI (g k)) (l' := [(6, .int (nI (g k))), (5, .int (nI k)), (4, .int (nI N)), (3, .ref q), (0, .ref xo), (1, .int (nI d)), (2, .ref q)]) dX3_isRowFor_37 (pc' := 39) rfl (by decide) rfl ?_
            refine j_aload_n C (i := 0) (x := xo) 4 rfl dX3_isRowFor_39 (pc' := 40) rfl ?_
            refine j_iload C (i := 6) (x := nI (g k)) 0 rfl dX3_isRowFor_40 (pc' := 42) rfl ?_
            refine j_callV C (As := [.int (nI (g k))]) (rest := []) (c_isNow X.2.1 C.2.2.2.2.2.2.2.2 G Q J I (nI (g k))) (cwV 1 C.2.2.2.2.1 gX3_isRowFor_X3_isNow rfl rfl rfl (by decide +kernel) (by rw [hXR]; decide)) Q.obj rfl rfl rfl (Nat.le_of_ble_eq_true rfl) dX3_isRowFor_42 (pc' := 45) rfl (by rw [hXR]; exact Nat.le_of_ble_eq_true rfl) (by rw [hXR]; exact Nat.le_of_ble_eq_true rfl) (fun _ _ z => z.elim) ?_
            rintro r h' ⟨rfl, hh⟩
            have hh := hh.symm
            subst hh
            show jW X G 7 0 0 45 [(6, .int (nI (g k))), (5, .int (nI k)), (4, .int (nI N)), (3, .ref q), (0, .ref xo), (1, .int (nI d)), (2, .ref q)] [.int (bI (inN (nI (g k)) (s 6) && mIs a (tn (nI (g k)))))] h
            rcases hb_5 : (inN (nI (g k)) (s 6) && mIs a (tn (nI (g k)))) with _ | _
            · show jW X G 7 0 0 45 [(6, .int (nI (g k))), (5, .int (nI k)), (4, .int (nI N)), (3, .ref q), (0, .ref xo), (1, .int (nI d)), (2, .ref q)] [.int (nI 0)] h
              rw [isn_eq (hg k (by omega))] at hb_5
              refine j_if_eq C dX3_isRowFor_45 (tgt := 71) (by decide) (pc' := 48) rfl (fun _ => ?_) (fun c_6 => absurd (by decide) c_6)
              refine j_iconst C (v := nI 0) rfl dX3_isRowFor_71 (pc' := 72) rfl ?_
              exact j_iret C E dX3_isRowFor_72 rfl (Nat.le_of_ble_eq_true rfl) (Nat.le_of_ble_eq_true rfl) ⟨bI0 (by unfold rowOK; rw [all_f (k := k) (by omega) (by unfold gOK; rw [hb_5]; rfl), Bool.and_false]), rfl⟩
            · show jW X G 7 0 0 45 [(6, .int (nI (g k))), (5, .int (nI k)), (4, .int (nI N)), (3, .ref q), (0, .ref xo), (1, .int (nI d)), (2, .ref q)] [.int (nI 1)] h
              rw [isn_eq (hg k (by omega))] at hb_5
              have hgk := isn_lt hb_5
              refine j_if_eq C dX3_isRowFor_45 (tgt := 71) (by decide) (pc' := 48) rfl (fun c_7 => absurd c_7 (by decide)) (fun _ => ?_)
              refine j_iload_n C (i := 1) (x := nI d) 5 rfl dX3_isRowFor_48 (pc' := 49) rfl ?_
              refine j_iconst C (v := nI 1) rfl dX3_isRowFor_49 (pc' := 50) rfl ?_
              refine j_icmp_ne C dX3_isRowFor_50 (tgt := 73) (by decide) (pc' := 53) rfl (fun c_8 => ?_) (fun c_8 => ?_)
              · have c_8 := fun zq => c_8 ((nI_eq (a := d) (b := 1) (by omega) (by omega)).mpr zq)
                have c_8 : ¬ d = 1 := c_8
                refine j_iinc C (i := 5) (q := 1) (x := nI k) (v := nI (k + 1)) (l' := [(5, .int (nI (k + 1))), (6, .int (nI (g k))), (4, .int (nI N)), (3, .ref q), (0, .ref xo), (1, .int (nI d)), (2, .ref q)]) dX3_isRowFor_73 (pc' := 76) rfl rfl (nI_add _ _) (by decide) rfl ?_
                refine j_goto C dX3_isRowFor_76 (pc' := 26) (by decide) ?_
                exact jW.locals [0, 2, 3, 4, 5, 6] rfl (ih_26 (k + 1) (by omega) (by omega) (by rw [allN_s, hR]; unfold gOK; rw [hb_5, decide_eq_false (show ¬ d = 1 by omega)]; cases decide (d = 1) <;> rfl))
              · have c_8 := (nI_eq (a := d) (b := 1) (by omega) (by omega)).mp c_8
                have c_8 : d = 1 := c_8
                refine j_aload_n C (i := 0) (x := xo) 4 rfl dX3_isRowFor_53 (pc' := 54) rfl ?_
                refine j_get C (ref := "MapRevisions") (CN := RX3) (T := TX3) (N := 11) (ci := 4) (index := 25) (a := xo) (kf := 2) (fs := [.ref (xa 0), .ref (xa 1), .ref (xa 2), .ref (xa 3), .ref (xa 4), .ref (xa 5), .int (nI (s 2)), .int (nI (s 4)), .int (nI (s 10)), .int (nI (s 0)), .int (nI (s 1))]) (v := .ref (xa 2)) hinX3 rfl (by decide) (by decide +kernel) rfl Q.obj rfl dX3_isRowFor_54 (pc' := 57) rfl ?_
                refine j_iload C (i := 6) (x := nI (g k)) 0 rfl dX3_isRowFor_57 (pc' := 59) rfl ?_
                have D_59 := Q.dta (t := (g k)) (by omega)
                refine j_callV C (As := [.int (nI (g k))]) (rest := []) (c_get X.2.1 C.2.2.2.2.2.2.2.2 G Q.lst D_59.1 (g k) (th (g k)) (by omega) D_59.2.2.1 (by omega) D_59.2.1) (cwV 1 C.2.2.2.2.1 gX3_isRowFor_Jx4a65c_get_915e3 rfl rfl rfl (by decide +kernel) (by rw [hXR]; decide)) Q.lst rfl rfl rfl (Nat.le_of_ble_eq_true rfl) dX3_isRowFor_59 (pc' := 62) rfl (by rw [hXR]; exact Nat.le_of_ble_eq_true rfl) (by rw [hXR]; exact Nat.le_of_ble_eq_true rfl) (fun _ _ z => z.elim) ?_
                rintro r h' ⟨rfl, hh⟩
                have hh := hh.symm
                subst hh
                show jW X G 7 0 0 62 [(6, .int (nI (g k))), (5, .int (nI k)), (4, .int (nI N)), (3, .ref q), (0, .ref xo), (1, .int (nI d)), (2, .ref q)] [.ref (th (g k))] h
                refine j_cast C (CN := RX1) (T := TX1) (N := 2) (ci := 2) (index := 111) (a := th (g k)) (fs := [.int (nI (a 7 (g k))), .ref (va (a 8 (g k)))]) (Q.thing (t := (g k)) (by omega)) rfl (by decide +kernel) dX3_isRowFor_62 (pc' := 65) rfl ?_
                refine j_get C (ref := "MapRevisions$Thing") (CN := RX1) (T := TX1) (N := 2) (ci := 2) (index := 113) (a := th (g k)) (kf := 0) (fs := [.int (nI (a 7 (g k))), .ref (va (a 8 (g k)))]) (v := .int (nI (a 7 (g k)))) hinX1 rfl (by decide) (by decide +kernel) rfl (Q.thing (t := (g k)) (by omega)) rfl dX3_isRowFor_65 (pc' := 68) rfl ?_
                have B_9 := IA.kind I (g k)
                refine j_if_eq C dX3_isRowFor_68 (tgt := 73) (by decide) (pc' := 71) rfl (fun c_10 => ?_) (fun c_10 => ?_)
                · have c_10 := (nI_eq (a := a 7 (g k)) (b := 0) (by omega) (by omega)).mp c_10
                  have c_10 : (a 7 (g k)) = 0 := c_10
                  refine j_iinc C (i := 5) (q := 1) (x := nI k) (v := nI (k + 1)) (l' := [(5, .int (nI (k + 1))), (6, .int (nI (g k))), (4, .int (nI N)), (3, .ref q), (0, .ref xo), (1, .int (nI d)), (2, .ref q)]) dX3_isRowFor_73 (pc' := 76) rfl rfl (nI_add _ _) (by decide) rfl ?_
                  refine j_goto C dX3_isRowFor_76 (pc' := 26) (by decide) ?_
                  exact jW.locals [0, 2, 3, 4, 5, 6] rfl (ih_26 (k + 1) (by omega) (by omega) (by rw [allN_s, hR]; unfold gOK; rw [hb_5, decide_eq_true (show a 7 (g k) = 0 by omega)]; cases decide (d = 1) <;> rfl))
                · have c_10 := fun zq => c_10 ((nI_eq (a := a 7 (g k)) (b := 0) (by omega) (by omega)).mpr zq)
                  have c_10 : ¬ (a 7 (g k)) = 0 := c_10
                  refine j_iconst C (v := nI 0) rfl dX3_isRowFor_71 (pc' := 72) rfl ?_
                  exact j_iret C E dX3_isRowFor_72 rfl (Nat.le_of_ble_eq_true rfl) (Nat.le_of_ble_eq_true rfl) ⟨bI0 (by unfold rowOK; rw [all_f (k := k) (by omega) (by unfold gOK; rw [hb_5, decide_eq_true (show d = 1 by omega), decide_eq_false (show ¬ a 7 (g k) = 0 by omega)]; rfl), Bool.and_false]), rfl⟩
      exact jW.locals [0, 1, 2, 3, 4, 5] rfl (L_26 ((N - (0)) + 1) 0 (by omega) (by omega) rfl)
    · have c_2 := fun zq => c_2 ((nI_leI (a := 1) (b := N) (by omega) (by omega)).mpr zq)
      have c_2 : ¬ 1 ≤ N := c_2
      refine j_iconst C (v := nI 0) rfl dX3_isRowFor_15 (pc' := 16) rfl ?_
      exact j_iret C E dX3_isRowFor_16 rfl (Nat.le_of_ble_eq_true rfl) (Nat.le_of_ble_eq_true rfl) ⟨bI0 (by unfold rowOK; rw [(show (if d = 1 then 2 else 1 : Nat) = 1 from if_neg (show ¬ d = 1 by omega)), decide_eq_true (by omega)]; rfl), rfl⟩
  · have c_1 := (nI_eq (a := d) (b := 1) (by omega) (by omega)).mp c_1
    have c_1 : d = 1 := c_1
    refine j_iconst C (v := nI 2) rfl dX3_isRowFor_7 (pc' := 8) rfl ?_
    refine j_goto C dX3_isRowFor_8 (pc' := 12) (by decide) ?_
    refine j_icmp_ge C dX3_isRowFor_12 (tgt := 17) (by decide) (pc' := 15) rfl (fun c_11 => ?_) (fun c_11 => ?_)
    · have c_11 := (nI_leI (a := 2) (b := N) (by omega) (by omega)).mp c_11
      have c_11 : 2 ≤ N := c_11
      refine j_aload_n C (i := 2) (x := q) 2 rfl dX3_isRowFor_17 (pc' := 18) rfl ?_
      refine j_astore_n C (i := 3) (x := q) (l' := [(3, .ref q), (0, .ref xo), (1, .int (nI d)), (2, .ref q)]) dX3_isRowFor_18 (pc' := 19) rfl (by decide) rfl ?_
      refine j_aload_n C (i := 3) (x := q) 0 rfl dX3_isRowFor_19 (pc' := 20) rfl ?_
      refine j_alen C (a := q) (t0 := 0) (v := nI N) hq rfl rfl dX3_isRowFor_20 (pc' := 21) rfl ?_
      refine j_istore C (i := 4) (x := nI N) (l' := [(4, .int (nI N)), (3, .ref q), (0, .ref xo), (1, .int (nI d)), (2, .ref q)]) dX3_isRowFor_21 (pc' := 23) rfl (by decide) rfl ?_
      refine j_iconst C (v := nI 0) rfl dX3_isRowFor_23 (pc' := 24) rfl ?_
      refine j_istore C (i := 5) (x := nI 0) (l' := [(5, .int (nI 0)), (4, .int (nI N)), (3, .ref q), (0, .ref xo), (1, .int (nI d)), (2, .ref q)]) dX3_isRowFor_24 (pc' := 26) rfl (by decide) rfl ?_
      have L_26 : ∀ (N_26 : Nat) (k : Nat), (N - k) < N_26 → (k ≤ N) → (allN (gOK s a d g) k = true) → jW X G 7 0 0 26 [(5, .int (nI k)), (4, .int (nI N)), (3, .ref q), (0, .ref xo), (1, .int (nI d)), (2, .ref q)] [] h := by
        intro N_26
        induction N_26 with
        | zero => intro k hm_26 hkN hR; omega
        | succ N_26 ih_26 =>
          intro k hm_26 hkN hR
          refine j_iload C (i := 5) (x := nI k) 0 rfl dX3_isRowFor_26 (pc' := 28) rfl ?_
          refine j_iload C (i := 4) (x := nI N) 1 rfl dX3_isRowFor_28 (pc' := 30) rfl ?_
          refine j_icmp_ge C dX3_isRowFor_30 (tgt := 79) (by decide) (pc' := 33) rfl (fun c_12 => ?_) (fun c_12 => ?_)
          · have c_12 := (nI_leI (a := N) (b := k) (by omega) (by omega)).mp c_12
            have c_12 : N ≤ k := c_12
            refine j_iconst C (v := nI 1) rfl dX3_isRowFor_79 (pc' := 80) rfl ?_
            exact j_iret C E dX3_isRowFor_80 rfl (Nat.le_of_ble_eq_true rfl) (Nat.le_of_ble_eq_true rfl) ⟨bI1 (by unfold rowOK; rw [(show (if d = 1 then 2 else 1 : Nat) = 2 from if_pos (show d = 1 by omega)), decide_eq_false (by omega), show N = k by omega, hR]; rfl), rfl⟩
          · have c_12 := fun zq => c_12 ((nI_leI (a := N) (b := k) (by omega) (by omega)).mpr zq)
            have c_12 : ¬ N ≤ k := c_12
            refine j_aload_n C (i := 3) (x := q) 2 rfl dX3_isRowFor_33 (pc' := 34) rfl ?_
            refine j_iload C (i := 5) (x := nI k) 0 rfl dX3_isRowFor_34 (pc' := 36) rfl ?_
            refine j_iald C (a := q) (N := N) (j := k) hq rfl (by omega) (by omega) dX3_isRowFor_36 (pc' := 37) rfl ?_
            refine jt_i (he k (by omega)) ?_
            show jW X G 7 0 0 37 [(5, .int (nI k)), (4, .int (nI N)), (3, .ref q), (0, .ref xo), (1, .int (nI d)), (2, .ref q)] [.int (nI (g k))] h
            have B_13 := hg k (by omega)
            refine j_istore C (i := 6) (x := nI (g k)) (l' := [(6, .int (nI (g k))), (5, .int (nI k)), (4, .int (nI N)), (3, .ref q), (0, .ref xo), (1, .int (nI d)), (2, .ref q)]) dX3_isRowFor_37 (pc' := 39) rfl (by decide) rfl ?_
            refine j_aload_n C (i := 0) (x := xo) 4 rfl dX3_isRowFor_39 (pc' := 40) rfl ?_
            refine j_iload C (i := 6) (x := nI (g k)) 0 rfl dX3_isRowFor_40 (pc' := 42) rfl ?_
            refine j_callV C (As := [.int (nI (g k))]) (rest := []) (c_isNow X.2.1 C.2.2.2.2.2.2.2.2 G Q J I (nI (g k))) (cwV 1 C.2.2.2.2.1 gX3_isRowFor_X3_isNow rfl rfl rfl (by decide +kernel) (by rw [hXR]; decide)) Q.obj rfl rfl rfl (Nat.le_of_ble_eq_true rfl) dX3_isRowFor_42 (pc' := 45) rfl (by rw [hXR]; exact Nat.le_of_ble_eq_true rfl) (by rw [hXR]; exact Nat.le_of_ble_eq_true rfl) (fun _ _ z => z.elim) ?_
            rintro r h' ⟨rfl, hh⟩
            have hh := hh.symm
            subst hh
            show jW X G 7 0 0 45 [(6, .int (nI (g k))), (5, .int (nI k)), (4, .int (nI N)), (3, .ref q), (0, .ref xo), (1, .int (nI d)), (2, .ref q)] [.int (bI (inN (nI (g k)) (s 6) && mIs a (tn (nI (g k)))))] h
            rcases hb_14 : (inN (nI (g k)) (s 6) && mIs a (tn (nI (g k)))) with _ | _
            · show jW X G 7 0 0 45 [(6, .int (nI (g k))), (5, .int (nI k)), (4, .int (nI N)), (3, .ref q), (0, .ref xo), (1, .int (nI d)), (2, .ref q)] [.int (nI 0)] h
              rw [isn_eq (hg k (by omega))] at hb_14
              refine j_if_eq C dX3_isRowFor_45 (tgt := 71) (by decide) (pc' := 48) rfl (fun _ => ?_) (fun c_15 => absurd (by decide) c_15)
              refine j_iconst C (v := nI 0) rfl dX3_isRowFor_71 (pc' := 72) rfl ?_
              exact j_iret C E dX3_isRowFor_72 rfl (Nat.le_of_ble_eq_true rfl) (Nat.le_of_ble_eq_true rfl) ⟨bI0 (by unfold rowOK; rw [all_f (k := k) (by omega) (by unfold gOK; rw [hb_14]; rfl), Bool.and_false]), rfl⟩
            · show jW X G 7 0 0 45 [(6, .int (nI (g k))), (5, .int (nI k)), (4, .int (nI N)), (3, .ref q), (0, .ref xo), (1, .int (nI d)), (2, .ref q)] [.int (nI 1)] h
              rw [isn_eq (hg k (by omega))] at hb_14
              have hgk := isn_lt hb_14
              refine j_if_eq C dX3_isRowFor_45 (tgt := 71) (by decide) (pc' := 48) rfl (fun c_16 => absurd c_16 (by decide)) (fun _ => ?_)
              refine j_iload_n C (i := 1) (x := nI d) 5 rfl dX3_isRowFor_48 (pc' := 49) rfl ?_
              refine j_iconst C (v := nI 1) rfl dX3_isRowFor_49 (pc' := 50) rfl ?_
              refine j_icmp_ne C dX3_isRowFor_50 (tgt := 73) (by decide) (pc' := 53) rfl (fun c_17 => ?_) (fun c_17 => ?_)
              · have c_17 := fun zq => c_17 ((nI_eq (a := d) (b := 1) (by omega) (by omega)).mpr zq)
                have c_17 : ¬ d = 1 := c_17
                refine j_iinc C (i := 5) (q := 1) (x := nI k) (v := nI (k + 1)) (l' := [(5, .int (nI (k + 1))), (6, .int (nI (g k))), (4, .int (nI N)), (3, .ref q), (0, .ref xo), (1, .int (nI d)), (2, .ref q)]) dX3_isRowFor_73 (pc' := 76) rfl rfl (nI_add _ _) (by decide) rfl ?_
                refine j_goto C dX3_isRowFor_76 (pc' := 26) (by decide) ?_
                exact jW.locals [0, 2, 3, 4, 5, 6] rfl (ih_26 (k + 1) (by omega) (by omega) (by rw [allN_s, hR]; unfold gOK; rw [hb_14, decide_eq_false (show ¬ d = 1 by omega)]; cases decide (d = 1) <;> rfl))
              · have c_17 := (nI_eq (a := d) (b := 1) (by omega) (by omega)).mp c_17
                have c_17 : d = 1 := c_17
                refine j_aload_n C (i := 0) (x := xo) 4 rfl dX3_isRowFor_53 (pc' := 54) rfl ?_
                refine j_get C (ref := "MapRevisions") (CN := RX3) (T := TX3) (N := 11) (ci := 4) (index := 25) (a := xo) (kf := 2) (fs := [.ref (xa 0), .ref (xa 1), .ref (xa 2), .ref (xa 3), .ref (xa 4), .ref (xa 5), .int (nI (s 2)), .int (nI (s 4)), .int (nI (s 10)), .int (nI (s 0)), .int (nI (s 1))]) (v := .ref (xa 2)) hinX3 rfl (by decide) (by decide +kernel) rfl Q.obj rfl dX3_isRowFor_54 (pc' := 57) rfl ?_
                refine j_iload C (i := 6) (x := nI (g k)) 0 rfl dX3_isRowFor_57 (pc' := 59) rfl ?_
                have D_59 := Q.dta (t := (g k)) (by omega)
                refine j_callV C (As := [.int (nI (g k))]) (rest := []) (c_get X.2.1 C.2.2.2.2.2.2.2.2 G Q.lst D_59.1 (g k) (th (g k)) (by omega) D_59.2.2.1 (by omega) D_59.2.1) (cwV 1 C.2.2.2.2.1 gX3_isRowFor_Jx4a65c_get_915e3 rfl rfl rfl (by decide +kernel) (by rw [hXR]; decide)) Q.lst rfl rfl rfl (Nat.le_of_ble_eq_true rfl) dX3_isRowFor_59 (pc' := 62) rfl (by rw [hXR]; exact Nat.le_of_ble_eq_true rfl) (by rw [hXR]; exact Nat.le_of_ble_eq_true rfl) (fun _ _ z => z.elim) ?_
                rintro r h' ⟨rfl, hh⟩
                have hh := hh.symm
                subst hh
                show jW X G 7 0 0 62 [(6, .int (nI (g k))), (5, .int (nI k)), (4, .int (nI N)), (3, .ref q), (0, .ref xo), (1, .int (nI d)), (2, .ref q)] [.ref (th (g k))] h
                refine j_cast C (CN := RX1) (T := TX1) (N := 2) (ci := 2) (index := 111) (a := th (g k)) (fs := [.int (nI (a 7 (g k))), .ref (va (a 8 (g k)))]) (Q.thing (t := (g k)) (by omega)) rfl (by decide +kernel) dX3_isRowFor_62 (pc' := 65) rfl ?_
                refine j_get C (ref := "MapRevisions$Thing") (CN := RX1) (T := TX1) (N := 2) (ci := 2) (index := 113) (a := th (g k)) (kf := 0) (fs := [.int (nI (a 7 (g k))), .ref (va (a 8 (g k)))]) (v := .int (nI (a 7 (g k)))) hinX1 rfl (by decide) (by decide +kernel) rfl (Q.thing (t := (g k)) (by omega)) rfl dX3_isRowFor_65 (pc' := 68) rfl ?_
                have B_18 := IA.kind I (g k)
                refine j_if_eq C dX3_isRowFor_68 (tgt := 73) (by decide) (pc' := 71) rfl (fun c_19 => ?_) (fun c_19 => ?_)
                · have c_19 := (nI_eq (a := a 7 (g k)) (b := 0) (by omega) (by omega)).mp c_19
                  have c_19 : (a 7 (g k)) = 0 := c_19
                  refine j_iinc C (i := 5) (q := 1) (x := nI k) (v := nI (k + 1)) (l' := [(5, .int (nI (k + 1))), (6, .int (nI (g k))), (4, .int (nI N)), (3, .ref q), (0, .ref xo), (1, .int (nI d)), (2, .ref q)]) dX3_isRowFor_73 (pc' := 76) rfl rfl (nI_add _ _) (by decide) rfl ?_
                  refine j_goto C dX3_isRowFor_76 (pc' := 26) (by decide) ?_
                  exact jW.locals [0, 2, 3, 4, 5, 6] rfl (ih_26 (k + 1) (by omega) (by omega) (by rw [allN_s, hR]; unfold gOK; rw [hb_14, decide_eq_true (show a 7 (g k) = 0 by omega)]; cases decide (d = 1) <;> rfl))
                · have c_19 := fun zq => c_19 ((nI_eq (a := a 7 (g k)) (b := 0) (by omega) (by omega)).mpr zq)
                  have c_19 : ¬ (a 7 (g k)) = 0 := c_19
                  refine j_iconst C (v := nI 0) rfl dX3_isRowFor_71 (pc' := 72) rfl ?_
                  exact j_iret C E dX3_isRowFor_72 rfl (Nat.le_of_ble_eq_true rfl) (Nat.le_of_ble_eq_true rfl) ⟨bI0 (by unfold rowOK; rw [all_f (k := k) (by omega) (by unfold gOK; rw [hb_14, decide_eq_true (show d = 1 by omega), decide_eq_false (show ¬ a 7 (g k) = 0 by omega)]; rfl), Bool.and_false]), rfl⟩
      exact jW.locals [0, 1, 2, 3, 4, 5] rfl (L_26 ((N - (0)) + 1) 0 (by omega) (by omega) rfl)
    · have c_11 := fun zq => c_11 ((nI_leI (a := 2) (b := N) (by omega) (by omega)).mpr zq)
      have c_11 : ¬ 2 ≤ N := c_11
      refine j_iconst C (v := nI 0) rfl dX3_isRowFor_15 (pc' := 16) rfl ?_
      exact j_iret C E dX3_isRowFor_16 rfl (Nat.le_of_ble_eq_true rfl) (Nat.le_of_ble_eq_true rfl) ⟨bI0 (by unfold rowOK; rw [(show (if d = 1 then 2 else 1 : Nat) = 2 from if_pos (show d = 1 by omega)), decide_eq_true (by omega)]; rfl), rfl⟩
