set_option maxRecDepth 100000 in
set_option maxHeartbeats 4000000 in
theorem c_pointsWithin (l : Launch) (hlt : l.stackTraces = false) (G : jG) {P : Nat → Prop} {xo : Nat} {xa th va ca ma : Nat → Nat} {dat cap : Nat} {mod : Int32} {df : Nat → Option Nat} {vf dr : Nat → Int32} {mf : Nat → Nat → Int32} {s : mS} {a : mA} {h : jH} (Q : cQ G P xo xa th va ca ma dat cap mod df vf dr mf s a h) (J : IS s) (I : IA a) (x y x2 y2 : Nat) (hx : x < 100) (hy : y < 100) (hx2 : x2 < 100) (hy2 : y2 < 100) : jM l G yX3_pointsWithin wsX3_pointsWithin 3 64 0 0 [.ref xo, .int (nI x), .int (nI y), .int (nI x2), .int (nI y2)] h (fun r h' => r = some (.long (lN (orN (fBox a x y x2 y2) (s 6)))) ∧ h' = h) (fun _ _ => False) := by
  have h6 := J.2.1
  have h2 := J.2.2.1
  have h4 := J.2.2.2.1
  have h10 := J.2.2.2.2.1
  have hs0 := J.1 0
  have hs1 := J.1 1
  refine jM_of (cc := cX3_pointsWithin) (maxL := 9) (ret := (some .long)) hlt (by decide +kernel) rfl (Nat.le_of_ble_eq_true rfl) ?_
  intro X C E hXl hXR hXn
  have hinX3 : ∀ w ∈ u_ws RX3 TX3 11, w ∈ wsX3_pointsWithin := by decide +kernel
  have hinX1 : ∀ w ∈ u_ws RX1 TX1 2, w ∈ wsX3_pointsWithin := by decide +kernel
  have hinX2 : ∀ w ∈ u_ws RX2 TX2 6, w ∈ wsX3_pointsWithin := by decide +kernel
  have hinX0 : ∀ w ∈ u_ws RX0 TX0 4, w ∈ wsX3_pointsWithin := by decide +kernel
  show jW X G 9 0 0 0 [(0, .ref xo), (1, .int (nI x)), (2, .int (nI y)), (3, .int (nI x2)), (4, .int (nI y2))] [] h
  refine j_lconst C (v := lN 0) rfl dX3_pointsWithin_0 (pc' := 1) rfl ?_
  refine j_lstore C (i := 5) (x := lN 0) (l' := [(5, .long (lN 0)), (0, .ref xo), (1, .int (nI x)), (2, .int (nI y)), (3, .int (nI x2)), (4, .int (nI y2))]) dX3_pointsWithin_1 (pc' := 3) rfl (by decide) rfl ?_
  refine j_iconst C (v := nI 0) rfl dX3_pointsWithin_3 (pc' := 4) rfl ?_
  refine j_istore C (i := 7) (x := nI 0) (l' := [(7, .int (nI 0)), (5, .long (lN 0)), (0, .ref xo), (1, .int (nI x)), (2, .int (nI y)), (3, .int (nI x2)), (4, .int (nI y2))]) dX3_pointsWithin_4 (pc' := 6) rfl (by decide) rfl ?_
  have L_6 : ∀ (N_6 : Nat) (k m : Nat), (s 6 - k) < N_6 → (k ≤ s 6) → (m = orN (fBox a x y x2 y2) k) → jW X G 9 0 0 6 [(7, .int (nI k)), (5, .long (lN m)), (0, .ref xo), (1, .int (nI x)), (2, .int (nI y)), (3, .int (nI x2)), (4, .int (nI y2))] [] h := by
    intro N_6
    induction N_6 with
    | zero => intro k m hm_6 hk6 hR; omega
    | succ N_6 ih_6 =>
      intro k m hm_6 hk6 hR
      have hm40 : m < 2 ^ 40 := by rw [hR]; exact fBox_lt a x y x2 y2 (by omega)
      refine j_iload C (i := 7) (x := nI k) 0 rfl dX3_pointsWithin_6 (pc' := 8) rfl ?_
      refine j_aload_n C (i := 0) (x := xo) 2 rfl dX3_pointsWithin_8 (pc' := 9) rfl ?_
      refine j_get C (ref := "MapRevisions") (CN := RX3) (T := TX3) (N := 11) (ci := 4) (index := 25) (a := xo) (kf := 2) (fs := [.ref (xa 0), .ref (xa 1), .ref (xa 2), .ref (xa 3), .ref (xa 4), .ref (xa 5), .int (nI (s 2)), .int (nI (s 4)), .int (nI (s 10)), .int (nI (s 0)), .int (nI (s 1))]) (v := .ref (xa 2)) hinX3 rfl (by decide) (by decide +kernel) rfl Q.obj rfl dX3_pointsWithin_9 (pc' := 12) rfl ?_
      refine j_callV C (As := []) (rest := [.int (nI k)]) (c_size X.2.1 C.2.2.2.2.2.2.2.2 G Q.lst) (cwV 0 C.2.2.2.2.1 gX3_pointsWithin_Jx4a65c_size_8abf5 rfl rfl rfl (by decide +kernel) (by rw [hXR]; decide)) Q.lst rfl rfl rfl (Nat.le_of_ble_eq_true rfl) dX3_pointsWithin_12 (pc' := 15) rfl (by rw [hXR]; exact Nat.le_of_ble_eq_true rfl) (by rw [hXR]; exact Nat.le_of_ble_eq_true rfl) (fun _ _ z => z.elim) ?_
      rintro r h' ⟨rfl, hh⟩
      have hh := hh.symm
      subst hh
      show jW X G 9 0 0 15 [(7, .int (nI k)), (5, .long (lN m)), (0, .ref xo), (1, .int (nI x)), (2, .int (nI y)), (3, .int (nI x2)), (4, .int (nI y2))] [.int (nI (s 6)), .int (nI k)] h
      refine j_icmp_ge C dX3_pointsWithin_15 (tgt := 117) (by decide) (pc' := 18) rfl (fun c_1 => ?_) (fun c_1 => ?_)
      · have c_1 := (nI_leI (a := s 6) (b := k) (by omega) (by omega)).mp c_1
        have c_1 : (s 6) ≤ k := c_1
        refine j_lload C (i := 5) (x := lN m) 1 rfl dX3_pointsWithin_117 (pc' := 119) rfl ?_
        exact j_lret C E dX3_pointsWithin_119 (Nat.le_of_ble_eq_true rfl) (Nat.le_of_ble_eq_true rfl) ⟨by rw [hR, show k = s 6 by omega], rfl⟩
      · have c_1 := fun zq => c_1 ((nI_leI (a := s 6) (b := k) (by omega) (by omega)).mpr zq)
        have c_1 : ¬ (s 6) ≤ k := c_1
        refine j_aload_n C (i := 0) (x := xo) 2 rfl dX3_pointsWithin_18 (pc' := 19) rfl ?_
        refine j_get C (ref := "MapRevisions") (CN := RX3) (T := TX3) (N := 11) (ci := 4) (index := 25) (a := xo) (kf := 2) (fs := [.ref (xa 0), .ref (xa 1), .ref (xa 2), .ref (xa 3), .ref (xa 4), .ref (xa 5), .int (nI (s 2)), .int (nI (s 4)), .int (nI (s 10)), .int (nI (s 0)), .int (nI (s 1))]) (v := .ref (xa 2)) hinX3 rfl (by decide) (by decide +kernel) rfl Q.obj rfl dX3_pointsWithin_19 (pc' := 22) rfl ?_
        refine j_iload C (i := 7) (x := nI k) 0 rfl dX3_pointsWithin_22 (pc' := 24) rfl ?_
        have D_24 := Q.dta (t := k) (by omega)
        refine j_callV C (As := [.int (nI k)]) (rest := []) (c_get X.2.1 C.2.2.2.2.2.2.2.2 G Q.lst D_24.1 k (th k) (by omega) D_24.2.2.1 (by omega) D_24.2.1) (cwV 1 C.2.2.2.2.1 gX3_pointsWithin_Jx4a65c_get_915e3 rfl rfl rfl (by decide +kernel) (by rw [hXR]; decide)) Q.lst rfl rfl rfl (Nat.le_of_ble_eq_true rfl) dX3_pointsWithin_24 (pc' := 27) rfl (by rw [hXR]; exact Nat.le_of_ble_eq_true rfl) (by rw [hXR]; exact Nat.le_of_ble_eq_true rfl) (fun _ _ z => z.elim) ?_
        rintro r h' ⟨rfl, hh⟩
        have hh := hh.symm
        subst hh
        show jW X G 9 0 0 27 [(7, .int (nI k)), (5, .long (lN m)), (0, .ref xo), (1, .int (nI x)), (2, .int (nI y)), (3, .int (nI x2)), (4, .int (nI y2))] [.ref (th k)] h
        refine j_cast C (CN := RX1) (T := TX1) (N := 2) (ci := 2) (index := 111) (a := th k) (fs := [.int (nI (a 7 k)), .ref (va (a 8 k))]) (Q.thing (t := k) (by omega)) rfl (by decide +kernel) dX3_pointsWithin_27 (pc' := 30) rfl ?_
        refine j_get C (ref := "MapRevisions$Thing") (CN := RX1) (T := TX1) (N := 2) (ci := 2) (index := 138) (a := th k) (kf := 1) (fs := [.int (nI (a 7 k)), .ref (va (a 8 k))]) (v := .ref (va (a 8 k))) hinX1 rfl (by decide) (by decide +kernel) rfl (Q.thing (t := k) (by omega)) rfl dX3_pointsWithin_30 (pc' := 33) rfl ?_
        have B_2 := Q.last (t := k) (by omega)
        refine j_get C (ref := "MapRevisions$Version") (CN := RX2) (T := TX2) (N := 6) (ci := 3) (index := 151) (a := va (a 8 k)) (kf := 4) (fs := [cP va (a 13 (a 8 k)), .int (nI (a 12 (a 8 k))), .int (nI (a 14 (a 8 k))), .int (nI (a 15 (a 8 k))), .ref (ca (a 8 k)), .int (nI (a 17 (a 8 k)))]) (v := .ref (ca (a 8 k))) hinX2 rfl (by decide) (by decide +kernel) rfl (Q.ver (v := (a 8 k)) (by omega)) rfl dX3_pointsWithin_33 (pc' := 36) rfl ?_
        refine j_astore C (i := 8) (x := ca (a 8 k)) (l' := [(8, .ref (ca (a 8 k))), (7, .int (nI k)), (5, .long (lN m)), (0, .ref xo), (1, .int (nI x)), (2, .int (nI y)), (3, .int (nI x2)), (4, .int (nI y2))]) dX3_pointsWithin_36 (pc' := 38) rfl (by decide) rfl ?_
        refine j_aload_n C (i := 0) (x := xo) 3 rfl dX3_pointsWithin_38 (pc' := 39) rfl ?_
        refine j_get C (ref := "MapRevisions") (CN := RX3) (T := TX3) (N := 11) (ci := 4) (index := 25) (a := xo) (kf := 2) (fs := [.ref (xa 0), .ref (xa 1), .ref (xa 2), .ref (xa 3), .ref (xa 4), .ref (xa 5), .int (nI (s 2)), .int (nI (s 4)), .int (nI (s 10)), .int (nI (s 0)), .int (nI (s 1))]) (v := .ref (xa 2)) hinX3 rfl (by decide) (by decide +kernel) rfl Q.obj rfl dX3_pointsWithin_39 (pc' := 42) rfl ?_
        refine j_iload C (i := 7) (x := nI k) 1 rfl dX3_pointsWithin_42 (pc' := 44) rfl ?_
        have D_44 := Q.dta (t := k) (by omega)
        refine j_callV C (As := [.int (nI k)]) (rest := []) (c_get X.2.1 C.2.2.2.2.2.2.2.2 G Q.lst D_44.1 k (th k) (by omega) D_44.2.2.1 (by omega) D_44.2.1) (cwV 1 C.2.2.2.2.1 gX3_pointsWithin_Jx4a65c_get_915e3 rfl rfl rfl (by decide +kernel) (by rw [hXR]; decide)) Q.lst rfl rfl rfl (Nat.le_of_ble_eq_true rfl) dX3_pointsWithin_44 (pc' := 47) rfl (by rw [hXR]; exact Nat.le_of_ble_eq_true rfl) (by rw [hXR]; exact Nat.le_of_ble_eq_true rfl) (fun _ _ z => z.elim) ?_
        rintro r h' ⟨rfl, hh⟩
        have hh := hh.symm
        subst hh
        show jW X G 9 0 0 47 [(8, .ref (ca (a 8 k))), (7, .int (nI k)), (5, .long (lN m)), (0, .ref xo), (1, .int (nI x)), (2, .int (nI y)), (3, .int (nI x2)), (4, .int (nI y2))] [.ref (th k)] h
        refine j_cast C (CN := RX1) (T := TX1) (N := 2) (ci := 2) (index := 111) (a := th k) (fs := [.int (nI (a 7 k)), .ref (va (a 8 k))]) (Q.thing (t := k) (by omega)) rfl (by decide +kernel) dX3_pointsWithin_47 (pc' := 50) rfl ?_
        refine j_get C (ref := "MapRevisions$Thing") (CN := RX1) (T := TX1) (N := 2) (ci := 2) (index := 113) (a := th k) (kf := 0) (fs := [.int (nI (a 7 k)), .ref (va (a 8 k))]) (v := .int (nI (a 7 k))) hinX1 rfl (by decide) (by decide +kernel) rfl (Q.thing (t := k) (by omega)) rfl dX3_pointsWithin_50 (pc' := 53) rfl ?_
        have B_3 := IA.kind I k
        refine j_if_ne C dX3_pointsWithin_53 (tgt := 111) (by decide) (pc' := 56) rfl (fun c_4 => ?_) (fun c_4 => ?_)
        · have c_4 := fun zq => c_4 ((nI_eq (a := a 7 k) (b := 0) (by omega) (by omega)).mpr zq)
          have c_4 : ¬ (a 7 k) = 0 := c_4
          refine j_iinc C (i := 7) (q := 1) (x := nI k) (v := nI (k + 1)) (l' := [(7, .int (nI (k + 1))), (8, .ref (ca (a 8 k))), (5, .long (lN m)), (0, .ref xo), (1, .int (nI x)), (2, .int (nI y)), (3, .int (nI x2)), (4, .int (nI y2))]) dX3_pointsWithin_111 (pc' := 114) rfl rfl (nI_add _ _) (by decide) rfl ?_
          refine j_goto C dX3_pointsWithin_114 (pc' := 6) (by decide) ?_
          exact jW.locals [0, 2, 3, 4, 5, 6, 7] rfl (ih_6 (k + 1) m (by omega) (by omega) (orN_0 hR (if_neg (fun z => by omega))))
        · have c_4 := (nI_eq (a := a 7 k) (b := 0) (by omega) (by omega)).mp c_4
          have c_4 : (a 7 k) = 0 := c_4
          refine j_aload C (i := 8) (x := ca (a 8 k)) 0 rfl dX3_pointsWithin_56 (pc' := 58) rfl ?_
          refine j_get C (ref := "MapRevisions$Content") (CN := RX0) (T := TX0) (N := 4) (ci := 1) (index := 154) (a := ca (a 8 k)) (kf := 0) (fs := [.int (nI (a 16 (a 8 k))), .int (nI (a 18 (a 8 k) / 100)), .int (nI (a 18 (a 8 k) % 100)), .ref (ma (a 8 k))]) (v := .int (nI (a 16 (a 8 k)))) hinX0 rfl (by decide) (by decide +kernel) rfl (Q.con (v := (a 8 k)) (by omega)) rfl dX3_pointsWithin_58 (pc' := 61) rfl ?_
          have B_5 := IA.there I (a 8 k)
          refine j_if_eq C dX3_pointsWithin_61 (tgt := 111) (by decide) (pc' := 64) rfl (fun c_6 => ?_) (fun c_6 => ?_)
          · have c_6 := (nI_eq (a := a 16 (a 8 k)) (b := 0) (by omega) (by omega)).mp c_6
            have c_6 : (a 16 (a 8 k)) = 0 := c_6
            refine j_iinc C (i := 7) (q := 1) (x := nI k) (v := nI (k + 1)) (l' := [(7, .int (nI (k + 1))), (8, .ref (ca (a 8 k))), (5, .long (lN m)), (0, .ref xo), (1, .int (nI x)), (2, .int (nI y)), (3, .int (nI x2)), (4, .int (nI y2))]) dX3_pointsWithin_111 (pc' := 114) rfl rfl (nI_add _ _) (by decide) rfl ?_
            refine j_goto C dX3_pointsWithin_114 (pc' := 6) (by decide) ?_
            exact jW.locals [0, 2, 3, 4, 5, 6, 7] rfl (ih_6 (k + 1) m (by omega) (by omega) (orN_0 hR (if_neg (fun z => by omega))))
          · have c_6 := fun zq => c_6 ((nI_eq (a := a 16 (a 8 k)) (b := 0) (by omega) (by omega)).mpr zq)
            have c_6 : ¬ (a 16 (a 8 k)) = 0 := c_6
            refine j_aload C (i := 8) (x := ca (a 8 k)) 0 rfl dX3_pointsWithin_64 (pc' := 66) rfl ?_
            refine j_get C (ref := "MapRevisions$Content") (CN := RX0) (T := TX0) (N := 4) (ci := 1) (index := 163) (a := ca (a 8 k)) (kf := 1) (fs := [.int (nI (a 16 (a 8 k))), .int (nI (a 18 (a 8 k) / 100)), .int (nI (a 18 (a 8 k) % 100)), .ref (ma (a 8 k))]) (v := .int (nI (a 18 (a 8 k) / 100))) hinX0 rfl (by decide) (by decide +kernel) rfl (Q.con (v := (a 8 k)) (by omega)) rfl dX3_pointsWithin_66 (pc' := 69) rfl ?_
            have B_7 := IA.big I 18 (a 8 k)
            refine j_iload_n C (i := 1) (x := nI x) 4 rfl dX3_pointsWithin_69 (pc' := 70) rfl ?_
            refine j_icmp_lt C dX3_pointsWithin_70 (tgt := 111) (by decide) (pc' := 73) rfl (fun c_8 => ?_) (fun c_8 => ?_)
            · have c_8 := (nI_ltI (a := a 18 (a 8 k) / 100) (b := x) (by omega) (by omega)).mp c_8
              have c_8 : (a 18 (a 8 k) / 100) < x := c_8
              refine j_iinc C (i := 7) (q := 1) (x := nI k) (v := nI (k + 1)) (l' := [(7, .int (nI (k + 1))), (8, .ref (ca (a 8 k))), (5, .long (lN m)), (0, .ref xo), (1, .int (nI x)), (2, .int (nI y)), (3, .int (nI x2)), (4, .int (nI y2))]) dX3_pointsWithin_111 (pc' := 114) rfl rfl (nI_add _ _) (by decide) rfl ?_
              refine j_goto C dX3_pointsWithin_114 (pc' := 6) (by decide) ?_
              exact jW.locals [0, 2, 3, 4, 5, 6, 7] rfl (ih_6 (k + 1) m (by omega) (by omega) (orN_0 hR (if_neg (fun z => by omega))))
            · have c_8 := fun zq => c_8 ((nI_ltI (a := a 18 (a 8 k) / 100) (b := x) (by omega) (by omega)).mpr zq)
              have c_8 : ¬ (a 18 (a 8 k) / 100) < x := c_8
              refine j_aload C (i := 8) (x := ca (a 8 k)) 0 rfl dX3_pointsWithin_73 (pc' := 75) rfl ?_
              refine j_get C (ref := "MapRevisions$Content") (CN := RX0) (T := TX0) (N := 4) (ci := 1) (index := 163) (a := ca (a 8 k)) (kf := 1) (fs := [.int (nI (a 16 (a 8 k))), .int (nI (a 18 (a 8 k) / 100)), .int (nI (a 18 (a 8 k) % 100)), .ref (ma (a 8 k))]) (v := .int (nI (a 18 (a 8 k) / 100))) hinX0 rfl (by decide) (by decide +kernel) rfl (Q.con (v := (a 8 k)) (by omega)) rfl dX3_pointsWithin_75 (pc' := 78) rfl ?_
              have B_9 := IA.big I 18 (a 8 k)
              refine j_iload_n C (i := 3) (x := nI x2) 6 rfl dX3_pointsWithin_78 (pc' := 79) rfl ?_
              refine j_icmp_gt C dX3_pointsWithin_79 (tgt := 111) (by decide) (pc' := 82) rfl (fun c_10 => ?_) (fun c_10 => ?_)
              · have c_10 := (nI_ltI (a := x2) (b := a 18 (a 8 k) / 100) (by omega) (by omega)).mp c_10
                have c_10 : x2 < (a 18 (a 8 k) / 100) := c_10
                refine j_iinc C (i := 7) (q := 1) (x := nI k) (v := nI (k + 1)) (l' := [(7, .int (nI (k + 1))), (8, .ref (ca (a 8 k))), (5, .long (lN m)), (0, .ref xo), (1, .int (nI x)), (2, .int (nI y)), (3, .int (nI x2)), (4, .int (nI y2))]) dX3_pointsWithin_111 (pc' := 114) rfl rfl (nI_add _ _) (by decide) rfl ?_
                refine j_goto C dX3_pointsWithin_114 (pc' := 6) (by decide) ?_
                exact jW.locals [0, 2, 3, 4, 5, 6, 7] rfl (ih_6 (k + 1) m (by omega) (by omega) (orN_0 hR (if_neg (fun z => by omega))))
              · have c_10 := fun zq => c_10 ((nI_ltI (a := x2) (b := a 18 (a 8 k) / 100) (by omega) (by omega)).mpr zq)
                have c_10 : ¬ x2 < (a 18 (a 8 k) / 100) := c_10
                refine j_aload C (i := 8) (x := ca (a 8 k)) 0 rfl dX3_pointsWithin_82 (pc' := 84) rfl ?_
                refine j_get C (ref := "MapRevisions$Content") (CN := RX0) (T := TX0) (N := 4) (ci := 1) (index := 166) (a := ca (a 8 k)) (kf := 2) (fs := [.int (nI (a 16 (a 8 k))), .int (nI (a 18 (a 8 k) / 100)), .int (nI (a 18 (a 8 k) % 100)), .ref (ma (a 8 k))]) (v := .int (nI (a 18 (a 8 k) % 100))) hinX0 rfl (by decide) (by decide +kernel) rfl (Q.con (v := (a 8 k)) (by omega)) rfl dX3_pointsWithin_84 (pc' := 87) rfl ?_
                have B_11 := IA.big I 18 (a 8 k)
                refine j_iload_n C (i := 2) (x := nI y) 5 rfl dX3_pointsWithin_87 (pc' := 88) rfl ?_
                refine j_icmp_lt C dX3_pointsWithin_88 (tgt := 111) (by decide) (pc' := 91) rfl (fun c_12 => ?_) (fun c_12 => ?_)
                · have c_12 := (nI_ltI (a := a 18 (a 8 k) % 100) (b := y) (by omega) (by omega)).mp c_12
                  have c_12 : (a 18 (a 8 k) % 100) < y := c_12
                  refine j_iinc C (i := 7) (q := 1) (x := nI k) (v := nI (k + 1)) (l' := [(7, .int (nI (k + 1))), (8, .ref (ca (a 8 k))), (5, .long (lN m)), (0, .ref xo), (1, .int (nI x)), (2, .int (nI y)), (3, .int (nI x2)), (4, .int (nI y2))]) dX3_pointsWithin_111 (pc' := 114) rfl rfl (nI_add _ _) (by decide) rfl ?_
                  refine j_goto C dX3_pointsWithin_114 (pc' := 6) (by decide) ?_
                  exact jW.locals [0, 2, 3, 4, 5, 6, 7] rfl (ih_6 (k + 1) m (by omega) (by omega) (orN_0 hR (if_neg (fun z => by omega))))
                · have c_12 := fun zq => c_12 ((nI_ltI (a := a 18 (a 8 k) % 100) (b := y) (by omega) (by omega)).mpr zq)
                  have c_12 : ¬ (a 18 (a 8 k) % 100) < y := c_12
                  refine j_aload C (i := 8) (x := ca (a 8 k)) 0 rfl dX3_pointsWithin_91 (pc' := 93) rfl ?_
                  refine j_get C (ref := "MapRevisions$Content") (CN := RX0) (T := TX0) (N := 4) (ci := 1) (index := 166) (a := ca (a 8 k)) (kf := 2) (fs := [.int (nI (a 16 (a 8 k))), .int (nI (a 18 (a 8 k) / 100)), .int (nI (a 18 (a 8 k) % 100)), .ref (ma (a 8 k))]) (v := .int (nI (a 18 (a 8 k) % 100))) hinX0 rfl (by decide) (by decide +kernel) rfl (Q.con (v := (a 8 k)) (by omega)) rfl dX3_pointsWithin_93 (pc' := 96) rfl ?_
                  have B_13 := IA.big I 18 (a 8 k)
                  refine j_iload C (i := 4) (x := nI y2) 7 rfl dX3_pointsWithin_96 (pc' := 98) rfl ?_
                  refine j_icmp_gt C dX3_pointsWithin_98 (tgt := 111) (by decide) (pc' := 101) rfl (fun c_14 => ?_) (fun c_14 => ?_)
                  · have c_14 := (nI_ltI (a := y2) (b := a 18 (a 8 k) % 100) (by omega) (by omega)).mp c_14
                    have c_14 : y2 < (a 18 (a 8 k) % 100) := c_14
                    refine j_iinc C (i := 7) (q := 1) (x := nI k) (v := nI (k + 1)) (l' := [(7, .int (nI (k + 1))), (8, .ref (ca (a 8 k))), (5, .long (lN m)), (0, .ref xo), (1, .int (nI x)), (2, .int (nI y)), (3, .int (nI x2)), (4, .int (nI y2))]) dX3_pointsWithin_111 (pc' := 114) rfl rfl (nI_add _ _) (by decide) rfl ?_
                    refine j_goto C dX3_pointsWithin_114 (pc' := 6) (by decide) ?_
                    exact jW.locals [0, 2, 3, 4, 5, 6, 7] rfl (ih_6 (k + 1) m (by omega) (by omega) (orN_0 hR (if_neg (fun z => by omega))))
                  · have c_14 := fun zq => c_14 ((nI_ltI (a := y2) (b := a 18 (a 8 k) % 100) (by omega) (by omega)).mpr zq)
                    have c_14 : ¬ y2 < (a 18 (a 8 k) % 100) := c_14
                    refine j_lload C (i := 5) (x := lN m) 2 rfl dX3_pointsWithin_101 (pc' := 103) rfl ?_
                    refine j_iload C (i := 7) (x := nI k) 1 rfl dX3_pointsWithin_103 (pc' := 105) rfl ?_
                    refine j_callS C (As := [.int (nI k)]) (rest := [.long (lN m)]) (c_bit X.2.1 C.2.2.2.2.2.2.2.2 G k (by omega)) (va_cwS 1 C.2.2.2.2.1 gX3_pointsWithin_X3_bit rfl rfl rfl (by decide +kernel) (by rw [hXR]; decide)) rfl rfl (Nat.le_of_ble_eq_true rfl) dX3_pointsWithin_105 (pc' := 108) rfl (by rw [hXR]; exact Nat.le_of_ble_eq_true rfl) (by rw [hXR]; exact Nat.le_of_ble_eq_true rfl) (fun _ _ z => z.elim) ?_
                    rintro r h' ⟨rfl, hh⟩
                    have hh := hh.symm
                    subst hh
                    show jW X G 9 0 0 108 [(8, .ref (ca (a 8 k))), (7, .int (nI k)), (5, .long (lN m)), (0, .ref xo), (1, .int (nI x)), (2, .int (nI y)), (3, .int (nI x2)), (4, .int (nI y2))] [.long (lN (2 ^ k)), .long (lN m)] h
                    refine j_lor C (x := lN m) (y := lN (2 ^ k)) dX3_pointsWithin_108 (pc' := 109) rfl ?_
                    refine jt_l (jl_or hm40 (p40 (by omega))) ?_
                    refine j_lstore C (i := 5) (x := lN (m ||| 2 ^ k)) (l' := [(5, .long (lN (m ||| 2 ^ k))), (8, .ref (ca (a 8 k))), (7, .int (nI k)), (0, .ref xo), (1, .int (nI x)), (2, .int (nI y)), (3, .int (nI x2)), (4, .int (nI y2))]) dX3_pointsWithin_109 (pc' := 111) rfl (by decide) rfl ?_
                    refine j_iinc C (i := 7) (q := 2) (x := nI k) (v := nI (k + 1)) (l' := [(7, .int (nI (k + 1))), (5, .long (lN (m ||| 2 ^ k))), (8, .ref (ca (a 8 k))), (0, .ref xo), (1, .int (nI x)), (2, .int (nI y)), (3, .int (nI x2)), (4, .int (nI y2))]) dX3_pointsWithin_111 (pc' := 114) rfl rfl (nI_add _ _) (by decide) rfl ?_
                    refine j_goto C dX3_pointsWithin_114 (pc' := 6) (by decide) ?_
                    exact jW.locals [0, 1, 3, 4, 5, 6, 7] rfl (ih_6 (k + 1) (m ||| 2 ^ k) (by omega) (by omega) (orN_1 hR (if_pos ⟨by omega, by omega, by omega, by omega, by omega, by omega⟩)))
  exact jW.locals [0, 1, 2, 3, 4, 5, 6] rfl (L_6 ((s 6 - (0)) + 1) 0 0 (by omega) (by omega) rfl)
