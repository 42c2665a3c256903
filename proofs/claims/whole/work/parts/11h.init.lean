theorem none_of {h g : jH} {xo q : Nat} (KP : ∀ w e, h w = some e → w ≠ xo → g w = some e) (hne : q ≠ xo) (hq : g q = none) : h q = none := by
  cases e : h q with
  | none => rfl
  | some c => rw [KP q c e hne] at hq; cases hq
set_option maxRecDepth 100000 in
set_option maxHeartbeats 4000000 in
theorem c_X3init (l : Launch) (hlt : l.stackTraces = false) (G : jG) {xo : Nat} {h : jH} (hx0 : h xo = some (.inr (4, [.null, .null, .null, .null, .null, .null, .int 0, .int 0, .int 0, .int 0, .int 0]))) (hlow : xo ≠ G.2.2.2.1)  : jM l G yX3_init wsX3_init 4 80 6 53 [.ref xo] h (fun r h' => (r = none ∧ ∃ xa, cQ G (fun _ => False) xo xa (fun _ => 0) (fun _ => 0) (fun _ => 0) (fun _ => 0) G.2.2.2.1 0 (nI 0) (fun _ => none) (fun _ => 0) (fun _ => 0) (fun _ _ => 0) s0 a0 h' ∧ (∀ i, i < 6 → h (xa i) = none) ∧ ∀ w e, h w = some e → w ≠ xo → h' w = some e)) (fun _ _ => False) := by
  refine jM_of (cc := cX3_init) (maxL := 1) (ret := none) hlt (by decide +kernel) rfl (Nat.le_of_ble_eq_true rfl) ?_
  intro X C E hXl hXR hXn
  have hinX3 : ∀ w ∈ u_ws RX3 TX3 11, w ∈ wsX3_init := by decide +kernel
  have hinX0 : ∀ w ∈ u_ws RX0 TX0 4, w ∈ wsX3_init := by decide +kernel
  have hinJx4a65c : ∀ w ∈ u_ws RJx4a65c TJx4a65c 3, w ∈ wsX3_init := by decide +kernel
  show jW X G 1 0 0 0 [(0, .ref xo)] [] h
  refine j_aload_n C (i := 0) (x := xo) 0 rfl dX3_init_0 (pc' := 1) rfl ?_
  refine j_objInit C (idx := 1) (x := xo) (by decide +kernel) (by decide +kernel) (by decide +kernel) (by rw [hXR]; decide) (by rw [hXR]; decide) dX3_init_1 (pc' := 4) rfl (Nat.le_of_ble_eq_true rfl) ?_
  have KP0 : ∀ w e, h w = some e → w ≠ xo → h w = some e := fun w e hw _ => hw
  refine j_aload_n C (i := 0) (x := xo) 0 rfl dX3_init_4 (pc' := 5) rfl ?_
  refine j_iconst C (v := nI 0) rfl dX3_init_5 (pc' := 6) rfl ?_
  refine j_newa_i C (N := 0) (by decide +kernel) rfl (Nat.le_of_ble_eq_true rfl) (by rw [hXR]; exact Nat.le_of_ble_eq_true rfl) (by rw [hXR]; exact Nat.le_of_ble_eq_true rfl) dX3_init_6 (pc' := 8) rfl ?_
  intro q0 hq0
  show jW X G 1 1 0 8 [(0, .ref xo)] [.ref q0, .ref xo] (jup h q0 (.inl (G.2.2.1.1, 0, .inl (fun _ => 0))))
  refine j_putF C (ref := "MapRevisions") (CN := RX3) (T := TX3) (N := 11) (ci := 4) (index := 7) (a := xo) (kf := 0) (fs := [.null, .null, .null, .null, .null, .null, .int 0, .int 0, .int 0, .int 0, .int 0]) (v := .ref q0) (ty := (.array .int)) hinX3 tyX3_ok nmX3 rfl (by decide) (by decide +kernel) rfl rfl hXn rfl (by decide +kernel) rfl rfl ((jup_ne (ne_none hx0 hq0)).trans hx0) (by show 0 < 11; decide) dX3_init_8 (pc' := 11) rfl ?_
  have nx_q0 : q0 ≠ xo := (ne_none hx0 hq0).symm
  have n0_q0 : h q0 = none := none_of KP0 nx_q0 hq0
  have KP1 : ∀ w e, h w = some e → w ≠ xo → (jup (jup h q0 (.inl (G.2.2.1.1, 0, .inl (fun _ => 0)))) xo (.inr (4, [.ref q0, .null, .null, .null, .null, .null, .int 0, .int 0, .int 0, .int 0, .int 0]))) w = some e := fun w e hw hne => (jup_ne hne).trans ((jup_ne (ne_none (KP0 w e hw hne) hq0)).trans (KP0 w e hw hne))
  have F1_q0 : (jup (jup h q0 (.inl (G.2.2.1.1, 0, .inl (fun _ => 0)))) xo (.inr (4, [.ref q0, .null, .null, .null, .null, .null, .int 0, .int 0, .int 0, .int 0, .int 0]))) q0 = some (.inl (G.2.2.1.1, 0, .inl (fun _ => 0))) := (jup_ne nx_q0).trans (jup_self _ _ _)
  have X1 : (jup (jup h q0 (.inl (G.2.2.1.1, 0, .inl (fun _ => 0)))) xo (.inr (4, [.ref q0, .null, .null, .null, .null, .null, .int 0, .int 0, .int 0, .int 0, .int 0]))) xo = some (.inr (4, [.ref q0, .null, .null, .null, .null, .null, .int 0, .int 0, .int 0, .int 0, .int 0])) := jup_self _ _ _
  show jW X G 1 1 0 11 [(0, .ref xo)] [] (jup (jup h q0 (.inl (G.2.2.1.1, 0, .inl (fun _ => 0)))) xo (.inr (4, [.ref q0, .null, .null, .null, .null, .null, .int 0, .int 0, .int 0, .int 0, .int 0])))
  generalize (jup (jup h q0 (.inl (G.2.2.1.1, 0, .inl (fun _ => 0)))) xo (.inr (4, [.ref q0, .null, .null, .null, .null, .null, .int 0, .int 0, .int 0, .int 0, .int 0]))) = g1 at KP1 X1 F1_q0 ⊢
  refine j_aload_n C (i := 0) (x := xo) 0 rfl dX3_init_11 (pc' := 12) rfl ?_
  refine j_new C (CN := RX0) (T := TX0) (N := 4) (ci := 1) (index := 13) (fs := [.int 0, .int 0, .int 0, .null]) hinX0 tyX0_ok (by decide +kernel) (by decide +kernel) (by decide +kernel) rfl (fun j hj => by rcases (show j = 0 ∨ j = 1 ∨ j = 2 ∨ j = 3 by omega) with rfl | rfl | rfl | rfl <;> rfl) (by rw [hXR]; exact Nat.le_of_ble_eq_true rfl) (by rw [hXR]; exact Nat.le_of_ble_eq_true rfl) dX3_init_12 (pc' := 15) rfl ?_
  intro c1 hc1
  show jW X G 1 2 4 15 [(0, .ref xo)] [.ref c1, .ref xo] (jup g1 c1 (.inr (1, [.int 0, .int 0, .int 0, .null])))
  refine j_dup C rfl dX3_init_15 (pc' := 16) rfl ?_
  refine j_iconst C (v := nI 0) rfl dX3_init_16 (pc' := 17) rfl ?_
  refine j_iconst C (v := nI 0) rfl dX3_init_17 (pc' := 18) rfl ?_
  refine j_iconst C (v := nI 0) rfl dX3_init_18 (pc' := 19) rfl ?_
  refine j_aload_n C (i := 0) (x := xo) 0 rfl dX3_init_19 (pc' := 20) rfl ?_
  refine j_get C (ref := "MapRevisions") (CN := RX3) (T := TX3) (N := 11) (ci := 4) (index := 7) (a := xo) (kf := 0) (fs := [.ref q0, .null, .null, .null, .null, .null, .int 0, .int 0, .int 0, .int 0, .int 0]) (v := .ref q0) hinX3 rfl (by decide) (by decide +kernel) rfl ((jup_ne (ne_none X1 hc1)).trans X1) rfl dX3_init_20 (pc' := 23) rfl ?_
  refine j_callI C (As := [.int (nI 0), .int (nI 0), .int (nI 0), .ref q0]) (rest := [.ref c1, .ref xo]) (c_X0_init X.2.1 C.2.2.2.2.2.2.2.2 G (jup_self _ _ _) false (nI 0) (nI 0) q0) (cwI 4 C.2.2.2.2.1 gX3_init_X0_init rfl rfl rfl (C.2.2.2.2.1 (.initialized RX0) (by decide +kernel)) (C.2.2.2.2.1 (.methodLink RX3 15 yX0_init) (by decide +kernel)) (C.2.2.2.2.1 (.instanceMethod yX0_init) (by decide +kernel)) rfl (by decide +kernel) (by rw [hXR]; decide)) rfl rfl (Nat.le_of_ble_eq_true rfl) dX3_init_23 (pc' := 26) rfl (by rw [hXR]; exact Nat.le_of_ble_eq_true rfl) (by rw [hXR]; exact Nat.le_of_ble_eq_true rfl) (fun _ _ z => z.elim) ?_
  rintro r h' ⟨rfl, rfl⟩
  refine jt_h (jup_jup _ _ _ _) ?_
  show jW X G 1 2 4 26 [(0, .ref xo)] [.ref c1, .ref xo] (jup g1 c1 (.inr (1, [.int (nI 0), .int (nI 0), .int (nI 0), .ref q0])))
  refine j_putF C (ref := "MapRevisions") (CN := RX3) (T := TX3) (N := 11) (ci := 4) (index := 18) (a := xo) (kf := 1) (fs := [.ref q0, .null, .null, .null, .null, .null, .int 0, .int 0, .int 0, .int 0, .int 0]) (v := .ref c1) (ty := (.object "MapRevisions$Content")) hinX3 tyX3_ok nmX3 rfl (by decide) (by decide +kernel) rfl rfl hXn rfl (by decide +kernel) rfl rfl ((jup_ne (ne_none X1 hc1)).trans X1) (by show 1 < 11; decide) dX3_init_26 (pc' := 29) rfl ?_
  have nx_c1 : c1 ≠ xo := (ne_none X1 hc1).symm
  have n0_c1 : h c1 = none := none_of KP1 nx_c1 hc1
  have ne_q0_c1 : q0 ≠ c1 := ne_none F1_q0 hc1
  have KP2 : ∀ w e, h w = some e → w ≠ xo → (jup (jup g1 c1 (.inr (1, [.int (nI 0), .int (nI 0), .int (nI 0), .ref q0]))) xo (.inr (4, [.ref q0, .ref c1, .null, .null, .null, .null, .int 0, .int 0, .int 0, .int 0, .int 0]))) w = some e := fun w e hw hne => (jup_ne hne).trans ((jup_ne (ne_none (KP1 w e hw hne) hc1)).trans (KP1 w e hw hne))
  have F2_q0 : (jup (jup g1 c1 (.inr (1, [.int (nI 0), .int (nI 0), .int (nI 0), .ref q0]))) xo (.inr (4, [.ref q0, .ref c1, .null, .null, .null, .null, .int 0, .int 0, .int 0, .int 0, .int 0]))) q0 = some (.inl (G.2.2.1.1, 0, .inl (fun _ => 0))) := (jup_ne nx_q0).trans ((jup_ne ne_q0_c1).trans F1_q0)
  have F2_c1 : (jup (jup g1 c1 (.inr (1, [.int (nI 0), .int (nI 0), .int (nI 0), .ref q0]))) xo (.inr (4, [.ref q0, .ref c1, .null, .null, .null, .null, .int 0, .int 0, .int 0, .int 0, .int 0]))) c1 = some (.inr (1, [.int (nI 0), .int (nI 0), .int (nI 0), .ref q0])) := (jup_ne nx_c1).trans (jup_self _ _ _)
  have X2 : (jup (jup g1 c1 (.inr (1, [.int (nI 0), .int (nI 0), .int (nI 0), .ref q0]))) xo (.inr (4, [.ref q0, .ref c1, .null, .null, .null, .null, .int 0, .int 0, .int 0, .int 0, .int 0]))) xo = some (.inr (4, [.ref q0, .ref c1, .null, .null, .null, .null, .int 0, .int 0, .int 0, .int 0, .int 0])) := jup_self _ _ _
  show jW X G 1 2 4 29 [(0, .ref xo)] [] (jup (jup g1 c1 (.inr (1, [.int (nI 0), .int (nI 0), .int (nI 0), .ref q0]))) xo (.inr (4, [.ref q0, .ref c1, .null, .null, .null, .null, .int 0, .int 0, .int 0, .int 0, .int 0])))
  generalize (jup (jup g1 c1 (.inr (1, [.int (nI 0), .int (nI 0), .int (nI 0), .ref q0]))) xo (.inr (4, [.ref q0, .ref c1, .null, .null, .null, .null, .int 0, .int 0, .int 0, .int 0, .int 0]))) = g2 at KP2 X2 F2_q0 F2_c1 ⊢
  refine j_aload_n C (i := 0) (x := xo) 0 rfl dX3_init_29 (pc' := 30) rfl ?_
  refine j_new C (CN := RJx4a65c) (T := TJx4a65c) (N := 3) (ci := 0) (index := 22) (fs := [.int 0, .null, .int 0]) hinJx4a65c tyJx4a65c_ok (by decide +kernel) (by decide +kernel) (by decide +kernel) rfl (fun j hj => by rcases (show j = 0 ∨ j = 1 ∨ j = 2 by omega) with rfl | rfl | rfl <;> rfl) (by rw [hXR]; exact Nat.le_of_ble_eq_true rfl) (by rw [hXR]; exact Nat.le_of_ble_eq_true rfl) dX3_init_30 (pc' := 33) rfl ?_
  intro L hL
  show jW X G 1 3 7 33 [(0, .ref xo)] [.ref L, .ref xo] (jup g2 L (.inr (0, [.int 0, .null, .int 0])))
  refine j_dup C rfl dX3_init_33 (pc' := 34) rfl ?_
  refine j_callI C (As := []) (rest := [.ref L, .ref xo]) (c_listInit X.2.1 C.2.2.2.2.2.2.2.2 G (jup_self _ _ _)) (cwI 0 C.2.2.2.2.1 gX3_init_Jx4a65c_init_da8c8 rfl rfl rfl (C.2.2.2.2.1 (.initialized RJx4a65c) (by decide +kernel)) (C.2.2.2.2.1 (.methodLink RX3 24 yJx4a65c_init_da8c8) (by decide +kernel)) (C.2.2.2.2.1 (.instanceMethod yJx4a65c_init_da8c8) (by decide +kernel)) rfl (by decide +kernel) (by rw [hXR]; decide)) rfl rfl (Nat.le_of_ble_eq_true rfl) dX3_init_34 (pc' := 37) rfl (by rw [hXR]; exact Nat.le_of_ble_eq_true rfl) (by rw [hXR]; exact Nat.le_of_ble_eq_true rfl) (fun _ _ z => z.elim) ?_
  rintro r h' ⟨rfl, rfl⟩
  refine jt_h (jup_jup _ _ _ _) ?_
  show jW X G 1 3 7 37 [(0, .ref xo)] [.ref L, .ref xo] (jup g2 L (.inr (0, [.int (nI 0), .ref G.2.2.2.1, .int 0])))
  refine j_putF C (ref := "MapRevisions") (CN := RX3) (T := TX3) (N := 11) (ci := 4) (index := 25) (a := xo) (kf := 2) (fs := [.ref q0, .ref c1, .null, .null, .null, .null, .int 0, .int 0, .int 0, .int 0, .int 0]) (v := .ref L) (ty := (.object "java/util/ArrayList")) hinX3 tyX3_ok nmX3 rfl (by decide) (by decide +kernel) rfl rfl hXn rfl (by decide +kernel) rfl rfl ((jup_ne (ne_none X2 hL)).trans X2) (by show 2 < 11; decide) dX3_init_37 (pc' := 40) rfl ?_
  have nx_L : L ≠ xo := (ne_none X2 hL).symm
  have n0_L : h L = none := none_of KP2 nx_L hL
  have ne_q0_L : q0 ≠ L := ne_none F2_q0 hL
  have ne_c1_L : c1 ≠ L := ne_none F2_c1 hL
  have KP3 : ∀ w e, h w = some e → w ≠ xo → (jup (jup g2 L (.inr (0, [.int (nI 0), .ref G.2.2.2.1, .int 0]))) xo (.inr (4, [.ref q0, .ref c1, .ref L, .null, .null, .null, .int 0, .int 0, .int 0, .int 0, .int 0]))) w = some e := fun w e hw hne => (jup_ne hne).trans ((jup_ne (ne_none (KP2 w e hw hne) hL)).trans (KP2 w e hw hne))
  have F3_q0 : (jup (jup g2 L (.inr (0, [.int (nI 0), .ref G.2.2.2.1, .int 0]))) xo (.inr (4, [.ref q0, .ref c1, .ref L, .null, .null, .null, .int 0, .int 0, .int 0, .int 0, .int 0]))) q0 = some (.inl (G.2.2.1.1, 0, .inl (fun _ => 0))) := (jup_ne nx_q0).trans ((jup_ne ne_q0_L).trans F2_q0)
  have F3_c1 : (jup (jup g2 L (.inr (0, [.int (nI 0), .ref G.2.2.2.1, .int 0]))) xo (.inr (4, [.ref q0, .ref c1, .ref L, .null, .null, .null, .int 0, .int 0, .int 0, .int 0, .int 0]))) c1 = some (.inr (1, [.int (nI 0), .int (nI 0), .int (nI 0), .ref q0])) := (jup_ne nx_c1).trans ((jup_ne ne_c1_L).trans F2_c1)
  have F3_L : (jup (jup g2 L (.inr (0, [.int (nI 0), .ref G.2.2.2.1, .int 0]))) xo (.inr (4, [.ref q0, .ref c1, .ref L, .null, .null, .null, .int 0, .int 0, .int 0, .int 0, .int 0]))) L = some (.inr (0, [.int (nI 0), .ref G.2.2.2.1, .int 0])) := (jup_ne nx_L).trans (jup_self _ _ _)
  have X3 : (jup (jup g2 L (.inr (0, [.int (nI 0), .ref G.2.2.2.1, .int 0]))) xo (.inr (4, [.ref q0, .ref c1, .ref L, .null, .null, .null, .int 0, .int 0, .int 0, .int 0, .int 0]))) xo = some (.inr (4, [.ref q0, .ref c1, .ref L, .null, .null, .null, .int 0, .int 0, .int 0, .int 0, .int 0])) := jup_self _ _ _
  show jW X G 1 3 7 40 [(0, .ref xo)] [] (jup (jup g2 L (.inr (0, [.int (nI 0), .ref G.2.2.2.1, .int 0]))) xo (.inr (4, [.ref q0, .ref c1, .ref L, .null, .null, .null, .int 0, .int 0, .int 0, .int 0, .int 0])))
  generalize (jup (jup g2 L (.inr (0, [.int (nI 0), .ref G.2.2.2.1, .int 0]))) xo (.inr (4, [.ref q0, .ref c1, .ref L, .null, .null, .null, .int 0, .int 0, .int 0, .int 0, .int 0]))) = g3 at KP3 X3 F3_q0 F3_c1 F3_L ⊢
  refine j_aload_n C (i := 0) (x := xo) 0 rfl dX3_init_40 (pc' := 41) rfl ?_
  refine j_bipush C (v := nI 20) rfl dX3_init_41 (pc' := 43) rfl ?_
  refine j_newa_z C (N := 20) (by decide +kernel) rfl (Nat.le_of_ble_eq_true rfl) (by rw [hXR]; exact Nat.le_of_ble_eq_true rfl) (by rw [hXR]; exact Nat.le_of_ble_eq_true rfl) dX3_init_43 (pc' := 45) rfl ?_
  intro q3 hq3
  show jW X G 1 4 27 45 [(0, .ref xo)] [.ref q3, .ref xo] (jup g3 q3 (.inl (G.2.2.1.2.1, 20, .inl (fun _ => 0))))
  refine j_putF C (ref := "MapRevisions") (CN := RX3) (T := TX3) (N := 11) (ci := 4) (index := 29) (a := xo) (kf := 3) (fs := [.ref q0, .ref c1, .ref L, .null, .null, .null, .int 0, .int 0, .int 0, .int 0, .int 0]) (v := .ref q3) (ty := (.array .boolean)) hinX3 tyX3_ok nmX3 rfl (by decide) (by decide +kernel) rfl rfl hXn rfl (by decide +kernel) rfl rfl ((jup_ne (ne_none X3 hq3)).trans X3) (by show 3 < 11; decide) dX3_init_45 (pc' := 48) rfl ?_
  have nx_q3 : q3 ≠ xo := (ne_none X3 hq3).symm
  have n0_q3 : h q3 = none := none_of KP3 nx_q3 hq3
  have ne_q0_q3 : q0 ≠ q3 := ne_none F3_q0 hq3
  have ne_c1_q3 : c1 ≠ q3 := ne_none F3_c1 hq3
  have ne_L_q3 : L ≠ q3 := ne_none F3_L hq3
  have KP4 : ∀ w e, h w = some e → w ≠ xo → (jup (jup g3 q3 (.inl (G.2.2.1.2.1, 20, .inl (fun _ => 0)))) xo (.inr (4, [.ref q0, .ref c1, .ref L, .ref q3, .null, .null, .int 0, .int 0, .int 0, .int 0, .int 0]))) w = some e := fun w e hw hne => (jup_ne hne).trans ((jup_ne (ne_none (KP3 w e hw hne) hq3)).trans (KP3 w e hw hne))
  have F4_q0 : (jup (jup g3 q3 (.inl (G.2.2.1.2.1, 20, .inl (fun _ => 0)))) xo (.inr (4, [.ref q0, .ref c1, .ref L, .ref q3, .null, .null, .int 0, .int 0, .int 0, .int 0, .int 0]))) q0 = some (.inl (G.2.2.1.1, 0, .inl (fun _ => 0))) := (jup_ne nx_q0).trans ((jup_ne ne_q0_q3).trans F3_q0)
  have F4_c1 : (jup (jup g3 q3 (.inl (G.2.2.1.2.1, 20, .inl (fun _ => 0)))) xo (.inr (4, [.ref q0, .ref c1, .ref L, .ref q3, .null, .null, .int 0, .int 0, .int 0, .int 0, .int 0]))) c1 = some (.inr (1, [.int (nI 0), .int (nI 0), .int (nI 0), .ref q0])) := (jup_ne nx_c1).trans ((jup_ne ne_c1_q3).trans F3_c1)
  have F4_L : (jup (jup g3 q3 (.inl (G.2.2.1.2.1, 20, .inl (fun _ => 0)))) xo (.inr (4, [.ref q0, .ref c1, .ref L, .ref q3, .null, .null, .int 0, .int 0, .int 0, .int 0, .int 0]))) L = some (.inr (0, [.int (nI 0), .ref G.2.2.2.1, .int 0])) := (jup_ne nx_L).trans ((jup_ne ne_L_q3).trans F3_L)
  have F4_q3 : (jup (jup g3 q3 (.inl (G.2.2.1.2.1, 20, .inl (fun _ => 0)))) xo (.inr (4, [.ref q0, .ref c1, .ref L, .ref q3, .null, .null, .int 0, .int 0, .int 0, .int 0, .int 0]))) q3 = some (.inl (G.2.2.1.2.1, 20, .inl (fun _ => 0))) := (jup_ne nx_q3).trans (jup_self _ _ _)
  have X4 : (jup (jup g3 q3 (.inl (G.2.2.1.2.1, 20, .inl (fun _ => 0)))) xo (.inr (4, [.ref q0, .ref c1, .ref L, .ref q3, .null, .null, .int 0, .int 0, .int 0, .int 0, .int 0]))) xo = some (.inr (4, [.ref q0, .ref c1, .ref L, .ref q3, .null, .null, .int 0, .int 0, .int 0, .int 0, .int 0])) := jup_self _ _ _
  show jW X G 1 4 27 48 [(0, .ref xo)] [] (jup (jup g3 q3 (.inl (G.2.2.1.2.1, 20, .inl (fun _ => 0)))) xo (.inr (4, [.ref q0, .ref c1, .ref L, .ref q3, .null, .null, .int 0, .int 0, .int 0, .int 0, .int 0])))
  generalize (jup (jup g3 q3 (.inl (G.2.2.1.2.1, 20, .inl (fun _ => 0)))) xo (.inr (4, [.ref q0, .ref c1, .ref L, .ref q3, .null, .null, .int 0, .int 0, .int 0, .int 0, .int 0]))) = g4 at KP4 X4 F4_q0 F4_c1 F4_L F4_q3 ⊢
  refine j_aload_n C (i := 0) (x := xo) 0 rfl dX3_init_48 (pc' := 49) rfl ?_
  refine j_bipush C (v := nI 20) rfl dX3_init_49 (pc' := 51) rfl ?_
  refine j_newa_i C (N := 20) (by decide +kernel) rfl (Nat.le_of_ble_eq_true rfl) (by rw [hXR]; exact Nat.le_of_ble_eq_true rfl) (by rw [hXR]; exact Nat.le_of_ble_eq_true rfl) dX3_init_51 (pc' := 53) rfl ?_
  intro q4 hq4
  show jW X G 1 5 47 53 [(0, .ref xo)] [.ref q4, .ref xo] (jup g4 q4 (.inl (G.2.2.1.1, 20, .inl (fun _ => 0))))
  refine j_putF C (ref := "MapRevisions") (CN := RX3) (T := TX3) (N := 11) (ci := 4) (index := 33) (a := xo) (kf := 4) (fs := [.ref q0, .ref c1, .ref L, .ref q3, .null, .null, .int 0, .int 0, .int 0, .int 0, .int 0]) (v := .ref q4) (ty := (.array .int)) hinX3 tyX3_ok nmX3 rfl (by decide) (by decide +kernel) rfl rfl hXn rfl (by decide +kernel) rfl rfl ((jup_ne (ne_none X4 hq4)).trans X4) (by show 4 < 11; decide) dX3_init_53 (pc' := 56) rfl ?_
  have nx_q4 : q4 ≠ xo := (ne_none X4 hq4).symm
  have n0_q4 : h q4 = none := none_of KP4 nx_q4 hq4
  have ne_q0_q4 : q0 ≠ q4 := ne_none F4_q0 hq4
  have ne_c1_q4 : c1 ≠ q4 := ne_none F4_c1 hq4
  have ne_L_q4 : L ≠ q4 := ne_none F4_L hq4
  have ne_q3_q4 : q3 ≠ q4 := ne_none F4_q3 hq4
  have KP5 : ∀ w e, h w = some e → w ≠ xo → (jup (jup g4 q4 (.inl (G.2.2.1.1, 20, .inl (fun _ => 0)))) xo (.inr (4, [.ref q0, .ref c1, .ref L, .ref q3, .ref q4, .null, .int 0, .int 0, .int 0, .int 0, .int 0]))) w = some e := fun w e hw hne => (jup_ne hne).trans ((jup_ne (ne_none (KP4 w e hw hne) hq4)).trans (KP4 w e hw hne))
  have F5_q0 : (jup (jup g4 q4 (.inl (G.2.2.1.1, 20, .inl (fun _ => 0)))) xo (.inr (4, [.ref q0, .ref c1, .ref L, .ref q3, .ref q4, .null, .int 0, .int 0, .int 0, .int 0, .int 0]))) q0 = some (.inl (G.2.2.1.1, 0, .inl (fun _ => 0))) := (jup_ne nx_q0).trans ((jup_ne ne_q0_q4).trans F4_q0)
  have F5_c1 : (jup (jup g4 q4 (.inl (G.2.2.1.1, 20, .inl (fun _ => 0)))) xo (.inr (4, [.ref q0, .ref c1, .ref L, .ref q3, .ref q4, .null, .int 0, .int 0, .int 0, .int 0, .int 0]))) c1 = some (.inr (1, [.int (nI 0), .int (nI 0), .int (nI 0), .ref q0])) := (jup_ne nx_c1).trans ((jup_ne ne_c1_q4).trans F4_c1)
  have F5_L : (jup (jup g4 q4 (.inl (G.2.2.1.1, 20, .inl (fun _ => 0)))) xo (.inr (4, [.ref q0, .ref c1, .ref L, .ref q3, .ref q4, .null, .int 0, .int 0, .int 0, .int 0, .int 0]))) L = some (.inr (0, [.int (nI 0), .ref G.2.2.2.1, .int 0])) := (jup_ne nx_L).trans ((jup_ne ne_L_q4).trans F4_L)
  have F5_q3 : (jup (jup g4 q4 (.inl (G.2.2.1.1, 20, .inl (fun _ => 0)))) xo (.inr (4, [.ref q0, .ref c1, .ref L, .ref q3, .ref q4, .null, .int 0, .int 0, .int 0, .int 0, .int 0]))) q3 = some (.inl (G.2.2.1.2.1, 20, .inl (fun _ => 0))) := (jup_ne nx_q3).trans ((jup_ne ne_q3_q4).trans F4_q3)
  have F5_q4 : (jup (jup g4 q4 (.inl (G.2.2.1.1, 20, .inl (fun _ => 0)))) xo (.inr (4, [.ref q0, .ref c1, .ref L, .ref q3, .ref q4, .null, .int 0, .int 0, .int 0, .int 0, .int 0]))) q4 = some (.inl (G.2.2.1.1, 20, .inl (fun _ => 0))) := (jup_ne nx_q4).trans (jup_self _ _ _)
  have X5 : (jup (jup g4 q4 (.inl (G.2.2.1.1, 20, .inl (fun _ => 0)))) xo (.inr (4, [.ref q0, .ref c1, .ref L, .ref q3, .ref q4, .null, .int 0, .int 0, .int 0, .int 0, .int 0]))) xo = some (.inr (4, [.ref q0, .ref c1, .ref L, .ref q3, .ref q4, .null, .int 0, .int 0, .int 0, .int 0, .int 0])) := jup_self _ _ _
  show jW X G 1 5 47 56 [(0, .ref xo)] [] (jup (jup g4 q4 (.inl (G.2.2.1.1, 20, .inl (fun _ => 0)))) xo (.inr (4, [.ref q0, .ref c1, .ref L, .ref q3, .ref q4, .null, .int 0, .int 0, .int 0, .int 0, .int 0])))
  generalize (jup (jup g4 q4 (.inl (G.2.2.1.1, 20, .inl (fun _ => 0)))) xo (.inr (4, [.ref q0, .ref c1, .ref L, .ref q3, .ref q4, .null, .int 0, .int 0, .int 0, .int 0, .int 0]))) = g5 at KP5 X5 F5_q0 F5_c1 F5_L F5_q3 F5_q4 ⊢
  refine j_aload_n C (i := 0) (x := xo) 0 rfl dX3_init_56 (pc' := 57) rfl ?_
  refine j_bipush C (v := nI 6) rfl dX3_init_57 (pc' := 59) rfl ?_
  refine j_newa_i C (N := 6) (by decide +kernel) rfl (Nat.le_of_ble_eq_true rfl) (by rw [hXR]; exact Nat.le_of_ble_eq_true rfl) (by rw [hXR]; exact Nat.le_of_ble_eq_true rfl) dX3_init_59 (pc' := 61) rfl ?_
  intro q5 hq5
  show jW X G 1 6 53 61 [(0, .ref xo)] [.ref q5, .ref xo] (jup g5 q5 (.inl (G.2.2.1.1, 6, .inl (fun _ => 0))))
  refine j_putF C (ref := "MapRevisions") (CN := RX3) (T := TX3) (N := 11) (ci := 4) (index := 36) (a := xo) (kf := 5) (fs := [.ref q0, .ref c1, .ref L, .ref q3, .ref q4, .null, .int 0, .int 0, .int 0, .int 0, .int 0]) (v := .ref q5) (ty := (.array .int)) hinX3 tyX3_ok nmX3 rfl (by decide) (by decide +kernel) rfl rfl hXn rfl (by decide +kernel) rfl rfl ((jup_ne (ne_none X5 hq5)).trans X5) (by show 5 < 11; decide) dX3_init_61 (pc' := 64) rfl ?_
  have nx_q5 : q5 ≠ xo := (ne_none X5 hq5).symm
  have n0_q5 : h q5 = none := none_of KP5 nx_q5 hq5
  have ne_q0_q5 : q0 ≠ q5 := ne_none F5_q0 hq5
  have ne_c1_q5 : c1 ≠ q5 := ne_none F5_c1 hq5
  have ne_L_q5 : L ≠ q5 := ne_none F5_L hq5
  have ne_q3_q5 : q3 ≠ q5 := ne_none F5_q3 hq5
  have ne_q4_q5 : q4 ≠ q5 := ne_none F5_q4 hq5
  have KP6 : ∀ w e, h w = some e → w ≠ xo → (jup (jup g5 q5 (.inl (G.2.2.1.1, 6, .inl (fun _ => 0)))) xo (.inr (4, [.ref q0, .ref c1, .ref L, .ref q3, .ref q4, .ref q5, .int 0, .int 0, .int 0, .int 0, .int 0]))) w = some e := fun w e hw hne => (jup_ne hne).trans ((jup_ne (ne_none (KP5 w e hw hne) hq5)).trans (KP5 w e hw hne))
  have F6_q0 : (jup (jup g5 q5 (.inl (G.2.2.1.1, 6, .inl (fun _ => 0)))) xo (.inr (4, [.ref q0, .ref c1, .ref L, .ref q3, .ref q4, .ref q5, .int 0, .int 0, .int 0, .int 0, .int 0]))) q0 = some (.inl (G.2.2.1.1, 0, .inl (fun _ => 0))) := (jup_ne nx_q0).trans ((jup_ne ne_q0_q5).trans F5_q0)
  have F6_c1 : (jup (jup g5 q5 (.inl (G.2.2.1.1, 6, .inl (fun _ => 0)))) xo (.inr (4, [.ref q0, .ref c1, .ref L, .ref q3, .ref q4, .ref q5, .int 0, .int 0, .int 0, .int 0, .int 0]))) c1 = some (.inr (1, [.int (nI 0), .int (nI 0), .int (nI 0), .ref q0])) := (jup_ne nx_c1).trans ((jup_ne ne_c1_q5).trans F5_c1)
  have F6_L : (jup (jup g5 q5 (.inl (G.2.2.1.1, 6, .inl (fun _ => 0)))) xo (.inr (4, [.ref q0, .ref c1, .ref L, .ref q3, .ref q4, .ref q5, .int 0, .int 0, .int 0, .int 0, .int 0]))) L = some (.inr (0, [.int (nI 0), .ref G.2.2.2.1, .int 0])) := (jup_ne nx_L).trans ((jup_ne ne_L_q5).trans F5_L)
  have F6_q3 : (jup (jup g5 q5 (.inl (G.2.2.1.1, 6, .inl (fun _ => 0)))) xo (.inr (4, [.ref q0, .ref c1, .ref L, .ref q3, .ref q4, .ref q5, .int 0, .int 0, .int 0, .int 0, .int 0]))) q3 = some (.inl (G.2.2.1.2.1, 20, .inl (fun _ => 0))) := (jup_ne nx_q3).trans ((jup_ne ne_q3_q5).trans F5_q3)
  have F6_q4 : (jup (jup g5 q5 (.inl (G.2.2.1.1, 6, .inl (fun _ => 0)))) xo (.inr (4, [.ref q0, .ref c1, .ref L, .ref q3, .ref q4, .ref q5, .int 0, .int 0, .int 0, .int 0, .int 0]))) q4 = some (.inl (G.2.2.1.1, 20, .inl (fun _ => 0))) := (jup_ne nx_q4).trans ((jup_ne ne_q4_q5).trans F5_q4)
  have F6_q5 : (jup (jup g5 q5 (.inl (G.2.2.1.1, 6, .inl (fun _ => 0)))) xo (.inr (4, [.ref q0, .ref c1, .ref L, .ref q3, .ref q4, .ref q5, .int 0, .int 0, .int 0, .int 0, .int 0]))) q5 = some (.inl (G.2.2.1.1, 6, .inl (fun _ => 0))) := (jup_ne nx_q5).trans (jup_self _ _ _)
  have X6 : (jup (jup g5 q5 (.inl (G.2.2.1.1, 6, .inl (fun _ => 0)))) xo (.inr (4, [.ref q0, .ref c1, .ref L, .ref q3, .ref q4, .ref q5, .int 0, .int 0, .int 0, .int 0, .int 0]))) xo = some (.inr (4, [.ref q0, .ref c1, .ref L, .ref q3, .ref q4, .ref q5, .int 0, .int 0, .int 0, .int 0, .int 0])) := jup_self _ _ _
  show jW X G 1 6 53 64 [(0, .ref xo)] [] (jup (jup g5 q5 (.inl (G.2.2.1.1, 6, .inl (fun _ => 0)))) xo (.inr (4, [.ref q0, .ref c1, .ref L, .ref q3, .ref q4, .ref q5, .int 0, .int 0, .int 0, .int 0, .int 0])))
  generalize (jup (jup g5 q5 (.inl (G.2.2.1.1, 6, .inl (fun _ => 0)))) xo (.inr (4, [.ref q0, .ref c1, .ref L, .ref q3, .ref q4, .ref q5, .int 0, .int 0, .int 0, .int 0, .int 0]))) = g6 at KP6 X6 F6_q0 F6_c1 F6_L F6_q3 F6_q4 F6_q5 ⊢
  refine j_aload_n C (i := 0) (x := xo) 0 rfl dX3_init_64 (pc' := 65) rfl ?_
  refine j_iconst C (v := nI 0) rfl dX3_init_65 (pc' := 66) rfl ?_
  refine j_put C (ref := "MapRevisions") (CN := RX3) (T := TX3) (N := 11) (ci := 4) (index := 39) (a := xo) (kf := 6) (fs := [.ref q0, .ref c1, .ref L, .ref q3, .ref q4, .ref q5, .int 0, .int 0, .int 0, .int 0, .int 0]) (v := .int (nI 0)) (ty := .int) hinX3 tyX3_ok nmX3 rfl (by decide) (by decide +kernel) rfl rfl (by decide +kernel) rfl rfl X6 (by show 6 < 11; decide) dX3_init_66 (pc' := 69) rfl ?_
  have KP7 : ∀ w e, h w = some e → w ≠ xo → (jup g6 xo (.inr (4, [.ref q0, .ref c1, .ref L, .ref q3, .ref q4, .ref q5, .int (nI 0), .int 0, .int 0, .int 0, .int 0]))) w = some e := fun w e hw hne => (jup_ne hne).trans (KP6 w e hw hne)
  have F7_q0 : (jup g6 xo (.inr (4, [.ref q0, .ref c1, .ref L, .ref q3, .ref q4, .ref q5, .int (nI 0), .int 0, .int 0, .int 0, .int 0]))) q0 = some (.inl (G.2.2.1.1, 0, .inl (fun _ => 0))) := (jup_ne nx_q0).trans F6_q0
  have F7_c1 : (jup g6 xo (.inr (4, [.ref q0, .ref c1, .ref L, .ref q3, .ref q4, .ref q5, .int (nI 0), .int 0, .int 0, .int 0, .int 0]))) c1 = some (.inr (1, [.int (nI 0), .int (nI 0), .int (nI 0), .ref q0])) := (jup_ne nx_c1).trans F6_c1
  have F7_L : (jup g6 xo (.inr (4, [.ref q0, .ref c1, .ref L, .ref q3, .ref q4, .ref q5, .int (nI 0), .int 0, .int 0, .int 0, .int 0]))) L = some (.inr (0, [.int (nI 0), .ref G.2.2.2.1, .int 0])) := (jup_ne nx_L).trans F6_L
  have F7_q3 : (jup g6 xo (.inr (4, [.ref q0, .ref c1, .ref L, .ref q3, .ref q4, .ref q5, .int (nI 0), .int 0, .int 0, .int 0, .int 0]))) q3 = some (.inl (G.2.2.1.2.1, 20, .inl (fun _ => 0))) := (jup_ne nx_q3).trans F6_q3
  have F7_q4 : (jup g6 xo (.inr (4, [.ref q0, .ref c1, .ref L, .ref q3, .ref q4, .ref q5, .int (nI 0), .int 0, .int 0, .int 0, .int 0]))) q4 = some (.inl (G.2.2.1.1, 20, .inl (fun _ => 0))) := (jup_ne nx_q4).trans F6_q4
  have F7_q5 : (jup g6 xo (.inr (4, [.ref q0, .ref c1, .ref L, .ref q3, .ref q4, .ref q5, .int (nI 0), .int 0, .int 0, .int 0, .int 0]))) q5 = some (.inl (G.2.2.1.1, 6, .inl (fun _ => 0))) := (jup_ne nx_q5).trans F6_q5
  have X7 : (jup g6 xo (.inr (4, [.ref q0, .ref c1, .ref L, .ref q3, .ref q4, .ref q5, .int (nI 0), .int 0, .int 0, .int 0, .int 0]))) xo = some (.inr (4, [.ref q0, .ref c1, .ref L, .ref q3, .ref q4, .ref q5, .int (nI 0), .int 0, .int 0, .int 0, .int 0])) := jup_self _ _ _
  show jW X G 1 6 53 69 [(0, .ref xo)] [] (jup g6 xo (.inr (4, [.ref q0, .ref c1, .ref L, .ref q3, .ref q4, .ref q5, .int (nI 0), .int 0, .int 0, .int 0, .int 0])))
  generalize (jup g6 xo (.inr (4, [.ref q0, .ref c1, .ref L, .ref q3, .ref q4, .ref q5, .int (nI 0), .int 0, .int 0, .int 0, .int 0]))) = g7 at KP7 X7 F7_q0 F7_c1 F7_L F7_q3 F7_q4 F7_q5 ⊢
  refine j_aload_n C (i := 0) (x := xo) 0 rfl dX3_init_69 (pc' := 70) rfl ?_
  refine j_iconst C (v := nI 0) rfl dX3_init_70 (pc' := 71) rfl ?_
  refine j_put C (ref := "MapRevisions") (CN := RX3) (T := TX3) (N := 11) (ci := 4) (index := 43) (a := xo) (kf := 7) (fs := [.ref q0, .ref c1, .ref L, .ref q3, .ref q4, .ref q5, .int (nI 0), .int 0, .int 0, .int 0, .int 0]) (v := .int (nI 0)) (ty := .int) hinX3 tyX3_ok nmX3 rfl (by decide) (by decide +kernel) rfl rfl (by decide +kernel) rfl rfl X7 (by show 7 < 11; decide) dX3_init_71 (pc' := 74) rfl ?_
  have KP8 : ∀ w e, h w = some e → w ≠ xo → (jup g7 xo (.inr (4, [.ref q0, .ref c1, .ref L, .ref q3, .ref q4, .ref q5, .int (nI 0), .int (nI 0), .int 0, .int 0, .int 0]))) w = some e := fun w e hw hne => (jup_ne hne).trans (KP7 w e hw hne)
  have F8_q0 : (jup g7 xo (.inr (4, [.ref q0, .ref c1, .ref L, .ref q3, .ref q4, .ref q5, .int (nI 0), .int (nI 0), .int 0, .int 0, .int 0]))) q0 = some (.inl (G.2.2.1.1, 0, .inl (fun _ => 0))) := (jup_ne nx_q0).trans F7_q0
  have F8_c1 : (jup g7 xo (.inr (4, [.ref q0, .ref c1, .ref L, .ref q3, .ref q4, .ref q5, .int (nI 0), .int (nI 0), .int 0, .int 0, .int 0]))) c1 = some (.inr (1, [.int (nI 0), .int (nI 0), .int (nI 0), .ref q0])) := (jup_ne nx_c1).trans F7_c1
  have F8_L : (jup g7 xo (.inr (4, [.ref q0, .ref c1, .ref L, .ref q3, .ref q4, .ref q5, .int (nI 0), .int (nI 0), .int 0, .int 0, .int 0]))) L = some (.inr (0, [.int (nI 0), .ref G.2.2.2.1, .int 0])) := (jup_ne nx_L).trans F7_L
  have F8_q3 : (jup g7 xo (.inr (4, [.ref q0, .ref c1, .ref L, .ref q3, .ref q4, .ref q5, .int (nI 0), .int (nI 0), .int 0, .int 0, .int 0]))) q3 = some (.inl (G.2.2.1.2.1, 20, .inl (fun _ => 0))) := (jup_ne nx_q3).trans F7_q3
  have F8_q4 : (jup g7 xo (.inr (4, [.ref q0, .ref c1, .ref L, .ref q3, .ref q4, .ref q5, .int (nI 0), .int (nI 0), .int 0, .int 0, .int 0]))) q4 = some (.inl (G.2.2.1.1, 20, .inl (fun _ => 0))) := (jup_ne nx_q4).trans F7_q4
  have F8_q5 : (jup g7 xo (.inr (4, [.ref q0, .ref c1, .ref L, .ref q3, .ref q4, .ref q5, .int (nI 0), .int (nI 0), .int 0, .int 0, .int 0]))) q5 = some (.inl (G.2.2.1.1, 6, .inl (fun _ => 0))) := (jup_ne nx_q5).trans F7_q5
  have X8 : (jup g7 xo (.inr (4, [.ref q0, .ref c1, .ref L, .ref q3, .ref q4, .ref q5, .int (nI 0), .int (nI 0), .int 0, .int 0, .int 0]))) xo = some (.inr (4, [.ref q0, .ref c1, .ref L, .ref q3, .ref q4, .ref q5, .int (nI 0), .int (nI 0), .int 0, .int 0, .int 0])) := jup_self _ _ _
  show jW X G 1 6 53 74 [(0, .ref xo)] [] (jup g7 xo (.inr (4, [.ref q0, .ref c1, .ref L, .ref q3, .ref q4, .ref q5, .int (nI 0), .int (nI 0), .int 0, .int 0, .int 0])))
  generalize (jup g7 xo (.inr (4, [.ref q0, .ref c1, .ref L, .ref q3, .ref q4, .ref q5, .int (nI 0), .int (nI 0), .int 0, .int 0, .int 0]))) = g8 at KP8 X8 F8_q0 F8_c1 F8_L F8_q3 F8_q4 F8_q5 ⊢
  refine j_aload_n C (i := 0) (x := xo) 0 rfl dX3_init_74 (pc' := 75) rfl ?_
  refine j_iconst C (v := nI 0) rfl dX3_init_75 (pc' := 76) rfl ?_
  refine j_put C (ref := "MapRevisions") (CN := RX3) (T := TX3) (N := 11) (ci := 4) (index := 46) (a := xo) (kf := 8) (fs := [.ref q0, .ref c1, .ref L, .ref q3, .ref q4, .ref q5, .int (nI 0), .int (nI 0), .int 0, .int 0, .int 0]) (v := .int (nI 0)) (ty := .int) hinX3 tyX3_ok nmX3 rfl (by decide) (by decide +kernel) rfl rfl (by decide +kernel) rfl rfl X8 (by show 8 < 11; decide) dX3_init_76 (pc' := 79) rfl ?_
  have KP9 : ∀ w e, h w = some e → w ≠ xo → (jup g8 xo (.inr (4, [.ref q0, .ref c1, .ref L, .ref q3, .ref q4, .ref q5, .int (nI 0), .int (nI 0), .int (nI 0), .int 0, .int 0]))) w = some e := fun w e hw hne => (jup_ne hne).trans (KP8 w e hw hne)
  have F9_q0 : (jup g8 xo (.inr (4, [.ref q0, .ref c1, .ref L, .ref q3, .ref q4, .ref q5, .int (nI 0), .int (nI 0), .int (nI 0), .int 0, .int 0]))) q0 = some (.inl (G.2.2.1.1, 0, .inl (fun _ => 0))) := (jup_ne nx_q0).trans F8_q0
  have F9_c1 : (jup g8 xo (.inr (4, [.ref q0, .ref c1, .ref L, .ref q3, .ref q4, .ref q5, .int (nI 0), .int (nI 0), .int (nI 0), .int 0, .int 0]))) c1 = some (.inr (1, [.int (nI 0), .int (nI 0), .int (nI 0), .ref q0])) := (jup_ne nx_c1).trans F8_c1
  have F9_L : (jup g8 xo (.inr (4, [.ref q0, .ref c1, .ref L, .ref q3, .ref q4, .ref q5, .int (nI 0), .int (nI 0), .int (nI 0), .int 0, .int 0]))) L = some (.inr (0, [.int (nI 0), .ref G.2.2.2.1, .int 0])) := (jup_ne nx_L).trans F8_L
  have F9_q3 : (jup g8 xo (.inr (4, [.ref q0, .ref c1, .ref L, .ref q3, .ref q4, .ref q5, .int (nI 0), .int (nI 0), .int (nI 0), .int 0, .int 0]))) q3 = some (.inl (G.2.2.1.2.1, 20, .inl (fun _ => 0))) := (jup_ne nx_q3).trans F8_q3
  have F9_q4 : (jup g8 xo (.inr (4, [.ref q0, .ref c1, .ref L, .ref q3, .ref q4, .ref q5, .int (nI 0), .int (nI 0), .int (nI 0), .int 0, .int 0]))) q4 = some (.inl (G.2.2.1.1, 20, .inl (fun _ => 0))) := (jup_ne nx_q4).trans F8_q4
  have F9_q5 : (jup g8 xo (.inr (4, [.ref q0, .ref c1, .ref L, .ref q3, .ref q4, .ref q5, .int (nI 0), .int (nI 0), .int (nI 0), .int 0, .int 0]))) q5 = some (.inl (G.2.2.1.1, 6, .inl (fun _ => 0))) := (jup_ne nx_q5).trans F8_q5
  have X9 : (jup g8 xo (.inr (4, [.ref q0, .ref c1, .ref L, .ref q3, .ref q4, .ref q5, .int (nI 0), .int (nI 0), .int (nI 0), .int 0, .int 0]))) xo = some (.inr (4, [.ref q0, .ref c1, .ref L, .ref q3, .ref q4, .ref q5, .int (nI 0), .int (nI 0), .int (nI 0), .int 0, .int 0])) := jup_self _ _ _
  show jW X G 1 6 53 79 [(0, .ref xo)] [] (jup g8 xo (.inr (4, [.ref q0, .ref c1, .ref L, .ref q3, .ref q4, .ref q5, .int (nI 0), .int (nI 0), .int (nI 0), .int 0, .int 0])))
  generalize (jup g8 xo (.inr (4, [.ref q0, .ref c1, .ref L, .ref q3, .ref q4, .ref q5, .int (nI 0), .int (nI 0), .int (nI 0), .int 0, .int 0]))) = g9 at KP9 X9 F9_q0 F9_c1 F9_L F9_q3 F9_q4 F9_q5 ⊢
  refine j_aload_n C (i := 0) (x := xo) 0 rfl dX3_init_79 (pc' := 80) rfl ?_
  refine j_iconst C (v := nI 0) rfl dX3_init_80 (pc' := 81) rfl ?_
  refine j_put C (ref := "MapRevisions") (CN := RX3) (T := TX3) (N := 11) (ci := 4) (index := 49) (a := xo) (kf := 9) (fs := [.ref q0, .ref c1, .ref L, .ref q3, .ref q4, .ref q5, .int (nI 0), .int (nI 0), .int (nI 0), .int 0, .int 0]) (v := .int (nI 0)) (ty := .int) hinX3 tyX3_ok nmX3 rfl (by decide) (by decide +kernel) rfl rfl (by decide +kernel) rfl rfl X9 (by show 9 < 11; decide) dX3_init_81 (pc' := 84) rfl ?_
  have KP10 : ∀ w e, h w = some e → w ≠ xo → (jup g9 xo (.inr (4, [.ref q0, .ref c1, .ref L, .ref q3, .ref q4, .ref q5, .int (nI 0), .int (nI 0), .int (nI 0), .int (nI 0), .int 0]))) w = some e := fun w e hw hne => (jup_ne hne).trans (KP9 w e hw hne)
  have F10_q0 : (jup g9 xo (.inr (4, [.ref q0, .ref c1, .ref L, .ref q3, .ref q4, .ref q5, .int (nI 0), .int (nI 0), .int (nI 0), .int (nI 0), .int 0]))) q0 = some (.inl (G.2.2.1.1, 0, .inl (fun _ => 0))) := (jup_ne nx_q0).trans F9_q0
  have F10_c1 : (jup g9 xo (.inr (4, [.ref q0, .ref c1, .ref L, .ref q3, .ref q4, .ref q5, .int (nI 0), .int (nI 0), .int (nI 0), .int (nI 0), .int 0]))) c1 = some (.inr (1, [.int (nI 0), .int (nI 0), .int (nI 0), .ref q0])) := (jup_ne nx_c1).trans F9_c1
  have F10_L : (jup g9 xo (.inr (4, [.ref q0, .ref c1, .ref L, .ref q3, .ref q4, .ref q5, .int (nI 0), .int (nI 0), .int (nI 0), .int (nI 0), .int 0]))) L = some (.inr (0, [.int (nI 0), .ref G.2.2.2.1, .int 0])) := (jup_ne nx_L).trans F9_L
  have F10_q3 : (jup g9 xo (.inr (4, [.ref q0, .ref c1, .ref L, .ref q3, .ref q4, .ref q5, .int (nI 0), .int (nI 0), .int (nI 0), .int (nI 0), .int 0]))) q3 = some (.inl (G.2.2.1.2.1, 20, .inl (fun _ => 0))) := (jup_ne nx_q3).trans F9_q3
  have F10_q4 : (jup g9 xo (.inr (4, [.ref q0, .ref c1, .ref L, .ref q3, .ref q4, .ref q5, .int (nI 0), .int (nI 0), .int (nI 0), .int (nI 0), .int 0]))) q4 = some (.inl (G.2.2.1.1, 20, .inl (fun _ => 0))) := (jup_ne nx_q4).trans F9_q4
  have F10_q5 : (jup g9 xo (.inr (4, [.ref q0, .ref c1, .ref L, .ref q3, .ref q4, .ref q5, .int (nI 0), .int (nI 0), .int (nI 0), .int (nI 0), .int 0]))) q5 = some (.inl (G.2.2.1.1, 6, .inl (fun _ => 0))) := (jup_ne nx_q5).trans F9_q5
  have X10 : (jup g9 xo (.inr (4, [.ref q0, .ref c1, .ref L, .ref q3, .ref q4, .ref q5, .int (nI 0), .int (nI 0), .int (nI 0), .int (nI 0), .int 0]))) xo = some (.inr (4, [.ref q0, .ref c1, .ref L, .ref q3, .ref q4, .ref q5, .int (nI 0), .int (nI 0), .int (nI 0), .int (nI 0), .int 0])) := jup_self _ _ _
  show jW X G 1 6 53 84 [(0, .ref xo)] [] (jup g9 xo (.inr (4, [.ref q0, .ref c1, .ref L, .ref q3, .ref q4, .ref q5, .int (nI 0), .int (nI 0), .int (nI 0), .int (nI 0), .int 0])))
  generalize (jup g9 xo (.inr (4, [.ref q0, .ref c1, .ref L, .ref q3, .ref q4, .ref q5, .int (nI 0), .int (nI 0), .int (nI 0), .int (nI 0), .int 0]))) = g10 at KP10 X10 F10_q0 F10_c1 F10_L F10_q3 F10_q4 F10_q5 ⊢
  refine j_aload_n C (i := 0) (x := xo) 0 rfl dX3_init_84 (pc' := 85) rfl ?_
  refine j_iconst C (v := nI 0) rfl dX3_init_85 (pc' := 86) rfl ?_
  refine j_put C (ref := "MapRevisions") (CN := RX3) (T := TX3) (N := 11) (ci := 4) (index := 52) (a := xo) (kf := 10) (fs := [.ref q0, .ref c1, .ref L, .ref q3, .ref q4, .ref q5, .int (nI 0), .int (nI 0), .int (nI 0), .int (nI 0), .int 0]) (v := .int (nI 0)) (ty := .int) hinX3 tyX3_ok nmX3 rfl (by decide) (by decide +kernel) rfl rfl (by decide +kernel) rfl rfl X10 (by show 10 < 11; decide) dX3_init_86 (pc' := 89) rfl ?_
  have KP11 : ∀ w e, h w = some e → w ≠ xo → (jup g10 xo (.inr (4, [.ref q0, .ref c1, .ref L, .ref q3, .ref q4, .ref q5, .int (nI 0), .int (nI 0), .int (nI 0), .int (nI 0), .int (nI 0)]))) w = some e := fun w e hw hne => (jup_ne hne).trans (KP10 w e hw hne)
  have F11_q0 : (jup g10 xo (.inr (4, [.ref q0, .ref c1, .ref L, .ref q3, .ref q4, .ref q5, .int (nI 0), .int (nI 0), .int (nI 0), .int (nI 0), .int (nI 0)]))) q0 = some (.inl (G.2.2.1.1, 0, .inl (fun _ => 0))) := (jup_ne nx_q0).trans F10_q0
  have F11_c1 : (jup g10 xo (.inr (4, [.ref q0, .ref c1, .ref L, .ref q3, .ref q4, .ref q5, .int (nI 0), .int (nI 0), .int (nI 0), .int (nI 0), .int (nI 0)]))) c1 = some (.inr (1, [.int (nI 0), .int (nI 0), .int (nI 0), .ref q0])) := (jup_ne nx_c1).trans F10_c1
  have F11_L : (jup g10 xo (.inr (4, [.ref q0, .ref c1, .ref L, .ref q3, .ref q4, .ref q5, .int (nI 0), .int (nI 0), .int (nI 0), .int (nI 0), .int (nI 0)]))) L = some (.inr (0, [.int (nI 0), .ref G.2.2.2.1, .int 0])) := (jup_ne nx_L).trans F10_L
  have F11_q3 : (jup g10 xo (.inr (4, [.ref q0, .ref c1, .ref L, .ref q3, .ref q4, .ref q5, .int (nI 0), .int (nI 0), .int (nI 0), .int (nI 0), .int (nI 0)]))) q3 = some (.inl (G.2.2.1.2.1, 20, .inl (fun _ => 0))) := (jup_ne nx_q3).trans F10_q3
  have F11_q4 : (jup g10 xo (.inr (4, [.ref q0, .ref c1, .ref L, .ref q3, .ref q4, .ref q5, .int (nI 0), .int (nI 0), .int (nI 0), .int (nI 0), .int (nI 0)]))) q4 = some (.inl (G.2.2.1.1, 20, .inl (fun _ => 0))) := (jup_ne nx_q4).trans F10_q4
  have F11_q5 : (jup g10 xo (.inr (4, [.ref q0, .ref c1, .ref L, .ref q3, .ref q4, .ref q5, .int (nI 0), .int (nI 0), .int (nI 0), .int (nI 0), .int (nI 0)]))) q5 = some (.inl (G.2.2.1.1, 6, .inl (fun _ => 0))) := (jup_ne nx_q5).trans F10_q5
  have X11 : (jup g10 xo (.inr (4, [.ref q0, .ref c1, .ref L, .ref q3, .ref q4, .ref q5, .int (nI 0), .int (nI 0), .int (nI 0), .int (nI 0), .int (nI 0)]))) xo = some (.inr (4, [.ref q0, .ref c1, .ref L, .ref q3, .ref q4, .ref q5, .int (nI 0), .int (nI 0), .int (nI 0), .int (nI 0), .int (nI 0)])) := jup_self _ _ _
  show jW X G 1 6 53 89 [(0, .ref xo)] [] (jup g10 xo (.inr (4, [.ref q0, .ref c1, .ref L, .ref q3, .ref q4, .ref q5, .int (nI 0), .int (nI 0), .int (nI 0), .int (nI 0), .int (nI 0)])))
  generalize (jup g10 xo (.inr (4, [.ref q0, .ref c1, .ref L, .ref q3, .ref q4, .ref q5, .int (nI 0), .int (nI 0), .int (nI 0), .int (nI 0), .int (nI 0)]))) = g11 at KP11 X11 F11_q0 F11_c1 F11_L F11_q3 F11_q4 F11_q5 ⊢
  obtain ⟨xa, e0, e1, e2, e3, e4, e5⟩ : ∃ xa : Nat → Nat, xa 0 = q0 ∧ xa 1 = c1 ∧ xa 2 = L ∧ xa 3 = q3 ∧ xa 4 = q4 ∧ xa 5 = q5 := ⟨fun i => if i = 0 then q0 else if i = 1 then c1 else if i = 2 then L else if i = 3 then q3 else if i = 4 then q4 else q5, rfl, rfl, rfl, rfl, rfl, rfl⟩
  have hinj : ∀ i j, i < 6 → j < 6 → xa i = xa j → i = j := by
    intro i j hi hj z
    rcases (show i = 0 ∨ i = 1 ∨ i = 2 ∨ i = 3 ∨ i = 4 ∨ i = 5 by omega) with rfl | rfl | rfl | rfl | rfl | rfl <;> rcases (show j = 0 ∨ j = 1 ∨ j = 2 ∨ j = 3 ∨ j = 4 ∨ j = 5 by omega) with rfl | rfl | rfl | rfl | rfl | rfl <;> first | rfl | (rw [e0, e1] at z; exact absurd z ne_q0_c1) | (rw [e1, e0] at z; exact absurd z.symm ne_q0_c1) | (rw [e0, e2] at z; exact absurd z ne_q0_L) | (rw [e2, e0] at z; exact absurd z.symm ne_q0_L) | (rw [e0, e3] at z; exact absurd z ne_q0_q3) | (rw [e3, e0] at z; exact absurd z.symm ne_q0_q3) | (rw [e0, e4] at z; exact absurd z ne_q0_q4) | (rw [e4, e0] at z; exact absurd z.symm ne_q0_q4) | (rw [e0, e5] at z; exact absurd z ne_q0_q5) | (rw [e5, e0] at z; exact absurd z.symm ne_q0_q5) | (rw [e1, e2] at z; exact absurd z ne_c1_L) | (rw [e2, e1] at z; exact absurd z.symm ne_c1_L) | (rw [e1, e3] at z; exact absurd z ne_c1_q3) | (rw [e3, e1] at z; exact absurd z.symm ne_c1_q3) | (rw [e1, e4] at z; exact absurd z ne_c1_q4) | (rw [e4, e1] at z; exact absurd z.symm ne_c1_q4) | (rw [e1, e5] at z; exact absurd z ne_c1_q5) | (rw [e5, e1] at z; exact absurd z.symm ne_c1_q5) | (rw [e2, e3] at z; exact absurd z ne_L_q3) | (rw [e3, e2] at z; exact absurd z.symm ne_L_q3) | (rw [e2, e4] at z; exact absurd z ne_L_q4) | (rw [e4, e2] at z; exact absurd z.symm ne_L_q4) | (rw [e2, e5] at z; exact absurd z ne_L_q5) | (rw [e5, e2] at z; exact absurd z.symm ne_L_q5) | (rw [e3, e4] at z; exact absurd z ne_q3_q4) | (rw [e4, e3] at z; exact absurd z.symm ne_q3_q4) | (rw [e3, e5] at z; exact absurd z ne_q3_q5) | (rw [e5, e3] at z; exact absurd z.symm ne_q3_q5) | (rw [e4, e5] at z; exact absurd z ne_q4_q5) | (rw [e5, e4] at z; exact absurd z.symm ne_q4_q5)
  have hq : cQ G (fun _ => False) xo xa (fun _ => 0) (fun _ => 0) (fun _ => 0) (fun _ => 0) G.2.2.2.1 0 (nI 0) (fun _ => none) (fun _ => 0) (fun _ => 0) (fun _ _ => 0) s0 a0 g11 := by
    refine ⟨?_, ?_, ?_, ?_, ?_, ⟨?_, fun j _ => rfl⟩, ⟨?_, fun j hj => absurd hj (Nat.not_lt_zero j)⟩, Or.inl ⟨rfl, rfl, rfl⟩, fun t ht => absurd ht (Nat.not_lt_zero t), fun v hv => absurd hv (Nat.not_lt_zero v), fun v hv => absurd hv (Nat.not_lt_zero v), fun v hv => absurd hv (Nat.not_lt_zero v), ⟨id, fun _ _ => id, id, fun t _ => id, fun v _ => id⟩, hinj, fun t u ht => absurd ht (Nat.not_lt_zero t), fun v u hv => absurd hv (Nat.not_lt_zero v), fun v hv => absurd hv (Nat.not_lt_zero v), hlow⟩
    · show _ = some (Sum.inr (4, [.ref (xa 0), .ref (xa 1), .ref (xa 2), .ref (xa 3), .ref (xa 4), .ref (xa 5), .int (nI 0), .int (nI 0), .int (nI 0), .int (nI 0), .int (nI 0)]) : va_E)
      rw [e0, e1, e2, e3, e4, e5]; exact X11
    · rw [e0]; exact F11_q0
    · rw [e1, e0]; exact F11_c1
    · rw [e2]; exact F11_L
    · rw [e3]; exact F11_q3
    · rw [e4]; exact F11_q4
    · rw [e5]; exact F11_q5
  have hfree : ∀ i, i < 6 → h (xa i) = none := by
    intro i hi
    rcases (show i = 0 ∨ i = 1 ∨ i = 2 ∨ i = 3 ∨ i = 4 ∨ i = 5 by omega) with rfl | rfl | rfl | rfl | rfl | rfl
    · rw [e0]; exact n0_q0
    · rw [e1]; exact n0_c1
    · rw [e2]; exact n0_L
    · rw [e3]; exact n0_q3
    · rw [e4]; exact n0_q4
    · rw [e5]; exact n0_q5
  exact j_vret C E dX3_init_89 (Nat.le_of_ble_eq_true rfl) (Nat.le_of_ble_eq_true rfl) ⟨rfl, xa, hq, hfree, KP11⟩
