theorem bI_fit (b : Bool) : fits .boolean (.int (bI b)) = true := by cases b <;> rfl
set_option maxRecDepth 100000 in
set_option maxHeartbeats 4000000 in
theorem c_X0_init (l : Launch) (hlt : l.stackTraces = false) (G : jG) {q : Nat} {h : jH} (hq : h q = some (.inr (1, [.int 0, .int 0, .int 0, .null]))) (b : Bool) (x y : Int32) (m : Nat) : jM l G yX0_init wsX0_init 1 20 0 0 [.ref q, .int (bI b), .int x, .int y, .ref m] h (fun r h' => r = none ∧ h' = jup h q (.inr (1, [.int (bI b), .int x, .int y, .ref m]))) (fun _ _ => False) := by
  refine jM_of (cc := cX0_init) (maxL := 5) (ret := none) hlt (by decide +kernel) rfl (Nat.le_of_ble_eq_true rfl) ?_
  intro X C E hXl hXR hXn
  have hinX0 : ∀ w ∈ u_ws RX0 TX0 4, w ∈ wsX0_init := by decide +kernel
  show jW X G 5 0 0 0 [(0, .ref q), (1, .int (bI b)), (2, .int x), (3, .int y), (4, .ref m)] [] h
  refine j_aload_n C (i := 0) (x := q) 0 rfl dX0_init_0 (pc' := 1) rfl ?_
  refine j_objInit C (idx := 1) (x := q) (by decide +kernel) (by decide +kernel) (by decide +kernel) (by rw [hXR]; decide) (by rw [hXR]; decide) dX0_init_1 (pc' := 4) rfl (Nat.le_of_ble_eq_true rfl) ?_
  refine j_aload_n C (i := 0) (x := q) 0 rfl dX0_init_4 (pc' := 5) rfl ?_
  refine j_iload_n C (i := 1) (x := bI b) 1 rfl dX0_init_5 (pc' := 6) rfl ?_
  refine j_putF C (ref := "MapRevisions$Content") (CN := RX0) (T := TX0) (N := 4) (ci := 1) (index := 7) (a := q) (kf := 0) (fs := [.int 0, .int 0, .int 0, .null]) (v := .int (bI b)) (ty := .boolean) hinX0 tyX0_ok nmX0 rfl (by decide) (by decide +kernel) rfl rfl hXn rfl (by decide +kernel) (bI_nar _) (bI_fit _) hq (by show 0 < 4; decide) dX0_init_6 (pc' := 9) rfl ?_
  show jW X G 5 0 0 9 [(0, .ref q), (1, .int (bI b)), (2, .int x), (3, .int y), (4, .ref m)] [] (jup h q (.inr (1, [.int (bI b), .int 0, .int 0, .null])))
  refine j_aload_n C (i := 0) (x := q) 0 rfl dX0_init_9 (pc' := 10) rfl ?_
  refine j_iload_n C (i := 2) (x := x) 2 rfl dX0_init_10 (pc' := 11) rfl ?_
  refine j_putF C (ref := "MapRevisions$Content") (CN := RX0) (T := TX0) (N := 4) (ci := 1) (index := 13) (a := q) (kf := 1) (fs := [.int (bI b), .int 0, .int 0, .null]) (v := .int x) (ty := .int) hinX0 tyX0_ok nmX0 rfl (by decide) (by decide +kernel) rfl rfl hXn rfl (by decide +kernel) rfl rfl (jup_self _ _ _) (by show 1 < 4; decide) dX0_init_11 (pc' := 14) rfl ?_
  show jW X G 5 0 0 14 [(0, .ref q), (1, .int (bI b)), (2, .int x), (3, .int y), (4, .ref m)] [] (jup (jup h q (.inr (1, [.int (bI b), .int 0, .int 0, .null]))) q (.inr (1, [.int (bI b), .int x, .int 0, .null])))
  refine jt_h (jup_jup _ _ _ _) ?_
  show jW X G 5 0 0 14 [(0, .ref q), (1, .int (bI b)), (2, .int x), (3, .int y), (4, .ref m)] [] (jup h q (.inr (1, [.int (bI b), .int x, .int 0, .null])))
  refine j_aload_n C (i := 0) (x := q) 0 rfl dX0_init_14 (pc' := 15) rfl ?_
  refine j_iload_n C (i := 3) (x := y) 3 rfl dX0_init_15 (pc' := 16) rfl ?_
  refine j_putF C (ref := "MapRevisions$Content") (CN := RX0) (T := TX0) (N := 4) (ci := 1) (index := 17) (a := q) (kf := 2) (fs := [.int (bI b), .int x, .int 0, .null]) (v := .int y) (ty := .int) hinX0 tyX0_ok nmX0 rfl (by decide) (by decide +kernel) rfl rfl hXn rfl (by decide +kernel) rfl rfl (jup_self _ _ _) (by show 2 < 4; decide) dX0_init_16 (pc' := 19) rfl ?_
  show jW X G 5 0 0 19 [(0, .ref q), (1, .int (bI b)), (2, .int x), (3, .int y), (4, .ref m)] [] (jup (jup h q (.inr (1, [.int (bI b), .int x, .int 0, .null]))) q (.inr (1, [.int (bI b), .int x, .int y, .null])))
  refine jt_h (jup_jup _ _ _ _) ?_
  show jW X G 5 0 0 19 [(0, .ref q), (1, .int (bI b)), (2, .int x), (3, .int y), (4, .ref m)] [] (jup h q (.inr (1, [.int (bI b), .int x, .int y, .null])))
  refine j_aload_n C (i := 0) (x := q) 0 rfl dX0_init_19 (pc' := 20) rfl ?_
  refine j_aload C (i := 4) (x := m) 4 rfl dX0_init_20 (pc' := 22) rfl ?_
  refine j_putF C (ref := "MapRevisions$Content") (CN := RX0) (T := TX0) (N := 4) (ci := 1) (index := 20) (a := q) (kf := 3) (fs := [.int (bI b), .int x, .int y, .null]) (v := .ref m) (ty := (.array .int)) hinX0 tyX0_ok nmX0 rfl (by decide) (by decide +kernel) rfl rfl hXn rfl (by decide +kernel) rfl rfl (jup_self _ _ _) (by show 3 < 4; decide) dX0_init_22 (pc' := 25) rfl ?_
  show jW X G 5 0 0 25 [(0, .ref q), (1, .int (bI b)), (2, .int x), (3, .int y), (4, .ref m)] [] (jup (jup h q (.inr (1, [.int (bI b), .int x, .int y, .null]))) q (.inr (1, [.int (bI b), .int x, .int y, .ref m])))
  refine jt_h (jup_jup _ _ _ _) ?_
  show jW X G 5 0 0 25 [(0, .ref q), (1, .int (bI b)), (2, .int x), (3, .int y), (4, .ref m)] [] (jup h q (.inr (1, [.int (bI b), .int x, .int y, .ref m])))
  exact j_vret C E dX0_init_25 (Nat.le_of_ble_eq_true rfl) (Nat.le_of_ble_eq_true rfl) ⟨rfl, rfl⟩
set_option maxRecDepth 100000 in
set_option maxHeartbeats 4000000 in
theorem c_X1_init (l : Launch) (hlt : l.stackTraces = false) (G : jG) {q : Nat} {h : jH} (hq : h q = some (.inr (2, [.int 0, .null]))) (x : Int32) (m : Nat) : jM l G yX1_init wsX1_init 1 20 0 0 [.ref q, .int x, .ref m] h (fun r h' => r = none ∧ h' = jup h q (.inr (2, [.int x, .ref m]))) (fun _ _ => False) := by
  refine jM_of (cc := cX1_init) (maxL := 3) (ret := none) hlt (by decide +kernel) rfl (Nat.le_of_ble_eq_true rfl) ?_
  intro X C E hXl hXR hXn
  have hinX1 : ∀ w ∈ u_ws RX1 TX1 2, w ∈ wsX1_init := by decide +kernel
  show jW X G 3 0 0 0 [(0, .ref q), (1, .int x), (2, .ref m)] [] h
  refine j_aload_n C (i := 0) (x := q) 0 rfl dX1_init_0 (pc' := 1) rfl ?_
  refine j_objInit C (idx := 1) (x := q) (by decide +kernel) (by decide +kernel) (by decide +kernel) (by rw [hXR]; decide) (by rw [hXR]; decide) dX1_init_1 (pc' := 4) rfl (Nat.le_of_ble_eq_true rfl) ?_
  refine j_aload_n C (i := 0) (x := q) 0 rfl dX1_init_4 (pc' := 5) rfl ?_
  refine j_iload_n C (i := 1) (x := x) 1 rfl dX1_init_5 (pc' := 6) rfl ?_
  refine j_putF C (ref := "MapRevisions$Thing") (CN := RX1) (T := TX1) (N := 2) (ci := 2) (index := 7) (a := q) (kf := 0) (fs := [.int 0, .null]) (v := .int x) (ty := .int) hinX1 tyX1_ok nmX1 rfl (by decide) (by decide +kernel) rfl rfl hXn rfl (by decide +kernel) rfl rfl hq (by show 0 < 2; decide) dX1_init_6 (pc' := 9) rfl ?_
  show jW X G 3 0 0 9 [(0, .ref q), (1, .int x), (2, .ref m)] [] (jup h q (.inr (2, [.int x, .null])))
  refine j_aload_n C (i := 0) (x := q) 0 rfl dX1_init_9 (pc' := 10) rfl ?_
  refine j_aload_n C (i := 2) (x := m) 2 rfl dX1_init_10 (pc' := 11) rfl ?_
  refine j_put C (ref := "MapRevisions$Thing") (CN := RX1) (T := TX1) (N := 2) (ci := 2) (index := 13) (a := q) (kf := 1) (fs := [.int x, .null]) (v := .ref m) (ty := (.object "MapRevisions$Version")) hinX1 tyX1_ok nmX1 rfl (by decide) (by decide +kernel) rfl rfl (by decide +kernel) rfl rfl (jup_self _ _ _) (by show 1 < 2; decide) dX1_init_11 (pc' := 14) rfl ?_
  show jW X G 3 0 0 14 [(0, .ref q), (1, .int x), (2, .ref m)] [] (jup (jup h q (.inr (2, [.int x, .null]))) q (.inr (2, [.int x, .ref m])))
  refine jt_h (jup_jup _ _ _ _) ?_
  show jW X G 3 0 0 14 [(0, .ref q), (1, .int x), (2, .ref m)] [] (jup h q (.inr (2, [.int x, .ref m])))
  exact j_vret C E dX1_init_14 (Nat.le_of_ble_eq_true rfl) (Nat.le_of_ble_eq_true rfl) ⟨rfl, rfl⟩
set_option maxRecDepth 100000 in
set_option maxHeartbeats 4000000 in
theorem c_X2_init0 (l : Launch) (hlt : l.stackTraces = false) (G : jG) {q : Nat} {h : jH} (hq : h q = some (.inr (3, [.null, .int 0, .int 0, .int 0, .null, .int 0]))) (o t : Int32) (m : Nat) : jM l G yX2_init wsX2_init 1 20 0 0 [.ref q, .null, .int o, .int t, .ref m] h (fun r h' => r = none ∧ h' = jup h q (.inr (3, [.null, .int (nI 1), .int o, .int t, .ref m, .int (nI 0)]))) (fun _ _ => False) := by
  refine jM_of (cc := cX2_init) (maxL := 5) (ret := none) hlt (by decide +kernel) rfl (Nat.le_of_ble_eq_true rfl) ?_
  intro X C E hXl hXR hXn
  have hinX2 : ∀ w ∈ u_ws RX2 TX2 6, w ∈ wsX2_init := by decide +kernel
  show jW X G 5 0 0 0 [(0, .ref q), (1, .null), (2, .int o), (3, .int t), (4, .ref m)] [] h
  refine j_aload_n C (i := 0) (x := q) 0 rfl dX2_init_0 (pc' := 1) rfl ?_
  refine j_objInit C (idx := 1) (x := q) (by decide +kernel) (by decide +kernel) (by decide +kernel) (by rw [hXR]; decide) (by rw [hXR]; decide) dX2_init_1 (pc' := 4) rfl (Nat.le_of_ble_eq_true rfl) ?_
  refine j_aload_n C (i := 0) (x := q) 0 rfl dX2_init_4 (pc' := 5) rfl ?_
  refine j_aload_nv C (i := 1) (v := .null) 1 rfl (Or.inl rfl) dX2_init_5 (pc' := 6) rfl ?_
  refine j_putF C (ref := "MapRevisions$Version") (CN := RX2) (T := TX2) (N := 6) (ci := 3) (index := 7) (a := q) (kf := 0) (fs := [.null, .int 0, .int 0, .int 0, .null, .int 0]) (v := .null) (ty := (.object "MapRevisions$Version")) hinX2 tyX2_ok nmX2 rfl (by decide) (by decide +kernel) rfl rfl hXn rfl (by decide +kernel) rfl rfl hq (by show 0 < 6; decide) dX2_init_6 (pc' := 9) rfl ?_
  show jW X G 5 0 0 9 [(0, .ref q), (1, .null), (2, .int o), (3, .int t), (4, .ref m)] [] (jup h q (.inr (3, [.null, .int 0, .int 0, .int 0, .null, .int 0])))
  refine j_aload_n C (i := 0) (x := q) 0 rfl dX2_init_9 (pc' := 10) rfl ?_
  refine j_aload_nv C (i := 1) (v := .null) 1 rfl (Or.inl rfl) dX2_init_10 (pc' := 11) rfl ?_
  refine j_ifnonnull_n C dX2_init_11 (pc' := 14) rfl ?_
  refine j_iconst C (v := nI 1) rfl dX2_init_14 (pc' := 15) rfl ?_
  refine j_goto C dX2_init_15 (pc' := 24) (by decide) ?_
  refine j_putF C (ref := "MapRevisions$Version") (CN := RX2) (T := TX2) (N := 6) (ci := 3) (index := 13) (a := q) (kf := 1) (fs := [.null, .int 0, .int 0, .int 0, .null, .int 0]) (v := .int (nI 1)) (ty := .int) hinX2 tyX2_ok nmX2 rfl (by decide) (by decide +kernel) rfl rfl hXn rfl (by decide +kernel) rfl rfl (jup_self _ _ _) (by show 1 < 6; decide) dX2_init_24 (pc' := 27) rfl ?_
  show jW X G 5 0 0 27 [(0, .ref q), (1, .null), (2, .int o), (3, .int t), (4, .ref m)] [] (jup (jup h q (.inr (3, [.null, .int 0, .int 0, .int 0, .null, .int 0]))) q (.inr (3, [.null, .int (nI 1), .int 0, .int 0, .null, .int 0])))
  refine jt_h (jup_jup _ _ _ _) ?_
  show jW X G 5 0 0 27 [(0, .ref q), (1, .null), (2, .int o), (3, .int t), (4, .ref m)] [] (jup h q (.inr (3, [.null, .int (nI 1), .int 0, .int 0, .null, .int 0])))
  refine j_aload_n C (i := 0) (x := q) 0 rfl dX2_init_27 (pc' := 28) rfl ?_
  refine j_iload_n C (i := 2) (x := o) 2 rfl dX2_init_28 (pc' := 29) rfl ?_
  refine j_putF C (ref := "MapRevisions$Version") (CN := RX2) (T := TX2) (N := 6) (ci := 3) (index := 17) (a := q) (kf := 2) (fs := [.null, .int (nI 1), .int 0, .int 0, .null, .int 0]) (v := .int o) (ty := .int) hinX2 tyX2_ok nmX2 rfl (by decide) (by decide +kernel) rfl rfl hXn rfl (by decide +kernel) rfl rfl (jup_self _ _ _) (by show 2 < 6; decide) dX2_init_29 (pc' := 32) rfl ?_
  show jW X G 5 0 0 32 [(0, .ref q), (1, .null), (2, .int o), (3, .int t), (4, .ref m)] [] (jup (jup h q (.inr (3, [.null, .int (nI 1), .int 0, .int 0, .null, .int 0]))) q (.inr (3, [.null, .int (nI 1), .int o, .int 0, .null, .int 0])))
  refine jt_h (jup_jup _ _ _ _) ?_
  show jW X G 5 0 0 32 [(0, .ref q), (1, .null), (2, .int o), (3, .int t), (4, .ref m)] [] (jup h q (.inr (3, [.null, .int (nI 1), .int o, .int 0, .null, .int 0])))
  refine j_aload_n C (i := 0) (x := q) 0 rfl dX2_init_32 (pc' := 33) rfl ?_
  refine j_iload_n C (i := 3) (x := t) 3 rfl dX2_init_33 (pc' := 34) rfl ?_
  refine j_putF C (ref := "MapRevisions$Version") (CN := RX2) (T := TX2) (N := 6) (ci := 3) (index := 20) (a := q) (kf := 3) (fs := [.null, .int (nI 1), .int o, .int 0, .null, .int 0]) (v := .int t) (ty := .int) hinX2 tyX2_ok nmX2 rfl (by decide) (by decide +kernel) rfl rfl hXn rfl (by decide +kernel) rfl rfl (jup_self _ _ _) (by show 3 < 6; decide) dX2_init_34 (pc' := 37) rfl ?_
  show jW X G 5 0 0 37 [(0, .ref q), (1, .null), (2, .int o), (3, .int t), (4, .ref m)] [] (jup (jup h q (.inr (3, [.null, .int (nI 1), .int o, .int 0, .null, .int 0]))) q (.inr (3, [.null, .int (nI 1), .int o, .int t, .null, .int 0])))
  refine jt_h (jup_jup _ _ _ _) ?_
  show jW X G 5 0 0 37 [(0, .ref q), (1, .null), (2, .int o), (3, .int t), (4, .ref m)] [] (jup h q (.inr (3, [.null, .int (nI 1), .int o, .int t, .null, .int 0])))
  refine j_aload_n C (i := 0) (x := q) 0 rfl dX2_init_37 (pc' := 38) rfl ?_
  refine j_aload C (i := 4) (x := m) 4 rfl dX2_init_38 (pc' := 40) rfl ?_
  refine j_putF C (ref := "MapRevisions$Version") (CN := RX2) (T := TX2) (N := 6) (ci := 3) (index := 23) (a := q) (kf := 4) (fs := [.null, .int (nI 1), .int o, .int t, .null, .int 0]) (v := .ref m) (ty := (.object "MapRevisions$Content")) hinX2 tyX2_ok nmX2 rfl (by decide) (by decide +kernel) rfl rfl hXn rfl (by decide +kernel) rfl rfl (jup_self _ _ _) (by show 4 < 6; decide) dX2_init_40 (pc' := 43) rfl ?_
  show jW X G 5 0 0 43 [(0, .ref q), (1, .null), (2, .int o), (3, .int t), (4, .ref m)] [] (jup (jup h q (.inr (3, [.null, .int (nI 1), .int o, .int t, .null, .int 0]))) q (.inr (3, [.null, .int (nI 1), .int o, .int t, .ref m, .int 0])))
  refine jt_h (jup_jup _ _ _ _) ?_
  show jW X G 5 0 0 43 [(0, .ref q), (1, .null), (2, .int o), (3, .int t), (4, .ref m)] [] (jup h q (.inr (3, [.null, .int (nI 1), .int o, .int t, .ref m, .int 0])))
  refine j_aload_n C (i := 0) (x := q) 0 rfl dX2_init_43 (pc' := 44) rfl ?_
  refine j_iconst C (v := nI 0) rfl dX2_init_44 (pc' := 45) rfl ?_
  refine j_put C (ref := "MapRevisions$Version") (CN := RX2) (T := TX2) (N := 6) (ci := 3) (index := 27) (a := q) (kf := 5) (fs := [.null, .int (nI 1), .int o, .int t, .ref m, .int 0]) (v := .int (nI 0)) (ty := .boolean) hinX2 tyX2_ok nmX2 rfl (by decide) (by decide +kernel) rfl rfl (by decide +kernel) rfl rfl (jup_self _ _ _) (by show 5 < 6; decide) dX2_init_45 (pc' := 48) rfl ?_
  show jW X G 5 0 0 48 [(0, .ref q), (1, .null), (2, .int o), (3, .int t), (4, .ref m)] [] (jup (jup h q (.inr (3, [.null, .int (nI 1), .int o, .int t, .ref m, .int 0]))) q (.inr (3, [.null, .int (nI 1), .int o, .int t, .ref m, .int (nI 0)])))
  refine jt_h (jup_jup _ _ _ _) ?_
  show jW X G 5 0 0 48 [(0, .ref q), (1, .null), (2, .int o), (3, .int t), (4, .ref m)] [] (jup h q (.inr (3, [.null, .int (nI 1), .int o, .int t, .ref m, .int (nI 0)])))
  exact j_vret C E dX2_init_48 (Nat.le_of_ble_eq_true rfl) (Nat.le_of_ble_eq_true rfl) ⟨rfl, rfl⟩
set_option maxRecDepth 100000 in
set_option maxHeartbeats 4000000 in
theorem c_X2_init1 (l : Launch) (hlt : l.stackTraces = false) (G : jG) {q : Nat} {h : jH} {e0 e2 e3 e4 e5 : Value} (hq : h q = some (.inr (3, [.null, .int 0, .int 0, .int 0, .null, .int 0]))) (p k : Nat) (o t : Int32) (m : Nat) (hp : h p = some (.inr (3, [e0, .int (nI k), e2, e3, e4, e5]))) (hpq : p ≠ q) : jM l G yX2_init wsX2_init 1 20 0 0 [.ref q, .ref p, .int o, .int t, .ref m] h (fun r h' => r = none ∧ h' = jup h q (.inr (3, [.ref p, .int (nI (k + 1)), .int o, .int t, .ref m, .int (nI 0)]))) (fun _ _ => False) := by
  refine jM_of (cc := cX2_init) (maxL := 5) (ret := none) hlt (by decide +kernel) rfl (Nat.le_of_ble_eq_true rfl) ?_
  intro X C E hXl hXR hXn
  have hinX2 : ∀ w ∈ u_ws RX2 TX2 6, w ∈ wsX2_init := by decide +kernel
  show jW X G 5 0 0 0 [(0, .ref q), (1, .ref p), (2, .int o), (3, .int t), (4, .ref m)] [] h
  refine j_aload_n C (i := 0) (x := q) 0 rfl dX2_init_0 (pc' := 1) rfl ?_
  refine j_objInit C (idx := 1) (x := q) (by decide +kernel) (by decide +kernel) (by decide +kernel) (by rw [hXR]; decide) (by rw [hXR]; decide) dX2_init_1 (pc' := 4) rfl (Nat.le_of_ble_eq_true rfl) ?_
  refine j_aload_n C (i := 0) (x := q) 0 rfl dX2_init_4 (pc' := 5) rfl ?_
  refine j_aload_n C (i := 1) (x := p) 1 rfl dX2_init_5 (pc' := 6) rfl ?_
  refine j_putF C (ref := "MapRevisions$Version") (CN := RX2) (T := TX2) (N := 6) (ci := 3) (index := 7) (a := q) (kf := 0) (fs := [.null, .int 0, .int 0, .int 0, .null, .int 0]) (v := .ref p) (ty := (.object "MapRevisions$Version")) hinX2 tyX2_ok nmX2 rfl (by decide) (by decide +kernel) rfl rfl hXn rfl (by decide +kernel) rfl rfl hq (by show 0 < 6; decide) dX2_init_6 (pc' := 9) rfl ?_
  show jW X G 5 0 0 9 [(0, .ref q), (1, .ref p), (2, .int o), (3, .int t), (4, .ref m)] [] (jup h q (.inr (3, [.ref p, .int 0, .int 0, .int 0, .null, .int 0])))
  refine j_aload_n C (i := 0) (x := q) 0 rfl dX2_init_9 (pc' := 10) rfl ?_
  refine j_aload_n C (i := 1) (x := p) 1 rfl dX2_init_10 (pc' := 11) rfl ?_
  refine j_ifnonnull_r C (x := p) dX2_init_11 (tgt := 18) (by decide) ?_
  refine j_aload_n C (i := 1) (x := p) 1 rfl dX2_init_18 (pc' := 19) rfl ?_
  refine j_get C (ref := "MapRevisions$Version") (CN := RX2) (T := TX2) (N := 6) (ci := 3) (index := 13) (a := p) (kf := 1) (fs := [e0, .int (nI k), e2, e3, e4, e5]) (v := .int (nI k)) hinX2 rfl (by decide) (by decide +kernel) rfl ((jup_ne hpq).trans hp) rfl dX2_init_19 (pc' := 22) rfl ?_
  refine j_iconst C (v := nI 1) rfl dX2_init_22 (pc' := 23) rfl ?_
  refine j_iadd C (x := nI k) (y := nI 1) dX2_init_23 (pc' := 24) rfl ?_
  refine jt_i (nI_add _ _) ?_
  refine j_putF C (ref := "MapRevisions$Version") (CN := RX2) (T := TX2) (N := 6) (ci := 3) (index := 13) (a := q) (kf := 1) (fs := [.ref p, .int 0, .int 0, .int 0, .null, .int 0]) (v := .int (nI (k + 1))) (ty := .int) hinX2 tyX2_ok nmX2 rfl (by decide) (by decide +kernel) rfl rfl hXn rfl (by decide +kernel) rfl rfl (jup_self _ _ _) (by show 1 < 6; decide) dX2_init_24 (pc' := 27) rfl ?_
  show jW X G 5 0 0 27 [(0, .ref q), (1, .ref p), (2, .int o), (3, .int t), (4, .ref m)] [] (jup (jup h q (.inr (3, [.ref p, .int 0, .int 0, .int 0, .null, .int 0]))) q (.inr (3, [.ref p, .int (nI (k + 1)), .int 0, .int 0, .null, .int 0])))
  refine jt_h (jup_jup _ _ _ _) ?_
  show jW X G 5 0 0 27 [(0, .ref q), (1, .ref p), (2, .int o), (3, .int t), (4, .ref m)] [] (jup h q (.inr (3, [.ref p, .int (nI (k + 1)), .int 0, .int 0, .null, .int 0])))
  refine j_aload_n C (i := 0) (x := q) 0 rfl dX2_init_27 (pc' := 28) rfl ?_
  refine j_iload_n C (i := 2) (x := o) 2 rfl dX2_init_28 (pc' := 29) rfl ?_
  refine j_putF C (ref := "MapRevisions$Version") (CN := RX2) (T := TX2) (N := 6) (ci := 3) (index := 17) (a := q) (kf := 2) (fs := [.ref p, .int (nI (k + 1)), .int 0, .int 0, .null, .int 0]) (v := .int o) (ty := .int) hinX2 tyX2_ok nmX2 rfl (by decide) (by decide +kernel) rfl rfl hXn rfl (by decide +kernel) rfl rfl (jup_self _ _ _) (by show 2 < 6; decide) dX2_init_29 (pc' := 32) rfl ?_
  show jW X G 5 0 0 32 [(0, .ref q), (1, .ref p), (2, .int o), (3, .int t), (4, .ref m)] [] (jup (jup h q (.inr (3, [.ref p, .int (nI (k + 1)), .int 0, .int 0, .null, .int 0]))) q (.inr (3, [.ref p, .int (nI (k + 1)), .int o, .int 0, .null, .int 0])))
  refine jt_h (jup_jup _ _ _ _) ?_
  show jW X G 5 0 0 32 [(0, .ref q), (1, .ref p), (2, .int o), (3, .int t), (4, .ref m)] [] (jup h q (.inr (3, [.ref p, .int (nI (k + 1)), .int o, .int 0, .null, .int 0])))
  refine j_aload_n C (i := 0) (x := q) 0 rfl dX2_init_32 (pc' := 33) rfl ?_
  refine j_iload_n C (i := 3) (x := t) 3 rfl dX2_init_33 (pc' := 34) rfl ?_
  refine j_putF C (ref := "MapRevisions$Version") (CN := RX2) (T := TX2) (N := 6) (ci := 3) (index := 20) (a := q) (kf := 3) (fs := [.ref p, .int (nI (k + 1)), .int o, .int 0, .null, .int 0]) (v := .int t) (ty := .int) hinX2 tyX2_ok nmX2 rfl (by decide) (by decide +kernel) rfl rfl hXn rfl (by decide +kernel) rfl rfl (jup_self _ _ _) (by show 3 < 6; decide) dX2_init_34 (pc' := 37) rfl ?_
  show jW X G 5 0 0 37 [(0, .ref q), (1, .ref p), (2, .int o), (3, .int t), (4, .ref m)] [] (jup (jup h q (.inr (3, [.ref p, .int (nI (k + 1)), .int o, .int 0, .null, .int 0]))) q (.inr (3, [.ref p, .int (nI (k + 1)), .int o, .int t, .null, .int 0])))
  refine jt_h (jup_jup _ _ _ _) ?_
  show jW X G 5 0 0 37 [(0, .ref q), (1, .ref p), (2, .int o), (3, .int t), (4, .ref m)] [] (jup h q (.inr (3, [.ref p, .int (nI (k + 1)), .int o, .int t, .null, .int 0])))
  refine j_aload_n C (i := 0) (x := q) 0 rfl dX2_init_37 (pc' := 38) rfl ?_
  refine j_aload C (i := 4) (x := m) 4 rfl dX2_init_38 (pc' := 40) rfl ?_
  refine j_putF C (ref := "MapRevisions$Version") (CN := RX2) (T := TX2) (N := 6) (ci := 3) (index := 23) (a := q) (kf := 4) (fs := [.ref p, .int (nI (k + 1)), .int o, .int t, .null, .int 0]) (v := .ref m) (ty := (.object "MapRevisions$Content")) hinX2 tyX2_ok nmX2 rfl (by decide) (by decide +kernel) rfl rfl hXn rfl (by decide +kernel) rfl rfl (jup_self _ _ _) (by show 4 < 6; decide) dX2_init_40 (pc' := 43) rfl ?_
  show jW X G 5 0 0 43 [(0, .ref q), (1, .ref p), (2, .int o), (3, .int t), (4, .ref m)] [] (jup (jup h q (.inr (3, [.ref p, .int (nI (k + 1)), .int o, .int t, .null, .int 0]))) q (.inr (3, [.ref p, .int (nI (k + 1)), .int o, .int t, .ref m, .int 0])))
  refine jt_h (jup_jup _ _ _ _) ?_
  show jW X G 5 0 0 43 [(0, .ref q), (1, .ref p), (2, .int o), (3, .int t), (4, .ref m)] [] (jup h q (.inr (3, [.ref p, .int (nI (k + 1)), .int o, .int t, .ref m, .int 0])))
  refine j_aload_n C (i := 0) (x := q) 0 rfl dX2_init_43 (pc' := 44) rfl ?_
  refine j_iconst C (v := nI 0) rfl dX2_init_44 (pc' := 45) rfl ?_
  refine j_put C (ref := "MapRevisions$Version") (CN := RX2) (T := TX2) (N := 6) (ci := 3) (index := 27) (a := q) (kf := 5) (fs := [.ref p, .int (nI (k + 1)), .int o, .int t, .ref m, .int 0]) (v := .int (nI 0)) (ty := .boolean) hinX2 tyX2_ok nmX2 rfl (by decide) (by decide +kernel) rfl rfl (by decide +kernel) rfl rfl (jup_self _ _ _) (by show 5 < 6; decide) dX2_init_45 (pc' := 48) rfl ?_
  show jW X G 5 0 0 48 [(0, .ref q), (1, .ref p), (2, .int o), (3, .int t), (4, .ref m)] [] (jup (jup h q (.inr (3, [.ref p, .int (nI (k + 1)), .int o, .int t, .ref m, .int 0]))) q (.inr (3, [.ref p, .int (nI (k + 1)), .int o, .int t, .ref m, .int (nI 0)])))
  refine jt_h (jup_jup _ _ _ _) ?_
  show jW X G 5 0 0 48 [(0, .ref q), (1, .ref p), (2, .int o), (3, .int t), (4, .ref m)] [] (jup h q (.inr (3, [.ref p, .int (nI (k + 1)), .int o, .int t, .ref m, .int (nI 0)])))
  exact j_vret C E dX2_init_48 (Nat.le_of_ble_eq_true rfl) (Nat.le_of_ble_eq_true rfl) ⟨rfl, rfl⟩
