theorem ne_cell0 {h : jH} {a b : Nat} {e e' : va_E} (ha : h a = some e) (hb : h b = some e') (hn : e ≠ e') : a ≠ b := fun z => by rw [z, hb] at ha; cases ha; exact hn rfl
theorem cpy_lt {α : Type} {f g : Nat → α} {n t : Nat} (h : t < n) : va_cpy f g 0 0 n t = f t := by
  unfold va_cpy
  rw [if_pos ⟨Nat.zero_le t, by omega⟩, Nat.sub_zero, Nat.zero_add]
set_option maxRecDepth 100000 in
set_option maxHeartbeats 4000000 in
theorem c_add_room (l : Launch) (hlt : l.stackTraces = false) (G : jG) {L dat cap v : Nat} {mod : Int32} {df : Nat → Option Nat} {n : Nat} {fv : List Value} {h : jH} (hL : h L = some (.inr (0, [.int mod, .ref dat, .int (nI n)]))) (hd : h dat = some (.inl (G.2.2.1.2.2.1, cap, .inr (.inr (.inr (.inr df)))))) (hv : h v = some (.inr (2, fv))) (h10 : 10 ≤ cap) (hnc : n < cap) (hcap : cap ≤ 100) : jM l G yJx4a65c_add_72be8 wsJx4a65c_add_72be8 5 157 1 100 [.ref L, .ref v, .ref dat, .int (nI n)] h (fun r h' => r = none ∧ (∃ (b cap' : Nat) (f' : Nat → Option Nat), ((b = dat ∧ ∃ (cp : Nat) (g : Nat → Option Nat), h b = some (.inl (G.2.2.1.2.2.1, cp, .inr (.inr (.inr (.inr g)))))) ∨ h b = none) ∧ h' = jup (jup h b (.inl (G.2.2.1.2.2.1, cap', .inr (.inr (.inr (.inr f')))))) L (.inr (0, [.int mod, .ref b, .int (nI (n + 1))])) ∧ f' n = some v ∧ (∀ t, t < n → f' t = df t) ∧ n + 1 ≤ cap' ∧ 10 ≤ cap' ∧ cap' ≤ 100)) (fun _ _ => False) := by
  refine jM_of (cc := cJx4a65c_add_72be8) (maxL := 4) (ret := none) hlt (by decide +kernel) rfl (Nat.le_of_ble_eq_true rfl) ?_
  intro X C E hXl hXR hXn
  have hinJx4a65c : ∀ w ∈ u_ws RJx4a65c TJx4a65c 3, w ∈ wsJx4a65c_add_72be8 := by decide +kernel
  show jW X G 4 0 0 0 [(0, .ref L), (1, .ref v), (2, .ref dat), (3, .int (nI n))] [] h
  refine j_iload_n C (i := 3) (x := nI n) 3 rfl dJx4a65c_add_72be8_0 (pc' := 1) rfl ?_
  refine j_aload_n C (i := 2) (x := dat) 2 rfl dJx4a65c_add_72be8_1 (pc' := 2) rfl ?_
  refine j_alen C (a := dat) (t0 := 2) (v := nI cap) hd rfl rfl dJx4a65c_add_72be8_2 (pc' := 3) rfl ?_
  refine j_icmp_ne C dJx4a65c_add_72be8_3 (tgt := 11) (by decide) (pc' := 6) rfl (fun c_1 => ?_) (fun c_1 => ?_)
  · have c_1 := fun zq => c_1 ((nI_eq (a := n) (b := cap) (by omega) (by omega)).mpr zq)
    have c_1 : ¬ n = cap := c_1
    refine j_aload_n C (i := 2) (x := dat) 2 rfl dJx4a65c_add_72be8_11 (pc' := 12) rfl ?_
    refine j_iload_n C (i := 3) (x := nI n) 3 rfl dJx4a65c_add_72be8_12 (pc' := 13) rfl ?_
    refine j_aload_n C (i := 1) (x := v) 1 rfl dJx4a65c_add_72be8_13 (pc' := 14) rfl ?_
    refine j_aast C (a := dat) (N := cap) (j := n) (v := v) (ci := 2) (f := df) (fs := fv) (r := (RX1, TX1, 2)) hd hv rfl C.asg rfl (by omega) (by omega) dJx4a65c_add_72be8_14 (pc' := 15) rfl ?_
    show jW X G 4 0 0 15 [(0, .ref L), (1, .ref v), (2, .ref dat), (3, .int (nI n))] [] (jup h dat (.inl (G.2.2.1.2.2.1, cap, .inr (.inr (.inr (.inr (va_up df n (some v))))))))
    refine j_aload_n C (i := 0) (x := L) 0 rfl dJx4a65c_add_72be8_15 (pc' := 16) rfl ?_
    refine j_iload_n C (i := 3) (x := nI n) 3 rfl dJx4a65c_add_72be8_16 (pc' := 17) rfl ?_
    refine j_iconst C (v := nI 1) rfl dJx4a65c_add_72be8_17 (pc' := 18) rfl ?_
    refine j_iadd C (x := nI n) (y := nI 1) dJx4a65c_add_72be8_18 (pc' := 19) rfl ?_
    refine jt_i (nI_add _ _) ?_
    refine j_put C (ref := "java/util/ArrayList") (CN := RJx4a65c) (T := TJx4a65c) (N := 3) (ci := 0) (index := 48) (a := L) (kf := 2) (fs := [.int mod, .ref dat, .int (nI n)]) (v := .int (nI (n + 1))) (ty := .int) hinJx4a65c tyJx4a65c_ok nmJx4a65c rfl (by decide) (by decide +kernel) rfl rfl (by decide +kernel) rfl rfl ((jup_ne (fun z => by rw [z, hd] at hL; cases hL)).trans hL) (by show 2 < 3; decide) dJx4a65c_add_72be8_19 (pc' := 22) rfl ?_
    show jW X G 4 0 0 22 [(0, .ref L), (1, .ref v), (2, .ref dat), (3, .int (nI n))] [] (jup (jup h dat (.inl (G.2.2.1.2.2.1, cap, .inr (.inr (.inr (.inr (va_up df n (some v)))))))) L (.inr (0, [.int mod, .ref dat, .int (nI (n + 1))])))
    exact j_vret C E dJx4a65c_add_72be8_22 (Nat.le_of_ble_eq_true rfl) (Nat.le_of_ble_eq_true rfl) ⟨rfl, dat, cap, va_up df n (some v), Or.inl ⟨rfl, _, _, hd⟩, rfl, up_s, fun t ht => up_n (by omega), by omega, by omega, by omega⟩
  · have c_1 := (nI_eq (a := n) (b := cap) (by omega) (by omega)).mp c_1
    have c_1 : n = cap := c_1
    omega
set_option maxRecDepth 100000 in
set_option maxHeartbeats 4000000 in
theorem c_add_first (l : Launch) (hlt : l.stackTraces = false) (G : jG) {L v : Nat} {mod : Int32} {df : Nat → Option Nat} {fv : List Value} {h : jH} (hL : h L = some (.inr (0, [.int mod, .ref G.2.2.2.1, .int (nI 0)]))) (hv : h v = some (.inr (2, fv)))  : jM l G yJx4a65c_add_72be8 wsJx4a65c_add_72be8 5 157 1 100 [.ref L, .ref v, .ref G.2.2.2.1, .int (nI 0)] h (fun r h' => r = none ∧ (∃ (b cap' : Nat) (f' : Nat → Option Nat), ((b = G.2.2.2.1 ∧ ∃ (cp : Nat) (g : Nat → Option Nat), h b = some (.inl (G.2.2.1.2.2.1, cp, .inr (.inr (.inr (.inr g)))))) ∨ h b = none) ∧ h' = jup (jup h b (.inl (G.2.2.1.2.2.1, cap', .inr (.inr (.inr (.inr f')))))) L (.inr (0, [.int mod, .ref b, .int (nI (0 + 1))])) ∧ f' 0 = some v ∧ (∀ t, t < 0 → f' t = df t) ∧ 0 + 1 ≤ cap' ∧ 10 ≤ cap' ∧ cap' ≤ 100)) (fun _ _ => False) := by
  refine jM_of (cc := cJx4a65c_add_72be8) (maxL := 4) (ret := none) hlt (by decide +kernel) rfl (Nat.le_of_ble_eq_true rfl) ?_
  intro X C E hXl hXR hXn
  have hinJx4a65c : ∀ w ∈ u_ws RJx4a65c TJx4a65c 3, w ∈ wsJx4a65c_add_72be8 := by decide +kernel
  show jW X G 4 0 0 0 [(0, .ref L), (1, .ref v), (2, .ref G.2.2.2.1), (3, .int (nI 0))] [] h
  refine j_iload_n C (i := 3) (x := nI 0) 3 rfl dJx4a65c_add_72be8_0 (pc' := 1) rfl ?_
  refine j_aload_n C (i := 2) (x := G.2.2.2.1) 2 rfl dJx4a65c_add_72be8_1 (pc' := 2) rfl ?_
  refine j_alen0 C dJx4a65c_add_72be8_2 (pc' := 3) rfl ?_
  refine j_icmp_ne C dJx4a65c_add_72be8_3 (tgt := 11) (by decide) (pc' := 6) rfl (fun c_1 => absurd (by decide) c_1) (fun _ => ?_)
  refine j_aload_n C (i := 0) (x := L) 0 rfl dJx4a65c_add_72be8_6 (pc' := 7) rfl ?_
  refine j_callV C (As := []) (rest := []) (c_grow1A X.2.1 C.2.2.2.2.2.2.2.2 G hL) (cwV 0 C.2.2.2.2.1 gJx4a65c_add_72be8_Jx4a65c_grow_d5877 rfl rfl rfl (by decide +kernel) (by rw [hXR]; decide)) hL rfl rfl rfl (Nat.le_of_ble_eq_true rfl) dJx4a65c_add_72be8_7 (pc' := 10) rfl (by rw [hXR]; exact Nat.le_of_ble_eq_true rfl) (by rw [hXR]; exact Nat.le_of_ble_eq_true rfl) (fun _ _ z => z.elim) ?_
  rintro r h' ⟨b, rfl, hb, rfl⟩
  have hLb : L ≠ b := fun z => by rw [z, hb] at hL; cases hL
  have hvL : v ≠ L := fun z => by rw [z, hL] at hv; cases hv
  show jW X G 4 1 100 10 [(0, .ref L), (1, .ref v), (2, .ref G.2.2.2.1), (3, .int (nI 0))] [.ref b] (jup (jup h b (.inl (G.2.2.1.2.2.1, 10, .inr (.inr (.inr (.inr (fun _ => none))))))) L (.inr (0, [.int mod, .ref b, .int (nI 0)])))
  refine j_astore_n C (i := 2) (x := b) (l' := [(2, .ref b), (0, .ref L), (1, .ref v), (3, .int (nI 0))]) dJx4a65c_add_72be8_10 (pc' := 11) rfl (by decide) rfl ?_
  refine j_aload_n C (i := 2) (x := b) 0 rfl dJx4a65c_add_72be8_11 (pc' := 12) rfl ?_
  refine j_iload_n C (i := 3) (x := nI 0) 3 rfl dJx4a65c_add_72be8_12 (pc' := 13) rfl ?_
  refine j_aload_n C (i := 1) (x := v) 2 rfl dJx4a65c_add_72be8_13 (pc' := 14) rfl ?_
  refine j_aast C (a := b) (N := 10) (j := 0) (v := v) (ci := 2) (f := (fun _ => none)) (fs := fv) (r := (RX1, TX1, 2)) ((jup_ne hLb.symm).trans (jup_self _ _ _)) ((jup_ne hvL).trans (jup_some hb hv)) rfl C.asg rfl (by omega) (by omega) dJx4a65c_add_72be8_14 (pc' := 15) rfl ?_
  show jW X G 4 1 100 15 [(2, .ref b), (0, .ref L), (1, .ref v), (3, .int (nI 0))] [] (jup (jup (jup h b (.inl (G.2.2.1.2.2.1, 10, .inr (.inr (.inr (.inr (fun _ => none))))))) L (.inr (0, [.int mod, .ref b, .int (nI 0)]))) b (.inl (G.2.2.1.2.2.1, 10, .inr (.inr (.inr (.inr (va_up (fun _ => none) 0 (some v))))))))
  refine j_aload_n C (i := 0) (x := L) 1 rfl dJx4a65c_add_72be8_15 (pc' := 16) rfl ?_
  refine j_iload_n C (i := 3) (x := nI 0) 3 rfl dJx4a65c_add_72be8_16 (pc' := 17) rfl ?_
  refine j_iconst C (v := nI 1) rfl dJx4a65c_add_72be8_17 (pc' := 18) rfl ?_
  refine j_iadd C (x := nI 0) (y := nI 1) dJx4a65c_add_72be8_18 (pc' := 19) rfl ?_
  refine jt_i (nI_add _ _) ?_
  refine j_put C (ref := "java/util/ArrayList") (CN := RJx4a65c) (T := TJx4a65c) (N := 3) (ci := 0) (index := 48) (a := L) (kf := 2) (fs := [.int mod, .ref b, .int (nI 0)]) (v := .int (nI (0 + 1))) (ty := .int) hinJx4a65c tyJx4a65c_ok nmJx4a65c rfl (by decide) (by decide +kernel) rfl rfl (by decide +kernel) rfl rfl ((jup_ne hLb).trans (jup_self _ _ _)) (by show 2 < 3; decide) dJx4a65c_add_72be8_19 (pc' := 22) rfl ?_
  refine jt_h (jup_sw hLb.symm) ?_
  show jW X G 4 1 100 22 [(2, .ref b), (0, .ref L), (1, .ref v), (3, .int (nI 0))] [] (jup (jup h b (.inl (G.2.2.1.2.2.1, 10, .inr (.inr (.inr (.inr (va_up (fun _ => none) 0 (some v)))))))) L (.inr (0, [.int mod, .ref b, .int (nI (0 + 1))])))
  exact j_vret C E dJx4a65c_add_72be8_22 (Nat.le_of_ble_eq_true rfl) (Nat.le_of_ble_eq_true rfl) ⟨rfl, b, 10, va_up (fun _ => none) 0 (some v), Or.inr hb, rfl, up_s, fun t ht => absurd ht (Nat.not_lt_zero t), by omega, by omega, by omega⟩
set_option maxRecDepth 100000 in
set_option maxHeartbeats 4000000 in
theorem c_add_full (l : Launch) (hlt : l.stackTraces = false) (G : jG) {L dat cap v : Nat} {mod : Int32} {df : Nat → Option Nat} {n : Nat} {fv : List Value} {h : jH} (hL : h L = some (.inr (0, [.int mod, .ref dat, .int (nI n)]))) (hd : h dat = some (.inl (G.2.2.1.2.2.1, n, .inr (.inr (.inr (.inr df)))))) (hel : ∀ j, j < n → ∀ y, df j = some y → ∃ fs, h y = some (.inr (2, fs))) (hv : h v = some (.inr (2, fv))) (h10 : 10 ≤ n) (hn : n ≤ 60) : jM l G yJx4a65c_add_72be8 wsJx4a65c_add_72be8 5 157 1 100 [.ref L, .ref v, .ref dat, .int (nI n)] h (fun r h' => r = none ∧ (∃ (b cap' : Nat) (f' : Nat → Option Nat), ((b = dat ∧ ∃ (cp : Nat) (g : Nat → Option Nat), h b = some (.inl (G.2.2.1.2.2.1, cp, .inr (.inr (.inr (.inr g)))))) ∨ h b = none) ∧ h' = jup (jup h b (.inl (G.2.2.1.2.2.1, cap', .inr (.inr (.inr (.inr f')))))) L (.inr (0, [.int mod, .ref b, .int (nI (n + 1))])) ∧ f' n = some v ∧ (∀ t, t < n → f' t = df t) ∧ n + 1 ≤ cap' ∧ 10 ≤ cap' ∧ cap' ≤ 100)) (fun _ _ => False) := by
  refine jM_of (cc := cJx4a65c_add_72be8) (maxL := 4) (ret := none) hlt (by decide +kernel) rfl (Nat.le_of_ble_eq_true rfl) ?_
  intro X C E hXl hXR hXn
  have hinJx4a65c : ∀ w ∈ u_ws RJx4a65c TJx4a65c 3, w ∈ wsJx4a65c_add_72be8 := by decide +kernel
  show jW X G 4 0 0 0 [(0, .ref L), (1, .ref v), (2, .ref dat), (3, .int (nI n))] [] h
  refine j_iload_n C (i := 3) (x := nI n) 3 rfl dJx4a65c_add_72be8_0 (pc' := 1) rfl ?_
  refine j_aload_n C (i := 2) (x := dat) 2 rfl dJx4a65c_add_72be8_1 (pc' := 2) rfl ?_
  refine j_alen C (a := dat) (t0 := 2) (v := nI n) hd rfl rfl dJx4a65c_add_72be8_2 (pc' := 3) rfl ?_
  refine j_icmp_ne C dJx4a65c_add_72be8_3 (tgt := 11) (by decide) (pc' := 6) rfl (fun c_1 => ?_) (fun c_1 => ?_)
  · have c_1 := fun zq => c_1 ((nI_eq (a := n) (b := n) (by omega) (by omega)).mpr zq)
    have c_1 : ¬ n = n := c_1
    exact absurd rfl c_1
  · have c_1 := (nI_eq (a := n) (b := n) (by omega) (by omega)).mp c_1
    have c_1 : n = n := c_1
    refine j_aload_n C (i := 0) (x := L) 0 rfl dJx4a65c_add_72be8_6 (pc' := 7) rfl ?_
    refine j_callV C (As := []) (rest := []) (c_grow1B X.2.1 C.2.2.2.2.2.2.2.2 G hL hd hel h10 (by omega)) (cwV 0 C.2.2.2.2.1 gJx4a65c_add_72be8_Jx4a65c_grow_d5877 rfl rfl rfl (by decide +kernel) (by rw [hXR]; decide)) hL rfl rfl rfl (Nat.le_of_ble_eq_true rfl) dJx4a65c_add_72be8_7 (pc' := 10) rfl (by rw [hXR]; exact Nat.le_of_ble_eq_true rfl) (by rw [hXR]; exact Nat.le_of_ble_eq_true rfl) (fun _ _ z => z.elim) ?_
    rintro r h' ⟨b, rfl, hb, rfl⟩
    have hLb : L ≠ b := fun z => by rw [z, hb] at hL; cases hL
    have hvL : v ≠ L := fun z => by rw [z, hL] at hv; cases hv
    show jW X G 4 1 100 10 [(0, .ref L), (1, .ref v), (2, .ref dat), (3, .int (nI n))] [.ref b] (jup (jup h b (.inl (G.2.2.1.2.2.1, (n + n / 2), .inr (.inr (.inr (.inr (va_cpy df (fun _ => none) 0 0 n))))))) L (.inr (0, [.int mod, .ref b, .int (nI n)])))
    refine j_astore_n C (i := 2) (x := b) (l' := [(2, .ref b), (0, .ref L), (1, .ref v), (3, .int (nI n))]) dJx4a65c_add_72be8_10 (pc' := 11) rfl (by decide) rfl ?_
    refine j_aload_n C (i := 2) (x := b) 0 rfl dJx4a65c_add_72be8_11 (pc' := 12) rfl ?_
    refine j_iload_n C (i := 3) (x := nI n) 3 rfl dJx4a65c_add_72be8_12 (pc' := 13) rfl ?_
    refine j_aload_n C (i := 1) (x := v) 2 rfl dJx4a65c_add_72be8_13 (pc' := 14) rfl ?_
    refine j_aast C (a := b) (N := (n + n / 2)) (j := n) (v := v) (ci := 2) (f := (va_cpy df (fun _ => none) 0 0 n)) (fs := fv) (r := (RX1, TX1, 2)) ((jup_ne hLb.symm).trans (jup_self _ _ _)) ((jup_ne hvL).trans (jup_some hb hv)) rfl C.asg rfl (by omega) (by omega) dJx4a65c_add_72be8_14 (pc' := 15) rfl ?_
    show jW X G 4 1 100 15 [(2, .ref b), (0, .ref L), (1, .ref v), (3, .int (nI n))] [] (jup (jup (jup h b (.inl (G.2.2.1.2.2.1, (n + n / 2), .inr (.inr (.inr (.inr (va_cpy df (fun _ => none) 0 0 n))))))) L (.inr (0, [.int mod, .ref b, .int (nI n)]))) b (.inl (G.2.2.1.2.2.1, (n + n / 2), .inr (.inr (.inr (.inr (va_up (va_cpy df (fun _ => none) 0 0 n) n (some v))))))))
    refine j_aload_n C (i := 0) (x := L) 1 rfl dJx4a65c_add_72be8_15 (pc' := 16) rfl ?_
    refine j_iload_n C (i := 3) (x := nI n) 3 rfl dJx4a65c_add_72be8_16 (pc' := 17) rfl ?_
    refine j_iconst C (v := nI 1) rfl dJx4a65c_add_72be8_17 (pc' := 18) rfl ?_
    refine j_iadd C (x := nI n) (y := nI 1) dJx4a65c_add_72be8_18 (pc' := 19) rfl ?_
    refine jt_i (nI_add _ _) ?_
    refine j_put C (ref := "java/util/ArrayList") (CN := RJx4a65c) (T := TJx4a65c) (N := 3) (ci := 0) (index := 48) (a := L) (kf := 2) (fs := [.int mod, .ref b, .int (nI n)]) (v := .int (nI (n + 1))) (ty := .int) hinJx4a65c tyJx4a65c_ok nmJx4a65c rfl (by decide) (by decide +kernel) rfl rfl (by decide +kernel) rfl rfl ((jup_ne hLb).trans (jup_self _ _ _)) (by show 2 < 3; decide) dJx4a65c_add_72be8_19 (pc' := 22) rfl ?_
    refine jt_h (jup_sw hLb.symm) ?_
    show jW X G 4 1 100 22 [(2, .ref b), (0, .ref L), (1, .ref v), (3, .int (nI n))] [] (jup (jup h b (.inl (G.2.2.1.2.2.1, (n + n / 2), .inr (.inr (.inr (.inr (va_up (va_cpy df (fun _ => none) 0 0 n) n (some v)))))))) L (.inr (0, [.int mod, .ref b, .int (nI (n + 1))])))
    exact j_vret C E dJx4a65c_add_72be8_22 (Nat.le_of_ble_eq_true rfl) (Nat.le_of_ble_eq_true rfl) ⟨rfl, b, n + n / 2, va_up (va_cpy df (fun _ => none) 0 0 n) n (some v), Or.inr hb, rfl, up_s, fun t ht => (up_n (by omega)).trans (cpy_lt ht), by omega, by omega, by omega⟩
theorem c_add4 (l : Launch) (hlt : l.stackTraces = false) (G : jG) {L dat cap v : Nat} {mod : Int32} {df : Nat → Option Nat} {n : Nat} {fv : List Value} {h : jH} (hL : h L = some (.inr (0, [.int mod, .ref dat, .int (nI n)]))) (hv : h v = some (.inr (2, fv))) (hdat : (n = 0 ∧ dat = G.2.2.2.1) ∨ (10 ≤ cap ∧ n ≤ cap ∧ cap ≤ 100 ∧ h dat = some (.inl (G.2.2.1.2.2.1, cap, .inr (.inr (.inr (.inr df))))) ∧ ∀ j, j < n → ∀ y, df j = some y → ∃ fs, h y = some (.inr (2, fs)))) (hn : n ≤ 60) : jM l G yJx4a65c_add_72be8 wsJx4a65c_add_72be8 5 157 1 100 [.ref L, .ref v, .ref dat, .int (nI n)] h (fun r h' => r = none ∧ (∃ (b cap' : Nat) (f' : Nat → Option Nat), ((b = dat ∧ ∃ (cp : Nat) (g : Nat → Option Nat), h b = some (.inl (G.2.2.1.2.2.1, cp, .inr (.inr (.inr (.inr g)))))) ∨ h b = none) ∧ h' = jup (jup h b (.inl (G.2.2.1.2.2.1, cap', .inr (.inr (.inr (.inr f')))))) L (.inr (0, [.int mod, .ref b, .int (nI (n + 1))])) ∧ f' n = some v ∧ (∀ t, t < n → f' t = df t) ∧ n + 1 ≤ cap' ∧ 10 ≤ cap' ∧ cap' ≤ 100)) (fun _ _ => False) := by
  rcases hdat with ⟨rfl, rfl⟩ | ⟨h1, h2, h3, hd, hel⟩
  · exact c_add_first l hlt G hL hv
  · by_cases e : n < cap
    · exact c_add_room l hlt G hL hd hv h1 e h3
    · have e2 : cap = n := by omega
      subst e2
      exact c_add_full (cap := 0) l hlt G hL hd hel hv h1 hn
set_option maxRecDepth 100000 in
set_option maxHeartbeats 4000000 in
theorem c_add (l : Launch) (hlt : l.stackTraces = false) (G : jG) {L dat cap v : Nat} {mod : Int32} {df : Nat → Option Nat} {n : Nat} {fv : List Value} {h : jH} (hL : h L = some (.inr (0, [.int mod, .ref dat, .int (nI n)]))) (hv : h v = some (.inr (2, fv))) (hdat : (n = 0 ∧ dat = G.2.2.2.1) ∨ (10 ≤ cap ∧ n ≤ cap ∧ cap ≤ 100 ∧ h dat = some (.inl (G.2.2.1.2.2.1, cap, .inr (.inr (.inr (.inr df))))) ∧ ∀ j, j < n → ∀ y, df j = some y → ∃ fs, h y = some (.inr (2, fs)))) (hn : n ≤ 60)  : jM l G yJx4a65c_add_9ea2d wsJx4a65c_add_9ea2d 6 180 1 100 [.ref L, .ref v] h (fun r h' => r = some (.int (nI 1)) ∧ (∃ (b cap' : Nat) (f' : Nat → Option Nat), ((b = dat ∧ ∃ (cp : Nat) (g : Nat → Option Nat), h b = some (.inl (G.2.2.1.2.2.1, cp, .inr (.inr (.inr (.inr g)))))) ∨ h b = none) ∧ h' = jup (jup h b (.inl (G.2.2.1.2.2.1, cap', .inr (.inr (.inr (.inr f')))))) L (.inr (0, [.int (mod + nI 1), .ref b, .int (nI (n + 1))])) ∧ f' n = some v ∧ (∀ t, t < n → f' t = df t) ∧ n + 1 ≤ cap' ∧ 10 ≤ cap' ∧ cap' ≤ 100)) (fun _ _ => False) := by
  have hvL : v ≠ L := fun z => by rw [z, hL] at hv; cases hv
  have hdat1 : (n = 0 ∧ dat = G.2.2.2.1) ∨ (10 ≤ cap ∧ n ≤ cap ∧ cap ≤ 100 ∧ (jup h L (.inr (0, [.int (mod + nI 1), .ref dat, .int (nI n)]))) dat = some (.inl (G.2.2.1.2.2.1, cap, .inr (.inr (.inr (.inr df))))) ∧ ∀ j, j < n → ∀ y, df j = some y → ∃ fs, (jup h L (.inr (0, [.int (mod + nI 1), .ref dat, .int (nI n)]))) y = some (.inr (2, fs))) := by
    rcases hdat with h1 | ⟨h1, h2, h3, hd, hel⟩
    · exact Or.inl h1
    · refine Or.inr ⟨h1, h2, h3, (jup_ne (ne_cell0 hd hL (fun z => by cases z))).trans hd, fun j hj y hy => ?_⟩
      obtain ⟨fs, hfs⟩ := hel j hj y hy
      exact ⟨fs, (jup_ne (fun z => by rw [z, hL] at hfs; cases hfs)).trans hfs⟩
  refine jM_of (cc := cJx4a65c_add_9ea2d) (maxL := 2) (ret := (some .boolean)) hlt (by decide +kernel) rfl (Nat.le_of_ble_eq_true rfl) ?_
  intro X C E hXl hXR hXn
  have hinJx4a65c : ∀ w ∈ u_ws RJx4a65c TJx4a65c 3, w ∈ wsJx4a65c_add_9ea2d := by decide +kernel
  show jW X G 2 0 0 0 [(0, .ref L), (1, .ref v)] [] h
  refine j_aload_n C (i := 0) (x := L) 0 rfl dJx4a65c_add_9ea2d_0 (pc' := 1) rfl ?_
  refine j_dup C rfl dJx4a65c_add_9ea2d_1 (pc' := 2) rfl ?_
  refine j_getS C (ref := "java/util/ArrayList") (CN := RJx4a65c) (T := TJx4a65c) (N := 3) (ci := 0) (index := 63) (a := L) (kf := 0) (fs := [.int mod, .ref dat, .int (nI n)]) (v := .int mod) hinJx4a65c rfl (by decide) (by decide +kernel) (by decide +kernel) hL rfl dJx4a65c_add_9ea2d_2 (pc' := 5) rfl ?_
  refine j_iconst C (v := nI 1) rfl dJx4a65c_add_9ea2d_5 (pc' := 6) rfl ?_
  refine j_iadd C (x := mod) (y := nI 1) dJx4a65c_add_9ea2d_6 (pc' := 7) rfl ?_
  refine j_putS C (ref := "java/util/ArrayList") (CN := RJx4a65c) (T := TJx4a65c) (N := 3) (ci := 0) (index := 63) (a := L) (kf := 0) (fs := [.int mod, .ref dat, .int (nI n)]) (v := .int (mod + nI 1)) (ty := .int) hinJx4a65c tyJx4a65c_ok nmJx4a65c rfl (by decide) (by decide +kernel) (by decide +kernel) rfl (by decide +kernel) rfl rfl hL (by show 0 < 3; decide) dJx4a65c_add_9ea2d_7 (pc' := 10) rfl ?_
  show jW X G 2 0 0 10 [(0, .ref L), (1, .ref v)] [] (jup h L (.inr (0, [.int (mod + nI 1), .ref dat, .int (nI n)])))
  refine j_aload_n C (i := 0) (x := L) 0 rfl dJx4a65c_add_9ea2d_10 (pc' := 11) rfl ?_
  refine j_aload_n C (i := 1) (x := v) 1 rfl dJx4a65c_add_9ea2d_11 (pc' := 12) rfl ?_
  refine j_aload_n C (i := 0) (x := L) 0 rfl dJx4a65c_add_9ea2d_12 (pc' := 13) rfl ?_
  refine j_get C (ref := "java/util/ArrayList") (CN := RJx4a65c) (T := TJx4a65c) (N := 3) (ci := 0) (index := 9) (a := L) (kf := 1) (fs := [.int (mod + nI 1), .ref dat, .int (nI n)]) (v := .ref dat) hinJx4a65c rfl (by decide) (by decide +kernel) rfl (jup_self _ _ _) rfl dJx4a65c_add_9ea2d_13 (pc' := 16) rfl ?_
  refine j_aload_n C (i := 0) (x := L) 0 rfl dJx4a65c_add_9ea2d_16 (pc' := 17) rfl ?_
  refine j_get C (ref := "java/util/ArrayList") (CN := RJx4a65c) (T := TJx4a65c) (N := 3) (ci := 0) (index := 48) (a := L) (kf := 2) (fs := [.int (mod + nI 1), .ref dat, .int (nI n)]) (v := .int (nI n)) hinJx4a65c rfl (by decide) (by decide +kernel) rfl (jup_self _ _ _) rfl dJx4a65c_add_9ea2d_17 (pc' := 20) rfl ?_
  refine j_callV C (As := [.ref v, .ref dat, .int (nI n)]) (rest := []) (c_add4 X.2.1 C.2.2.2.2.2.2.2.2 G (jup_self _ _ _) ((jup_ne hvL).trans hv) hdat1 hn) (cwV 3 C.2.2.2.2.1 gJx4a65c_add_9ea2d_Jx4a65c_add_72be8 rfl rfl rfl (by decide +kernel) (by rw [hXR]; decide)) (jup_self _ _ _) rfl rfl rfl (Nat.le_of_ble_eq_true rfl) dJx4a65c_add_9ea2d_20 (pc' := 23) rfl (by rw [hXR]; exact Nat.le_of_ble_eq_true rfl) (by rw [hXR]; exact Nat.le_of_ble_eq_true rfl) (fun _ _ z => z.elim) ?_
  rintro r h' ⟨rfl, b, cap', f', hb, hh, hf1, hf2, hc1, hc2, hc3⟩
  have hbL : b ≠ L := by
    rcases hb with ⟨-, cp, g, e⟩ | hb
    · exact fun z => by rw [z, jup_self] at e; cases e
    · exact fun z => by rw [z, jup_self] at hb; cases hb
  rw [jup_ne hbL] at hb
  rw [jup_sw2 hbL] at hh
  have hh := hh.symm
  subst hh
  show jW X G 2 1 100 23 [(0, .ref L), (1, .ref v)] [] (jup (jup h b (.inl (G.2.2.1.2.2.1, cap', .inr (.inr (.inr (.inr f')))))) L (.inr (0, [.int (mod + nI 1), .ref b, .int (nI (n + 1))])))
  refine j_iconst C (v := nI 1) rfl dJx4a65c_add_9ea2d_23 (pc' := 24) rfl ?_
  exact j_iret C E dJx4a65c_add_9ea2d_24 rfl (Nat.le_of_ble_eq_true rfl) (Nat.le_of_ble_eq_true rfl) ⟨rfl, b, cap', f', hb, rfl, hf1, hf2, hc1, hc2, hc3⟩
