theorem nI_max {m p : Nat} (hm : m < 1048576) (hp : p < 1048576) : (if nI m < nI p then nI p else nI m) = nI (if m < p then p else m) := by
  by_cases e : m < p
  · rw [if_pos (nI_lt e (by omega)), if_pos e]
  · rw [if_neg (nI_nlt (by omega) (by omega)), if_neg e]
theorem nI_half {n : Nat} (h : n < 1048576) : nI n >>> (nI 1 &&& 31) = nI (n / 2) := by
  have k := pk_shrN (n := n) (by omega) (nI 1 &&& 31) 1 (by decide)
  rw [Nat.pow_one] at k
  exact k
theorem jup_sw {h : jH} {b L : Nat} {x y x' y' : va_E} (_hn : b ≠ L) : jup (jup (jup (jup h b x) L y) b x') L y' = jup (jup h b x') L y' := by
  funext q
  by_cases e : q = L
  · rw [e, jup_self, jup_self]
  · rw [jup_ne e, jup_ne e]
    by_cases e2 : q = b
    · rw [e2, jup_self, jup_self]
    · rw [jup_ne e2, jup_ne e, jup_ne e2, jup_ne e2]
theorem jup_sw2 {h : jH} {b L : Nat} {x y y' : va_E} (_hn : b ≠ L) : jup (jup (jup h L x) b y) L y' = jup (jup h b y) L y' := by
  funext q
  by_cases e : q = L
  · rw [e, jup_self, jup_self]
  · rw [jup_ne e, jup_ne e]
    by_cases e2 : q = b
    · rw [e2, jup_self, jup_self]
    · rw [jup_ne e2, jup_ne e, jup_ne e2]
section ASG
variable {X : jX} {G : jG} {cc : ByteArray} {nL : Nat} {Ts : List Cond} {own : String}
theorem jC.asg (C : jC X G cc nL Ts own) (comp c0 : ClassId) (e1 : X.2.2.2.2.1.vm.findClass "java/lang/Object" = some comp) (e2 : X.2.2.2.2.1.vm.findClass "MapRevisions$Thing" = some c0) : X.2.2.2.2.1.vm.assignable c0 comp = true :=
  vb_asgC (C.2.2.2.2.2.2.2.1.2.2.2.2.2.2.2.2.2.2.2.1 ("MapRevisions$Thing", "java/lang/Object") (by decide)) comp c0 e1 e2
end ASG
set_option maxRecDepth 100000 in
set_option maxHeartbeats 4000000 in
theorem c_copyOfT (l : Launch) (hlt : l.stackTraces = false) (G : jG) {a0 n0 : Nat} {f : Nat → Option Nat} {h : jH} (h0 : h a0 = some (.inl (G.2.2.1.2.2.1, n0, .inr (.inr (.inr (.inr f)))))) (hel : ∀ j, j < n0 → ∀ y, f j = some y → ∃ fs, h y = some (.inr (2, fs))) (m : Nat) (h1 : n0 ≤ m) (hm : m ≤ 100) : jM l G yJ7_copyOf_6403c wsJ7_copyOf_6403c 1 70 1 100 [.ref a0, .int (nI m), .ref G.2.2.2.2.1] h (fun r h' => (∃ b, r = some (.ref b) ∧ h b = none ∧ h' = jup h b (.inl (G.2.2.1.2.2.1, m, .inr (.inr (.inr (.inr (va_cpy f (fun _ => none) 0 0 n0)))))))) (fun _ _ => False) := by
  refine jM_of (cc := cJ7_copyOf_6403c) (maxL := 4) (ret := (some (.array (.object "java/lang/Object")))) hlt (by decide +kernel) rfl (Nat.le_of_ble_eq_true rfl) ?_
  intro X C E hXl hXR hXn
  show jW X G 4 0 0 0 [(0, .ref a0), (1, .int (nI m)), (2, .ref G.2.2.2.2.1)] [] h
  refine j_aload_n C (i := 2) (x := G.2.2.2.2.1) 2 rfl dJ7_copyOf_6403c_0 (pc' := 1) rfl ?_
  refine j_ldcM C (idx := 110) (by decide +kernel) dJ7_copyOf_6403c_1 (pc' := 3) rfl ?_
  refine j_acmp_ne C dJ7_copyOf_6403c_3 (tgt := 13) (by decide) (pc' := 6) rfl (fun z => absurd rfl z) (fun _ => ?_)
  refine j_iload_n C (i := 1) (x := nI m) 1 rfl dJ7_copyOf_6403c_6 (pc' := 7) rfl ?_
  refine j_newa_q C (N := m) (idx := 2) (by decide +kernel) rfl (by omega) (by rw [hXR]; exact Nat.le_of_ble_eq_true rfl) (by rw [hXR]; show 0 + m ≤ 100; omega) dJ7_copyOf_6403c_7 (pc' := 10) rfl ?_
  intro b hb
  refine jW.widen (k' := 1) (n' := 100) (by omega) (by omega) ?_
  show jW X G 4 1 100 10 [(0, .ref a0), (1, .int (nI m)), (2, .ref G.2.2.2.2.1)] [.ref b] (jup h b (.inl (G.2.2.1.2.2.1, m, .inr (.inr (.inr (.inr (fun _ => none)))))))
  refine j_goto C dJ7_copyOf_6403c_10 (pc' := 24) (by decide) ?_
  refine j_astore_n C (i := 3) (x := b) (l' := [(3, .ref b), (0, .ref a0), (1, .int (nI m)), (2, .ref G.2.2.2.2.1)]) dJ7_copyOf_6403c_24 (pc' := 25) rfl (by decide) rfl ?_
  refine j_aload_n C (i := 0) (x := a0) 1 rfl dJ7_copyOf_6403c_25 (pc' := 26) rfl ?_
  refine j_iconst C (v := nI 0) rfl dJ7_copyOf_6403c_26 (pc' := 27) rfl ?_
  refine j_aload_n C (i := 3) (x := b) 0 rfl dJ7_copyOf_6403c_27 (pc' := 28) rfl ?_
  refine j_iconst C (v := nI 0) rfl dJ7_copyOf_6403c_28 (pc' := 29) rfl ?_
  refine j_aload_n C (i := 0) (x := a0) 1 rfl dJ7_copyOf_6403c_29 (pc' := 30) rfl ?_
  refine j_alen C (a := a0) (t0 := 2) (v := nI n0) ((jup_ne (fun z => by rw [z, hb] at h0; cases h0)).trans h0) rfl rfl dJ7_copyOf_6403c_30 (pc' := 31) rfl ?_
  refine j_iload_n C (i := 1) (x := nI m) 2 rfl dJ7_copyOf_6403c_31 (pc' := 32) rfl ?_
  refine j_min C (idx := 304) (v := nI n0) (if_neg (nI_nlt (by omega) (by omega))) (by decide +kernel) (by decide +kernel) (by decide +kernel) (by decide +kernel) (by rw [hXR]; decide) (by rw [hXR]; decide) (Nat.le_of_ble_eq_true rfl) (by rw [hXR]; exact Nat.le_of_ble_eq_true rfl) (by rw [hXR]; exact Nat.le_of_ble_eq_true rfl) dJ7_copyOf_6403c_32 (pc' := 35) rfl ?_
  show jW X G 4 1 100 35 [(3, .ref b), (0, .ref a0), (1, .int (nI m)), (2, .ref G.2.2.2.2.1)] [.int (nI n0), .int (nI 0), .ref b, .int (nI 0), .ref a0] (jup h b (.inl (G.2.2.1.2.2.1, m, .inr (.inr (.inr (.inr (fun _ => none)))))))
  refine j_copyr C (idx := 150) (a0 := a0) (a1 := b) (n0 := n0) (n1 := m) (m := n0) (f := f) (g := fun _ => none) (by decide +kernel) (by decide +kernel) (by decide +kernel) (by decide +kernel) (jup_some hb h0) (jup_self _ _ _) (fun j hj y hy => (hel j hj y hy).imp (fun fs e => jup_some hb e)) rfl (by omega) (by omega) (by omega) (by rw [hXR]; decide) (by rw [hXR]; decide) (Nat.le_of_ble_eq_true rfl) dJ7_copyOf_6403c_35 (pc' := 38) rfl ?_
  refine jt_h (jup_jup _ _ _ _) ?_
  show jW X G 4 1 100 38 [(3, .ref b), (0, .ref a0), (1, .int (nI m)), (2, .ref G.2.2.2.2.1)] [] (jup h b (.inl (G.2.2.1.2.2.1, m, .inr (.inr (.inr (.inr (va_cpy f (fun _ => none) 0 0 n0)))))))
  refine j_aload_n C (i := 3) (x := b) 0 rfl dJ7_copyOf_6403c_38 (pc' := 39) rfl ?_
  exact j_aret C E (Or.inr ⟨_, rfl⟩) (Or.inr ⟨_, rfl⟩) dJ7_copyOf_6403c_39 (Nat.le_of_ble_eq_true rfl) (Nat.le_of_ble_eq_true rfl) ⟨b, rfl, hb, rfl⟩
set_option maxRecDepth 100000 in
set_option maxHeartbeats 4000000 in
theorem c_copyOf (l : Launch) (hlt : l.stackTraces = false) (G : jG) {a0 n0 : Nat} {f : Nat → Option Nat} {h : jH} (h0 : h a0 = some (.inl (G.2.2.1.2.2.1, n0, .inr (.inr (.inr (.inr f)))))) (hel : ∀ j, j < n0 → ∀ y, f j = some y → ∃ fs, h y = some (.inr (2, fs))) (m : Nat) (h1 : n0 ≤ m) (hm : m ≤ 100) : jM l G yJ7_copyOf_1904c wsJ7_copyOf_1904c 2 93 1 100 [.ref a0, .int (nI m)] h (fun r h' => (∃ b, r = some (.ref b) ∧ h b = none ∧ h' = jup h b (.inl (G.2.2.1.2.2.1, m, .inr (.inr (.inr (.inr (va_cpy f (fun _ => none) 0 0 n0)))))))) (fun _ _ => False) := by
  refine jM_of (cc := cJ7_copyOf_1904c) (maxL := 2) (ret := (some (.array (.object "java/lang/Object")))) hlt (by decide +kernel) rfl (Nat.le_of_ble_eq_true rfl) ?_
  intro X C E hXl hXR hXn
  show jW X G 2 0 0 0 [(0, .ref a0), (1, .int (nI m))] [] h
  refine j_aload_n C (i := 0) (x := a0) 0 rfl dJ7_copyOf_1904c_0 (pc' := 1) rfl ?_
  refine j_iload_n C (i := 1) (x := nI m) 1 rfl dJ7_copyOf_1904c_1 (pc' := 2) rfl ?_
  refine j_aload_n C (i := 0) (x := a0) 0 rfl dJ7_copyOf_1904c_2 (pc' := 3) rfl ?_
  refine j_getC C (idx := 86) (by decide +kernel) (by decide +kernel) (by decide +kernel) (by decide +kernel) h0 (by rw [hXR]; decide) (by rw [hXR]; decide) (Nat.le_of_ble_eq_true rfl) dJ7_copyOf_1904c_3 (pc' := 6) rfl ?_
  refine j_callS C (As := [.ref a0, .int (nI m), .ref G.2.2.2.2.1]) (rest := []) (c_copyOfT X.2.1 C.2.2.2.2.2.2.2.2 G h0 hel m h1 hm) (va_cwS 3 C.2.2.2.2.1 gJ7_copyOf_1904c_J7_copyOf_6403c rfl rfl rfl (by decide +kernel) (by rw [hXR]; decide)) rfl rfl (Nat.le_of_ble_eq_true rfl) dJ7_copyOf_1904c_6 (pc' := 9) rfl (by rw [hXR]; exact Nat.le_of_ble_eq_true rfl) (by rw [hXR]; exact Nat.le_of_ble_eq_true rfl) (fun _ _ z => z.elim) ?_
  rintro r h' ⟨b, rfl, hb, rfl⟩
  show jW X G 2 1 100 9 [(0, .ref a0), (1, .int (nI m))] [.ref b] (jup h b (.inl (G.2.2.1.2.2.1, m, .inr (.inr (.inr (.inr (va_cpy f (fun _ => none) 0 0 n0)))))))
  exact j_aret C E (Or.inr ⟨_, rfl⟩) (Or.inr ⟨_, rfl⟩) dJ7_copyOf_1904c_9 (Nat.le_of_ble_eq_true rfl) (Nat.le_of_ble_eq_true rfl) ⟨b, rfl, hb, rfl⟩
set_option maxRecDepth 100000 in
set_option maxHeartbeats 4000000 in
theorem c_newLen (l : Launch) (hlt : l.stackTraces = false) (G : jG) {h : jH}  (o m p M : Nat) (hM : (if m < p then p else m) = M) (h1 : 1 ≤ M) (hb : o + m + p + M < 1000) : jM l G yJ8_newLength_cabcc wsJ8_newLength_cabcc 1 70 0 0 [.int (nI o), .int (nI m), .int (nI p)] h (fun r h' => r = some (.int (nI (o + M))) ∧ h' = h) (fun _ _ => False) := by
  refine jM_of (cc := cJ8_newLength_cabcc) (maxL := 4) (ret := (some .int)) hlt (by decide +kernel) rfl (Nat.le_of_ble_eq_true rfl) ?_
  intro X C E hXl hXR hXn
  show jW X G 4 0 0 0 [(0, .int (nI o)), (1, .int (nI m)), (2, .int (nI p))] [] h
  refine j_iload_n C (i := 0) (x := nI o) 0 rfl dJ8_newLength_cabcc_0 (pc' := 1) rfl ?_
  refine j_iload_n C (i := 1) (x := nI m) 1 rfl dJ8_newLength_cabcc_1 (pc' := 2) rfl ?_
  refine j_iload_n C (i := 2) (x := nI p) 2 rfl dJ8_newLength_cabcc_2 (pc' := 3) rfl ?_
  refine j_max C (idx := 194) (v := nI M) (by rw [nI_max (by omega) (by omega), hM]) (by decide +kernel) (by decide +kernel) (by decide +kernel) (by decide +kernel) (by rw [hXR]; decide) (by rw [hXR]; decide) (Nat.le_of_ble_eq_true rfl) (by rw [hXR]; exact Nat.le_of_ble_eq_true rfl) (by rw [hXR]; exact Nat.le_of_ble_eq_true rfl) dJ8_newLength_cabcc_3 (pc' := 6) rfl ?_
  refine j_iadd C (x := nI o) (y := nI M) dJ8_newLength_cabcc_6 (pc' := 7) rfl ?_
  refine jt_i (nI_add _ _) ?_
  refine j_istore_n C (i := 3) (x := nI (o + M)) (l' := [(3, .int (nI (o + M))), (0, .int (nI o)), (1, .int (nI m)), (2, .int (nI p))]) dJ8_newLength_cabcc_7 (pc' := 8) rfl (by decide) rfl ?_
  refine j_iconst C (v := nI 0) rfl dJ8_newLength_cabcc_8 (pc' := 9) rfl ?_
  refine j_iload_n C (i := 3) (x := nI (o + M)) 0 rfl dJ8_newLength_cabcc_9 (pc' := 10) rfl ?_
  refine j_icmp_ge C dJ8_newLength_cabcc_10 (tgt := 21) (by decide) (pc' := 13) rfl (fun c_1 => absurd c_1 (nI_ge (by omega) (by omega))) (fun _ => ?_)
  refine j_iload_n C (i := 3) (x := nI (o + M)) 0 rfl dJ8_newLength_cabcc_13 (pc' := 14) rfl ?_
  refine j_ldc C (v := nI 2147483639) (by decide +kernel) dJ8_newLength_cabcc_14 (pc' := 16) rfl ?_
  refine j_icmp_gt C dJ8_newLength_cabcc_16 (tgt := 21) (by decide) (pc' := 19) rfl (fun c_2 => absurd c_2 (nI_nlt (by omega) (by omega))) (fun _ => ?_)
  refine j_iload_n C (i := 3) (x := nI (o + M)) 0 rfl dJ8_newLength_cabcc_19 (pc' := 20) rfl ?_
  exact j_iret C E dJ8_newLength_cabcc_20 rfl (Nat.le_of_ble_eq_true rfl) (Nat.le_of_ble_eq_true rfl) ⟨rfl, rfl⟩
set_option maxRecDepth 100000 in
set_option maxHeartbeats 4000000 in
theorem c_growB (l : Launch) (hlt : l.stackTraces = false) (G : jG) {L dat : Nat} {mod : Int32} {df : Nat → Option Nat} {n : Nat} {h : jH} (hL : h L = some (.inr (0, [.int mod, .ref dat, .int (nI n)]))) (hd : h dat = some (.inl (G.2.2.1.2.2.1, n, .inr (.inr (.inr (.inr df)))))) (hel : ∀ j, j < n → ∀ y, df j = some y → ∃ fs, h y = some (.inr (2, fs))) (h10 : 10 ≤ n) (hn : n ≤ 60) : jM l G yJx4a65c_grow_92f84 wsJx4a65c_grow_92f84 3 114 1 100 [.ref L, .int (nI (n + 1))] h (fun r h' => (∃ b, r = some (.ref b) ∧ h b = none ∧ h' = jup (jup h b (.inl (G.2.2.1.2.2.1, (n + n / 2), .inr (.inr (.inr (.inr (va_cpy df (fun _ => none) 0 0 n))))))) L (.inr (0, [.int mod, .ref b, .int (nI n)])))) (fun _ _ => False) := by
  refine jM_of (cc := cJx4a65c_grow_92f84) (maxL := 4) (ret := (some (.array (.object "java/lang/Object")))) hlt (by decide +kernel) rfl (Nat.le_of_ble_eq_true rfl) ?_
  intro X C E hXl hXR hXn
  have hinJx4a65c : ∀ w ∈ u_ws RJx4a65c TJx4a65c 3, w ∈ wsJx4a65c_grow_92f84 := by decide +kernel
  show jW X G 4 0 0 0 [(0, .ref L), (1, .int (nI (n + 1)))] [] h
  refine j_aload_n C (i := 0) (x := L) 0 rfl dJx4a65c_grow_92f84_0 (pc' := 1) rfl ?_
  refine j_get C (ref := "java/util/ArrayList") (CN := RJx4a65c) (T := TJx4a65c) (N := 3) (ci := 0) (index := 9) (a := L) (kf := 1) (fs := [.int mod, .ref dat, .int (nI n)]) (v := .ref dat) hinJx4a65c rfl (by decide) (by decide +kernel) rfl hL rfl dJx4a65c_grow_92f84_1 (pc' := 4) rfl ?_
  refine j_alen C (a := dat) (t0 := 2) (v := nI n) hd rfl rfl dJx4a65c_grow_92f84_4 (pc' := 5) rfl ?_
  refine j_istore_n C (i := 2) (x := nI n) (l' := [(2, .int (nI n)), (0, .ref L), (1, .int (nI (n + 1)))]) dJx4a65c_grow_92f84_5 (pc' := 6) rfl (by decide) rfl ?_
  refine j_iload_n C (i := 2) (x := nI n) 0 rfl dJx4a65c_grow_92f84_6 (pc' := 7) rfl ?_
  refine j_if_gt C dJx4a65c_grow_92f84_7 (tgt := 20) (by decide) (pc' := 10) rfl (fun c_1 => ?_) (fun c_1 => ?_)
  · have c_1 := (nI_ltI (a := 0) (b := n) (by omega) (by omega)).mp c_1
    have c_1 : 0 < n := c_1
    refine j_iload_n C (i := 2) (x := nI n) 0 rfl dJx4a65c_grow_92f84_20 (pc' := 21) rfl ?_
    refine j_iload_n C (i := 1) (x := nI (n + 1)) 2 rfl dJx4a65c_grow_92f84_21 (pc' := 22) rfl ?_
    refine j_iload_n C (i := 2) (x := nI n) 0 rfl dJx4a65c_grow_92f84_22 (pc' := 23) rfl ?_
    refine j_isub C (x := nI (n + 1)) (y := nI n) dJx4a65c_grow_92f84_23 (pc' := 24) rfl ?_
    refine jt_i (pk_sub (by omega)) ?_
    refine jt_i (y := nI 1) (by rw [show n + 1 - n = 1 by omega]) ?_
    refine j_iload_n C (i := 2) (x := nI n) 0 rfl dJx4a65c_grow_92f84_24 (pc' := 25) rfl ?_
    refine j_iconst C (v := nI 1) rfl dJx4a65c_grow_92f84_25 (pc' := 26) rfl ?_
    refine j_ishr C (v := nI (n / 2)) (nI_half (by omega)) dJx4a65c_grow_92f84_26 (pc' := 27) rfl ?_
    refine j_callS C (As := [.int (nI n), .int (nI 1), .int (nI (n / 2))]) (rest := []) (c_newLen X.2.1 C.2.2.2.2.2.2.2.2 G n 1 (n / 2) (n / 2) (if_pos (by omega)) (by omega) (by omega)) (va_cwS 3 C.2.2.2.2.1 gJx4a65c_grow_92f84_J8_newLength_cabcc rfl rfl rfl (by decide +kernel) (by rw [hXR]; decide)) rfl rfl (Nat.le_of_ble_eq_true rfl) dJx4a65c_grow_92f84_27 (pc' := 30) rfl (by rw [hXR]; exact Nat.le_of_ble_eq_true rfl) (by rw [hXR]; exact Nat.le_of_ble_eq_true rfl) (fun _ _ z => z.elim) ?_
    rintro r h' ⟨rfl, hh⟩
    have hh := hh.symm
    subst hh
    show jW X G 4 0 0 30 [(2, .int (nI n)), (0, .ref L), (1, .int (nI (n + 1)))] [.int (nI (n + n / 2))] h
    refine j_istore_n C (i := 3) (x := nI (n + n / 2)) (l' := [(3, .int (nI (n + n / 2))), (2, .int (nI n)), (0, .ref L), (1, .int (nI (n + 1)))]) dJx4a65c_grow_92f84_30 (pc' := 31) rfl (by decide) rfl ?_
    refine j_aload_n C (i := 0) (x := L) 2 rfl dJx4a65c_grow_92f84_31 (pc' := 32) rfl ?_
    refine j_aload_n C (i := 0) (x := L) 2 rfl dJx4a65c_grow_92f84_32 (pc' := 33) rfl ?_
    refine j_get C (ref := "java/util/ArrayList") (CN := RJx4a65c) (T := TJx4a65c) (N := 3) (ci := 0) (index := 9) (a := L) (kf := 1) (fs := [.int mod, .ref dat, .int (nI n)]) (v := .ref dat) hinJx4a65c rfl (by decide) (by decide +kernel) rfl hL rfl dJx4a65c_grow_92f84_33 (pc' := 36) rfl ?_
    refine j_iload_n C (i := 3) (x := nI (n + n / 2)) 0 rfl dJx4a65c_grow_92f84_36 (pc' := 37) rfl ?_
    refine j_callS C (As := [.ref dat, .int (nI (n + n / 2))]) (rest := [.ref L]) (c_copyOf X.2.1 C.2.2.2.2.2.2.2.2 G hd hel (n + n / 2) (by omega) (by omega)) (va_cwS 2 C.2.2.2.2.1 gJx4a65c_grow_92f84_J7_copyOf_1904c rfl rfl rfl (by decide +kernel) (by rw [hXR]; decide)) rfl rfl (Nat.le_of_ble_eq_true rfl) dJx4a65c_grow_92f84_37 (pc' := 40) rfl (by rw [hXR]; exact Nat.le_of_ble_eq_true rfl) (by rw [hXR]; exact Nat.le_of_ble_eq_true rfl) (fun _ _ z => z.elim) ?_
    rintro r h' ⟨b, rfl, hb, rfl⟩
    show jW X G 4 1 100 40 [(3, .int (nI (n + n / 2))), (2, .int (nI n)), (0, .ref L), (1, .int (nI (n + 1)))] [.ref b, .ref L] (jup h b (.inl (G.2.2.1.2.2.1, (n + n / 2), .inr (.inr (.inr (.inr (va_cpy df (fun _ => none) 0 0 n)))))))
    refine j_dup_x1 C rfl rfl dJx4a65c_grow_92f84_40 (pc' := 41) rfl ?_
    refine j_put C (ref := "java/util/ArrayList") (CN := RJx4a65c) (T := TJx4a65c) (N := 3) (ci := 0) (index := 9) (a := L) (kf := 1) (fs := [.int mod, .ref dat, .int (nI n)]) (v := .ref b) (ty := (.array (.object "java/lang/Object"))) hinJx4a65c tyJx4a65c_ok nmJx4a65c rfl (by decide) (by decide +kernel) rfl rfl (by decide +kernel) rfl rfl ((jup_ne (fun z => by rw [z, hb] at hL; cases hL)).trans hL) (by show 1 < 3; decide) dJx4a65c_grow_92f84_41 (pc' := 44) rfl ?_
    show jW X G 4 1 100 44 [(3, .int (nI (n + n / 2))), (2, .int (nI n)), (0, .ref L), (1, .int (nI (n + 1)))] [.ref b] (jup (jup h b (.inl (G.2.2.1.2.2.1, (n + n / 2), .inr (.inr (.inr (.inr (va_cpy df (fun _ => none) 0 0 n))))))) L (.inr (0, [.int mod, .ref b, .int (nI n)])))
    exact j_aret C E (Or.inr ⟨_, rfl⟩) (Or.inr ⟨_, rfl⟩) dJx4a65c_grow_92f84_44 (Nat.le_of_ble_eq_true rfl) (Nat.le_of_ble_eq_true rfl) ⟨b, rfl, hb, rfl⟩
  · have c_1 := fun zq => c_1 ((nI_ltI (a := 0) (b := n) (by omega) (by omega)).mpr zq)
    have c_1 : ¬ 0 < n := c_1
    omega
set_option maxRecDepth 100000 in
set_option maxHeartbeats 4000000 in
theorem c_growA (l : Launch) (hlt : l.stackTraces = false) (G : jG) {L : Nat} {mod : Int32} {h : jH} (hL : h L = some (.inr (0, [.int mod, .ref G.2.2.2.1, .int (nI 0)])))  : jM l G yJx4a65c_grow_92f84 wsJx4a65c_grow_92f84 3 114 1 100 [.ref L, .int (nI 1)] h (fun r h' => (∃ b, r = some (.ref b) ∧ h b = none ∧ h' = jup (jup h b (.inl (G.2.2.1.2.2.1, 10, .inr (.inr (.inr (.inr (fun _ => none))))))) L (.inr (0, [.int mod, .ref b, .int (nI 0)])))) (fun _ _ => False) := by
  refine jM_of (cc := cJx4a65c_grow_92f84) (maxL := 4) (ret := (some (.array (.object "java/lang/Object")))) hlt (by decide +kernel) rfl (Nat.le_of_ble_eq_true rfl) ?_
  intro X C E hXl hXR hXn
  have hinJx4a65c : ∀ w ∈ u_ws RJx4a65c TJx4a65c 3, w ∈ wsJx4a65c_grow_92f84 := by decide +kernel
  show jW X G 4 0 0 0 [(0, .ref L), (1, .int (nI 1))] [] h
  refine j_aload_n C (i := 0) (x := L) 0 rfl dJx4a65c_grow_92f84_0 (pc' := 1) rfl ?_
  refine j_get C (ref := "java/util/ArrayList") (CN := RJx4a65c) (T := TJx4a65c) (N := 3) (ci := 0) (index := 9) (a := L) (kf := 1) (fs := [.int mod, .ref G.2.2.2.1, .int (nI 0)]) (v := .ref G.2.2.2.1) hinJx4a65c rfl (by decide) (by decide +kernel) rfl hL rfl dJx4a65c_grow_92f84_1 (pc' := 4) rfl ?_
  refine j_alen0 C dJx4a65c_grow_92f84_4 (pc' := 5) rfl ?_
  refine j_istore_n C (i := 2) (x := nI 0) (l' := [(2, .int (nI 0)), (0, .ref L), (1, .int (nI 1))]) dJx4a65c_grow_92f84_5 (pc' := 6) rfl (by decide) rfl ?_
  refine j_iload_n C (i := 2) (x := nI 0) 0 rfl dJx4a65c_grow_92f84_6 (pc' := 7) rfl ?_
  refine j_if_gt C dJx4a65c_grow_92f84_7 (tgt := 20) (by decide) (pc' := 10) rfl (fun c_1 => absurd c_1 (by decide)) (fun _ => ?_)
  refine j_aload_n C (i := 0) (x := L) 1 rfl dJx4a65c_grow_92f84_10 (pc' := 11) rfl ?_
  refine j_get C (ref := "java/util/ArrayList") (CN := RJx4a65c) (T := TJx4a65c) (N := 3) (ci := 0) (index := 9) (a := L) (kf := 1) (fs := [.int mod, .ref G.2.2.2.1, .int (nI 0)]) (v := .ref G.2.2.2.1) hinJx4a65c rfl (by decide) (by decide +kernel) rfl hL rfl dJx4a65c_grow_92f84_11 (pc' := 14) rfl ?_
  refine j_gets C (idx := 39) (by decide +kernel) dJx4a65c_grow_92f84_14 (pc' := 17) rfl ?_
  refine j_acmp_eq C dJx4a65c_grow_92f84_17 (tgt := 45) (by decide) (pc' := 20) rfl (fun _ => ?_) (fun z => absurd rfl z)
  refine j_aload_n C (i := 0) (x := L) 1 rfl dJx4a65c_grow_92f84_45 (pc' := 46) rfl ?_
  refine j_bipush C (v := nI 10) rfl dJx4a65c_grow_92f84_46 (pc' := 48) rfl ?_
  refine j_iload_n C (i := 1) (x := nI 1) 2 rfl dJx4a65c_grow_92f84_48 (pc' := 49) rfl ?_
  refine j_max C (idx := 79) (v := nI 10) (by decide) (by decide +kernel) (by decide +kernel) (by decide +kernel) (by decide +kernel) (by rw [hXR]; decide) (by rw [hXR]; decide) (Nat.le_of_ble_eq_true rfl) (by rw [hXR]; exact Nat.le_of_ble_eq_true rfl) (by rw [hXR]; exact Nat.le_of_ble_eq_true rfl) dJx4a65c_grow_92f84_49 (pc' := 52) rfl ?_
  refine j_newa_q C (N := 10) (idx := 7) (by decide +kernel) rfl (by omega) (by rw [hXR]; exact Nat.le_of_ble_eq_true rfl) (by rw [hXR]; show 0 + 10 ≤ 100; omega) dJx4a65c_grow_92f84_52 (pc' := 55) rfl ?_
  intro b hb
  show jW X G 4 1 10 55 [(2, .int (nI 0)), (0, .ref L), (1, .int (nI 1))] [.ref b, .ref L] (jup h b (.inl (G.2.2.1.2.2.1, 10, .inr (.inr (.inr (.inr (fun _ => none)))))))
  refine j_dup_x1 C rfl rfl dJx4a65c_grow_92f84_55 (pc' := 56) rfl ?_
  refine j_put C (ref := "java/util/ArrayList") (CN := RJx4a65c) (T := TJx4a65c) (N := 3) (ci := 0) (index := 9) (a := L) (kf := 1) (fs := [.int mod, .ref G.2.2.2.1, .int (nI 0)]) (v := .ref b) (ty := (.array (.object "java/lang/Object"))) hinJx4a65c tyJx4a65c_ok nmJx4a65c rfl (by decide) (by decide +kernel) rfl rfl (by decide +kernel) rfl rfl ((jup_ne (fun z => by rw [z, hb] at hL; cases hL)).trans hL) (by show 1 < 3; decide) dJx4a65c_grow_92f84_56 (pc' := 59) rfl ?_
  show jW X G 4 1 10 59 [(2, .int (nI 0)), (0, .ref L), (1, .int (nI 1))] [.ref b] (jup (jup h b (.inl (G.2.2.1.2.2.1, 10, .inr (.inr (.inr (.inr (fun _ => none))))))) L (.inr (0, [.int mod, .ref b, .int (nI 0)])))
  exact j_aret C E (Or.inr ⟨_, rfl⟩) (Or.inr ⟨_, rfl⟩) dJx4a65c_grow_92f84_59 (Nat.le_of_ble_eq_true rfl) (Nat.le_of_ble_eq_true rfl) ⟨b, rfl, hb, rfl⟩
set_option maxRecDepth 100000 in
set_option maxHeartbeats 4000000 in
theorem c_grow1B (l : Launch) (hlt : l.stackTraces = false) (G : jG) {L dat : Nat} {mod : Int32} {df : Nat → Option Nat} {n : Nat} {h : jH} (hL : h L = some (.inr (0, [.int mod, .ref dat, .int (nI n)]))) (hd : h dat = some (.inl (G.2.2.1.2.2.1, n, .inr (.inr (.inr (.inr df)))))) (hel : ∀ j, j < n → ∀ y, df j = some y → ∃ fs, h y = some (.inr (2, fs))) (h10 : 10 ≤ n) (hn : n ≤ 60) : jM l G yJx4a65c_grow_d5877 wsJx4a65c_grow_d5877 4 137 1 100 [.ref L] h (fun r h' => (∃ b, r = some (.ref b) ∧ h b = none ∧ h' = jup (jup h b (.inl (G.2.2.1.2.2.1, (n + n / 2), .inr (.inr (.inr (.inr (va_cpy df (fun _ => none) 0 0 n))))))) L (.inr (0, [.int mod, .ref b, .int (nI n)])))) (fun _ _ => False) := by
  refine jM_of (cc := cJx4a65c_grow_d5877) (maxL := 1) (ret := (some (.array (.object "java/lang/Object")))) hlt (by decide +kernel) rfl (Nat.le_of_ble_eq_true rfl) ?_
  intro X C E hXl hXR hXn
  have hinJx4a65c : ∀ w ∈ u_ws RJx4a65c TJx4a65c 3, w ∈ wsJx4a65c_grow_d5877 := by decide +kernel
  show jW X G 1 0 0 0 [(0, .ref L)] [] h
  refine j_aload_n C (i := 0) (x := L) 0 rfl dJx4a65c_grow_d5877_0 (pc' := 1) rfl ?_
  refine j_aload_n C (i := 0) (x := L) 0 rfl dJx4a65c_grow_d5877_1 (pc' := 2) rfl ?_
  refine j_get C (ref := "java/util/ArrayList") (CN := RJx4a65c) (T := TJx4a65c) (N := 3) (ci := 0) (index := 48) (a := L) (kf := 2) (fs := [.int mod, .ref dat, .int (nI n)]) (v := .int (nI n)) hinJx4a65c rfl (by decide) (by decide +kernel) rfl hL rfl dJx4a65c_grow_d5877_2 (pc' := 5) rfl ?_
  refine j_iconst C (v := nI 1) rfl dJx4a65c_grow_d5877_5 (pc' := 6) rfl ?_
  refine j_iadd C (x := nI n) (y := nI 1) dJx4a65c_grow_d5877_6 (pc' := 7) rfl ?_
  refine jt_i (nI_add _ _) ?_
  refine j_callV C (As := [.int (nI (n + 1))]) (rest := []) (c_growB X.2.1 C.2.2.2.2.2.2.2.2 G hL hd hel h10 hn) (cwV 1 C.2.2.2.2.1 gJx4a65c_grow_d5877_Jx4a65c_grow_92f84 rfl rfl rfl (by decide +kernel) (by rw [hXR]; decide)) hL rfl rfl rfl (Nat.le_of_ble_eq_true rfl) dJx4a65c_grow_d5877_7 (pc' := 10) rfl (by rw [hXR]; exact Nat.le_of_ble_eq_true rfl) (by rw [hXR]; exact Nat.le_of_ble_eq_true rfl) (fun _ _ z => z.elim) ?_
  rintro r h' ⟨b, rfl, hb, rfl⟩
  show jW X G 1 1 100 10 [(0, .ref L)] [.ref b] (jup (jup h b (.inl (G.2.2.1.2.2.1, (n + n / 2), .inr (.inr (.inr (.inr (va_cpy df (fun _ => none) 0 0 n))))))) L (.inr (0, [.int mod, .ref b, .int (nI n)])))
  exact j_aret C E (Or.inr ⟨_, rfl⟩) (Or.inr ⟨_, rfl⟩) dJx4a65c_grow_d5877_10 (Nat.le_of_ble_eq_true rfl) (Nat.le_of_ble_eq_true rfl) ⟨b, rfl, hb, rfl⟩
set_option maxRecDepth 100000 in
set_option maxHeartbeats 4000000 in
theorem c_grow1A (l : Launch) (hlt : l.stackTraces = false) (G : jG) {L : Nat} {mod : Int32} {h : jH} (hL : h L = some (.inr (0, [.int mod, .ref G.2.2.2.1, .int (nI 0)])))  : jM l G yJx4a65c_grow_d5877 wsJx4a65c_grow_d5877 4 137 1 100 [.ref L] h (fun r h' => (∃ b, r = some (.ref b) ∧ h b = none ∧ h' = jup (jup h b (.inl (G.2.2.1.2.2.1, 10, .inr (.inr (.inr (.inr (fun _ => none))))))) L (.inr (0, [.int mod, .ref b, .int (nI 0)])))) (fun _ _ => False) := by
  refine jM_of (cc := cJx4a65c_grow_d5877) (maxL := 1) (ret := (some (.array (.object "java/lang/Object")))) hlt (by decide +kernel) rfl (Nat.le_of_ble_eq_true rfl) ?_
  intro X C E hXl hXR hXn
  have hinJx4a65c : ∀ w ∈ u_ws RJx4a65c TJx4a65c 3, w ∈ wsJx4a65c_grow_d5877 := by decide +kernel
  show jW X G 1 0 0 0 [(0, .ref L)] [] h
  refine j_aload_n C (i := 0) (x := L) 0 rfl dJx4a65c_grow_d5877_0 (pc' := 1) rfl ?_
  refine j_aload_n C (i := 0) (x := L) 0 rfl dJx4a65c_grow_d5877_1 (pc' := 2) rfl ?_
  refine j_get C (ref := "java/util/ArrayList") (CN := RJx4a65c) (T := TJx4a65c) (N := 3) (ci := 0) (index := 48) (a := L) (kf := 2) (fs := [.int mod, .ref G.2.2.2.1, .int (nI 0)]) (v := .int (nI 0)) hinJx4a65c rfl (by decide) (by decide +kernel) rfl hL rfl dJx4a65c_grow_d5877_2 (pc' := 5) rfl ?_
  refine j_iconst C (v := nI 1) rfl dJx4a65c_grow_d5877_5 (pc' := 6) rfl ?_
  refine j_iadd C (x := nI 0) (y := nI 1) dJx4a65c_grow_d5877_6 (pc' := 7) rfl ?_
  refine jt_i (nI_add _ _) ?_
  refine j_callV C (As := [.int (nI (0 + 1))]) (rest := []) (c_growA X.2.1 C.2.2.2.2.2.2.2.2 G hL) (cwV 1 C.2.2.2.2.1 gJx4a65c_grow_d5877_Jx4a65c_grow_92f84 rfl rfl rfl (by decide +kernel) (by rw [hXR]; decide)) hL rfl rfl rfl (Nat.le_of_ble_eq_true rfl) dJx4a65c_grow_d5877_7 (pc' := 10) rfl (by rw [hXR]; exact Nat.le_of_ble_eq_true rfl) (by rw [hXR]; exact Nat.le_of_ble_eq_true rfl) (fun _ _ z => z.elim) ?_
  rintro r h' ⟨b, rfl, hb, rfl⟩
  show jW X G 1 1 100 10 [(0, .ref L)] [.ref b] (jup (jup h b (.inl (G.2.2.1.2.2.1, 10, .inr (.inr (.inr (.inr (fun _ => none))))))) L (.inr (0, [.int mod, .ref b, .int (nI 0)])))
  exact j_aret C E (Or.inr ⟨_, rfl⟩) (Or.inr ⟨_, rfl⟩) dJx4a65c_grow_d5877_10 (Nat.le_of_ble_eq_true rfl) (Nat.le_of_ble_eq_true rfl) ⟨b, rfl, hb, rfl⟩
