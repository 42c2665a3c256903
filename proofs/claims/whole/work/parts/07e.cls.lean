theorem ggX3_take_J9_min_7cf53 : GoodIn wsX3_take wsJ9_min_7cf53 := goodIn_sub (by decide +kernel) (by decide +kernel)
theorem gX3_take_J9_min_7cf53 : GoodIn wsX3_take (va_wsS RX3 224 yJ9_min_7cf53 wsJ9_min_7cf53) := goodIn_app (goodIn_of _ (by decide +kernel)) ggX3_take_J9_min_7cf53
def sumN (f : Nat → Nat) : Nat → Nat
  | 0 => 0
  | n + 1 => sumN f n + f n
set_option maxRecDepth 100000 in
set_option maxHeartbeats 4000000 in
theorem c_min (l : Launch) (hlt : l.stackTraces = false) (G : jG) {h : jH}  (i j : Nat) (hi : i < 2097152) (hj : j < 2097152) : jM l G yJ9_min_7cf53 wsJ9_min_7cf53 0 0 0 0 [.int (nI i), .int (nI j)] h (fun r h' => r = some (.int (nI (if i < j then i else j))) ∧ h' = h) (fun _ _ => False) := by
  refine jM_ofF (cc := cJ9_min_7cf53) (maxL := 2) (ret := (some .int)) hlt (by decide +kernel) rfl (Nat.le_of_ble_eq_true rfl) ?_
  intro X C E hXl hXR hXn
  show jW X G 2 0 0 0 [(0, .int (nI i)), (1, .int (nI j))] [] h
  refine j_iload_n C (i := 0) (x := nI i) 0 rfl dJ9_min_7cf53_0 (pc' := 1) rfl ?_
  refine j_iload_n C (i := 1) (x := nI j) 1 rfl dJ9_min_7cf53_1 (pc' := 2) rfl ?_
  refine j_icmp_gt C dJ9_min_7cf53_2 (tgt := 9) (by decide) (pc' := 5) rfl (fun c_1 => ?_) (fun c_1 => ?_)
  · have c_1 := (nI_ltI (a := j) (b := i) (by omega) (by omega)).mp c_1
    have c_1 : j < i := c_1
    refine j_iload_n C (i := 1) (x := nI j) 1 rfl dJ9_min_7cf53_9 (pc' := 10) rfl ?_
    exact j_iret C E dJ9_min_7cf53_10 rfl (Nat.le_of_ble_eq_true rfl) (Nat.le_of_ble_eq_true rfl) ⟨by rw [show (if i < j then i else j) = j from by split <;> omega], rfl⟩
  · have c_1 := fun zq => c_1 ((nI_ltI (a := j) (b := i) (by omega) (by omega)).mpr zq)
    have c_1 : ¬ j < i := c_1
    refine j_iload_n C (i := 0) (x := nI i) 0 rfl dJ9_min_7cf53_5 (pc' := 6) rfl ?_
    refine j_goto C dJ9_min_7cf53_6 (pc' := 10) (by decide) ?_
    exact j_iret C E dJ9_min_7cf53_10 rfl (Nat.le_of_ble_eq_true rfl) (Nat.le_of_ble_eq_true rfl) ⟨by rw [show (if i < j then i else j) = i from by split <;> omega], rfl⟩
set_option maxRecDepth 100000 in
set_option maxHeartbeats 4000000 in
theorem c_take (l : Launch) (hlt : l.stackTraces = false) (G : jG) {P : Nat → Prop} {xo : Nat} {xa th va ca ma : Nat → Nat} {dat cap : Nat} {mod : Int32} {df : Nat → Option Nat} {vf dr : Nat → Int32} {mf : Nat → Nat → Int32} {s : mS} {a : mA} {h : jH} (Q : cQ G P xo xa th va ca ma dat cap mod df vf dr mf s a h) (J : IS s) (I : IA a) (m : Int32) (hc : s 1 ≤ s 0) (mB : ∀ t, t < s 6 → ∀ u, s 1 ≤ u → mBef a t (s 1) ≤ mBef a t u) (bB : ∀ t, t < s 6 → ∀ u, mBef a t u ≤ 1400) : jM l G yX3_take wsX3_take 7 111 1 6 [.ref xo, .int m] h (fun r h' => r = some (.int (nI (sumN (fun t => mBef a t (oTakeN s m) - mBef a t (s 1)) (s 6)))) ∧ (oTake s a m).2.1 25 = 0 ∧ cQ G P xo xa th va ca ma dat cap mod df vf dr mf (oTake s a m).2.1 (oTake s a m).2.2 h' ∧ ∀ q, P q → h' q = h q) (fun E h' => (E = "java/lang/IllegalArgumentException" ∧ h' = h ∧ (oTake s a m).2.1 25 = 1)) := by
  have h6 := J.2.1
  have h2 := J.2.2.1
  have h4 := J.2.2.2.1
  have h10 := J.2.2.2.2.1
  have hs0 := J.1 0
  have hs1 := J.1 1
  refine jM_of (cc := cX3_take) (maxL := 5) (ret := (some .int)) hlt (by decide +kernel) rfl (Nat.le_of_ble_eq_true rfl) ?_
  intro X C E hXl hXR hXn
  have hinX3 : ∀ w ∈ u_ws RX3 TX3 11, w ∈ wsX3_take := by decide +kernel
  show jW X G 5 0 0 0 [(0, .ref xo), (1, .int m)] [] h
  refine j_aload_n C (i := 0) (x := xo) 0 rfl dX3_take_0 (pc' := 1) rfl ?_
  refine j_iload_n C (i := 1) (x := m) 1 rfl dX3_take_1 (pc' := 2) rfl ?_
  refine j_callV C (As := [.int m]) (rest := []) (c_needMinutes X.2.1 C.2.2.2.2.2.2.2.2 G Q J I m) (cwV 1 C.2.2.2.2.1 gX3_take_X3_needMinutes rfl rfl rfl (by decide +kernel) (by rw [hXR]; decide)) Q.obj rfl rfl rfl (Nat.le_of_ble_eq_true rfl) dX3_take_2 (pc' := 5) rfl (by rw [hXR]; exact Nat.le_of_ble_eq_true rfl) (by rw [hXR]; exact Nat.le_of_ble_eq_true rfl) (by rintro E' h' ⟨rfl, hx, ex_1⟩; exact j_out C E (Nat.le_of_ble_eq_true rfl) (Nat.le_of_ble_eq_true rfl) ⟨rfl, hx, by unfold oTake; rw [if_neg (bff ex_1)] <;> rfl⟩) ?_
  rintro r h' ⟨rfl, hh, nd_2⟩
  have hh := hh.symm
  subst hh
  show jW X G 5 1 6 5 [(0, .ref xo), (1, .int m)] [] h
  obtain ⟨j, lj, hj, rfl⟩ := inR_of (v := m) (lo := 1) (hi := 100) (by omega) (by omega) nd_2
  refine j_aload_n C (i := 0) (x := xo) 0 rfl dX3_take_5 (pc' := 6) rfl ?_
  refine j_get C (ref := "MapRevisions") (CN := RX3) (T := TX3) (N := 11) (ci := 4) (index := 52) (a := xo) (kf := 10) (fs := [.ref (xa 0), .ref (xa 1), .ref (xa 2), .ref (xa 3), .ref (xa 4), .ref (xa 5), .int (nI (s 2)), .int (nI (s 4)), .int (nI (s 10)), .int (nI (s 0)), .int (nI (s 1))]) (v := .int (nI (s 1))) hinX3 rfl (by decide) (by decide +kernel) rfl Q.obj rfl dX3_take_6 (pc' := 9) rfl ?_
  refine j_iload_n C (i := 1) (x := nI j) 1 rfl dX3_take_9 (pc' := 10) rfl ?_
  refine j_iadd C (x := nI (s 1)) (y := nI j) dX3_take_10 (pc' := 11) rfl ?_
  refine jt_i (nI_add _ _) ?_
  refine j_aload_n C (i := 0) (x := xo) 0 rfl dX3_take_11 (pc' := 12) rfl ?_
  refine j_get C (ref := "MapRevisions") (CN := RX3) (T := TX3) (N := 11) (ci := 4) (index := 49) (a := xo) (kf := 9) (fs := [.ref (xa 0), .ref (xa 1), .ref (xa 2), .ref (xa 3), .ref (xa 4), .ref (xa 5), .int (nI (s 2)), .int (nI (s 4)), .int (nI (s 10)), .int (nI (s 0)), .int (nI (s 1))]) (v := .int (nI (s 0))) hinX3 rfl (by decide) (by decide +kernel) rfl Q.obj rfl dX3_take_12 (pc' := 15) rfl ?_
  refine j_callS C (As := [.int (nI (s 1 + j)), .int (nI (s 0))]) (rest := []) (c_min X.2.1 C.2.2.2.2.2.2.2.2 G (s 1 + j) (s 0) (by omega) (by omega)) (va_cwS 2 C.2.2.2.2.1 gX3_take_J9_min_7cf53 rfl rfl rfl (by decide +kernel) (by rw [hXR]; decide)) rfl rfl (Nat.le_of_ble_eq_true rfl) dX3_take_15 (pc' := 18) rfl (by rw [hXR]; exact Nat.le_of_ble_eq_true rfl) (by rw [hXR]; exact Nat.le_of_ble_eq_true rfl) (fun _ _ z => z.elim) ?_
  rintro r h' ⟨rfl, hh⟩
  have hh := hh.symm
  subst hh
  have hu : (if s 1 + j < s 0 then s 1 + j else s 0) = oTakeN s (nI j) := by unfold oTakeN; rw [tn_nI (by omega)]
  rw [hu]
  have hu2 : s 1 ≤ oTakeN s (nI j) ∧ oTakeN s (nI j) ≤ s 0 := by rw [← hu]; split <;> omega
  generalize hU : oTakeN s (nI j) = u at hu2 ⊢
  show jW X G 5 1 6 18 [(0, .ref xo), (1, .int (nI j))] [.int (nI u)] h
  refine j_istore_n C (i := 2) (x := nI u) (l' := [(2, .int (nI u)), (0, .ref xo), (1, .int (nI j))]) dX3_take_18 (pc' := 19) rfl (by decide) rfl ?_
  refine j_iconst C (v := nI 0) rfl dX3_take_19 (pc' := 20) rfl ?_
  refine j_istore_n C (i := 3) (x := nI 0) (l' := [(3, .int (nI 0)), (2, .int (nI u)), (0, .ref xo), (1, .int (nI j))]) dX3_take_20 (pc' := 21) rfl (by decide) rfl ?_
  refine j_iconst C (v := nI 0) rfl dX3_take_21 (pc' := 22) rfl ?_
  refine j_istore C (i := 4) (x := nI 0) (l' := [(4, .int (nI 0)), (3, .int (nI 0)), (2, .int (nI u)), (0, .ref xo), (1, .int (nI j))]) dX3_take_22 (pc' := 24) rfl (by decide) rfl ?_
  have L_24 : ∀ (N_24 : Nat) (k n : Nat), (s 6 - k) < N_24 → (k ≤ s 6) → (n ≤ 1400 * k) → (n = sumN (fun t => mBef a t u - mBef a t (s 1)) k) → (0 = 0) → jW X G 5 1 6 24 [(4, .int (nI k)), (3, .int (nI n)), (2, .int (nI u)), (0, .ref xo), (1, .int (nI j))] [] h := by
    intro N_24
    induction N_24 with
    | zero => intro k n hm_24 hk6 hn4 hR h00; omega
    | succ N_24 ih_24 =>
      intro k n hm_24 hk6 hn4 hR h00
      refine j_iload C (i := 4) (x := nI k) 0 rfl dX3_take_24 (pc' := 26) rfl ?_
      refine j_aload_n C (i := 0) (x := xo) 3 rfl dX3_take_26 (pc' := 27) rfl ?_
      refine j_get C (ref := "MapRevisions") (CN := RX3) (T := TX3) (N := 11) (ci := 4) (index := 25) (a := xo) (kf := 2) (fs := [.ref (xa 0), .ref (xa 1), .ref (xa 2), .ref (xa 3), .ref (xa 4), .ref (xa 5), .int (nI (s 2)), .int (nI (s 4)), .int (nI (s 10)), .int (nI (s 0)), .int (nI (s 1))]) (v := .ref (xa 2)) hinX3 rfl (by decide) (by decide +kernel) rfl Q.obj rfl dX3_take_27 (pc' := 30) rfl ?_
      refine j_callV C (As := []) (rest := [.int (nI k)]) (c_size X.2.1 C.2.2.2.2.2.2.2.2 G Q.lst) (cwV 0 C.2.2.2.2.1 gX3_take_Jx4a65c_size_8abf5 rfl rfl rfl (by decide +kernel) (by rw [hXR]; decide)) Q.lst rfl rfl rfl (Nat.le_of_ble_eq_true rfl) dX3_take_30 (pc' := 33) rfl (by rw [hXR]; exact Nat.le_of_ble_eq_true rfl) (by rw [hXR]; exact Nat.le_of_ble_eq_true rfl) (fun _ _ z => z.elim) ?_
      rintro r h' ⟨rfl, hh⟩
      have hh := hh.symm
      subst hh
      show jW X G 5 1 6 33 [(4, .int (nI k)), (3, .int (nI n)), (2, .int (nI u)), (0, .ref xo), (1, .int (nI j))] [.int (nI (s 6)), .int (nI k)] h
      refine j_icmp_ge C dX3_take_33 (tgt := 63) (by decide) (pc' := 36) rfl (fun c_3 => ?_) (fun c_3 => ?_)
      · have c_3 := (nI_leI (a := s 6) (b := k) (by omega) (by omega)).mp c_3
        have c_3 : (s 6) ≤ k := c_3
        refine j_aload_n C (i := 0) (x := xo) 3 rfl dX3_take_63 (pc' := 64) rfl ?_
        refine j_iload_n C (i := 2) (x := nI u) 2 rfl dX3_take_64 (pc' := 65) rfl ?_
        refine j_put C (ref := "MapRevisions") (CN := RX3) (T := TX3) (N := 11) (ci := 4) (index := 52) (a := xo) (kf := 10) (fs := [.ref (xa 0), .ref (xa 1), .ref (xa 2), .ref (xa 3), .ref (xa 4), .ref (xa 5), .int (nI (s 2)), .int (nI (s 4)), .int (nI (s 10)), .int (nI (s 0)), .int (nI (s 1))]) (v := .int (nI u)) (ty := .int) hinX3 tyX3_ok nmX3 rfl (by decide) (by decide +kernel) rfl rfl (by decide +kernel) rfl rfl Q.obj (by show 10 < 11; decide) dX3_take_65 (pc' := 68) rfl ?_
        show jW X G 5 1 6 68 [(4, .int (nI k)), (3, .int (nI n)), (2, .int (nI u)), (0, .ref xo), (1, .int (nI j))] [] (jup h xo (.inr (4, [.ref (xa 0), .ref (xa 1), .ref (xa 2), .ref (xa 3), .ref (xa 4), .ref (xa 5), .int (nI (s 2)), .int (nI (s 4)), .int (nI (s 10)), .int (nI (s 0)), .int (nI u)])))
        refine j_iload_n C (i := 3) (x := nI n) 1 rfl dX3_take_68 (pc' := 69) rfl ?_
        exact j_iret C E dX3_take_69 rfl (Nat.le_of_ble_eq_true rfl) (Nat.le_of_ble_eq_true rfl) (by rw [show oTake s a (nI j) = (nI (cnt (fun k => decide (s 1 ≤ a 15 k) && decide (a 15 k < u)) (s 10)), va_up (va_up s 25 0) 1 u, a) from by unfold oTake; rw [if_pos (show inR (nI j) 1 100 = true from inR_in (nI_nlt (by omega) (by omega)) (nI_le hj (by omega))), hU] <;> rfl, hU]; exact ⟨by rw [hR, show k = s 6 by omega], rfl, cQ.putO (s' := va_up (va_up s 25 0) 1 u) Q rfl rfl (Nat.le_refl _), fun q hq => jup_ne (fun z => Q.np.1 (z ▸ hq))⟩)
      · have c_3 := fun zq => c_3 ((nI_leI (a := s 6) (b := k) (by omega) (by omega)).mpr zq)
        have c_3 : ¬ (s 6) ≤ k := c_3
        have hmo := mB k (by omega) u (by omega)
        have hbb := bB k (by omega) u
        refine j_iload_n C (i := 3) (x := nI n) 1 rfl dX3_take_36 (pc' := 37) rfl ?_
        refine j_aload_n C (i := 0) (x := xo) 3 rfl dX3_take_37 (pc' := 38) rfl ?_
        refine j_iload C (i := 4) (x := nI k) 0 rfl dX3_take_38 (pc' := 40) rfl ?_
        refine j_iload_n C (i := 2) (x := nI u) 2 rfl dX3_take_40 (pc' := 41) rfl ?_
        refine j_callV C (As := [.int (nI k), .int (nI u)]) (rest := [.int (nI n)]) (c_lmb X.2.1 C.2.2.2.2.2.2.2.2 G Q J I k u (by omega) (by omega)) (cwV 2 C.2.2.2.2.1 gX3_take_X3_lastMadeBefore rfl rfl rfl (by decide +kernel) (by rw [hXR]; decide)) Q.obj rfl rfl rfl (Nat.le_of_ble_eq_true rfl) dX3_take_41 (pc' := 44) rfl (by rw [hXR]; exact Nat.le_of_ble_eq_true rfl) (by rw [hXR]; exact Nat.le_of_ble_eq_true rfl) (fun _ _ z => z.elim) ?_
        rintro r h' ⟨rfl, hh⟩
        have hh := hh.symm
        subst hh
        show jW X G 5 1 6 44 [(4, .int (nI k)), (3, .int (nI n)), (2, .int (nI u)), (0, .ref xo), (1, .int (nI j))] [.int (nI (mBef a k u)), .int (nI n)] h
        refine j_aload_n C (i := 0) (x := xo) 3 rfl dX3_take_44 (pc' := 45) rfl ?_
        refine j_iload C (i := 4) (x := nI k) 0 rfl dX3_take_45 (pc' := 47) rfl ?_
        refine j_aload_n C (i := 0) (x := xo) 3 rfl dX3_take_47 (pc' := 48) rfl ?_
        refine j_get C (ref := "MapRevisions") (CN := RX3) (T := TX3) (N := 11) (ci := 4) (index := 52) (a := xo) (kf := 10) (fs := [.ref (xa 0), .ref (xa 1), .ref (xa 2), .ref (xa 3), .ref (xa 4), .ref (xa 5), .int (nI (s 2)), .int (nI (s 4)), .int (nI (s 10)), .int (nI (s 0)), .int (nI (s 1))]) (v := .int (nI (s 1))) hinX3 rfl (by decide) (by decide +kernel) rfl Q.obj rfl dX3_take_48 (pc' := 51) rfl ?_
        refine j_callV C (As := [.int (nI k), .int (nI (s 1))]) (rest := [.int (nI (mBef a k u)), .int (nI n)]) (c_lmb X.2.1 C.2.2.2.2.2.2.2.2 G Q J I k (s 1) (by omega) (by omega)) (cwV 2 C.2.2.2.2.1 gX3_take_X3_lastMadeBefore rfl rfl rfl (by decide +kernel) (by rw [hXR]; decide)) Q.obj rfl rfl rfl (Nat.le_of_ble_eq_true rfl) dX3_take_51 (pc' := 54) rfl (by rw [hXR]; exact Nat.le_of_ble_eq_true rfl) (by rw [hXR]; exact Nat.le_of_ble_eq_true rfl) (fun _ _ z => z.elim) ?_
        rintro r h' ⟨rfl, hh⟩
        have hh := hh.symm
        subst hh
        show jW X G 5 1 6 54 [(4, .int (nI k)), (3, .int (nI n)), (2, .int (nI u)), (0, .ref xo), (1, .int (nI j))] [.int (nI (mBef a k (s 1))), .int (nI (mBef a k u)), .int (nI n)] h
        refine j_isub C (x := nI (mBef a k u)) (y := nI (mBef a k (s 1))) dX3_take_54 (pc' := 55) rfl ?_
        refine jt_i (pk_sub (by omega)) ?_
        refine j_iadd C (x := nI n) (y := nI (mBef a k u - (mBef a k (s 1)))) dX3_take_55 (pc' := 56) rfl ?_
        refine jt_i (nI_add _ _) ?_
        refine j_istore_n C (i := 3) (x := nI (n + (mBef a k u - (mBef a k (s 1))))) (l' := [(3, .int (nI (n + (mBef a k u - (mBef a k (s 1)))))), (4, .int (nI k)), (2, .int (nI u)), (0, .ref xo), (1, .int (nI j))]) dX3_take_56 (pc' := 57) rfl (by decide) rfl ?_
        refine j_iinc C (i := 4) (q := 1) (x := nI k) (v := nI (k + 1)) (l' := [(4, .int (nI (k + 1))), (3, .int (nI (n + (mBef a k u - (mBef a k (s 1)))))), (2, .int (nI u)), (0, .ref xo), (1, .int (nI j))]) dX3_take_57 (pc' := 60) rfl rfl (nI_add _ _) (by decide) rfl ?_
        refine j_goto C dX3_take_60 (pc' := 24) (by decide) ?_
        refine jt_loc (l' := [(4, .int (nI (k + 1))), (3, .int (nI (n + (mBef a k u - mBef a k (s 1))))), (2, .int (nI u)), (0, .ref xo), (1, .int (nI j))]) (by rfl) ?_
        exact jW.locals [0, 1, 2, 3, 4] rfl (ih_24 (k + 1) (n + (mBef a k u - mBef a k (s 1))) (by omega) (by omega) (by omega) (by rw [hR]; rfl) rfl)
  exact jW.locals [0, 1, 2, 3, 4] rfl (L_24 ((s 6 - (0)) + 1) 0 0 (by omega) (by omega) (by omega) rfl rfl)
set_option maxRecDepth 100000 in
set_option maxHeartbeats 4000000 in
theorem c_isTrue (l : Launch) (hlt : l.stackTraces = false) (G : jG) {P : Nat → Prop} {xo : Nat} {xa th va ca ma : Nat → Nat} {dat cap : Nat} {mod : Int32} {df : Nat → Option Nat} {vf dr : Nat → Int32} {mf : Nat → Nat → Int32} {s : mS} {a : mA} {h : jH} (Q : cQ G P xo xa th va ca ma dat cap mod df vf dr mf s a h) (J : IS s) (I : IA a)  : jM l G yX3_isTrue wsX3_isTrue 3 64 0 0 [.ref xo] h (fun r h' => r = some (.int (bI (allN (fun t => decide (a 15 (a 8 t) < s 1)) (s 6)))) ∧ h' = h) (fun _ _ => False) := by
  have h6 := J.2.1
  have h2 := J.2.2.1
  have h4 := J.2.2.2.1
  have h10 := J.2.2.2.2.1
  have hs0 := J.1 0
  have hs1 := J.1 1
  refine jM_of (cc := cX3_isTrue) (maxL := 2) (ret := (some .boolean)) hlt (by decide +kernel) rfl (Nat.le_of_ble_eq_true rfl) ?_
  intro X C E hXl hXR hXn
  have hinX3 : ∀ w ∈ u_ws RX3 TX3 11, w ∈ wsX3_isTrue := by decide +kernel
  have hinX1 : ∀ w ∈ u_ws RX1 TX1 2, w ∈ wsX3_isTrue := by decide +kernel
  have hinX2 : ∀ w ∈ u_ws RX2 TX2 6, w ∈ wsX3_isTrue := by decide +kernel
  show jW X G 2 0 0 0 [(0, .ref xo)] [] h
  refine j_iconst C (v := nI 0) rfl dX3_isTrue_0 (pc' := 1) rfl ?_
  refine j_istore_n C (i := 1) (x := nI 0) (l' := [(1, .int (nI 0)), (0, .ref xo)]) dX3_isTrue_1 (pc' := 2) rfl (by decide) rfl ?_
  have L_2 : ∀ (N_2 : Nat) (k : Nat), (s 6 - k) < N_2 → (k ≤ s 6) → (allN (fun t => decide (a 15 (a 8 t) < s 1)) k = true) → jW X G 2 0 0 2 [(1, .int (nI k)), (0, .ref xo)] [] h := by
    intro N_2
    induction N_2 with
    | zero => intro k hm_2 hk6 hR; omega
    | succ N_2 ih_2 =>
      intro k hm_2 hk6 hR
      refine j_iload_n C (i := 1) (x := nI k) 0 rfl dX3_isTrue_2 (pc' := 3) rfl ?_
      refine j_aload_n C (i := 0) (x := xo) 1 rfl dX3_isTrue_3 (pc' := 4) rfl ?_
      refine j_get C (ref := "MapRevisions") (CN := RX3) (T := TX3) (N := 11) (ci := 4) (index := 25) (a := xo) (kf := 2) (fs := [.ref (xa 0), .ref (xa 1), .ref (xa 2), .ref (xa 3), .ref (xa 4), .ref (xa 5), .int (nI (s 2)), .int (nI (s 4)), .int (nI (s 10)), .int (nI (s 0)), .int (nI (s 1))]) (v := .ref (xa 2)) hinX3 rfl (by decide) (by decide +kernel) rfl Q.obj rfl dX3_isTrue_4 (pc' := 7) rfl ?_
      refine j_callV C (As := []) (rest := [.int (nI k)]) (c_size X.2.1 C.2.2.2.2.2.2.2.2 G Q.lst) (cwV 0 C.2.2.2.2.1 gX3_isTrue_Jx4a65c_size_8abf5 rfl rfl rfl (by decide +kernel) (by rw [hXR]; decide)) Q.lst rfl rfl rfl (Nat.le_of_ble_eq_true rfl) dX3_isTrue_7 (pc' := 10) rfl (by rw [hXR]; exact Nat.le_of_ble_eq_true rfl) (by rw [hXR]; exact Nat.le_of_ble_eq_true rfl) (fun _ _ z => z.elim) ?_
      rintro r h' ⟨rfl, hh⟩
      have hh := hh.symm
      subst hh
      show jW X G 2 0 0 10 [(1, .int (nI k)), (0, .ref xo)] [.int (nI (s 6)), .int (nI k)] h
      refine j_icmp_ge C dX3_isTrue_10 (tgt := 45) (by decide) (pc' := 13) rfl (fun c_1 => ?_) (fun c_1 => ?_)
      · have c_1 := (nI_leI (a := s 6) (b := k) (by omega) (by omega)).mp c_1
        have c_1 : (s 6) ≤ k := c_1
        refine j_iconst C (v := nI 1) rfl dX3_isTrue_45 (pc' := 46) rfl ?_
        exact j_iret C E dX3_isTrue_46 rfl (Nat.le_of_ble_eq_true rfl) (Nat.le_of_ble_eq_true rfl) ⟨bI1 (by rw [← show k = s 6 by omega]; exact hR), rfl⟩
      · have c_1 := fun zq => c_1 ((nI_leI (a := s 6) (b := k) (by omega) (by omega)).mpr zq)
        have c_1 : ¬ (s 6) ≤ k := c_1
        refine j_aload_n C (i := 0) (x := xo) 1 rfl dX3_isTrue_13 (pc' := 14) rfl ?_
        refine j_get C (ref := "MapRevisions") (CN := RX3) (T := TX3) (N := 11) (ci := 4) (index := 25) (a := xo) (kf := 2) (fs := [.ref (xa 0), .ref (xa 1), .ref (xa 2), .ref (xa 3), .ref (xa 4), .ref (xa 5), .int (nI (s 2)), .int (nI (s 4)), .int (nI (s 10)), .int (nI (s 0)), .int (nI (s 1))]) (v := .ref (xa 2)) hinX3 rfl (by decide) (by decide +kernel) rfl Q.obj rfl dX3_isTrue_14 (pc' := 17) rfl ?_
        refine j_iload_n C (i := 1) (x := nI k) 0 rfl dX3_isTrue_17 (pc' := 18) rfl ?_
        have D_18 := Q.dta (t := k) (by omega)
        refine j_callV C (As := [.int (nI k)]) (rest := []) (c_get X.2.1 C.2.2.2.2.2.2.2.2 G Q.lst D_18.1 k (th k) (by omega) D_18.2.2.1 (by omega) D_18.2.1) (cwV 1 C.2.2.2.2.1 gX3_isTrue_Jx4a65c_get_915e3 rfl rfl rfl (by decide +kernel) (by rw [hXR]; decide)) Q.lst rfl rfl rfl (Nat.le_of_ble_eq_true rfl) dX3_isTrue_18 (pc' := 21) rfl (by rw [hXR]; exact Nat.le_of_ble_eq_true rfl) (by rw [hXR]; exact Nat.le_of_ble_eq_true rfl) (fun _ _ z => z.elim) ?_
        rintro r h' ⟨rfl, hh⟩
        have hh := hh.symm
        subst hh
        show jW X G 2 0 0 21 [(1, .int (nI k)), (0, .ref xo)] [.ref (th k)] h
        refine j_cast C (CN := RX1) (T := TX1) (N := 2) (ci := 2) (index := 111) (a := th k) (fs := [.int (nI (a 7 k)), .ref (va (a 8 k))]) (Q.thing (t := k) (by omega)) rfl (by decide +kernel) dX3_isTrue_21 (pc' := 24) rfl ?_
        refine j_get C (ref := "MapRevisions$Thing") (CN := RX1) (T := TX1) (N := 2) (ci := 2) (index := 138) (a := th k) (kf := 1) (fs := [.int (nI (a 7 k)), .ref (va (a 8 k))]) (v := .ref (va (a 8 k))) hinX1 rfl (by decide) (by decide +kernel) rfl (Q.thing (t := k) (by omega)) rfl dX3_isTrue_24 (pc' := 27) rfl ?_
        have B_2 := Q.last (t := k) (by omega)
        refine j_get C (ref := "MapRevisions$Version") (CN := RX2) (T := TX2) (N := 6) (ci := 3) (index := 229) (a := va (a 8 k)) (kf := 3) (fs := [cP va (a 13 (a 8 k)), .int (nI (a 12 (a 8 k))), .int (nI (a 14 (a 8 k))), .int (nI (a 15 (a 8 k))), .ref (ca (a 8 k)), .int (nI (a 17 (a 8 k)))]) (v := .int (nI (a 15 (a 8 k)))) hinX2 rfl (by decide) (by decide +kernel) rfl (Q.ver (v := (a 8 k)) (by omega)) rfl dX3_isTrue_27 (pc' := 30) rfl ?_
        have B_3 := IA.big I 15 (a 8 k)
        refine j_aload_n C (i := 0) (x := xo) 1 rfl dX3_isTrue_30 (pc' := 31) rfl ?_
        refine j_get C (ref := "MapRevisions") (CN := RX3) (T := TX3) (N := 11) (ci := 4) (index := 52) (a := xo) (kf := 10) (fs := [.ref (xa 0), .ref (xa 1), .ref (xa 2), .ref (xa 3), .ref (xa 4), .ref (xa 5), .int (nI (s 2)), .int (nI (s 4)), .int (nI (s 10)), .int (nI (s 0)), .int (nI (s 1))]) (v := .int (nI (s 1))) hinX3 rfl (by decide) (by decide +kernel) rfl Q.obj rfl dX3_isTrue_31 (pc' := 34) rfl ?_
        refine j_icmp_lt C dX3_isTrue_34 (tgt := 39) (by decide) (pc' := 37) rfl (fun c_4 => ?_) (fun c_4 => ?_)
        · have c_4 := (nI_ltI (a := a 15 (a 8 k)) (b := s 1) (by omega) (by omega)).mp c_4
          have c_4 : (a 15 (a 8 k)) < (s 1) := c_4
          refine j_iinc C (i := 1) (q := 0) (x := nI k) (v := nI (k + 1)) (l' := [(1, .int (nI (k + 1))), (0, .ref xo)]) dX3_isTrue_39 (pc' := 42) rfl rfl (nI_add _ _) (by decide) rfl ?_
          refine j_goto C dX3_isTrue_42 (pc' := 2) (by decide) ?_
          exact jW.locals [0, 1] rfl (ih_2 (k + 1) (by omega) (by omega) (by rw [allN_s, hR, decide_eq_true (show a 15 (a 8 k) < s 1 by omega)]; rfl))
        · have c_4 := fun zq => c_4 ((nI_ltI (a := a 15 (a 8 k)) (b := s 1) (by omega) (by omega)).mpr zq)
          have c_4 : ¬ (a 15 (a 8 k)) < (s 1) := c_4
          refine j_iconst C (v := nI 0) rfl dX3_isTrue_37 (pc' := 38) rfl ?_
          exact j_iret C E dX3_isTrue_38 rfl (Nat.le_of_ble_eq_true rfl) (Nat.le_of_ble_eq_true rfl) ⟨bI0 (Bool.eq_false_iff.mpr (fun z => by have := of_decide_eq_true (allN_iff.mp z k (by omega)); omega)), rfl⟩
  exact jW.locals [0, 1] rfl (L_2 ((s 6 - (0)) + 1) 0 (by omega) (by omega) rfl)
