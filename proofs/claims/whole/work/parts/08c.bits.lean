/-- the members that a thing's last version names -/
def mBits (a : mA) (t : Nat) : Nat := orN (fun j => 2 ^ a 20 (6 * a 8 t + j)) (a 19 (a 8 t))
theorem mBits_lt {a : mA} (I : IA a) (t : Nat) : mBits a t < 2 ^ 40 := orN_lt (fun j _ => p40 (IA.member I _))
def fKind (a : mA) (k : Nat) : Nat → Nat := fun t => if a 7 t = k then 2 ^ t else 0
def fUse (a : mA) (u : Nat) : Nat → Nat := fun t => if mBits a t &&& u = 0 then 0 else 2 ^ t
def fMem (a : mA) (u : Nat) : Nat → Nat := fun t => if u.testBit t = true then mBits a t else 0
def fBox (a : mA) (x y x2 y2 : Nat) : Nat → Nat := fun t => if a 7 t = 0 ∧ a 16 (a 8 t) = 1 ∧ x ≤ a 18 (a 8 t) / 100 ∧ a 18 (a 8 t) / 100 ≤ x2 ∧ y ≤ a 18 (a 8 t) % 100 ∧ a 18 (a 8 t) % 100 ≤ y2 then 2 ^ t else 0
theorem fKind_lt (a : mA) (k : Nat) {n : Nat} (h : n ≤ 40) : orN (fKind a k) n < 2 ^ 40 := orN_lt (fun j hj => by unfold fKind; split <;> first | exact p40 (by omega) | exact Nat.two_pow_pos 40)
theorem fUse_lt (a : mA) (k : Nat) {n : Nat} (h : n ≤ 40) : orN (fUse a k) n < 2 ^ 40 := orN_lt (fun j hj => by unfold fUse; split <;> first | exact p40 (by omega) | exact Nat.two_pow_pos 40)
theorem fMem_lt {a : mA} (I : IA a) (k : Nat) (n : Nat) : orN (fMem a k) n < 2 ^ 40 := orN_lt (fun j hj => by unfold fMem; split <;> first | exact mBits_lt I _ | exact Nat.two_pow_pos 40)
theorem fBox_lt (a : mA) (x y x2 y2 : Nat) {n : Nat} (h : n ≤ 40) : orN (fBox a x y x2 y2) n < 2 ^ 40 := orN_lt (fun j hj => by unfold fBox; split <;> first | exact p40 (by omega) | exact Nat.two_pow_pos 40)
theorem nd_t {p : Prop} [Decidable p] (h : (!decide p) = false) : p := by
  by_cases e : p
  · exact e
  · rw [decide_eq_false e] at h; exact Bool.noConfusion h
theorem orN_0 {F : Nat → Nat} {k m : Nat} (hR : m = orN F k) (h : F k = 0) : m = orN F (k + 1) := by rw [orN_s, ← hR, h, Nat.or_zero]
theorem orN_1 {F : Nat → Nat} {k m v : Nat} (hR : m = orN F k) (h : F k = v) : m ||| v = orN F (k + 1) := by rw [orN_s, ← hR, h]
set_option maxRecDepth 100000 in
set_option maxHeartbeats 4000000 in
theorem c_thingsOf (l : Launch) (hlt : l.stackTraces = false) (G : jG) {P : Nat → Prop} {xo : Nat} {xa th va ca ma : Nat → Nat} {dat cap : Nat} {mod : Int32} {df : Nat → Option Nat} {vf dr : Nat → Int32} {mf : Nat → Nat → Int32} {s : mS} {a : mA} {h : jH} (Q : cQ G P xo xa th va ca ma dat cap mod df vf dr mf s a h) (J : IS s) (I : IA a) (d : Nat) (hd : d < 1048576) : jM l G yX3_thingsOf wsX3_thingsOf 3 64 0 0 [.ref xo, .int (nI d)] h (fun r h' => r = some (.long (lN (orN (fKind a d) (s 6)))) ∧ h' = h) (fun _ _ => False) := by
  have h6 := J.2.1
  have h2 := J.2.2.1
  have h4 := J.2.2.2.1
  have h10 := J.2.2.2.2.1
  have hs0 := J.1 0
  have hs1 := J.1 1
  refine jM_of (cc := cX3_thingsOf) (maxL := 5) (ret := (some .long)) hlt (by decide +kernel) rfl (Nat.le_of_ble_eq_true rfl) ?_
  intro X C E hXl hXR hXn
  have hinX3 : ∀ w ∈ u_ws RX3 TX3 11, w ∈ wsX3_thingsOf := by decide +kernel
  have hinX1 : ∀ w ∈ u_ws RX1 TX1 2, w ∈ wsX3_thingsOf := by decide +kernel
  show jW X G 5 0 0 0 [(0, .ref xo), (1, .int (nI d))] [] h
  refine j_lconst C (v := lN 0) rfl dX3_thingsOf_0 (pc' := 1) rfl ?_
  refine j_lstore_n C (i := 2) (x := lN 0) (l' := [(2, .long (lN 0)), (0, .ref xo), (1, .int (nI d))]) dX3_thingsOf_1 (pc' := 2) rfl (by decide) rfl ?_
  refine j_iconst C (v := nI 0) rfl dX3_thingsOf_2 (pc' := 3) rfl ?_
  refine j_istore C (i := 4) (x := nI 0) (l' := [(4, .int (nI 0)), (2, .long (lN 0)), (0, .ref xo), (1, .int (nI d))]) dX3_thingsOf_3 (pc' := 5) rfl (by decide) rfl ?_
  have L_5 : ∀ (N_5 : Nat) (k m : Nat), (s 6 - k) < N_5 → (k ≤ s 6) → (m = orN (fKind a d) k) → jW X G 5 0 0 5 [(4, .int (nI k)), (2, .long (lN m)), (0, .ref xo), (1, .int (nI d))] [] h := by
    intro N_5
    induction N_5 with
    | zero => intro k m hm_5 hk6 hR; omega
    | succ N_5 ih_5 =>
      intro k m hm_5 hk6 hR
      have hm40 : m < 2 ^ 40 := by rw [hR]; exact fKind_lt a d (by omega)
      refine j_iload C (i := 4) (x := nI k) 0 rfl dX3_thingsOf_5 (pc' := 7) rfl ?_
      refine j_aload_n C (i := 0) (x := xo) 2 rfl dX3_thingsOf_7 (pc' := 8) rfl ?_
      refine j_get C (ref := "MapRevisions") (CN := RX3) (T := TX3) (N := 11) (ci := 4) (index := 25) (a := xo) (kf := 2) (fs := [.ref (xa 0), .ref (xa 1), .ref (xa 2), .ref (xa 3), .ref (xa 4), .ref (xa 5), .int (nI (s 2)), .int (nI (s 4)), .int (nI (s 10)), .int (nI (s 0)), .int (nI (s 1))]) (v := .ref (xa 2)) hinX3 rfl (by decide) (by decide +kernel) rfl Q.obj rfl dX3_thingsOf_8 (pc' := 11) rfl ?_
      refine j_callV C (As := []) (rest := [.int (nI k)]) (c_size X.2.1 C.2.2.2.2.2.2.2.2 G Q.lst) (cwV 0 C.2.2.2.2.1 gX3_thingsOf_Jx4a65c_size_8abf5 rfl rfl rfl (by decide +kernel) (by rw [hXR]; decide)) Q.lst rfl rfl rfl (Nat.le_of_ble_eq_true rfl) dX3_thingsOf_11 (pc' := 14) rfl (by rw [hXR]; exact Nat.le_of_ble_eq_true rfl) (by rw [hXR]; exact Nat.le_of_ble_eq_true rfl) (fun _ _ z => z.elim) ?_
      rintro r h' ⟨rfl, hh⟩
      have hh := hh.symm
      subst hh
      show jW X G 5 0 0 14 [(4, .int (nI k)), (2, .long (lN m)), (0, .ref xo), (1, .int (nI d))] [.int (nI (s 6)), .int (nI k)] h
      refine j_icmp_ge C dX3_thingsOf_14 (tgt := 50) (by decide) (pc' := 17) rfl (fun c_1 => ?_) (fun c_1 => ?_)
      · have c_1 := (nI_leI (a := s 6) (b := k) (by omega) (by omega)).mp c_1
        have c_1 : (s 6) ≤ k := c_1
        refine j_lload_n C (i := 2) (x := lN m) 1 rfl dX3_thingsOf_50 (pc' := 51) rfl ?_
        exact j_lret C E dX3_thingsOf_51 (Nat.le_of_ble_eq_true rfl) (Nat.le_of_ble_eq_true rfl) ⟨by rw [hR, show k = s 6 by omega], rfl⟩
      · have c_1 := fun zq => c_1 ((nI_leI (a := s 6) (b := k) (by omega) (by omega)).mpr zq)
        have c_1 : ¬ (s 6) ≤ k := c_1
        refine j_aload_n C (i := 0) (x := xo) 2 rfl dX3_thingsOf_17 (pc' := 18) rfl ?_
        refine j_get C (ref := "MapRevisions") (CN := RX3) (T := TX3) (N := 11) (ci := 4) (index := 25) (a := xo) (kf := 2) (fs := [.ref (xa 0), .ref (xa 1), .ref (xa 2), .ref (xa 3), .ref (xa 4), .ref (xa 5), .int (nI (s 2)), .int (nI (s 4)), .int (nI (s 10)), .int (nI (s 0)), .int (nI (s 1))]) (v := .ref (xa 2)) hinX3 rfl (by decide) (by decide +kernel) rfl Q.obj rfl dX3_thingsOf_18 (pc' := 21) rfl ?_
        refine j_iload C (i := 4) (x := nI k) 0 rfl dX3_thingsOf_21 (pc' := 23) rfl ?_
        have D_23 := Q.dta (t := k) (by omega)
        refine j_callV C (As := [.int (nI k)]) (rest := []) (c_get X.2.1 C.2.2.2.2.2.2.2.2 G Q.lst D_23.1 k (th k) (by omega) D_23.2.2.1 (by omega) D_23.2.1) (cwV 1 C.2.2.2.2.1 gX3_thingsOf_Jx4a65c_get_915e3 rfl rfl rfl (by decide +kernel) (by rw [hXR]; decide)) Q.lst rfl rfl rfl (Nat.le_of_ble_eq_true rfl) dX3_thingsOf_23 (pc' := 26) rfl (by rw [hXR]; exact Nat.le_of_ble_eq_true rfl) (by rw [hXR]; exact Nat.le_of_ble_eq_true rfl) (fun _ _ z => z.elim) ?_
        rintro r h' ⟨rfl, hh⟩
        have hh := hh.symm
        subst hh
        show jW X G 5 0 0 26 [(4, .int (nI k)), (2, .long (lN m)), (0, .ref xo), (1, .int (nI d))] [.ref (th k)] h
        refine j_cast C (CN := RX1) (T := TX1) (N := 2) (ci := 2) (index := 111) (a := th k) (fs := [.int (nI (a 7 k)), .ref (va (a 8 k))]) (Q.thing (t := k) (by omega)) rfl (by decide +kernel) dX3_thingsOf_26 (pc' := 29) rfl ?_
        refine j_get C (ref := "MapRevisions$Thing") (CN := RX1) (T := TX1) (N := 2) (ci := 2) (index := 113) (a := th k) (kf := 0) (fs := [.int (nI (a 7 k)), .ref (va (a 8 k))]) (v := .int (nI (a 7 k))) hinX1 rfl (by decide) (by decide +kernel) rfl (Q.thing (t := k) (by omega)) rfl dX3_thingsOf_29 (pc' := 32) rfl ?_
        have B_2 := IA.kind I k
        refine j_iload_n C (i := 1) (x := nI d) 3 rfl dX3_thingsOf_32 (pc' := 33) rfl ?_
        refine j_icmp_ne C dX3_thingsOf_33 (tgt := 44) (by decide) (pc' := 36) rfl (fun c_3 => ?_) (fun c_3 => ?_)
        · have c_3 := fun zq => c_3 ((nI_eq (a := a 7 k) (b := d) (by omega) (by omega)).mpr zq)
          have c_3 : ¬ (a 7 k) = d := c_3
          refine j_iinc C (i := 4) (q := 0) (x := nI k) (v := nI (k + 1)) (l' := [(4, .int (nI (k + 1))), (2, .long (lN m)), (0, .ref xo), (1, .int (nI d))]) dX3_thingsOf_44 (pc' := 47) rfl rfl (nI_add _ _) (by decide) rfl ?_
          refine j_goto C dX3_thingsOf_47 (pc' := 5) (by decide) ?_
          exact jW.locals [0, 1, 2, 3] rfl (ih_5 (k + 1) m (by omega) (by omega) (orN_0 hR (if_neg (show ¬ a 7 k = d by omega))))
        · have c_3 := (nI_eq (a := a 7 k) (b := d) (by omega) (by omega)).mp c_3
          have c_3 : (a 7 k) = d := c_3
          refine j_lload_n C (i := 2) (x := lN m) 1 rfl dX3_thingsOf_36 (pc' := 37) rfl ?_
          refine j_iload C (i := 4) (x := nI k) 0 rfl dX3_thingsOf_37 (pc' := 39) rfl ?_
          refine j_callS C (As := [.int (nI k)]) (rest := [.long (lN m)]) (c_bit X.2.1 C.2.2.2.2.2.2.2.2 G k (by omega)) (va_cwS 1 C.2.2.2.2.1 gX3_thingsOf_X3_bit rfl rfl rfl (by decide +kernel) (by rw [hXR]; decide)) rfl rfl (Nat.le_of_ble_eq_true rfl) dX3_thingsOf_39 (pc' := 42) rfl (by rw [hXR]; exact Nat.le_of_ble_eq_true rfl) (by rw [hXR]; exact Nat.le_of_ble_eq_true rfl) (fun _ _ z => z.elim) ?_
          rintro r h' ⟨rfl, hh⟩
          have hh := hh.symm
          subst hh
          show jW X G 5 0 0 42 [(4, .int (nI k)), (2, .long (lN m)), (0, .ref xo), (1, .int (nI d))] [.long (lN (2 ^ k)), .long (lN m)] h
          refine j_lor C (x := lN m) (y := lN (2 ^ k)) dX3_thingsOf_42 (pc' := 43) rfl ?_
          refine jt_l (jl_or hm40 (p40 (by omega))) ?_
          refine j_lstore_n C (i := 2) (x := lN (m ||| 2 ^ k)) (l' := [(2, .long (lN (m ||| 2 ^ k))), (4, .int (nI k)), (0, .ref xo), (1, .int (nI d))]) dX3_thingsOf_43 (pc' := 44) rfl (by decide) rfl ?_
          refine j_iinc C (i := 4) (q := 1) (x := nI k) (v := nI (k + 1)) (l' := [(4, .int (nI (k + 1))), (2, .long (lN (m ||| 2 ^ k))), (0, .ref xo), (1, .int (nI d))]) dX3_thingsOf_44 (pc' := 47) rfl rfl (nI_add _ _) (by decide) rfl ?_
          refine j_goto C dX3_thingsOf_47 (pc' := 5) (by decide) ?_
          exact jW.locals [0, 1, 2, 3] rfl (ih_5 (k + 1) (m ||| 2 ^ k) (by omega) (by omega) (orN_1 hR (if_pos (show a 7 k = d by omega))))
  exact jW.locals [0, 1, 2, 3] rfl (L_5 ((s 6 - (0)) + 1) 0 0 (by omega) (by omega) rfl)
set_option maxRecDepth 100000 in
set_option maxHeartbeats 4000000 in
theorem c_usersOf (l : Launch) (hlt : l.stackTraces = false) (G : jG) {P : Nat → Prop} {xo : Nat} {xa th va ca ma : Nat → Nat} {dat cap : Nat} {mod : Int32} {df : Nat → Option Nat} {vf dr : Nat → Int32} {mf : Nat → Nat → Int32} {s : mS} {a : mA} {h : jH} (Q : cQ G P xo xa th va ca ma dat cap mod df vf dr mf s a h) (J : IS s) (I : IA a) (u : Nat) (hu : u < 2 ^ 40) : jM l G yX3_usersOf wsX3_usersOf 3 64 0 0 [.ref xo, .long (lN u)] h (fun r h' => r = some (.long (lN (orN (fUse a u) (s 6)))) ∧ h' = h) (fun _ _ => False) := by
  have h6 := J.2.1
  have h2 := J.2.2.1
  have h4 := J.2.2.2.1
  have h10 := J.2.2.2.2.1
  have hs0 := J.1 0
  have hs1 := J.1 1
  refine jM_of (cc := cX3_usersOf) (maxL := 6) (ret := (some .long)) hlt (by decide +kernel) rfl (Nat.le_of_ble_eq_true rfl) ?_
  intro X C E hXl hXR hXn
  have hinX3 : ∀ w ∈ u_ws RX3 TX3 11, w ∈ wsX3_usersOf := by decide +kernel
  have hinX1 : ∀ w ∈ u_ws RX1 TX1 2, w ∈ wsX3_usersOf := by decide +kernel
  have hinX2 : ∀ w ∈ u_ws RX2 TX2 6, w ∈ wsX3_usersOf := by decide +kernel
  have hinX0 : ∀ w ∈ u_ws RX0 TX0 4, w ∈ wsX3_usersOf := by decide +kernel
  show jW X G 6 0 0 0 [(0, .ref xo), (1, .long (lN u))] [] h
  refine j_lconst C (v := lN 0) rfl dX3_usersOf_0 (pc' := 1) rfl ?_
  refine j_lstore_n C (i := 3) (x := lN 0) (l' := [(3, .long (lN 0)), (0, .ref xo), (1, .long (lN u))]) dX3_usersOf_1 (pc' := 2) rfl (by decide) rfl ?_
  refine j_iconst C (v := nI 0) rfl dX3_usersOf_2 (pc' := 3) rfl ?_
  refine j_istore C (i := 5) (x := nI 0) (l' := [(5, .int (nI 0)), (3, .long (lN 0)), (0, .ref xo), (1, .long (lN u))]) dX3_usersOf_3 (pc' := 5) rfl (by decide) rfl ?_
  have L_5 : ∀ (N_5 : Nat) (k m : Nat), (s 6 - k) < N_5 → (k ≤ s 6) → (m = orN (fUse a u) k) → jW X G 6 0 0 5 [(5, .int (nI k)), (3, .long (lN m)), (0, .ref xo), (1, .long (lN u))] [] h := by
    intro N_5
    induction N_5 with
    | zero => intro k m hm_5 hk6 hR; omega
    | succ N_5 ih_5 =>
      intro k m hm_5 hk6 hR
      have hm40 : m < 2 ^ 40 := by rw [hR]; exact fUse_lt a u (by omega)
      refine j_iload C (i := 5) (x := nI k) 0 rfl dX3_usersOf_5 (pc' := 7) rfl ?_
      refine j_aload_n C (i := 0) (x := xo) 2 rfl dX3_usersOf_7 (pc' := 8) rfl ?_
      refine j_get C (ref := "MapRevisions") (CN := RX3) (T := TX3) (N := 11) (ci := 4) (index := 25) (a := xo) (kf := 2) (fs := [.ref (xa 0), .ref (xa 1), .ref (xa 2), .ref (xa 3), .ref (xa 4), .ref (xa 5), .int (nI (s 2)), .int (nI (s 4)), .int (nI (s 10)), .int (nI (s 0)), .int (nI (s 1))]) (v := .ref (xa 2)) hinX3 rfl (by decide) (by decide +kernel) rfl Q.obj rfl dX3_usersOf_8 (pc' := 11) rfl ?_
      refine j_callV C (As := []) (rest := [.int (nI k)]) (c_size X.2.1 C.2.2.2.2.2.2.2.2 G Q.lst) (cwV 0 C.2.2.2.2.1 gX3_usersOf_Jx4a65c_size_8abf5 rfl rfl rfl (by decide +kernel) (by rw [hXR]; decide)) Q.lst rfl rfl rfl (Nat.le_of_ble_eq_true rfl) dX3_usersOf_11 (pc' := 14) rfl (by rw [hXR]; exact Nat.le_of_ble_eq_true rfl) (by rw [hXR]; exact Nat.le_of_ble_eq_true rfl) (fun _ _ z => z.elim) ?_
      rintro r h' ⟨rfl, hh⟩
      have hh := hh.symm
      subst hh
      show jW X G 6 0 0 14 [(5, .int (nI k)), (3, .long (lN m)), (0, .ref xo), (1, .long (lN u))] [.int (nI (s 6)), .int (nI k)] h
      refine j_icmp_ge C dX3_usersOf_14 (tgt := 62) (by decide) (pc' := 17) rfl (fun c_1 => ?_) (fun c_1 => ?_)
      · have c_1 := (nI_leI (a := s 6) (b := k) (by omega) (by omega)).mp c_1
        have c_1 : (s 6) ≤ k := c_1
        refine j_lload_n C (i := 3) (x := lN m) 1 rfl dX3_usersOf_62 (pc' := 63) rfl ?_
        exact j_lret C E dX3_usersOf_63 (Nat.le_of_ble_eq_true rfl) (Nat.le_of_ble_eq_true rfl) ⟨by rw [hR, show k = s 6 by omega], rfl⟩
      · have c_1 := fun zq => c_1 ((nI_leI (a := s 6) (b := k) (by omega) (by omega)).mpr zq)
        have c_1 : ¬ (s 6) ≤ k := c_1
        refine j_aload_n C (i := 0) (x := xo) 2 rfl dX3_usersOf_17 (pc' := 18) rfl ?_
        refine j_get C (ref := "MapRevisions") (CN := RX3) (T := TX3) (N := 11) (ci := 4) (index := 25) (a := xo) (kf := 2) (fs := [.ref (xa 0), .ref (xa 1), .ref (xa 2), .ref (xa 3), .ref (xa 4), .ref (xa 5), .int (nI (s 2)), .int (nI (s 4)), .int (nI (s 10)), .int (nI (s 0)), .int (nI (s 1))]) (v := .ref (xa 2)) hinX3 rfl (by decide) (by decide +kernel) rfl Q.obj rfl dX3_usersOf_18 (pc' := 21) rfl ?_
        refine j_iload C (i := 5) (x := nI k) 0 rfl dX3_usersOf_21 (pc' := 23) rfl ?_
        have D_23 := Q.dta (t := k) (by omega)
        refine j_callV C (As := [.int (nI k)]) (rest := []) (c_get X.2.1 C.2.2.2.2.2.2.2.2 G Q.lst D_23.1 k (th k) (by omega) D_23.2.2.1 (by omega) D_23.2.1) (cwV 1 C.2.2.2.2.1 gX3_usersOf_Jx4a65c_get_915e3 rfl rfl rfl (by decide +kernel) (by rw [hXR]; decide)) Q.lst rfl rfl rfl (Nat.le_of_ble_eq_true rfl) dX3_usersOf_23 (pc' := 26) rfl (by rw [hXR]; exact Nat.le_of_ble_eq_true rfl) (by rw [hXR]; exact Nat.le_of_ble_eq_true rfl) (fun _ _ z => z.elim) ?_
        rintro r h' ⟨rfl, hh⟩
        have hh := hh.symm
        subst hh
        show jW X G 6 0 0 26 [(5, .int (nI k)), (3, .long (lN m)), (0, .ref xo), (1, .long (lN u))] [.ref (th k)] h
        refine j_cast C (CN := RX1) (T := TX1) (N := 2) (ci := 2) (index := 111) (a := th k) (fs := [.int (nI (a 7 k)), .ref (va (a 8 k))]) (Q.thing (t := k) (by omega)) rfl (by decide +kernel) dX3_usersOf_26 (pc' := 29) rfl ?_
        refine j_get C (ref := "MapRevisions$Thing") (CN := RX1) (T := TX1) (N := 2) (ci := 2) (index := 138) (a := th k) (kf := 1) (fs := [.int (nI (a 7 k)), .ref (va (a 8 k))]) (v := .ref (va (a 8 k))) hinX1 rfl (by decide) (by decide +kernel) rfl (Q.thing (t := k) (by omega)) rfl dX3_usersOf_29 (pc' := 32) rfl ?_
        have B_2 := Q.last (t := k) (by omega)
        refine j_get C (ref := "MapRevisions$Version") (CN := RX2) (T := TX2) (N := 6) (ci := 3) (index := 151) (a := va (a 8 k)) (kf := 4) (fs := [cP va (a 13 (a 8 k)), .int (nI (a 12 (a 8 k))), .int (nI (a 14 (a 8 k))), .int (nI (a 15 (a 8 k))), .ref (ca (a 8 k)), .int (nI (a 17 (a 8 k)))]) (v := .ref (ca (a 8 k))) hinX2 rfl (by decide) (by decide +kernel) rfl (Q.ver (v := (a 8 k)) (by omega)) rfl dX3_usersOf_32 (pc' := 35) rfl ?_
        refine j_get C (ref := "MapRevisions$Content") (CN := RX0) (T := TX0) (N := 4) (ci := 1) (index := 100) (a := ca (a 8 k)) (kf := 3) (fs := [.int (nI (a 16 (a 8 k))), .int (nI (a 18 (a 8 k) / 100)), .int (nI (a 18 (a 8 k) % 100)), .ref (ma (a 8 k))]) (v := .ref (ma (a 8 k))) hinX0 rfl (by decide) (by decide +kernel) rfl (Q.con (v := (a 8 k)) (by omega)) rfl dX3_usersOf_35 (pc' := 38) rfl ?_
        have B_3 := IA.size I (a 8 k)
        refine j_callS C (As := [.ref (ma (a 8 k))]) (rest := []) (c_bitsOf X.2.1 C.2.2.2.2.2.2.2.2 G (g := fun j => a 20 (6 * (a 8 k) + j)) (Q.mem (v := a 8 k) (by omega)) (fun j hj => Q.mfe (by omega) hj) (fun j _ => IA.member I _) (IA.size I (a 8 k))) (va_cwS 1 C.2.2.2.2.1 gX3_usersOf_X3_bitsOf rfl rfl rfl (by decide +kernel) (by rw [hXR]; decide)) rfl rfl (Nat.le_of_ble_eq_true rfl) dX3_usersOf_38 (pc' := 41) rfl (by rw [hXR]; exact Nat.le_of_ble_eq_true rfl) (by rw [hXR]; exact Nat.le_of_ble_eq_true rfl) (fun _ _ z => z.elim) ?_
        rintro r h' ⟨rfl, hh⟩
        have hh := hh.symm
        subst hh
        show jW X G 6 0 0 41 [(5, .int (nI k)), (3, .long (lN m)), (0, .ref xo), (1, .long (lN u))] [.long (lN (mBits a k))] h
        refine j_lload_n C (i := 1) (x := lN u) 3 rfl dX3_usersOf_41 (pc' := 42) rfl ?_
        refine j_land C (x := lN (mBits a k)) (y := lN u) dX3_usersOf_42 (pc' := 43) rfl ?_
        refine jt_l (jl_and (mBits_lt I k) hu) ?_
        refine j_lconst C (v := lN 0) rfl dX3_usersOf_43 (pc' := 44) rfl ?_
        refine j_lcmp C  dX3_usersOf_44 (pc' := 45) rfl ?_
        refine jt_i (cmp_b (land40 (mBits_lt I k))) ?_
        show jW X G 6 0 0 45 [(5, .int (nI k)), (3, .long (lN m)), (0, .ref xo), (1, .long (lN u))] [.int (bI (!decide (mBits a k &&& u = 0)))] h
        rcases hb_4 : (!decide (mBits a k &&& u = 0)) with _ | _
        · show jW X G 6 0 0 45 [(5, .int (nI k)), (3, .long (lN m)), (0, .ref xo), (1, .long (lN u))] [.int (nI 0)] h
          refine j_if_eq C dX3_usersOf_45 (tgt := 56) (by decide) (pc' := 48) rfl (fun _ => ?_) (fun c_5 => absurd (by decide) c_5)
          refine j_iinc C (i := 5) (q := 0) (x := nI k) (v := nI (k + 1)) (l' := [(5, .int (nI (k + 1))), (3, .long (lN m)), (0, .ref xo), (1, .long (lN u))]) dX3_usersOf_56 (pc' := 59) rfl rfl (nI_add _ _) (by decide) rfl ?_
          refine j_goto C dX3_usersOf_59 (pc' := 5) (by decide) ?_
          exact jW.locals [0, 1, 2, 3] rfl (ih_5 (k + 1) m (by omega) (by omega) (orN_0 hR (if_pos (nd_t hb_4))))
        · show jW X G 6 0 0 45 [(5, .int (nI k)), (3, .long (lN m)), (0, .ref xo), (1, .long (lN u))] [.int (nI 1)] h
          refine j_if_eq C dX3_usersOf_45 (tgt := 56) (by decide) (pc' := 48) rfl (fun c_6 => absurd c_6 (by decide)) (fun _ => ?_)
          refine j_lload_n C (i := 3) (x := lN m) 1 rfl dX3_usersOf_48 (pc' := 49) rfl ?_
          refine j_iload C (i := 5) (x := nI k) 0 rfl dX3_usersOf_49 (pc' := 51) rfl ?_
          refine j_callS C (As := [.int (nI k)]) (rest := [.long (lN m)]) (c_bit X.2.1 C.2.2.2.2.2.2.2.2 G k (by omega)) (va_cwS 1 C.2.2.2.2.1 gX3_usersOf_X3_bit rfl rfl rfl (by decide +kernel) (by rw [hXR]; decide)) rfl rfl (Nat.le_of_ble_eq_true rfl) dX3_usersOf_51 (pc' := 54) rfl (by rw [hXR]; exact Nat.le_of_ble_eq_true rfl) (by rw [hXR]; exact Nat.le_of_ble_eq_true rfl) (fun _ _ z => z.elim) ?_
          rintro r h' ⟨rfl, hh⟩
          have hh := hh.symm
          subst hh
          show jW X G 6 0 0 54 [(5, .int (nI k)), (3, .long (lN m)), (0, .ref xo), (1, .long (lN u))] [.long (lN (2 ^ k)), .long (lN m)] h
          refine j_lor C (x := lN m) (y := lN (2 ^ k)) dX3_usersOf_54 (pc' := 55) rfl ?_
          refine jt_l (jl_or hm40 (p40 (by omega))) ?_
          refine j_lstore_n C (i := 3) (x := lN (m ||| 2 ^ k)) (l' := [(3, .long (lN (m ||| 2 ^ k))), (5, .int (nI k)), (0, .ref xo), (1, .long (lN u))]) dX3_usersOf_55 (pc' := 56) rfl (by decide) rfl ?_
          refine j_iinc C (i := 5) (q := 1) (x := nI k) (v := nI (k + 1)) (l' := [(5, .int (nI (k + 1))), (3, .long (lN (m ||| 2 ^ k))), (0, .ref xo), (1, .long (lN u))]) dX3_usersOf_56 (pc' := 59) rfl rfl (nI_add _ _) (by decide) rfl ?_
          refine j_goto C dX3_usersOf_59 (pc' := 5) (by decide) ?_
          exact jW.locals [0, 1, 2, 3] rfl (ih_5 (k + 1) (m ||| 2 ^ k) (by omega) (by omega) (orN_1 hR (if_neg (show ¬ mBits a k &&& u = 0 from fun z => by rw [decide_eq_true z] at hb_4; exact Bool.noConfusion hb_4))))
  exact jW.locals [0, 1, 2, 3] rfl (L_5 ((s 6 - (0)) + 1) 0 0 (by omega) (by omega) rfl)
set_option maxRecDepth 100000 in
set_option maxHeartbeats 4000000 in
theorem c_membersOf (l : Launch) (hlt : l.stackTraces = false) (G : jG) {P : Nat → Prop} {xo : Nat} {xa th va ca ma : Nat → Nat} {dat cap : Nat} {mod : Int32} {df : Nat → Option Nat} {vf dr : Nat → Int32} {mf : Nat → Nat → Int32} {s : mS} {a : mA} {h : jH} (Q : cQ G P xo xa th va ca ma dat cap mod df vf dr mf s a h) (J : IS s) (I : IA a) (u : Nat) (hu : u < 2 ^ 40) : jM l G yX3_membersOf wsX3_membersOf 3 64 0 0 [.ref xo, .long (lN u)] h (fun r h' => r = some (.long (lN (orN (fMem a u) (s 6)))) ∧ h' = h) (fun _ _ => False) := by
  have h6 := J.2.1
  have h2 := J.2.2.1
  have h4 := J.2.2.2.1
  have h10 := J.2.2.2.2.1
  have hs0 := J.1 0
  have hs1 := J.1 1
  refine jM_of (cc := cX3_membersOf) (maxL := 6) (ret := (some .long)) hlt (by decide +kernel) rfl (Nat.le_of_ble_eq_true rfl) ?_
  intro X C E hXl hXR hXn
  have hinX3 : ∀ w ∈ u_ws RX3 TX3 11, w ∈ wsX3_membersOf := by decide +kernel
  have hinX1 : ∀ w ∈ u_ws RX1 TX1 2, w ∈ wsX3_membersOf := by decide +kernel
  have hinX2 : ∀ w ∈ u_ws RX2 TX2 6, w ∈ wsX3_membersOf := by decide +kernel
  have hinX0 : ∀ w ∈ u_ws RX0 TX0 4, w ∈ wsX3_membersOf := by decide +kernel
  show jW X G 6 0 0 0 [(0, .ref xo), (1, .long (lN u))] [] h
  refine j_lconst C (v := lN 0) rfl dX3_membersOf_0 (pc' := 1) rfl ?_
  refine j_lstore_n C (i := 3) (x := lN 0) (l' := [(3, .long (lN 0)), (0, .ref xo), (1, .long (lN u))]) dX3_membersOf_1 (pc' := 2) rfl (by decide) rfl ?_
  refine j_iconst C (v := nI 0) rfl dX3_membersOf_2 (pc' := 3) rfl ?_
  refine j_istore C (i := 5) (x := nI 0) (l' := [(5, .int (nI 0)), (3, .long (lN 0)), (0, .ref xo), (1, .long (lN u))]) dX3_membersOf_3 (pc' := 5) rfl (by decide) rfl ?_
  have L_5 : ∀ (N_5 : Nat) (k m : Nat), (s 6 - k) < N_5 → (k ≤ s 6) → (m = orN (fMem a u) k) → jW X G 6 0 0 5 [(5, .int (nI k)), (3, .long (lN m)), (0, .ref xo), (1, .long (lN u))] [] h := by
    intro N_5
    induction N_5 with
    | zero => intro k m hm_5 hk6 hR; omega
    | succ N_5 ih_5 =>
      intro k m hm_5 hk6 hR
      have hm40 : m < 2 ^ 40 := by rw [hR]; exact fMem_lt I u k
      refine j_iload C (i := 5) (x := nI k) 0 rfl dX3_membersOf_5 (pc' := 7) rfl ?_
      refine j_aload_n C (i := 0) (x := xo) 2 rfl dX3_membersOf_7 (pc' := 8) rfl ?_
      refine j_get C (ref := "MapRevisions") (CN := RX3) (T := TX3) (N := 11) (ci := 4) (index := 25) (a := xo) (kf := 2) (fs := [.ref (xa 0), .ref (xa 1), .ref (xa 2), .ref (xa 3), .ref (xa 4), .ref (xa 5), .int (nI (s 2)), .int (nI (s 4)), .int (nI (s 10)), .int (nI (s 0)), .int (nI (s 1))]) (v := .ref (xa 2)) hinX3 rfl (by decide) (by decide +kernel) rfl Q.obj rfl dX3_membersOf_8 (pc' := 11) rfl ?_
      refine j_callV C (As := []) (rest := [.int (nI k)]) (c_size X.2.1 C.2.2.2.2.2.2.2.2 G Q.lst) (cwV 0 C.2.2.2.2.1 gX3_membersOf_Jx4a65c_size_8abf5 rfl rfl rfl (by decide +kernel) (by rw [hXR]; decide)) Q.lst rfl rfl rfl (Nat.le_of_ble_eq_true rfl) dX3_membersOf_11 (pc' := 14) rfl (by rw [hXR]; exact Nat.le_of_ble_eq_true rfl) (by rw [hXR]; exact Nat.le_of_ble_eq_true rfl) (fun _ _ z => z.elim) ?_
      rintro r h' ⟨rfl, hh⟩
      have hh := hh.symm
      subst hh
      show jW X G 6 0 0 14 [(5, .int (nI k)), (3, .long (lN m)), (0, .ref xo), (1, .long (lN u))] [.int (nI (s 6)), .int (nI k)] h
      refine j_icmp_ge C dX3_membersOf_14 (tgt := 59) (by decide) (pc' := 17) rfl (fun c_1 => ?_) (fun c_1 => ?_)
      · have c_1 := (nI_leI (a := s 6) (b := k) (by omega) (by omega)).mp c_1
        have c_1 : (s 6) ≤ k := c_1
        refine j_lload_n C (i := 3) (x := lN m) 1 rfl dX3_membersOf_59 (pc' := 60) rfl ?_
        exact j_lret C E dX3_membersOf_60 (Nat.le_of_ble_eq_true rfl) (Nat.le_of_ble_eq_true rfl) ⟨by rw [hR, show k = s 6 by omega], rfl⟩
      · have c_1 := fun zq => c_1 ((nI_leI (a := s 6) (b := k) (by omega) (by omega)).mpr zq)
        have c_1 : ¬ (s 6) ≤ k := c_1
        refine j_lload_n C (i := 1) (x := lN u) 3 rfl dX3_membersOf_17 (pc' := 18) rfl ?_
        refine j_iload C (i := 5) (x := nI k) 0 rfl dX3_membersOf_18 (pc' := 20) rfl ?_
        refine j_callS C (As := [.long (lN u), .int (nI k)]) (rest := []) (c_has X.2.1 C.2.2.2.2.2.2.2.2 G u k hu (by omega)) (va_cwS 2 C.2.2.2.2.1 gX3_membersOf_X3_has rfl rfl rfl (by decide +kernel) (by rw [hXR]; decide)) rfl rfl (Nat.le_of_ble_eq_true rfl) dX3_membersOf_20 (pc' := 23) rfl (by rw [hXR]; exact Nat.le_of_ble_eq_true rfl) (by rw [hXR]; exact Nat.le_of_ble_eq_true rfl) (fun _ _ z => z.elim) ?_
        rintro r h' ⟨rfl, hh⟩
        have hh := hh.symm
        subst hh
        show jW X G 6 0 0 23 [(5, .int (nI k)), (3, .long (lN m)), (0, .ref xo), (1, .long (lN u))] [.int (bI (u.testBit k))] h
        rcases hb_2 : (u.testBit k) with _ | _
        · show jW X G 6 0 0 23 [(5, .int (nI k)), (3, .long (lN m)), (0, .ref xo), (1, .long (lN u))] [.int (nI 0)] h
          refine j_if_eq C dX3_membersOf_23 (tgt := 53) (by decide) (pc' := 26) rfl (fun _ => ?_) (fun c_3 => absurd (by decide) c_3)
          refine j_iinc C (i := 5) (q := 0) (x := nI k) (v := nI (k + 1)) (l' := [(5, .int (nI (k + 1))), (3, .long (lN m)), (0, .ref xo), (1, .long (lN u))]) dX3_membersOf_53 (pc' := 56) rfl rfl (nI_add _ _) (by decide) rfl ?_
          refine j_goto C dX3_membersOf_56 (pc' := 5) (by decide) ?_
          exact jW.locals [0, 1, 2, 3] rfl (ih_5 (k + 1) m (by omega) (by omega) (orN_0 hR (if_neg (bff hb_2))))
        · show jW X G 6 0 0 23 [(5, .int (nI k)), (3, .long (lN m)), (0, .ref xo), (1, .long (lN u))] [.int (nI 1)] h
          refine j_if_eq C dX3_membersOf_23 (tgt := 53) (by decide) (pc' := 26) rfl (fun c_4 => absurd c_4 (by decide)) (fun _ => ?_)
          refine j_lload_n C (i := 3) (x := lN m) 1 rfl dX3_membersOf_26 (pc' := 27) rfl ?_
          refine j_aload_n C (i := 0) (x := xo) 2 rfl dX3_membersOf_27 (pc' := 28) rfl ?_
          refine j_get C (ref := "MapRevisions") (CN := RX3) (T := TX3) (N := 11) (ci := 4) (index := 25) (a := xo) (kf := 2) (fs := [.ref (xa 0), .ref (xa 1), .ref (xa 2), .ref (xa 3), .ref (xa 4), .ref (xa 5), .int (nI (s 2)), .int (nI (s 4)), .int (nI (s 10)), .int (nI (s 0)), .int (nI (s 1))]) (v := .ref (xa 2)) hinX3 rfl (by decide) (by decide +kernel) rfl Q.obj rfl dX3_membersOf_28 (pc' := 31) rfl ?_
          refine j_iload C (i := 5) (x := nI k) 0 rfl dX3_membersOf_31 (pc' := 33) rfl ?_
          have D_33 := Q.dta (t := k) (by omega)
          refine j_callV C (As := [.int (nI k)]) (rest := [.long (lN m)]) (c_get X.2.1 C.2.2.2.2.2.2.2.2 G Q.lst D_33.1 k (th k) (by omega) D_33.2.2.1 (by omega) D_33.2.1) (cwV 1 C.2.2.2.2.1 gX3_membersOf_Jx4a65c_get_915e3 rfl rfl rfl (by decide +kernel) (by rw [hXR]; decide)) Q.lst rfl rfl rfl (Nat.le_of_ble_eq_true rfl) dX3_membersOf_33 (pc' := 36) rfl (by rw [hXR]; exact Nat.le_of_ble_eq_true rfl) (by rw [hXR]; exact Nat.le_of_ble_eq_true rfl) (fun _ _ z => z.elim) ?_
          rintro r h' ⟨rfl, hh⟩
          have hh := hh.symm
          subst hh
          show jW X G 6 0 0 36 [(5, .int (nI k)), (3, .long (lN m)), (0, .ref xo), (1, .long (lN u))] [.ref (th k), .long (lN m)] h
          refine j_cast C (CN := RX1) (T := TX1) (N := 2) (ci := 2) (index := 111) (a := th k) (fs := [.int (nI (a 7 k)), .ref (va (a 8 k))]) (Q.thing (t := k) (by omega)) rfl (by decide +kernel) dX3_membersOf_36 (pc' := 39) rfl ?_
          refine j_get C (ref := "MapRevisions$Thing") (CN := RX1) (T := TX1) (N := 2) (ci := 2) (index := 138) (a := th k) (kf := 1) (fs := [.int (nI (a 7 k)), .ref (va (a 8 k))]) (v := .ref (va (a 8 k))) hinX1 rfl (by decide) (by decide +kernel) rfl (Q.thing (t := k) (by omega)) rfl dX3_membersOf_39 (pc' := 42) rfl ?_
          have B_5 := Q.last (t := k) (by omega)
          refine j_get C (ref := "MapRevisions$Version") (CN := RX2) (T := TX2) (N := 6) (ci := 3) (index := 151) (a := va (a 8 k)) (kf := 4) (fs := [cP va (a 13 (a 8 k)), .int (nI (a 12 (a 8 k))), .int (nI (a 14 (a 8 k))), .int (nI (a 15 (a 8 k))), .ref (ca (a 8 k)), .int (nI (a 17 (a 8 k)))]) (v := .ref (ca (a 8 k))) hinX2 rfl (by decide) (by decide +kernel) rfl (Q.ver (v := (a 8 k)) (by omega)) rfl dX3_membersOf_42 (pc' := 45) rfl ?_
          refine j_get C (ref := "MapRevisions$Content") (CN := RX0) (T := TX0) (N := 4) (ci := 1) (index := 100) (a := ca (a 8 k)) (kf := 3) (fs := [.int (nI (a 16 (a 8 k))), .int (nI (a 18 (a 8 k) / 100)), .int (nI (a 18 (a 8 k) % 100)), .ref (ma (a 8 k))]) (v := .ref (ma (a 8 k))) hinX0 rfl (by decide) (by decide +kernel) rfl (Q.con (v := (a 8 k)) (by omega)) rfl dX3_membersOf_45 (pc' := 48) rfl ?_
          have B_6 := IA.size I (a 8 k)
          refine j_callS C (As := [.ref (ma (a 8 k))]) (rest := [.long (lN m)]) (c_bitsOf X.2.1 C.2.2.2.2.2.2.2.2 G (g := fun j => a 20 (6 * (a 8 k) + j)) (Q.mem (v := a 8 k) (by omega)) (fun j hj => Q.mfe (by omega) hj) (fun j _ => IA.member I _) (IA.size I (a 8 k))) (va_cwS 1 C.2.2.2.2.1 gX3_membersOf_X3_bitsOf rfl rfl rfl (by decide +kernel) (by rw [hXR]; decide)) rfl rfl (Nat.le_of_ble_eq_true rfl) dX3_membersOf_48 (pc' := 51) rfl (by rw [hXR]; exact Nat.le_of_ble_eq_true rfl) (by rw [hXR]; exact Nat.le_of_ble_eq_true rfl) (fun _ _ z => z.elim) ?_
          rintro r h' ⟨rfl, hh⟩
          have hh := hh.symm
          subst hh
          show jW X G 6 0 0 51 [(5, .int (nI k)), (3, .long (lN m)), (0, .ref xo), (1, .long (lN u))] [.long (lN (mBits a k)), .long (lN m)] h
          refine j_lor C (x := lN m) (y := lN (mBits a k)) dX3_membersOf_51 (pc' := 52) rfl ?_
          refine jt_l (jl_or hm40 (mBits_lt I k)) ?_
          refine j_lstore_n C (i := 3) (x := lN (m ||| (mBits a k))) (l' := [(3, .long (lN (m ||| (mBits a k)))), (5, .int (nI k)), (0, .ref xo), (1, .long (lN u))]) dX3_membersOf_52 (pc' := 53) rfl (by decide) rfl ?_
          refine j_iinc C (i := 5) (q := 1) (x := nI k) (v := nI (k + 1)) (l' := [(5, .int (nI (k + 1))), (3, .long (lN (m ||| (mBits a k)))), (0, .ref xo), (1, .long (lN u))]) dX3_membersOf_53 (pc' := 56) rfl rfl (nI_add _ _) (by decide) rfl ?_
          refine j_goto C dX3_membersOf_56 (pc' := 5) (by decide) ?_
          refine jt_loc (l' := [(5, .int (nI (k + 1))), (3, .long (lN (m ||| mBits a k))), (0, .ref xo), (1, .long (lN u))]) (by rfl) ?_
          exact jW.locals [0, 1, 2, 3] rfl (ih_5 (k + 1) (m ||| mBits a k) (by omega) (by omega) (orN_1 hR (if_pos hb_2)))
  exact jW.locals [0, 1, 2, 3] rfl (L_5 ((s 6 - (0)) + 1) 0 0 (by omega) (by omega) rfl)
