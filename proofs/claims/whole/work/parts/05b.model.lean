theorem mUsers_le (a : mA) (n o : Nat) : mUsers a n o ≤ n := cnt_le _ n
theorem mUsers_s {a : mA} {k o : Nat} {b : Bool} (h : mHas a k o = b) : mUsers a k o + b.toNat = mUsers a (k + 1) o := by rw [← h]; rfl
set_option maxRecDepth 100000 in
set_option maxHeartbeats 4000000 in
theorem m_users (l : Launch) (hlt : l.stackTraces = false) (G : jG) {mo : Nat} {ad : Nat → Nat} {h0 : jH} (M : mG mo ad) (s : mS) (a : mA) (o : Nat) (J : IS s) (I : IA a) (ho : o < 1048576) : jM l G yX4_users wsX4_users 2 45 0 0 [.ref mo, .int (nI o)] (hM G mo ad h0 s a) (fun r h' => r = some (.int (nI (mUsers a (s 6) o))) ∧ h' = hM G mo ad h0 s a) (fun _ _ => False) := by
  have h6 := J.2.1
  refine jM_of (cc := cX4_users) (maxL := 4) (ret := (some .int)) hlt (by decide +kernel) rfl (Nat.le_of_ble_eq_true rfl) ?_
  intro X C E hXl hXR hXn
  have hin : ∀ w ∈ u_ws RX4 TX4 26, w ∈ wsX4_users := by decide +kernel
  show jW X G 4 0 0 0 [(0, .ref mo), (1, .int (nI o))] [] ((hM G mo ad h0 s a))
  refine j_iconst C (v := nI 0) rfl dX4_users_0 (pc' := 1) rfl ?_
  refine j_istore_n C (i := 2) (x := nI 0) (l' := [(2, .int (nI 0)), (0, .ref mo), (1, .int (nI o))]) dX4_users_1 (pc' := 2) rfl (by decide) rfl ?_
  refine j_iconst C (v := nI 0) rfl dX4_users_2 (pc' := 3) rfl ?_
  refine j_istore_n C (i := 3) (x := nI 0) (l' := [(3, .int (nI 0)), (2, .int (nI 0)), (0, .ref mo), (1, .int (nI o))]) dX4_users_3 (pc' := 4) rfl (by decide) rfl ?_
  have L_4 : ∀ (N_4 : Nat) (k : Nat), (s 6 - k) < N_4 → (k ≤ s 6) → jW X G 4 0 0 4 [(0, .ref mo), (1, .int (nI o)), (2, .int (nI (mUsers a k o))), (3, .int (nI k))] [] ((hM G mo ad h0 s a)) := by
    intro N_4
    induction N_4 with
    | zero => intro k hm_4 hk; omega
    | succ N_4 ih_4 =>
      intro k hm_4 hk
      refine j_iload_n C (i := 3) (x := nI k) 3 rfl dX4_users_4 (pc' := 5) rfl ?_
      refine j_aload_n C (i := 0) (x := mo) 0 rfl dX4_users_5 (pc' := 6) rfl ?_
      refine m_get C (f := 6) (idx := 69) hin (by decide) rfl (by decide +kernel) dX4_users_6 (pc' := 9) rfl ?_
      refine j_icmp_ge C dX4_users_9 (tgt := 35) (by decide) (pc' := 12) rfl (fun c_1 => ?_) (fun c_1 => ?_)
      · have c_1 := (nI_leI (a := s 6) (b := k) (by omega) (by omega)).mp c_1
        have c_1 : (s 6) ≤ k := c_1
        refine j_iload_n C (i := 2) (x := nI (mUsers a k o)) 2 rfl dX4_users_35 (pc' := 36) rfl ?_
        exact j_iret C E dX4_users_36 rfl (Nat.le_refl _) (Nat.le_refl _) ⟨by rw [show s 6 = k from by omega], rfl⟩
      · have c_1 := fun zq => c_1 ((nI_leI (a := s 6) (b := k) (by omega) (by omega)).mpr zq)
        have c_1 : ¬ (s 6) ≤ k := c_1
        refine j_iload_n C (i := 2) (x := nI (mUsers a k o)) 2 rfl dX4_users_12 (pc' := 13) rfl ?_
        refine j_aload_n C (i := 0) (x := mo) 0 rfl dX4_users_13 (pc' := 14) rfl ?_
        refine j_iload_n C (i := 3) (x := nI k) 3 rfl dX4_users_14 (pc' := 15) rfl ?_
        refine j_iload_n C (i := 1) (x := nI o) 1 rfl dX4_users_15 (pc' := 16) rfl ?_
        refine j_callV C (As := [.int (nI k), .int (nI o)]) (rest := [.int (nI (mUsers a k o))]) (m_hasMember X.2.1 C.2.2.2.2.2.2.2.2 G M s a k o I (by omega) (by omega)) (cwV 2 C.2.2.2.2.1 gX4_users_X4_hasMember rfl rfl rfl (by decide +kernel) (by rw [hXR]; decide)) hM_obj rfl rfl rfl (Nat.le_of_ble_eq_true rfl) dX4_users_16 (pc' := 19) rfl (by rw [hXR]; exact Nat.zero_le _) (by rw [hXR]; exact Nat.zero_le _) (fun _ _ z => z.elim) ?_
        rintro r h' ⟨rfl, rfl⟩
        show jW X G 4 0 0 19 [(0, .ref mo), (1, .int (nI o)), (2, .int (nI (mUsers a k o))), (3, .int (nI k))] [.int (bI (mHas a k o)), .int (nI (mUsers a k o))] ((hM G mo ad h0 s a))
        rcases hb_2 : (mHas a k o) with _ | _
        · show jW X G 4 0 0 19 [(0, .ref mo), (1, .int (nI o)), (2, .int (nI (mUsers a k o))), (3, .int (nI k))] [.int (nI 0), .int (nI (mUsers a k o))] ((hM G mo ad h0 s a))
          refine j_if_eq C dX4_users_19 (tgt := 26) (by decide) (pc' := 22) rfl (fun _ => ?_) (fun c_3 => absurd (by decide) c_3)
          refine j_iconst C (v := nI 0) rfl dX4_users_26 (pc' := 27) rfl ?_
          refine j_iadd C (x := nI (mUsers a k o)) (y := nI 0) dX4_users_27 (pc' := 28) rfl ?_
          refine jt_i (nI_add _ _) ?_
          refine j_istore_n C (i := 2) (x := nI (mUsers a k o + 0)) (l' := [(2, .int (nI (mUsers a k o + 0))), (0, .ref mo), (1, .int (nI o)), (3, .int (nI k))]) dX4_users_28 (pc' := 29) rfl (by decide) rfl ?_
          refine j_iinc C (i := 3) (q := 3) (x := nI k) (v := nI (k + 1)) (l' := [(3, .int (nI (k + 1))), (2, .int (nI (mUsers a k o + 0))), (0, .ref mo), (1, .int (nI o))]) dX4_users_29 (pc' := 32) rfl rfl (nI_add _ _) (by decide) rfl ?_
          refine j_goto C dX4_users_32 (pc' := 4) (by decide) ?_
          refine jt_loc (l' := [(3, .int (nI (k + 1))), (2, .int (nI (mUsers a (k + 1) o))), (0, .ref mo), (1, .int (nI o))]) (by rw [← mUsers_s hb_2]; rfl) ?_
          exact jW.locals [2, 3, 1, 0] rfl (ih_4 (k + 1) (by omega) (by omega))
        · show jW X G 4 0 0 19 [(0, .ref mo), (1, .int (nI o)), (2, .int (nI (mUsers a k o))), (3, .int (nI k))] [.int (nI 1), .int (nI (mUsers a k o))] ((hM G mo ad h0 s a))
          refine j_if_eq C dX4_users_19 (tgt := 26) (by decide) (pc' := 22) rfl (fun c_4 => absurd c_4 (by decide)) (fun _ => ?_)
          refine j_iconst C (v := nI 1) rfl dX4_users_22 (pc' := 23) rfl ?_
          refine j_goto C dX4_users_23 (pc' := 27) (by decide) ?_
          refine j_iadd C (x := nI (mUsers a k o)) (y := nI 1) dX4_users_27 (pc' := 28) rfl ?_
          refine jt_i (nI_add _ _) ?_
          refine j_istore_n C (i := 2) (x := nI (mUsers a k o + 1)) (l' := [(2, .int (nI (mUsers a k o + 1))), (0, .ref mo), (1, .int (nI o)), (3, .int (nI k))]) dX4_users_28 (pc' := 29) rfl (by decide) rfl ?_
          refine j_iinc C (i := 3) (q := 3) (x := nI k) (v := nI (k + 1)) (l' := [(3, .int (nI (k + 1))), (2, .int (nI (mUsers a k o + 1))), (0, .ref mo), (1, .int (nI o))]) dX4_users_29 (pc' := 32) rfl rfl (nI_add _ _) (by decide) rfl ?_
          refine j_goto C dX4_users_32 (pc' := 4) (by decide) ?_
          refine jt_loc (l' := [(3, .int (nI (k + 1))), (2, .int (nI (mUsers a (k + 1) o))), (0, .ref mo), (1, .int (nI o))]) (by rw [← mUsers_s hb_2]; rfl) ?_
          exact jW.locals [2, 3, 1, 0] rfl (ih_4 (k + 1) (by omega) (by omega))
  exact jW.locals [2, 3, 1, 0] rfl (L_4 ((s 6 - 0) + 1) 0 (by omega) (by omega))
def aDr (a : mA) (n : Nat) : mA := va_up a 24 (fun j => if j < n then a 5 j else a 24 j)
def aVr (a : mA) (v n : Nat) : mA := va_up a 24 (fun j => if j < n then a 20 (6 * v + j) else a 24 j)
theorem upd_lt {f g : Nat → Nat} {n : Nat} : va_up (fun j => if j < n then g j else f j) n (g n) = (fun j => if j < n + 1 then g j else f j) := by
  funext j
  by_cases h : j = n
  · subst h; rw [up_s, if_pos (Nat.lt_succ_self j)]
  · rw [up_n h]
    by_cases h2 : j < n
    · rw [if_pos h2, if_pos (by omega)]
    · rw [if_neg h2, if_neg (by omega)]
theorem up_up {α : Type} {f : Nat → α} {k : Nat} {v w : α} : va_up (va_up f k v) k w = va_up f k w := by
  funext j
  by_cases h : j = k
  · subst h; rw [up_s, up_s]
  · rw [up_n h, up_n h, up_n h]
theorem aDr_0 (a : mA) : a = aDr a 0 := by
  funext f
  by_cases h : f = 24
  · subst h; unfold aDr; rw [up_s]; funext j; rw [if_neg (Nat.not_lt_zero j)]
  · unfold aDr; rw [up_n h]
theorem aDr_s (a : mA) (n : Nat) : va_up2 (aDr a n) 24 n (a 5 n) = aDr a (n + 1) := by
  unfold va_up2 aDr
  rw [up_s, up_up, upd_lt]
theorem aVr_0 (a : mA) (v : Nat) : a = aVr a v 0 := by
  funext f
  by_cases h : f = 24
  · subst h; unfold aVr; rw [up_s]; funext j; rw [if_neg (Nat.not_lt_zero j)]
  · unfold aVr; rw [up_n h]
theorem aVr_s (a : mA) (v n : Nat) : va_up2 (aVr a v n) 24 n (a 20 (6 * v + n)) = aVr a v (n + 1) := by
  unfold va_up2 aVr
  rw [up_s, up_up, upd_lt (g := fun j => a 20 (6 * v + j))]
theorem IA.upAsks {a : mA} (I : IA a) {f : Nat → Nat} (h : ∀ j, f j < 40) : IA (va_up a 24 f) := by
  have key : ∀ g, g ≠ 24 → va_up a 24 f g = a g := fun g hg => up_n hg
  refine ⟨fun g j => ?_, fun j => ?_, fun j => ?_, fun j => ?_, fun j => ?_, fun j => ?_, fun j => ?_, fun j => ?_, fun j => ?_, fun j => ?_, fun j => ?_, fun j => ?_, fun j => ?_, fun j => ?_⟩
  · by_cases hg : g = 24
    · subst hg; rw [up_s]; have := h j; omega
    · rw [key g hg]; exact I.1 g j
  · rw [key 8 (by decide)]; exact I.last j
  · rw [key 5 (by decide)]; exact I.draft j
  · rw [up_s]; exact h j
  · rw [key 19 (by decide)]; exact I.size j
  · rw [key 20 (by decide)]; exact I.member j
  · rw [key 11 (by decide)]; exact I.of j
  · rw [key 13 (by decide)]; exact I.ahead' j
  · rw [key 3 (by decide)]; exact I.closed j
  · rw [key 16 (by decide)]; exact I.there j
  · rw [key 17 (by decide)]; exact I.hidden j
  · rw [key 21 (by decide)]; exact I.marked j
  · rw [key 22 (by decide)]; exact I.drawn j
  · rw [key 7 (by decide)]; exact I.kind j
theorem IA.aDr {a : mA} (I : IA a) (n : Nat) : IA (aDr a n) := I.upAsks fun j => by
  by_cases h : j < n
  · rw [if_pos h]; exact I.draft j
  · rw [if_neg h]; exact I.asks j
theorem IA.aVr {a : mA} (I : IA a) (v n : Nat) : IA (aVr a v n) := I.upAsks fun j => by
  by_cases h : j < n
  · rw [if_pos h]; exact I.member _
  · rw [if_neg h]; exact I.asks j
set_option maxRecDepth 100000 in
set_option maxHeartbeats 4000000 in
theorem m_asksDraft (l : Launch) (hlt : l.stackTraces = false) (G : jG) {mo : Nat} {ad : Nat → Nat} {h0 : jH} (M : mG mo ad) (s : mS) (a : mA)  (J : IS s) (I : IA a) : jM l G yX4_asksDraft wsX4_asksDraft 0 0 0 0 [.ref mo] (hM G mo ad h0 s a) (fun r h' => r = none ∧ h' = hM G mo ad h0 (va_up s 23 (s 4)) (aDr a (s 4))) (fun _ _ => False) := by
  have h4 := J.2.2.2.1
  refine jM_of (cc := cX4_asksDraft) (maxL := 2) (ret := none) hlt (by decide +kernel) rfl (Nat.le_of_ble_eq_true rfl) ?_
  intro X C E hXl hXR hXn
  have hin : ∀ w ∈ u_ws RX4 TX4 26, w ∈ wsX4_asksDraft := by decide +kernel
  show jW X G 2 0 0 0 [(0, .ref mo)] [] ((hM G mo ad h0 s a))
  refine j_aload_n C (i := 0) (x := mo) 0 rfl dX4_asksDraft_0 (pc' := 1) rfl ?_
  refine j_aload_n C (i := 0) (x := mo) 0 rfl dX4_asksDraft_1 (pc' := 2) rfl ?_
  refine m_get C (f := 4) (idx := 93) hin (by decide) rfl (by decide +kernel) dX4_asksDraft_2 (pc' := 5) rfl ?_
  refine m_put C (f := 23) (idx := 100) (v := s 4) hin (by decide) rfl (by decide +kernel) dX4_asksDraft_5 (pc' := 8) rfl ?_
  refine j_iconst C (v := nI 0) rfl dX4_asksDraft_8 (pc' := 9) rfl ?_
  refine j_istore_n C (i := 1) (x := nI 0) (l' := [(1, .int (nI 0)), (0, .ref mo)]) dX4_asksDraft_9 (pc' := 10) rfl (by decide) rfl ?_
  have L_10 : ∀ (N_10 : Nat) (k : Nat), (s 4 - k) < N_10 → (k ≤ s 4) → jW X G 2 0 0 10 [(0, .ref mo), (1, .int (nI k))] [] ((hM G mo ad h0 (va_up s 23 (s 4)) (aDr a k))) := by
    intro N_10
    induction N_10 with
    | zero => intro k hm_10 hk; omega
    | succ N_10 ih_10 =>
      intro k hm_10 hk
      refine j_iload_n C (i := 1) (x := nI k) 1 rfl dX4_asksDraft_10 (pc' := 11) rfl ?_
      refine j_aload_n C (i := 0) (x := mo) 0 rfl dX4_asksDraft_11 (pc' := 12) rfl ?_
      refine m_get C (f := 4) (idx := 93) hin (by decide) rfl (by decide +kernel) dX4_asksDraft_12 (pc' := 15) rfl ?_
      show jW X G 2 0 0 15 [(0, .ref mo), (1, .int (nI k))] [.int (nI (s 4)), .int (nI k)] ((hM G mo ad h0 (va_up s 23 (s 4)) (aDr a k)))
      refine j_icmp_ge C dX4_asksDraft_15 (tgt := 36) (by decide) (pc' := 18) rfl (fun c_1 => ?_) (fun c_1 => ?_)
      · have c_1 := (nI_leI (a := s 4) (b := k) (by omega) (by omega)).mp c_1
        have c_1 : (s 4) ≤ k := c_1
        exact j_vret C E dX4_asksDraft_36 (Nat.le_refl _) (Nat.le_refl _) ⟨rfl, by rw [show s 4 = k from by omega]⟩
      · have c_1 := fun zq => c_1 ((nI_leI (a := s 4) (b := k) (by omega) (by omega)).mpr zq)
        have c_1 : ¬ (s 4) ≤ k := c_1
        refine j_aload_n C (i := 0) (x := mo) 0 rfl dX4_asksDraft_18 (pc' := 19) rfl ?_
        refine m_geta C (f := 24) (idx := 62) hin (by decide) rfl (by decide +kernel) dX4_asksDraft_19 (pc' := 22) rfl ?_
        refine j_iload_n C (i := 1) (x := nI k) 1 rfl dX4_asksDraft_22 (pc' := 23) rfl ?_
        refine j_aload_n C (i := 0) (x := mo) 0 rfl dX4_asksDraft_23 (pc' := 24) rfl ?_
        refine m_geta C (f := 5) (idx := 13) hin (by decide) rfl (by decide +kernel) dX4_asksDraft_24 (pc' := 27) rfl ?_
        refine j_iload_n C (i := 1) (x := nI k) 1 rfl dX4_asksDraft_27 (pc' := 28) rfl ?_
        refine m_ald C M (f := 5) (j := k) (by decide) rfl rfl rfl (show k < 6 by omega) dX4_asksDraft_28 (pc' := 29) rfl ?_
        show jW X G 2 0 0 29 [(0, .ref mo), (1, .int (nI k))] [.int (nI (a 5 k)), .int (nI k), .ref (ad 24)] ((hM G mo ad h0 (va_up s 23 (s 4)) (aDr a k)))
        have B_2 := IA.draft I k
        refine m_ast C M (f := 24) (j := k) (v := a 5 k) (by decide) rfl rfl rfl (show k < 6 by omega) rfl dX4_asksDraft_29 (pc' := 30) rfl ?_
        refine j_iinc C (i := 1) (q := 1) (x := nI k) (v := nI (k + 1)) (l' := [(1, .int (nI (k + 1))), (0, .ref mo)]) dX4_asksDraft_30 (pc' := 33) rfl rfl (nI_add _ _) (by decide) rfl ?_
        refine j_goto C dX4_asksDraft_33 (pc' := 10) (by decide) ?_
        refine jt_h (h' := hM G mo ad h0 (va_up s 23 (s 4)) (aDr a (k + 1))) (by rw [aDr_s]) ?_
        exact jW.locals [1, 0] rfl (ih_10 (k + 1) (by omega) (by omega))
  refine jt_h (h' := hM G mo ad h0 (va_up s 23 (s 4)) (aDr a 0)) (by rw [← aDr_0]) ?_
  exact jW.locals [1, 0] rfl (L_10 ((s 4 - 0) + 1) 0 (by omega) (by omega))
set_option maxRecDepth 100000 in
set_option maxHeartbeats 4000000 in
theorem m_asksVersion (l : Launch) (hlt : l.stackTraces = false) (G : jG) {mo : Nat} {ad : Nat → Nat} {h0 : jH} (M : mG mo ad) (s : mS) (a : mA) (v : Nat) (J : IS s) (I : IA a) (hv : v < 1400) : jM l G yX4_asksVersion wsX4_asksVersion 0 0 0 0 [.ref mo, .int (nI v)] (hM G mo ad h0 s a) (fun r h' => r = none ∧ h' = hM G mo ad h0 (va_up s 23 (a 19 v)) (aVr a v (a 19 v))) (fun _ _ => False) := by
  have h4 := IA.size I v
  refine jM_of (cc := cX4_asksVersion) (maxL := 3) (ret := none) hlt (by decide +kernel) rfl (Nat.le_of_ble_eq_true rfl) ?_
  intro X C E hXl hXR hXn
  have hin : ∀ w ∈ u_ws RX4 TX4 26, w ∈ wsX4_asksVersion := by decide +kernel
  show jW X G 3 0 0 0 [(0, .ref mo), (1, .int (nI v))] [] ((hM G mo ad h0 s a))
  refine j_aload_n C (i := 0) (x := mo) 0 rfl dX4_asksVersion_0 (pc' := 1) rfl ?_
  refine j_aload_n C (i := 0) (x := mo) 0 rfl dX4_asksVersion_1 (pc' := 2) rfl ?_
  refine m_geta C (f := 19) (idx := 50) hin (by decide) rfl (by decide +kernel) dX4_asksVersion_2 (pc' := 5) rfl ?_
  refine j_iload_n C (i := 1) (x := nI v) 1 rfl dX4_asksVersion_5 (pc' := 6) rfl ?_
  refine m_ald C M (f := 19) (j := v) (by decide) rfl rfl rfl (show v < 1400 by omega) dX4_asksVersion_6 (pc' := 7) rfl ?_
  have B_1 := IA.size I v
  refine m_put C (f := 23) (idx := 100) (v := a 19 v) hin (by decide) rfl (by decide +kernel) dX4_asksVersion_7 (pc' := 10) rfl ?_
  refine j_iconst C (v := nI 0) rfl dX4_asksVersion_10 (pc' := 11) rfl ?_
  refine j_istore_n C (i := 2) (x := nI 0) (l' := [(2, .int (nI 0)), (0, .ref mo), (1, .int (nI v))]) dX4_asksVersion_11 (pc' := 12) rfl (by decide) rfl ?_
  have L_12 : ∀ (N_12 : Nat) (k : Nat), (a 19 v - k) < N_12 → (k ≤ a 19 v) → jW X G 3 0 0 12 [(0, .ref mo), (1, .int (nI v)), (2, .int (nI k))] [] ((hM G mo ad h0 (va_up s 23 (a 19 v)) (aVr a v k))) := by
    intro N_12
    induction N_12 with
    | zero => intro k hm_12 hk; omega
    | succ N_12 ih_12 =>
      intro k hm_12 hk
      refine j_iload_n C (i := 2) (x := nI k) 2 rfl dX4_asksVersion_12 (pc' := 13) rfl ?_
      refine j_aload_n C (i := 0) (x := mo) 0 rfl dX4_asksVersion_13 (pc' := 14) rfl ?_
      refine m_get C (f := 23) (idx := 100) hin (by decide) rfl (by decide +kernel) dX4_asksVersion_14 (pc' := 17) rfl ?_
      show jW X G 3 0 0 17 [(0, .ref mo), (1, .int (nI v)), (2, .int (nI k))] [.int (nI (a 19 v)), .int (nI k)] ((hM G mo ad h0 (va_up s 23 (a 19 v)) (aVr a v k)))
      refine j_icmp_ge C dX4_asksVersion_17 (tgt := 43) (by decide) (pc' := 20) rfl (fun c_2 => ?_) (fun c_2 => ?_)
      · have c_2 := (nI_leI (a := a 19 v) (b := k) (by omega) (by omega)).mp c_2
        have c_2 : (a 19 v) ≤ k := c_2
        exact j_vret C E dX4_asksVersion_43 (Nat.le_refl _) (Nat.le_refl _) ⟨rfl, by rw [show a 19 v = k from by omega]⟩
      · have c_2 := fun zq => c_2 ((nI_leI (a := a 19 v) (b := k) (by omega) (by omega)).mpr zq)
        have c_2 : ¬ (a 19 v) ≤ k := c_2
        refine j_aload_n C (i := 0) (x := mo) 0 rfl dX4_asksVersion_20 (pc' := 21) rfl ?_
        refine m_geta C (f := 24) (idx := 62) hin (by decide) rfl (by decide +kernel) dX4_asksVersion_21 (pc' := 24) rfl ?_
        refine j_iload_n C (i := 2) (x := nI k) 2 rfl dX4_asksVersion_24 (pc' := 25) rfl ?_
        refine j_aload_n C (i := 0) (x := mo) 0 rfl dX4_asksVersion_25 (pc' := 26) rfl ?_
        refine m_geta C (f := 20) (idx := 53) hin (by decide) rfl (by decide +kernel) dX4_asksVersion_26 (pc' := 29) rfl ?_
        refine j_bipush C (v := nI 6) rfl dX4_asksVersion_29 (pc' := 31) rfl ?_
        refine j_iload_n C (i := 1) (x := nI v) 1 rfl dX4_asksVersion_31 (pc' := 32) rfl ?_
        refine j_imul C (x := nI 6) (y := nI v) dX4_asksVersion_32 (pc' := 33) rfl ?_
        refine jt_i (pk_mul _ _) ?_
        refine j_iload_n C (i := 2) (x := nI k) 2 rfl dX4_asksVersion_33 (pc' := 34) rfl ?_
        refine j_iadd C (x := nI (6 * v)) (y := nI k) dX4_asksVersion_34 (pc' := 35) rfl ?_
        refine jt_i (nI_add _ _) ?_
        refine m_ald C M (f := 20) (j := 6 * v + k) (by decide) rfl rfl rfl (show 6 * v + k < 8400 by omega) dX4_asksVersion_35 (pc' := 36) rfl ?_
        show jW X G 3 0 0 36 [(0, .ref mo), (1, .int (nI v)), (2, .int (nI k))] [.int (nI (a 20 (6 * v + k))), .int (nI k), .ref (ad 24)] ((hM G mo ad h0 (va_up s 23 (a 19 v)) (aVr a v k)))
        have B_3 := IA.member I (6 * v + k)
        refine m_ast C M (f := 24) (j := k) (v := a 20 (6 * v + k)) (by decide) rfl rfl rfl (show k < 6 by omega) rfl dX4_asksVersion_36 (pc' := 37) rfl ?_
        refine j_iinc C (i := 2) (q := 2) (x := nI k) (v := nI (k + 1)) (l' := [(2, .int (nI (k + 1))), (0, .ref mo), (1, .int (nI v))]) dX4_asksVersion_37 (pc' := 40) rfl rfl (nI_add _ _) (by decide) rfl ?_
        refine j_goto C dX4_asksVersion_40 (pc' := 12) (by decide) ?_
        refine jt_h (h' := hM G mo ad h0 (va_up s 23 (a 19 v)) (aVr a v (k + 1))) (by rw [aVr_s]) ?_
        exact jW.locals [1, 2, 0] rfl (ih_12 (k + 1) (by omega) (by omega))
  refine jt_h (h' := hM G mo ad h0 (va_up s 23 (a 19 v)) (aVr a v 0)) (by rw [← aVr_0]) ?_
  exact jW.locals [1, 2, 0] rfl (L_12 ((a 19 v - 0) + 1) 0 (by omega) (by omega))
def mUnlN (s : mS) (a : mA) (w n : Nat) : Bool := decide (s 23 < (if w = 1 then 2 else 1)) || anyN (fun k => !mIs a (a 24 k) || (decide (w = 1) && !decide (a 7 (a 24 k) = 0))) n
theorem mUnlN_s {s : mS} {a : mA} {w n : Nat} {x y : Bool} (h : mUnlN s a w n = x) (h2 : (!mIs a (a 24 n) || (decide (w = 1) && !decide (a 7 (a 24 n) = 0))) = y) : mUnlN s a w (n + 1) = (x || y) := by
  unfold mUnlN at h ⊢
  rw [anyN_s, ← Bool.or_assoc, h, h2]
theorem mUnlN_t {s : mS} {a : mA} {w n : Nat} (h : mUnlN s a w n = true) : mUnlN s a w (n + 1) = true := by
  unfold mUnlN at h ⊢
  rw [anyN_s, ← Bool.or_assoc, h]; rfl
set_option maxRecDepth 100000 in
set_option maxHeartbeats 4000000 in
theorem m_isUnlike (l : Launch) (hlt : l.stackTraces = false) (G : jG) {mo : Nat} {ad : Nat → Nat} {h0 : jH} (M : mG mo ad) (s : mS) (a : mA) (w : Nat) (J : IS s) (I : IA a) (hw : w ≤ 2) : jM l G yX4_isUnlike wsX4_isUnlike 1 21 0 0 [.ref mo, .int (nI w)] (hM G mo ad h0 s a) (fun r h' => r = some (.int (bI (mUnl s a w))) ∧ h' = hM G mo ad h0 s a) (fun _ _ => False) := by
  have h23 := J.2.2.2.2.2
  refine jM_of (cc := cX4_isUnlike) (maxL := 4) (ret := (some .boolean)) hlt (by decide +kernel) rfl (Nat.le_of_ble_eq_true rfl) ?_
  intro X C E hXl hXR hXn
  have hin : ∀ w ∈ u_ws RX4 TX4 26, w ∈ wsX4_isUnlike := by decide +kernel
  show jW X G 4 0 0 0 [(0, .ref mo), (1, .int (nI w))] [] ((hM G mo ad h0 s a))
  refine j_aload_n C (i := 0) (x := mo) 0 rfl dX4_isUnlike_0 (pc' := 1) rfl ?_
  refine m_get C (f := 23) (idx := 100) hin (by decide) rfl (by decide +kernel) dX4_isUnlike_1 (pc' := 4) rfl ?_
  refine j_iload_n C (i := 1) (x := nI w) 1 rfl dX4_isUnlike_4 (pc' := 5) rfl ?_
  refine j_iconst C (v := nI 1) rfl dX4_isUnlike_5 (pc' := 6) rfl ?_
  refine j_icmp_ne C dX4_isUnlike_6 (tgt := 13) (by decide) (pc' := 9) rfl (fun c_1 => ?_) (fun c_1 => ?_)
  · have c_1 := fun zq => c_1 ((nI_eq (a := w) (b := 1) (by omega) (by omega)).mpr zq)
    have c_1 : ¬ w = 1 := c_1
    refine j_iconst C (v := nI 1) rfl dX4_isUnlike_13 (pc' := 14) rfl ?_
    refine j_icmp_ge C dX4_isUnlike_14 (tgt := 21) (by decide) (pc' := 17) rfl (fun c_2 => ?_) (fun c_2 => ?_)
    · have c_2 := (nI_leI (a := 1) (b := s 23) (by omega) (by omega)).mp c_2
      have c_2 : 1 ≤ (s 23) := c_2
      refine j_iconst C (v := nI 0) rfl dX4_isUnlike_21 (pc' := 22) rfl ?_
      refine j_istore_n C (i := 2) (x := nI 0) (l' := [(2, .int (nI 0)), (0, .ref mo), (1, .int (nI w))]) dX4_isUnlike_22 (pc' := 23) rfl (by decide) rfl ?_
      refine j_iconst C (v := nI 0) rfl dX4_isUnlike_23 (pc' := 24) rfl ?_
      refine j_istore_n C (i := 3) (x := nI 0) (l' := [(3, .int (nI 0)), (2, .int (nI 0)), (0, .ref mo), (1, .int (nI w))]) dX4_isUnlike_24 (pc' := 25) rfl (by decide) rfl ?_
      have L_25 : ∀ (N_25 : Nat) (k : Nat), (s 23 - k) < N_25 → (k ≤ s 23) → jW X G 4 0 0 25 [(0, .ref mo), (1, .int (nI w)), (2, .int (bI (mUnlN s a w k))), (3, .int (nI k))] [] ((hM G mo ad h0 s a)) := by
        intro N_25
        induction N_25 with
        | zero => intro k hm_25 hk; omega
        | succ N_25 ih_25 =>
          intro k hm_25 hk
          refine j_iload_n C (i := 3) (x := nI k) 3 rfl dX4_isUnlike_25 (pc' := 26) rfl ?_
          refine j_aload_n C (i := 0) (x := mo) 0 rfl dX4_isUnlike_26 (pc' := 27) rfl ?_
          refine m_get C (f := 23) (idx := 100) hin (by decide) rfl (by decide +kernel) dX4_isUnlike_27 (pc' := 30) rfl ?_
          refine j_icmp_ge C dX4_isUnlike_30 (tgt := 81) (by decide) (pc' := 33) rfl (fun c_3 => ?_) (fun c_3 => ?_)
          · have c_3 := (nI_leI (a := s 23) (b := k) (by omega) (by omega)).mp c_3
            have c_3 : (s 23) ≤ k := c_3
            refine j_iload_n C (i := 2) (x := bI (mUnlN s a w k)) 2 rfl dX4_isUnlike_81 (pc' := 82) rfl ?_
            exact j_iret C E dX4_isUnlike_82 (bI_nar _) (Nat.le_refl _) (Nat.le_refl _) ⟨by rw [show mUnl s a w = mUnlN s a w k from by unfold mUnl mUnlN; rw [show s 23 = k from by omega]], rfl⟩
          · have c_3 := fun zq => c_3 ((nI_leI (a := s 23) (b := k) (by omega) (by omega)).mpr zq)
            have c_3 : ¬ (s 23) ≤ k := c_3
            refine j_iload_n C (i := 2) (x := bI (mUnlN s a w k)) 2 rfl dX4_isUnlike_33 (pc' := 34) rfl ?_
            rcases hb_4 : (mUnlN s a w k) with _ | _
            · show jW X G 4 0 0 34 [(0, .ref mo), (1, .int (nI w)), (2, .int (nI 0)), (3, .int (nI k))] [.int (nI 0)] ((hM G mo ad h0 s a))
              refine j_if_ne C dX4_isUnlike_34 (tgt := 69) (by decide) (pc' := 37) rfl (fun c_5 => absurd (by decide) c_5) (fun _ => ?_)
              refine j_aload_n C (i := 0) (x := mo) 0 rfl dX4_isUnlike_37 (pc' := 38) rfl ?_
              refine j_aload_n C (i := 0) (x := mo) 0 rfl dX4_isUnlike_38 (pc' := 39) rfl ?_
              refine m_geta C (f := 24) (idx := 62) hin (by decide) rfl (by decide +kernel) dX4_isUnlike_39 (pc' := 42) rfl ?_
              refine j_iload_n C (i := 3) (x := nI k) 3 rfl dX4_isUnlike_42 (pc' := 43) rfl ?_
              refine m_ald C M (f := 24) (j := k) (by decide) rfl rfl rfl (show k < 6 by omega) dX4_isUnlike_43 (pc' := 44) rfl ?_
              have B_6 := IA.asks I k
              refine j_callV C (As := [.int (nI (a 24 k))]) (rest := []) (m_is X.2.1 C.2.2.2.2.2.2.2.2 G M s a (a 24 k) I (by omega)) (cwV 1 C.2.2.2.2.1 gX4_isUnlike_X4_is rfl rfl rfl (by decide +kernel) (by rw [hXR]; decide)) hM_obj rfl rfl rfl (Nat.le_of_ble_eq_true rfl) dX4_isUnlike_44 (pc' := 47) rfl (by rw [hXR]; exact Nat.zero_le _) (by rw [hXR]; exact Nat.zero_le _) (fun _ _ z => z.elim) ?_
              rintro r h' ⟨rfl, rfl⟩
              show jW X G 4 0 0 47 [(0, .ref mo), (1, .int (nI w)), (2, .int (nI 0)), (3, .int (nI k))] [.int (bI (mIs a (a 24 k)))] ((hM G mo ad h0 s a))
              rcases hb_7 : (mIs a (a 24 k)) with _ | _
              · show jW X G 4 0 0 47 [(0, .ref mo), (1, .int (nI w)), (2, .int (nI 0)), (3, .int (nI k))] [.int (nI 0)] ((hM G mo ad h0 s a))
                refine j_if_eq C dX4_isUnlike_47 (tgt := 69) (by decide) (pc' := 50) rfl (fun _ => ?_) (fun c_8 => absurd (by decide) c_8)
                refine j_iconst C (v := nI 1) rfl dX4_isUnlike_69 (pc' := 70) rfl ?_
                refine j_goto C dX4_isUnlike_70 (pc' := 74) (by decide) ?_
                refine j_istore_n C (i := 2) (x := nI 1) (l' := [(2, .int (nI 1)), (0, .ref mo), (1, .int (nI w)), (3, .int (nI k))]) dX4_isUnlike_74 (pc' := 75) rfl (by decide) rfl ?_
                refine j_iinc C (i := 3) (q := 3) (x := nI k) (v := nI (k + 1)) (l' := [(3, .int (nI (k + 1))), (2, .int (nI 1)), (0, .ref mo), (1, .int (nI w))]) dX4_isUnlike_75 (pc' := 78) rfl rfl (nI_add _ _) (by decide) rfl ?_
                refine j_goto C dX4_isUnlike_78 (pc' := 25) (by decide) ?_
                refine jt_loc (l' := [(3, .int (nI (k + 1))), (2, .int (bI (mUnlN s a w (k + 1)))), (0, .ref mo), (1, .int (nI w))]) (by rw [← bI_1 (mUnlN_s hb_4 (show (!mIs a (a 24 k) || (decide (w = 1) && !decide (a 7 (a 24 k) = 0))) = true by rw [hb_7]; rfl))]) ?_
                exact jW.locals [2, 3, 1, 0] rfl (ih_25 (k + 1) (by omega) (by omega))
              · show jW X G 4 0 0 47 [(0, .ref mo), (1, .int (nI w)), (2, .int (nI 0)), (3, .int (nI k))] [.int (nI 1)] ((hM G mo ad h0 s a))
                refine j_if_eq C dX4_isUnlike_47 (tgt := 69) (by decide) (pc' := 50) rfl (fun c_9 => absurd c_9 (by decide)) (fun _ => ?_)
                refine j_iload_n C (i := 1) (x := nI w) 1 rfl dX4_isUnlike_50 (pc' := 51) rfl ?_
                refine j_iconst C (v := nI 1) rfl dX4_isUnlike_51 (pc' := 52) rfl ?_
                refine j_icmp_ne C dX4_isUnlike_52 (tgt := 73) (by decide) (pc' := 55) rfl (fun c_10 => ?_) (fun c_10 => ?_)
                · have c_10 := fun zq => c_10 ((nI_eq (a := w) (b := 1) (by omega) (by omega)).mpr zq)
                  have c_10 : ¬ w = 1 := c_10
                  refine j_iconst C (v := nI 0) rfl dX4_isUnlike_73 (pc' := 74) rfl ?_
                  refine j_istore_n C (i := 2) (x := nI 0) (l' := [(2, .int (nI 0)), (0, .ref mo), (1, .int (nI w)), (3, .int (nI k))]) dX4_isUnlike_74 (pc' := 75) rfl (by decide) rfl ?_
                  refine j_iinc C (i := 3) (q := 3) (x := nI k) (v := nI (k + 1)) (l' := [(3, .int (nI (k + 1))), (2, .int (nI 0)), (0, .ref mo), (1, .int (nI w))]) dX4_isUnlike_75 (pc' := 78) rfl rfl (nI_add _ _) (by decide) rfl ?_
                  refine j_goto C dX4_isUnlike_78 (pc' := 25) (by decide) ?_
                  refine jt_loc (l' := [(3, .int (nI (k + 1))), (2, .int (bI (mUnlN s a w (k + 1)))), (0, .ref mo), (1, .int (nI w))]) (by rw [← bI_0 (mUnlN_s hb_4 (show (!mIs a (a 24 k) || (decide (w = 1) && !decide (a 7 (a 24 k) = 0))) = false by rw [hb_7, decide_eq_false c_10]; rfl))]) ?_
                  exact jW.locals [2, 3, 1, 0] rfl (ih_25 (k + 1) (by omega) (by omega))
                · have c_10 := (nI_eq (a := w) (b := 1) (by omega) (by omega)).mp c_10
                  have c_10 : w = 1 := c_10
                  refine j_aload_n C (i := 0) (x := mo) 0 rfl dX4_isUnlike_55 (pc' := 56) rfl ?_
                  refine m_geta C (f := 7) (idx := 17) hin (by decide) rfl (by decide +kernel) dX4_isUnlike_56 (pc' := 59) rfl ?_
                  refine j_aload_n C (i := 0) (x := mo) 0 rfl dX4_isUnlike_59 (pc' := 60) rfl ?_
                  refine m_geta C (f := 24) (idx := 62) hin (by decide) rfl (by decide +kernel) dX4_isUnlike_60 (pc' := 63) rfl ?_
                  refine j_iload_n C (i := 3) (x := nI k) 3 rfl dX4_isUnlike_63 (pc' := 64) rfl ?_
                  refine m_ald C M (f := 24) (j := k) (by decide) rfl rfl rfl (show k < 6 by omega) dX4_isUnlike_64 (pc' := 65) rfl ?_
                  have B_11 := IA.asks I k
                  refine m_ald C M (f := 7) (j := a 24 k) (by decide) rfl rfl rfl (show a 24 k < 40 by omega) dX4_isUnlike_65 (pc' := 66) rfl ?_
                  have B_12 := IA.kind I (a 24 k)
                  refine j_if_eq C dX4_isUnlike_66 (tgt := 73) (by decide) (pc' := 69) rfl (fun c_13 => ?_) (fun c_13 => ?_)
                  · have c_13 := (nI_eq (a := a 7 (a 24 k)) (b := 0) (by omega) (by omega)).mp c_13
                    have c_13 : (a 7 (a 24 k)) = 0 := c_13
                    refine j_iconst C (v := nI 0) rfl dX4_isUnlike_73 (pc' := 74) rfl ?_
                    refine j_istore_n C (i := 2) (x := nI 0) (l' := [(2, .int (nI 0)), (0, .ref mo), (1, .int (nI w)), (3, .int (nI k))]) dX4_isUnlike_74 (pc' := 75) rfl (by decide) rfl ?_
                    refine j_iinc C (i := 3) (q := 3) (x := nI k) (v := nI (k + 1)) (l' := [(3, .int (nI (k + 1))), (2, .int (nI 0)), (0, .ref mo), (1, .int (nI w))]) dX4_isUnlike_75 (pc' := 78) rfl rfl (nI_add _ _) (by decide) rfl ?_
                    refine j_goto C dX4_isUnlike_78 (pc' := 25) (by decide) ?_
                    refine jt_loc (l' := [(3, .int (nI (k + 1))), (2, .int (bI (mUnlN s a w (k + 1)))), (0, .ref mo), (1, .int (nI w))]) (by rw [← bI_0 (mUnlN_s hb_4 (show (!mIs a (a 24 k) || (decide (w = 1) && !decide (a 7 (a 24 k) = 0))) = false by rw [hb_7, decide_eq_true c_10, decide_eq_true c_13]; rfl))]) ?_
                    exact jW.locals [2, 3, 1, 0] rfl (ih_25 (k + 1) (by omega) (by omega))
                  · have c_13 := fun zq => c_13 ((nI_eq (a := a 7 (a 24 k)) (b := 0) (by omega) (by omega)).mpr zq)
                    have c_13 : ¬ (a 7 (a 24 k)) = 0 := c_13
                    refine j_iconst C (v := nI 1) rfl dX4_isUnlike_69 (pc' := 70) rfl ?_
                    refine j_goto C dX4_isUnlike_70 (pc' := 74) (by decide) ?_
                    refine j_istore_n C (i := 2) (x := nI 1) (l' := [(2, .int (nI 1)), (0, .ref mo), (1, .int (nI w)), (3, .int (nI k))]) dX4_isUnlike_74 (pc' := 75) rfl (by decide) rfl ?_
                    refine j_iinc C (i := 3) (q := 3) (x := nI k) (v := nI (k + 1)) (l' := [(3, .int (nI (k + 1))), (2, .int (nI 1)), (0, .ref mo), (1, .int (nI w))]) dX4_isUnlike_75 (pc' := 78) rfl rfl (nI_add _ _) (by decide) rfl ?_
                    refine j_goto C dX4_isUnlike_78 (pc' := 25) (by decide) ?_
                    refine jt_loc (l' := [(3, .int (nI (k + 1))), (2, .int (bI (mUnlN s a w (k + 1)))), (0, .ref mo), (1, .int (nI w))]) (by rw [← bI_1 (mUnlN_s hb_4 (show (!mIs a (a 24 k) || (decide (w = 1) && !decide (a 7 (a 24 k) = 0))) = true by rw [hb_7, decide_eq_true c_10, decide_eq_false c_13]; rfl))]) ?_
                    exact jW.locals [2, 3, 1, 0] rfl (ih_25 (k + 1) (by omega) (by omega))
            · show jW X G 4 0 0 34 [(0, .ref mo), (1, .int (nI w)), (2, .int (nI 1)), (3, .int (nI k))] [.int (nI 1)] ((hM G mo ad h0 s a))
              refine j_if_ne C dX4_isUnlike_34 (tgt := 69) (by decide) (pc' := 37) rfl (fun _ => ?_) (fun c_14 => absurd c_14 (by decide))
              refine j_iconst C (v := nI 1) rfl dX4_isUnlike_69 (pc' := 70) rfl ?_
              refine j_goto C dX4_isUnlike_70 (pc' := 74) (by decide) ?_
              refine j_istore_n C (i := 2) (x := nI 1) (l' := [(2, .int (nI 1)), (0, .ref mo), (1, .int (nI w)), (3, .int (nI k))]) dX4_isUnlike_74 (pc' := 75) rfl (by decide) rfl ?_
              refine j_iinc C (i := 3) (q := 3) (x := nI k) (v := nI (k + 1)) (l' := [(3, .int (nI (k + 1))), (2, .int (nI 1)), (0, .ref mo), (1, .int (nI w))]) dX4_isUnlike_75 (pc' := 78) rfl rfl (nI_add _ _) (by decide) rfl ?_
              refine j_goto C dX4_isUnlike_78 (pc' := 25) (by decide) ?_
              refine jt_loc (l' := [(3, .int (nI (k + 1))), (2, .int (bI (mUnlN s a w (k + 1)))), (0, .ref mo), (1, .int (nI w))]) (by rw [← bI_1 (mUnlN_t hb_4)]) ?_
              exact jW.locals [2, 3, 1, 0] rfl (ih_25 (k + 1) (by omega) (by omega))
      refine jt_loc (l' := [(3, .int (nI 0)), (2, .int (bI (mUnlN s a w 0))), (0, .ref mo), (1, .int (nI w))]) (by rw [← bI_0 (show mUnlN s a w 0 = false by unfold mUnlN; rw [if_neg c_1]; rw [decide_eq_false (show ¬ s 23 < 1 by omega)]; rfl)]) ?_
      exact jW.locals [2, 3, 1, 0] rfl (L_25 ((s 23 - 0) + 1) 0 (by omega) (by omega))
    · have c_2 := fun zq => c_2 ((nI_leI (a := 1) (b := s 23) (by omega) (by omega)).mpr zq)
      have c_2 : ¬ 1 ≤ (s 23) := c_2
      refine j_iconst C (v := nI 1) rfl dX4_isUnlike_17 (pc' := 18) rfl ?_
      refine j_goto C dX4_isUnlike_18 (pc' := 22) (by decide) ?_
      refine j_istore_n C (i := 2) (x := nI 1) (l' := [(2, .int (nI 1)), (0, .ref mo), (1, .int (nI w))]) dX4_isUnlike_22 (pc' := 23) rfl (by decide) rfl ?_
      refine j_iconst C (v := nI 0) rfl dX4_isUnlike_23 (pc' := 24) rfl ?_
      refine j_istore_n C (i := 3) (x := nI 0) (l' := [(3, .int (nI 0)), (2, .int (nI 1)), (0, .ref mo), (1, .int (nI w))]) dX4_isUnlike_24 (pc' := 25) rfl (by decide) rfl ?_
      have L_25 : ∀ (N_25 : Nat) (k : Nat), (s 23 - k) < N_25 → (k ≤ s 23) → jW X G 4 0 0 25 [(0, .ref mo), (1, .int (nI w)), (2, .int (bI (mUnlN s a w k))), (3, .int (nI k))] [] ((hM G mo ad h0 s a)) := by
        intro N_25
        induction N_25 with
        | zero => intro k hm_25 hk; omega
        | succ N_25 ih_25 =>
          intro k hm_25 hk
          refine j_iload_n C (i := 3) (x := nI k) 3 rfl dX4_isUnlike_25 (pc' := 26) rfl ?_
          refine j_aload_n C (i := 0) (x := mo) 0 rfl dX4_isUnlike_26 (pc' := 27) rfl ?_
          refine m_get C (f := 23) (idx := 100) hin (by decide) rfl (by decide +kernel) dX4_isUnlike_27 (pc' := 30) rfl ?_
          refine j_icmp_ge C dX4_isUnlike_30 (tgt := 81) (by decide) (pc' := 33) rfl (fun c_15 => ?_) (fun c_15 => ?_)
          · have c_15 := (nI_leI (a := s 23) (b := k) (by omega) (by omega)).mp c_15
            have c_15 : (s 23) ≤ k := c_15
            refine j_iload_n C (i := 2) (x := bI (mUnlN s a w k)) 2 rfl dX4_isUnlike_81 (pc' := 82) rfl ?_
            exact j_iret C E dX4_isUnlike_82 (bI_nar _) (Nat.le_refl _) (Nat.le_refl _) ⟨by rw [show mUnl s a w = mUnlN s a w k from by unfold mUnl mUnlN; rw [show s 23 = k from by omega]], rfl⟩
          · have c_15 := fun zq => c_15 ((nI_leI (a := s 23) (b := k) (by omega) (by omega)).mpr zq)
            have c_15 : ¬ (s 23) ≤ k := c_15
            refine j_iload_n C (i := 2) (x := bI (mUnlN s a w k)) 2 rfl dX4_isUnlike_33 (pc' := 34) rfl ?_
            rcases hb_16 : (mUnlN s a w k) with _ | _
            · show jW X G 4 0 0 34 [(0, .ref mo), (1, .int (nI w)), (2, .int (nI 0)), (3, .int (nI k))] [.int (nI 0)] ((hM G mo ad h0 s a))
              refine j_if_ne C dX4_isUnlike_34 (tgt := 69) (by decide) (pc' := 37) rfl (fun c_17 => absurd (by decide) c_17) (fun _ => ?_)
              refine j_aload_n C (i := 0) (x := mo) 0 rfl dX4_isUnlike_37 (pc' := 38) rfl ?_
              refine j_aload_n C (i := 0) (x := mo) 0 rfl dX4_isUnlike_38 (pc' := 39) rfl ?_
              refine m_geta C (f := 24) (idx := 62) hin (by decide) rfl (by decide +kernel) dX4_isUnlike_39 (pc' := 42) rfl ?_
              refine j_iload_n C (i := 3) (x := nI k) 3 rfl dX4_isUnlike_42 (pc' := 43) rfl ?_
              refine m_ald C M (f := 24) (j := k) (by decide) rfl rfl rfl (show k < 6 by omega) dX4_isUnlike_43 (pc' := 44) rfl ?_
              have B_18 := IA.asks I k
              refine j_callV C (As := [.int (nI (a 24 k))]) (rest := []) (m_is X.2.1 C.2.2.2.2.2.2.2.2 G M s a (a 24 k) I (by omega)) (cwV 1 C.2.2.2.2.1 gX4_isUnlike_X4_is rfl rfl rfl (by decide +kernel) (by rw [hXR]; decide)) hM_obj rfl rfl rfl (Nat.le_of_ble_eq_true rfl) dX4_isUnlike_44 (pc' := 47) rfl (by rw [hXR]; exact Nat.zero_le _) (by rw [hXR]; exact Nat.zero_le _) (fun _ _ z => z.elim) ?_
              rintro r h' ⟨rfl, rfl⟩
              show jW X G 4 0 0 47 [(0, .ref mo), (1, .int (nI w)), (2, .int (nI 0)), (3, .int (nI k))] [.int (bI (mIs a (a 24 k)))] ((hM G mo ad h0 s a))
              rcases hb_19 : (mIs a (a 24 k)) with _ | _
              · show jW X G 4 0 0 47 [(0, .ref mo), (1, .int (nI w)), (2, .int (nI 0)), (3, .int (nI k))] [.int (nI 0)] ((hM G mo ad h0 s a))
                refine j_if_eq C dX4_isUnlike_47 (tgt := 69) (by decide) (pc' := 50) rfl (fun _ => ?_) (fun c_20 => absurd (by decide) c_20)
                refine j_iconst C (v := nI 1) rfl dX4_isUnlike_69 (pc' := 70) rfl ?_
                refine j_goto C dX4_isUnlike_70 (pc' := 74) (by decide) ?_
                refine j_istore_n C (i := 2) (x := nI 1) (l' := [(2, .int (nI 1)), (0, .ref mo), (1, .int (nI w)), (3, .int (nI k))]) dX4_isUnlike_74 (pc' := 75) rfl (by decide) rfl ?_
                refine j_iinc C (i := 3) (q := 3) (x := nI k) (v := nI (k + 1)) (l' := [(3, .int (nI (k + 1))), (2, .int (nI 1)), (0, .ref mo), (1, .int (nI w))]) dX4_isUnlike_75 (pc' := 78) rfl rfl (nI_add _ _) (by decide) rfl ?_
                refine j_goto C dX4_isUnlike_78 (pc' := 25) (by decide) ?_
                refine jt_loc (l' := [(3, .int (nI (k + 1))), (2, .int (bI (mUnlN s a w (k + 1)))), (0, .ref mo), (1, .int (nI w))]) (by rw [← bI_1 (mUnlN_s hb_16 (show (!mIs a (a 24 k) || (decide (w = 1) && !decide (a 7 (a 24 k) = 0))) = true by rw [hb_19]; rfl))]) ?_
                exact jW.locals [2, 3, 1, 0] rfl (ih_25 (k + 1) (by omega) (by omega))
              · show jW X G 4 0 0 47 [(0, .ref mo), (1, .int (nI w)), (2, .int (nI 0)), (3, .int (nI k))] [.int (nI 1)] ((hM G mo ad h0 s a))
                refine j_if_eq C dX4_isUnlike_47 (tgt := 69) (by decide) (pc' := 50) rfl (fun c_21 => absurd c_21 (by decide)) (fun _ => ?_)
                refine j_iload_n C (i := 1) (x := nI w) 1 rfl dX4_isUnlike_50 (pc' := 51) rfl ?_
                refine j_iconst C (v := nI 1) rfl dX4_isUnlike_51 (pc' := 52) rfl ?_
                refine j_icmp_ne C dX4_isUnlike_52 (tgt := 73) (by decide) (pc' := 55) rfl (fun c_22 => ?_) (fun c_22 => ?_)
                · have c_22 := fun zq => c_22 ((nI_eq (a := w) (b := 1) (by omega) (by omega)).mpr zq)
                  have c_22 : ¬ w = 1 := c_22
                  refine j_iconst C (v := nI 0) rfl dX4_isUnlike_73 (pc' := 74) rfl ?_
                  refine j_istore_n C (i := 2) (x := nI 0) (l' := [(2, .int (nI 0)), (0, .ref mo), (1, .int (nI w)), (3, .int (nI k))]) dX4_isUnlike_74 (pc' := 75) rfl (by decide) rfl ?_
                  refine j_iinc C (i := 3) (q := 3) (x := nI k) (v := nI (k + 1)) (l' := [(3, .int (nI (k + 1))), (2, .int (nI 0)), (0, .ref mo), (1, .int (nI w))]) dX4_isUnlike_75 (pc' := 78) rfl rfl (nI_add _ _) (by decide) rfl ?_
                  refine j_goto C dX4_isUnlike_78 (pc' := 25) (by decide) ?_
                  refine jt_loc (l' := [(3, .int (nI (k + 1))), (2, .int (bI (mUnlN s a w (k + 1)))), (0, .ref mo), (1, .int (nI w))]) (by rw [← bI_0 (mUnlN_s hb_16 (show (!mIs a (a 24 k) || (decide (w = 1) && !decide (a 7 (a 24 k) = 0))) = false by rw [hb_19, decide_eq_false c_22]; rfl))]) ?_
                  exact jW.locals [2, 3, 1, 0] rfl (ih_25 (k + 1) (by omega) (by omega))
                · have c_22 := (nI_eq (a := w) (b := 1) (by omega) (by omega)).mp c_22
                  have c_22 : w = 1 := c_22
                  refine j_aload_n C (i := 0) (x := mo) 0 rfl dX4_isUnlike_55 (pc' := 56) rfl ?_
                  refine m_geta C (f := 7) (idx := 17) hin (by decide) rfl (by decide +kernel) dX4_isUnlike_56 (pc' := 59) rfl ?_
                  refine j_aload_n C (i := 0) (x := mo) 0 rfl dX4_isUnlike_59 (pc' := 60) rfl ?_
                  refine m_geta C (f := 24) (idx := 62) hin (by decide) rfl (by decide +kernel) dX4_isUnlike_60 (pc' := 63) rfl ?_
                  refine j_iload_n C (i := 3) (x := nI k) 3 rfl dX4_isUnlike_63 (pc' := 64) rfl ?_
                  refine m_ald C M (f := 24) (j := k) (by decide) rfl rfl rfl (show k < 6 by omega) dX4_isUnlike_64 (pc' := 65) rfl ?_
                  have B_23 := IA.asks I k
                  refine m_ald C M (f := 7) (j := a 24 k) (by decide) rfl rfl rfl (show a 24 k < 40 by omega) dX4_isUnlike_65 (pc' := 66) rfl ?_
                  have B_24 := IA.kind I (a 24 k)
                  refine j_if_eq C dX4_isUnlike_66 (tgt := 73) (by decide) (pc' := 69) rfl (fun c_25 => ?_) (fun c_25 => ?_)
                  · have c_25 := (nI_eq (a := a 7 (a 24 k)) (b := 0) (by omega) (by omega)).mp c_25
                    have c_25 : (a 7 (a 24 k)) = 0 := c_25
                    refine j_iconst C (v := nI 0) rfl dX4_isUnlike_73 (pc' := 74) rfl ?_
                    refine j_istore_n C (i := 2) (x := nI 0) (l' := [(2, .int (nI 0)), (0, .ref mo), (1, .int (nI w)), (3, .int (nI k))]) dX4_isUnlike_74 (pc' := 75) rfl (by decide) rfl ?_
                    refine j_iinc C (i := 3) (q := 3) (x := nI k) (v := nI (k + 1)) (l' := [(3, .int (nI (k + 1))), (2, .int (nI 0)), (0, .ref mo), (1, .int (nI w))]) dX4_isUnlike_75 (pc' := 78) rfl rfl (nI_add _ _) (by decide) rfl ?_
                    refine j_goto C dX4_isUnlike_78 (pc' := 25) (by decide) ?_
                    refine jt_loc (l' := [(3, .int (nI (k + 1))), (2, .int (bI (mUnlN s a w (k + 1)))), (0, .ref mo), (1, .int (nI w))]) (by rw [← bI_0 (mUnlN_s hb_16 (show (!mIs a (a 24 k) || (decide (w = 1) && !decide (a 7 (a 24 k) = 0))) = false by rw [hb_19, decide_eq_true c_22, decide_eq_true c_25]; rfl))]) ?_
                    exact jW.locals [2, 3, 1, 0] rfl (ih_25 (k + 1) (by omega) (by omega))
                  · have c_25 := fun zq => c_25 ((nI_eq (a := a 7 (a 24 k)) (b := 0) (by omega) (by omega)).mpr zq)
                    have c_25 : ¬ (a 7 (a 24 k)) = 0 := c_25
                    refine j_iconst C (v := nI 1) rfl dX4_isUnlike_69 (pc' := 70) rfl ?_
                    refine j_goto C dX4_isUnlike_70 (pc' := 74) (by decide) ?_
                    refine j_istore_n C (i := 2) (x := nI 1) (l' := [(2, .int (nI 1)), (0, .ref mo), (1, .int (nI w)), (3, .int (nI k))]) dX4_isUnlike_74 (pc' := 75) rfl (by decide) rfl ?_
                    refine j_iinc C (i := 3) (q := 3) (x := nI k) (v := nI (k + 1)) (l' := [(3, .int (nI (k + 1))), (2, .int (nI 1)), (0, .ref mo), (1, .int (nI w))]) dX4_isUnlike_75 (pc' := 78) rfl rfl (nI_add _ _) (by decide) rfl ?_
                    refine j_goto C dX4_isUnlike_78 (pc' := 25) (by decide) ?_
                    refine jt_loc (l' := [(3, .int (nI (k + 1))), (2, .int (bI (mUnlN s a w (k + 1)))), (0, .ref mo), (1, .int (nI w))]) (by rw [← bI_1 (mUnlN_s hb_16 (show (!mIs a (a 24 k) || (decide (w = 1) && !decide (a 7 (a 24 k) = 0))) = true by rw [hb_19, decide_eq_true c_22, decide_eq_false c_25]; rfl))]) ?_
                    exact jW.locals [2, 3, 1, 0] rfl (ih_25 (k + 1) (by omega) (by omega))
            · show jW X G 4 0 0 34 [(0, .ref mo), (1, .int (nI w)), (2, .int (nI 1)), (3, .int (nI k))] [.int (nI 1)] ((hM G mo ad h0 s a))
              refine j_if_ne C dX4_isUnlike_34 (tgt := 69) (by decide) (pc' := 37) rfl (fun _ => ?_) (fun c_26 => absurd c_26 (by decide))
              refine j_iconst C (v := nI 1) rfl dX4_isUnlike_69 (pc' := 70) rfl ?_
              refine j_goto C dX4_isUnlike_70 (pc' := 74) (by decide) ?_
              refine j_istore_n C (i := 2) (x := nI 1) (l' := [(2, .int (nI 1)), (0, .ref mo), (1, .int (nI w)), (3, .int (nI k))]) dX4_isUnlike_74 (pc' := 75) rfl (by decide) rfl ?_
              refine j_iinc C (i := 3) (q := 3) (x := nI k) (v := nI (k + 1)) (l' := [(3, .int (nI (k + 1))), (2, .int (nI 1)), (0, .ref mo), (1, .int (nI w))]) dX4_isUnlike_75 (pc' := 78) rfl rfl (nI_add _ _) (by decide) rfl ?_
              refine j_goto C dX4_isUnlike_78 (pc' := 25) (by decide) ?_
              refine jt_loc (l' := [(3, .int (nI (k + 1))), (2, .int (bI (mUnlN s a w (k + 1)))), (0, .ref mo), (1, .int (nI w))]) (by rw [← bI_1 (mUnlN_t hb_16)]) ?_
              exact jW.locals [2, 3, 1, 0] rfl (ih_25 (k + 1) (by omega) (by omega))
      refine jt_loc (l' := [(3, .int (nI 0)), (2, .int (bI (mUnlN s a w 0))), (0, .ref mo), (1, .int (nI w))]) (by rw [← bI_1 (show mUnlN s a w 0 = true by unfold mUnlN; rw [if_neg c_1]; rw [decide_eq_true (show s 23 < 1 by omega)]; rfl)]) ?_
      exact jW.locals [2, 3, 1, 0] rfl (L_25 ((s 23 - 0) + 1) 0 (by omega) (by omega))
  · have c_1 := (nI_eq (a := w) (b := 1) (by omega) (by omega)).mp c_1
    have c_1 : w = 1 := c_1
    refine j_iconst C (v := nI 2) rfl dX4_isUnlike_9 (pc' := 10) rfl ?_
    refine j_goto C dX4_isUnlike_10 (pc' := 14) (by decide) ?_
    refine j_icmp_ge C dX4_isUnlike_14 (tgt := 21) (by decide) (pc' := 17) rfl (fun c_27 => ?_) (fun c_27 => ?_)
    · have c_27 := (nI_leI (a := 2) (b := s 23) (by omega) (by omega)).mp c_27
      have c_27 : 2 ≤ (s 23) := c_27
      refine j_iconst C (v := nI 0) rfl dX4_isUnlike_21 (pc' := 22) rfl ?_
      refine j_istore_n C (i := 2) (x := nI 0) (l' := [(2, .int (nI 0)), (0, .ref mo), (1, .int (nI w))]) dX4_isUnlike_22 (pc' := 23) rfl (by decide) rfl ?_
      refine j_iconst C (v := nI 0) rfl dX4_isUnlike_23 (pc' := 24) rfl ?_
      refine j_istore_n C (i := 3) (x := nI 0) (l' := [(3, .int (nI 0)), (2, .int (nI 0)), (0, .ref mo), (1, .int (nI w))]) dX4_isUnlike_24 (pc' := 25) rfl (by decide) rfl ?_
      have L_25 : ∀ (N_25 : Nat) (k : Nat), (s 23 - k) < N_25 → (k ≤ s 23) → jW X G 4 0 0 25 [(0, .ref mo), (1, .int (nI w)), (2, .int (bI (mUnlN s a w k))), (3, .int (nI k))] [] ((hM G mo ad h0 s a)) := by
        intro N_25
        induction N_25 with
        | zero => intro k hm_25 hk; omega
        | succ N_25 ih_25 =>
          intro k hm_25 hk
          refine j_iload_n C (i := 3) (x := nI k) 3 rfl dX4_isUnlike_25 (pc' := 26) rfl ?_
          refine j_aload_n C (i := 0) (x := mo) 0 rfl dX4_isUnlike_26 (pc' := 27) rfl ?_
          refine m_get C (f := 23) (idx := 100) hin (by decide) rfl (by decide +kernel) dX4_isUnlike_27 (pc' := 30) rfl ?_
          refine j_icmp_ge C dX4_isUnlike_30 (tgt := 81) (by decide) (pc' := 33) rfl (fun c_28 => ?_) (fun c_28 => ?_)
          · have c_28 := (nI_leI (a := s 23) (b := k) (by omega) (by omega)).mp c_28
            have c_28 : (s 23) ≤ k := c_28
            refine j_iload_n C (i := 2) (x := bI (mUnlN s a w k)) 2 rfl dX4_isUnlike_81 (pc' := 82) rfl ?_
            exact j_iret C E dX4_isUnlike_82 (bI_nar _) (Nat.le_refl _) (Nat.le_refl _) ⟨by rw [show mUnl s a w = mUnlN s a w k from by unfold mUnl mUnlN; rw [show s 23 = k from by omega]], rfl⟩
          · have c_28 := fun zq => c_28 ((nI_leI (a := s 23) (b := k) (by omega) (by omega)).mpr zq)
            have c_28 : ¬ (s 23) ≤ k := c_28
            refine j_iload_n C (i := 2) (x := bI (mUnlN s a w k)) 2 rfl dX4_isUnlike_33 (pc' := 34) rfl ?_
            rcases hb_29 : (mUnlN s a w k) with _ | _
            · show jW X G 4 0 0 34 [(0, .ref mo), (1, .int (nI w)), (2, .int (nI 0)), (3, .int (nI k))] [.int (nI 0)] ((hM G mo ad h0 s a))
              refine j_if_ne C dX4_isUnlike_34 (tgt := 69) (by decide) (pc' := 37) rfl (fun c_30 => absurd (by decide) c_30) (fun _ => ?_)
              refine j_aload_n C (i := 0) (x := mo) 0 rfl dX4_isUnlike_37 (pc' := 38) rfl ?_
              refine j_aload_n C (i := 0) (x := mo) 0 rfl dX4_isUnlike_38 (pc' := 39) rfl ?_
              refine m_geta C (f := 24) (idx := 62) hin (by decide) rfl (by decide +kernel) dX4_isUnlike_39 (pc' := 42) rfl ?_
              refine j_iload_n C (i := 3) (x := nI k) 3 rfl dX4_isUnlike_42 (pc' := 43) rfl ?_
              refine m_ald C M (f := 24) (j := k) (by decide) rfl rfl rfl (show k < 6 by omega) dX4_isUnlike_43 (pc' := 44) rfl ?_
              have B_31 := IA.asks I k
              refine j_callV C (As := [.int (nI (a 24 k))]) (rest := []) (m_is X.2.1 C.2.2.2.2.2.2.2.2 G M s a (a 24 k) I (by omega)) (cwV 1 C.2.2.2.2.1 gX4_isUnlike_X4_is rfl rfl rfl (by decide +kernel) (by rw [hXR]; decide)) hM_obj rfl rfl rfl (Nat.le_of_ble_eq_true rfl) dX4_isUnlike_44 (pc' := 47) rfl (by rw [hXR]; exact Nat.zero_le _) (by rw [hXR]; exact Nat.zero_le _) (fun _ _ z => z.elim) ?_
              rintro r h' ⟨rfl, rfl⟩
              show jW X G 4 0 0 47 [(0, .ref mo), (1, .int (nI w)), (2, .int (nI 0)), (3, .int (nI k))] [.int (bI (mIs a (a 24 k)))] ((hM G mo ad h0 s a))
              rcases hb_32 : (mIs a (a 24 k)) with _ | _
              · show jW X G 4 0 0 47 [(0, .ref mo), (1, .int (nI w)), (2, .int (nI 0)), (3, .int (nI k))] [.int (nI 0)] ((hM G mo ad h0 s a))
                refine j_if_eq C dX4_isUnlike_47 (tgt := 69) (by decide) (pc' := 50) rfl (fun _ => ?_) (fun c_33 => absurd (by decide) c_33)
                refine j_iconst C (v := nI 1) rfl dX4_isUnlike_69 (pc' := 70) rfl ?_
                refine j_goto C dX4_isUnlike_70 (pc' := 74) (by decide) ?_
                refine j_istore_n C (i := 2) (x := nI 1) (l' := [(2, .int (nI 1)), (0, .ref mo), (1, .int (nI w)), (3, .int (nI k))]) dX4_isUnlike_74 (pc' := 75) rfl (by decide) rfl ?_
                refine j_iinc C (i := 3) (q := 3) (x := nI k) (v := nI (k + 1)) (l' := [(3, .int (nI (k + 1))), (2, .int (nI 1)), (0, .ref mo), (1, .int (nI w))]) dX4_isUnlike_75 (pc' := 78) rfl rfl (nI_add _ _) (by decide) rfl ?_
                refine j_goto C dX4_isUnlike_78 (pc' := 25) (by decide) ?_
                refine jt_loc (l' := [(3, .int (nI (k + 1))), (2, .int (bI (mUnlN s a w (k + 1)))), (0, .ref mo), (1, .int (nI w))]) (by rw [← bI_1 (mUnlN_s hb_29 (show (!mIs a (a 24 k) || (decide (w = 1) && !decide (a 7 (a 24 k) = 0))) = true by rw [hb_32]; rfl))]) ?_
                exact jW.locals [2, 3, 1, 0] rfl (ih_25 (k + 1) (by omega) (by omega))
              · show jW X G 4 0 0 47 [(0, .ref mo), (1, .int (nI w)), (2, .int (nI 0)), (3, .int (nI k))] [.int (nI 1)] ((hM G mo ad h0 s a))
                refine j_if_eq C dX4_isUnlike_47 (tgt := 69) (by decide) (pc' := 50) rfl (fun c_34 => absurd c_34 (by decide)) (fun _ => ?_)
                refine j_iload_n C (i := 1) (x := nI w) 1 rfl dX4_isUnlike_50 (pc' := 51) rfl ?_
                refine j_iconst C (v := nI 1) rfl dX4_isUnlike_51 (pc' := 52) rfl ?_
                refine j_icmp_ne C dX4_isUnlike_52 (tgt := 73) (by decide) (pc' := 55) rfl (fun c_35 => ?_) (fun c_35 => ?_)
                · have c_35 := fun zq => c_35 ((nI_eq (a := w) (b := 1) (by omega) (by omega)).mpr zq)
                  have c_35 : ¬ w = 1 := c_35
                  refine j_iconst C (v := nI 0) rfl dX4_isUnlike_73 (pc' := 74) rfl ?_
                  refine j_istore_n C (i := 2) (x := nI 0) (l' := [(2, .int (nI 0)), (0, .ref mo), (1, .int (nI w)), (3, .int (nI k))]) dX4_isUnlike_74 (pc' := 75) rfl (by decide) rfl ?_
                  refine j_iinc C (i := 3) (q := 3) (x := nI k) (v := nI (k + 1)) (l' := [(3, .int (nI (k + 1))), (2, .int (nI 0)), (0, .ref mo), (1, .int (nI w))]) dX4_isUnlike_75 (pc' := 78) rfl rfl (nI_add _ _) (by decide) rfl ?_
                  refine j_goto C dX4_isUnlike_78 (pc' := 25) (by decide) ?_
                  refine jt_loc (l' := [(3, .int (nI (k + 1))), (2, .int (bI (mUnlN s a w (k + 1)))), (0, .ref mo), (1, .int (nI w))]) (by rw [← bI_0 (mUnlN_s hb_29 (show (!mIs a (a 24 k) || (decide (w = 1) && !decide (a 7 (a 24 k) = 0))) = false by rw [hb_32, decide_eq_false c_35]; rfl))]) ?_
                  exact jW.locals [2, 3, 1, 0] rfl (ih_25 (k + 1) (by omega) (by omega))
                · have c_35 := (nI_eq (a := w) (b := 1) (by omega) (by omega)).mp c_35
                  have c_35 : w = 1 := c_35
                  refine j_aload_n C (i := 0) (x := mo) 0 rfl dX4_isUnlike_55 (pc' := 56) rfl ?_
                  refine m_geta C (f := 7) (idx := 17) hin (by decide) rfl (by decide +kernel) dX4_isUnlike_56 (pc' := 59) rfl ?_
                  refine j_aload_n C (i := 0) (x := mo) 0 rfl dX4_isUnlike_59 (pc' := 60) rfl ?_
                  refine m_geta C (f := 24) (idx := 62) hin (by decide) rfl (by decide +kernel) dX4_isUnlike_60 (pc' := 63) rfl ?_
                  refine j_iload_n C (i := 3) (x := nI k) 3 rfl dX4_isUnlike_63 (pc' := 64) rfl ?_
                  refine m_ald C M (f := 24) (j := k) (by decide) rfl rfl rfl (show k < 6 by omega) dX4_isUnlike_64 (pc' := 65) rfl ?_
                  have B_36 := IA.asks I k
                  refine m_ald C M (f := 7) (j := a 24 k) (by decide) rfl rfl rfl (show a 24 k < 40 by omega) dX4_isUnlike_65 (pc' := 66) rfl ?_
                  have B_37 := IA.kind I (a 24 k)
                  refine j_if_eq C dX4_isUnlike_66 (tgt := 73) (by decide) (pc' := 69) rfl (fun c_38 => ?_) (fun c_38 => ?_)
                  · have c_38 := (nI_eq (a := a 7 (a 24 k)) (b := 0) (by omega) (by omega)).mp c_38
                    have c_38 : (a 7 (a 24 k)) = 0 := c_38
                    refine j_iconst C (v := nI 0) rfl dX4_isUnlike_73 (pc' := 74) rfl ?_
                    refine j_istore_n C (i := 2) (x := nI 0) (l' := [(2, .int (nI 0)), (0, .ref mo), (1, .int (nI w)), (3, .int (nI k))]) dX4_isUnlike_74 (pc' := 75) rfl (by decide) rfl ?_
                    refine j_iinc C (i := 3) (q := 3) (x := nI k) (v := nI (k + 1)) (l' := [(3, .int (nI (k + 1))), (2, .int (nI 0)), (0, .ref mo), (1, .int (nI w))]) dX4_isUnlike_75 (pc' := 78) rfl rfl (nI_add _ _) (by decide) rfl ?_
                    refine j_goto C dX4_isUnlike_78 (pc' := 25) (by decide) ?_
                    refine jt_loc (l' := [(3, .int (nI (k + 1))), (2, .int (bI (mUnlN s a w (k + 1)))), (0, .ref mo), (1, .int (nI w))]) (by rw [← bI_0 (mUnlN_s hb_29 (show (!mIs a (a 24 k) || (decide (w = 1) && !decide (a 7 (a 24 k) = 0))) = false by rw [hb_32, decide_eq_true c_35, decide_eq_true c_38]; rfl))]) ?_
                    exact jW.locals [2, 3, 1, 0] rfl (ih_25 (k + 1) (by omega) (by omega))
                  · have c_38 := fun zq => c_38 ((nI_eq (a := a 7 (a 24 k)) (b := 0) (by omega) (by omega)).mpr zq)
                    have c_38 : ¬ (a 7 (a 24 k)) = 0 := c_38
                    refine j_iconst C (v := nI 1) rfl dX4_isUnlike_69 (pc' := 70) rfl ?_
                    refine j_goto C dX4_isUnlike_70 (pc' := 74) (by decide) ?_
                    refine j_istore_n C (i := 2) (x := nI 1) (l' := [(2, .int (nI 1)), (0, .ref mo), (1, .int (nI w)), (3, .int (nI k))]) dX4_isUnlike_74 (pc' := 75) rfl (by decide) rfl ?_
                    refine j_iinc C (i := 3) (q := 3) (x := nI k) (v := nI (k + 1)) (l' := [(3, .int (nI (k + 1))), (2, .int (nI 1)), (0, .ref mo), (1, .int (nI w))]) dX4_isUnlike_75 (pc' := 78) rfl rfl (nI_add _ _) (by decide) rfl ?_
                    refine j_goto C dX4_isUnlike_78 (pc' := 25) (by decide) ?_
                    refine jt_loc (l' := [(3, .int (nI (k + 1))), (2, .int (bI (mUnlN s a w (k + 1)))), (0, .ref mo), (1, .int (nI w))]) (by rw [← bI_1 (mUnlN_s hb_29 (show (!mIs a (a 24 k) || (decide (w = 1) && !decide (a 7 (a 24 k) = 0))) = true by rw [hb_32, decide_eq_true c_35, decide_eq_false c_38]; rfl))]) ?_
                    exact jW.locals [2, 3, 1, 0] rfl (ih_25 (k + 1) (by omega) (by omega))
            · show jW X G 4 0 0 34 [(0, .ref mo), (1, .int (nI w)), (2, .int (nI 1)), (3, .int (nI k))] [.int (nI 1)] ((hM G mo ad h0 s a))
              refine j_if_ne C dX4_isUnlike_34 (tgt := 69) (by decide) (pc' := 37) rfl (fun _ => ?_) (fun c_39 => absurd c_39 (by decide))
              refine j_iconst C (v := nI 1) rfl dX4_isUnlike_69 (pc' := 70) rfl ?_
              refine j_goto C dX4_isUnlike_70 (pc' := 74) (by decide) ?_
              refine j_istore_n C (i := 2) (x := nI 1) (l' := [(2, .int (nI 1)), (0, .ref mo), (1, .int (nI w)), (3, .int (nI k))]) dX4_isUnlike_74 (pc' := 75) rfl (by decide) rfl ?_
              refine j_iinc C (i := 3) (q := 3) (x := nI k) (v := nI (k + 1)) (l' := [(3, .int (nI (k + 1))), (2, .int (nI 1)), (0, .ref mo), (1, .int (nI w))]) dX4_isUnlike_75 (pc' := 78) rfl rfl (nI_add _ _) (by decide) rfl ?_
              refine j_goto C dX4_isUnlike_78 (pc' := 25) (by decide) ?_
              refine jt_loc (l' := [(3, .int (nI (k + 1))), (2, .int (bI (mUnlN s a w (k + 1)))), (0, .ref mo), (1, .int (nI w))]) (by rw [← bI_1 (mUnlN_t hb_29)]) ?_
              exact jW.locals [2, 3, 1, 0] rfl (ih_25 (k + 1) (by omega) (by omega))
      refine jt_loc (l' := [(3, .int (nI 0)), (2, .int (bI (mUnlN s a w 0))), (0, .ref mo), (1, .int (nI w))]) (by rw [← bI_0 (show mUnlN s a w 0 = false by unfold mUnlN; rw [if_pos c_1]; rw [decide_eq_false (show ¬ s 23 < 2 by omega)]; rfl)]) ?_
      exact jW.locals [2, 3, 1, 0] rfl (L_25 ((s 23 - 0) + 1) 0 (by omega) (by omega))
    · have c_27 := fun zq => c_27 ((nI_leI (a := 2) (b := s 23) (by omega) (by omega)).mpr zq)
      have c_27 : ¬ 2 ≤ (s 23) := c_27
      refine j_iconst C (v := nI 1) rfl dX4_isUnlike_17 (pc' := 18) rfl ?_
      refine j_goto C dX4_isUnlike_18 (pc' := 22) (by decide) ?_
      refine j_istore_n C (i := 2) (x := nI 1) (l' := [(2, .int (nI 1)), (0, .ref mo), (1, .int (nI w))]) dX4_isUnlike_22 (pc' := 23) rfl (by decide) rfl ?_
      refine j_iconst C (v := nI 0) rfl dX4_isUnlike_23 (pc' := 24) rfl ?_
      refine j_istore_n C (i := 3) (x := nI 0) (l' := [(3, .int (nI 0)), (2, .int (nI 1)), (0, .ref mo), (1, .int (nI w))]) dX4_isUnlike_24 (pc' := 25) rfl (by decide) rfl ?_
      have L_25 : ∀ (N_25 : Nat) (k : Nat), (s 23 - k) < N_25 → (k ≤ s 23) → jW X G 4 0 0 25 [(0, .ref mo), (1, .int (nI w)), (2, .int (bI (mUnlN s a w k))), (3, .int (nI k))] [] ((hM G mo ad h0 s a)) := by
        intro N_25
        induction N_25 with
        | zero => intro k hm_25 hk; omega
        | succ N_25 ih_25 =>
          intro k hm_25 hk
          refine j_iload_n C (i := 3) (x := nI k) 3 rfl dX4_isUnlike_25 (pc' := 26) rfl ?_
          refine j_aload_n C (i := 0) (x := mo) 0 rfl dX4_isUnlike_26 (pc' := 27) rfl ?_
          refine m_get C (f := 23) (idx := 100) hin (by decide) rfl (by decide +kernel) dX4_isUnlike_27 (pc' := 30) rfl ?_
          refine j_icmp_ge C dX4_isUnlike_30 (tgt := 81) (by decide) (pc' := 33) rfl (fun c_40 => ?_) (fun c_40 => ?_)
          · have c_40 := (nI_leI (a := s 23) (b := k) (by omega) (by omega)).mp c_40
            have c_40 : (s 23) ≤ k := c_40
            refine j_iload_n C (i := 2) (x := bI (mUnlN s a w k)) 2 rfl dX4_isUnlike_81 (pc' := 82) rfl ?_
            exact j_iret C E dX4_isUnlike_82 (bI_nar _) (Nat.le_refl _) (Nat.le_refl _) ⟨by rw [show mUnl s a w = mUnlN s a w k from by unfold mUnl mUnlN; rw [show s 23 = k from by omega]], rfl⟩
          · have c_40 := fun zq => c_40 ((nI_leI (a := s 23) (b := k) (by omega) (by omega)).mpr zq)
            have c_40 : ¬ (s 23) ≤ k := c_40
            refine j_iload_n C (i := 2) (x := bI (mUnlN s a w k)) 2 rfl dX4_isUnlike_33 (pc' := 34) rfl ?_
            rcases hb_41 : (mUnlN s a w k) with _ | _
            · show jW X G 4 0 0 34 [(0, .ref mo), (1, .int (nI w)), (2, .int (nI 0)), (3, .int (nI k))] [.int (nI 0)] ((hM G mo ad h0 s a))
              refine j_if_ne C dX4_isUnlike_34 (tgt := 69) (by decide) (pc' := 37) rfl (fun c_42 => absurd (by decide) c_42) (fun _ => ?_)
              refine j_aload_n C (i := 0) (x := mo) 0 rfl dX4_isUnlike_37 (pc' := 38) rfl ?_
              refine j_aload_n C (i := 0) (x := mo) 0 rfl dX4_isUnlike_38 (pc' := 39) rfl ?_
              refine m_geta C (f := 24) (idx := 62) hin (by decide) rfl (by decide +kernel) dX4_isUnlike_39 (pc' := 42) rfl ?_
              refine j_iload_n C (i := 3) (x := nI k) 3 rfl dX4_isUnlike_42 (pc' := 43) rfl ?_
              refine m_ald C M (f := 24) (j := k) (by decide) rfl rfl rfl (show k < 6 by omega) dX4_isUnlike_43 (pc' := 44) rfl ?_
              have B_43 := IA.asks I k
              refine j_callV C (As := [.int (nI (a 24 k))]) (rest := []) (m_is X.2.1 C.2.2.2.2.2.2.2.2 G M s a (a 24 k) I (by omega)) (cwV 1 C.2.2.2.2.1 gX4_isUnlike_X4_is rfl rfl rfl (by decide +kernel) (by rw [hXR]; decide)) hM_obj rfl rfl rfl (Nat.le_of_ble_eq_true rfl) dX4_isUnlike_44 (pc' := 47) rfl (by rw [hXR]; exact Nat.zero_le _) (by rw [hXR]; exact Nat.zero_le _) (fun _ _ z => z.elim) ?_
              rintro r h' ⟨rfl, rfl⟩
              show jW X G 4 0 0 47 [(0, .ref mo), (1, .int (nI w)), (2, .int (nI 0)), (3, .int (nI k))] [.int (bI (mIs a (a 24 k)))] ((hM G mo ad h0 s a))
              rcases hb_44 : (mIs a (a 24 k)) with _ | _
              · show jW X G 4 0 0 47 [(0, .ref mo), (1, .int (nI w)), (2, .int (nI 0)), (3, .int (nI k))] [.int (nI 0)] ((hM G mo ad h0 s a))
                refine j_if_eq C dX4_isUnlike_47 (tgt := 69) (by decide) (pc' := 50) rfl (fun _ => ?_) (fun c_45 => absurd (by decide) c_45)
                refine j_iconst C (v := nI 1) rfl dX4_isUnlike_69 (pc' := 70) rfl ?_
                refine j_goto C dX4_isUnlike_70 (pc' := 74) (by decide) ?_
                refine j_istore_n C (i := 2) (x := nI 1) (l' := [(2, .int (nI 1)), (0, .ref mo), (1, .int (nI w)), (3, .int (nI k))]) dX4_isUnlike_74 (pc' := 75) rfl (by decide) rfl ?_
                refine j_iinc C (i := 3) (q := 3) (x := nI k) (v := nI (k + 1)) (l' := [(3, .int (nI (k + 1))), (2, .int (nI 1)), (0, .ref mo), (1, .int (nI w))]) dX4_isUnlike_75 (pc' := 78) rfl rfl (nI_add _ _) (by decide) rfl ?_
                refine j_goto C dX4_isUnlike_78 (pc' := 25) (by decide) ?_
                refine jt_loc (l' := [(3, .int (nI (k + 1))), (2, .int (bI (mUnlN s a w (k + 1)))), (0, .ref mo), (1, .int (nI w))]) (by rw [← bI_1 (mUnlN_s hb_41 (show (!mIs a (a 24 k) || (decide (w = 1) && !decide (a 7 (a 24 k) = 0))) = true by rw [hb_44]; rfl))]) ?_
                exact jW.locals [2, 3, 1, 0] rfl (ih_25 (k + 1) (by omega) (by omega))
              · show jW X G 4 0 0 47 [(0, .ref mo), (1, .int (nI w)), (2, .int (nI 0)), (3, .int (nI k))] [.int (nI 1)] ((hM G mo ad h0 s a))
                refine j_if_eq C dX4_isUnlike_47 (tgt := 69) (by decide) (pc' := 50) rfl (fun c_46 => absurd c_46 (by decide)) (fun _ => ?_)
                refine j_iload_n C (i := 1) (x := nI w) 1 rfl dX4_isUnlike_50 (pc' := 51) rfl ?_
                refine j_iconst C (v := nI 1) rfl dX4_isUnlike_51 (pc' := 52) rfl ?_
                refine j_icmp_ne C dX4_isUnlike_52 (tgt := 73) (by decide) (pc' := 55) rfl (fun c_47 => ?_) (fun c_47 => ?_)
                · have c_47 := fun zq => c_47 ((nI_eq (a := w) (b := 1) (by omega) (by omega)).mpr zq)
                  have c_47 : ¬ w = 1 := c_47
                  refine j_iconst C (v := nI 0) rfl dX4_isUnlike_73 (pc' := 74) rfl ?_
                  refine j_istore_n C (i := 2) (x := nI 0) (l' := [(2, .int (nI 0)), (0, .ref mo), (1, .int (nI w)), (3, .int (nI k))]) dX4_isUnlike_74 (pc' := 75) rfl (by decide) rfl ?_
                  refine j_iinc C (i := 3) (q := 3) (x := nI k) (v := nI (k + 1)) (l' := [(3, .int (nI (k + 1))), (2, .int (nI 0)), (0, .ref mo), (1, .int (nI w))]) dX4_isUnlike_75 (pc' := 78) rfl rfl (nI_add _ _) (by decide) rfl ?_
                  refine j_goto C dX4_isUnlike_78 (pc' := 25) (by decide) ?_
                  refine jt_loc (l' := [(3, .int (nI (k + 1))), (2, .int (bI (mUnlN s a w (k + 1)))), (0, .ref mo), (1, .int (nI w))]) (by rw [← bI_0 (mUnlN_s hb_41 (show (!mIs a (a 24 k) || (decide (w = 1) && !decide (a 7 (a 24 k) = 0))) = false by rw [hb_44, decide_eq_false c_47]; rfl))]) ?_
                  exact jW.locals [2, 3, 1, 0] rfl (ih_25 (k + 1) (by omega) (by omega))
                · have c_47 := (nI_eq (a := w) (b := 1) (by omega) (by omega)).mp c_47
                  have c_47 : w = 1 := c_47
                  refine j_aload_n C (i := 0) (x := mo) 0 rfl dX4_isUnlike_55 (pc' := 56) rfl ?_
                  refine m_geta C (f := 7) (idx := 17) hin (by decide) rfl (by decide +kernel) dX4_isUnlike_56 (pc' := 59) rfl ?_
                  refine j_aload_n C (i := 0) (x := mo) 0 rfl dX4_isUnlike_59 (pc' := 60) rfl ?_
                  refine m_geta C (f := 24) (idx := 62) hin (by decide) rfl (by decide +kernel) dX4_isUnlike_60 (pc' := 63) rfl ?_
                  refine j_iload_n C (i := 3) (x := nI k) 3 rfl dX4_isUnlike_63 (pc' := 64) rfl ?_
                  refine m_ald C M (f := 24) (j := k) (by decide) rfl rfl rfl (show k < 6 by omega) dX4_isUnlike_64 (pc' := 65) rfl ?_
                  have B_48 := IA.asks I k
                  refine m_ald C M (f := 7) (j := a 24 k) (by decide) rfl rfl rfl (show a 24 k < 40 by omega) dX4_isUnlike_65 (pc' := 66) rfl ?_
                  have B_49 := IA.kind I (a 24 k)
                  refine j_if_eq C dX4_isUnlike_66 (tgt := 73) (by decide) (pc' := 69) rfl (fun c_50 => ?_) (fun c_50 => ?_)
                  · have c_50 := (nI_eq (a := a 7 (a 24 k)) (b := 0) (by omega) (by omega)).mp c_50
                    have c_50 : (a 7 (a 24 k)) = 0 := c_50
                    refine j_iconst C (v := nI 0) rfl dX4_isUnlike_73 (pc' := 74) rfl ?_
                    refine j_istore_n C (i := 2) (x := nI 0) (l' := [(2, .int (nI 0)), (0, .ref mo), (1, .int (nI w)), (3, .int (nI k))]) dX4_isUnlike_74 (pc' := 75) rfl (by decide) rfl ?_
                    refine j_iinc C (i := 3) (q := 3) (x := nI k) (v := nI (k + 1)) (l' := [(3, .int (nI (k + 1))), (2, .int (nI 0)), (0, .ref mo), (1, .int (nI w))]) dX4_isUnlike_75 (pc' := 78) rfl rfl (nI_add _ _) (by decide) rfl ?_
                    refine j_goto C dX4_isUnlike_78 (pc' := 25) (by decide) ?_
                    refine jt_loc (l' := [(3, .int (nI (k + 1))), (2, .int (bI (mUnlN s a w (k + 1)))), (0, .ref mo), (1, .int (nI w))]) (by rw [← bI_0 (mUnlN_s hb_41 (show (!mIs a (a 24 k) || (decide (w = 1) && !decide (a 7 (a 24 k) = 0))) = false by rw [hb_44, decide_eq_true c_47, decide_eq_true c_50]; rfl))]) ?_
                    exact jW.locals [2, 3, 1, 0] rfl (ih_25 (k + 1) (by omega) (by omega))
                  · have c_50 := fun zq => c_50 ((nI_eq (a := a 7 (a 24 k)) (b := 0) (by omega) (by omega)).mpr zq)
                    have c_50 : ¬ (a 7 (a 24 k)) = 0 := c_50
                    refine j_iconst C (v := nI 1) rfl dX4_isUnlike_69 (pc' := 70) rfl ?_
                    refine j_goto C dX4_isUnlike_70 (pc' := 74) (by decide) ?_
                    refine j_istore_n C (i := 2) (x := nI 1) (l' := [(2, .int (nI 1)), (0, .ref mo), (1, .int (nI w)), (3, .int (nI k))]) dX4_isUnlike_74 (pc' := 75) rfl (by decide) rfl ?_
                    refine j_iinc C (i := 3) (q := 3) (x := nI k) (v := nI (k + 1)) (l' := [(3, .int (nI (k + 1))), (2, .int (nI 1)), (0, .ref mo), (1, .int (nI w))]) dX4_isUnlike_75 (pc' := 78) rfl rfl (nI_add _ _) (by decide) rfl ?_
                    refine j_goto C dX4_isUnlike_78 (pc' := 25) (by decide) ?_
                    refine jt_loc (l' := [(3, .int (nI (k + 1))), (2, .int (bI (mUnlN s a w (k + 1)))), (0, .ref mo), (1, .int (nI w))]) (by rw [← bI_1 (mUnlN_s hb_41 (show (!mIs a (a 24 k) || (decide (w = 1) && !decide (a 7 (a 24 k) = 0))) = true by rw [hb_44, decide_eq_true c_47, decide_eq_false c_50]; rfl))]) ?_
                    exact jW.locals [2, 3, 1, 0] rfl (ih_25 (k + 1) (by omega) (by omega))
            · show jW X G 4 0 0 34 [(0, .ref mo), (1, .int (nI w)), (2, .int (nI 1)), (3, .int (nI k))] [.int (nI 1)] ((hM G mo ad h0 s a))
              refine j_if_ne C dX4_isUnlike_34 (tgt := 69) (by decide) (pc' := 37) rfl (fun _ => ?_) (fun c_51 => absurd c_51 (by decide))
              refine j_iconst C (v := nI 1) rfl dX4_isUnlike_69 (pc' := 70) rfl ?_
              refine j_goto C dX4_isUnlike_70 (pc' := 74) (by decide) ?_
              refine j_istore_n C (i := 2) (x := nI 1) (l' := [(2, .int (nI 1)), (0, .ref mo), (1, .int (nI w)), (3, .int (nI k))]) dX4_isUnlike_74 (pc' := 75) rfl (by decide) rfl ?_
              refine j_iinc C (i := 3) (q := 3) (x := nI k) (v := nI (k + 1)) (l' := [(3, .int (nI (k + 1))), (2, .int (nI 1)), (0, .ref mo), (1, .int (nI w))]) dX4_isUnlike_75 (pc' := 78) rfl rfl (nI_add _ _) (by decide) rfl ?_
              refine j_goto C dX4_isUnlike_78 (pc' := 25) (by decide) ?_
              refine jt_loc (l' := [(3, .int (nI (k + 1))), (2, .int (bI (mUnlN s a w (k + 1)))), (0, .ref mo), (1, .int (nI w))]) (by rw [← bI_1 (mUnlN_t hb_41)]) ?_
              exact jW.locals [2, 3, 1, 0] rfl (ih_25 (k + 1) (by omega) (by omega))
      refine jt_loc (l' := [(3, .int (nI 0)), (2, .int (bI (mUnlN s a w 0))), (0, .ref mo), (1, .int (nI w))]) (by rw [← bI_1 (show mUnlN s a w 0 = true by unfold mUnlN; rw [if_pos c_1]; rw [decide_eq_true (show s 23 < 2 by omega)]; rfl)]) ?_
      exact jW.locals [2, 3, 1, 0] rfl (L_25 ((s 23 - 0) + 1) 0 (by omega) (by omega))
