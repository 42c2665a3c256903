theorem IA.up20 {a : mA} (I : IA a) {f : Nat → Nat} (h : ∀ j, f j < 40) : IA (va_up a 20 f) := by
  have key : ∀ g, g ≠ 20 → va_up a 20 f g = a g := fun g hg => up_n hg
  refine ⟨fun g j => ?_, fun j => ?_, fun j => ?_, fun j => ?_, fun j => ?_, fun j => ?_, fun j => ?_, fun j => ?_, fun j => ?_, fun j => ?_, fun j => ?_, fun j => ?_, fun j => ?_, fun j => ?_⟩
  · by_cases hg : g = 20
    · subst hg; rw [up_s]; have := h j; omega
    · rw [key g hg]; exact I.1 g j
  · rw [key 8 (by decide)]; exact I.last j
  · rw [key 5 (by decide)]; exact I.draft j
  · rw [key 24 (by decide)]; exact I.asks j
  · rw [key 19 (by decide)]; exact I.size j
  · rw [up_s]; exact h j
  · rw [key 11 (by decide)]; exact I.of j
  · rw [key 13 (by decide)]; exact I.ahead' j
  · rw [key 3 (by decide)]; exact I.closed j
  · rw [key 16 (by decide)]; exact I.there j
  · rw [key 17 (by decide)]; exact I.hidden j
  · rw [key 21 (by decide)]; exact I.marked j
  · rw [key 22 (by decide)]; exact I.drawn j
  · rw [key 7 (by decide)]; exact I.kind j
def M9 (s : mS) (a : mA) : Prop := ∀ t, a 9 t ≤ s 10 ∧ (a 9 t = 0 ∨ a 8 t < s 10)
theorem IA.mkA {s : mS} {a : mA} (J : IS s) (I : IA a) (M : M9 s a) {b t th at_ : Nat} (hb : b < 1048576) (ht : t < 40) (hth : th ≤ 1) (hat : at_ < 1048576) : IA (mkA s a b t th at_) := by
  have h10 := J.2.2.2.2.1
  have h23 := J.2.2.2.2.2
  have hs0 := J.1 0
  have hM := M t
  unfold _root_.Jvm.Pilot.CMapRevisionsLaw_law_r9180_c54c76.mkA mk10
  obtain ⟨x13, e13⟩ : ∃ x, x = (if a 9 t = 0 then 0 else a 8 t + 1) := ⟨_, rfl⟩
  obtain ⟨x19, e19⟩ : ∃ x, x = (if th = 0 then 0 else s 23) := ⟨_, rfl⟩
  rw [← e13, ← e19]
  have h13 : x13 ≤ s 10 := by rw [e13]; split <;> omega
  have h19 : x19 ≤ 6 := by rw [e19]; split <;> omega
  have i1 := I.up2c (f := 11) (j := s 10) (v := t) ⟨by omega, fun _ => by omega, fun _ => by omega, fun _ => by omega, fun _ => by omega, fun _ => by omega, fun _ => by omega, fun _ => by omega, fun _ => by omega, fun _ => by omega, fun _ => by omega, fun _ => by omega, fun _ => by omega, fun _ => by omega⟩
  have i2 := i1.up2c (f := 13) (j := s 10) (v := x13) ⟨by omega, fun _ => by omega, fun _ => by omega, fun _ => by omega, fun _ => by omega, fun _ => by omega, fun _ => by omega, fun _ => by omega, fun _ => by omega, fun _ => by omega, fun _ => by omega, fun _ => by omega, fun _ => by omega, fun _ => by omega⟩
  have i3 := i2.up2c (f := 9) (j := t) (v := a 9 t + 1) ⟨by omega, fun _ => by omega, fun _ => by omega, fun _ => by omega, fun _ => by omega, fun _ => by omega, fun _ => by omega, fun _ => by omega, fun _ => by omega, fun _ => by omega, fun _ => by omega, fun _ => by omega, fun _ => by omega, fun _ => by omega⟩
  have i4 := i3.up2c (f := 12) (j := s 10) (v := a 9 t + 1) ⟨by omega, fun _ => by omega, fun _ => by omega, fun _ => by omega, fun _ => by omega, fun _ => by omega, fun _ => by omega, fun _ => by omega, fun _ => by omega, fun _ => by omega, fun _ => by omega, fun _ => by omega, fun _ => by omega, fun _ => by omega⟩
  have i5 := i4.up2c (f := 14) (j := s 10) (v := b) ⟨by omega, fun _ => by omega, fun _ => by omega, fun _ => by omega, fun _ => by omega, fun _ => by omega, fun _ => by omega, fun _ => by omega, fun _ => by omega, fun _ => by omega, fun _ => by omega, fun _ => by omega, fun _ => by omega, fun _ => by omega⟩
  have i6 := i5.up2c (f := 15) (j := s 10) (v := s 0) ⟨by omega, fun _ => by omega, fun _ => by omega, fun _ => by omega, fun _ => by omega, fun _ => by omega, fun _ => by omega, fun _ => by omega, fun _ => by omega, fun _ => by omega, fun _ => by omega, fun _ => by omega, fun _ => by omega, fun _ => by omega⟩
  have i7 := i6.up2c (f := 16) (j := s 10) (v := th) ⟨by omega, fun _ => by omega, fun _ => by omega, fun _ => by omega, fun _ => by omega, fun _ => by omega, fun _ => by omega, fun _ => by omega, fun _ => by omega, fun _ => by omega, fun _ => by omega, fun _ => by omega, fun _ => by omega, fun _ => by omega⟩
  have i8 := i7.up2c (f := 17) (j := s 10) (v := 0) ⟨by omega, fun _ => by omega, fun _ => by omega, fun _ => by omega, fun _ => by omega, fun _ => by omega, fun _ => by omega, fun _ => by omega, fun _ => by omega, fun _ => by omega, fun _ => by omega, fun _ => by omega, fun _ => by omega, fun _ => by omega⟩
  have i9 := i8.up2c (f := 18) (j := s 10) (v := at_) ⟨by omega, fun _ => by omega, fun _ => by omega, fun _ => by omega, fun _ => by omega, fun _ => by omega, fun _ => by omega, fun _ => by omega, fun _ => by omega, fun _ => by omega, fun _ => by omega, fun _ => by omega, fun _ => by omega, fun _ => by omega⟩
  have i10 := i9.up2c (f := 19) (j := s 10) (v := x19) ⟨by omega, fun _ => by omega, fun _ => by omega, fun _ => by omega, fun _ => by omega, fun _ => by omega, fun _ => by omega, fun _ => by omega, fun _ => by omega, fun _ => by omega, fun _ => by omega, fun _ => by omega, fun _ => by omega, fun _ => by omega⟩
  have i11 := i10.up20 (f := mkM a (s 10) x19) (fun j => by
    unfold mkM
    split
    · exact I.asks _
    · exact I.member _)
  exact i11.up2c (f := 8) (j := t) (v := s 10) ⟨by omega, fun _ => by omega, fun _ => by omega, fun _ => by omega, fun _ => by omega, fun _ => by omega, fun _ => by omega, fun _ => by omega, fun _ => by omega, fun _ => by omega, fun _ => by omega, fun _ => by omega, fun _ => by omega, fun _ => by omega⟩
theorem mkA_9 {s : mS} {a : mA} {b t th at_ : Nat} : mkA s a b t th at_ 9 = va_up (a 9) t (a 9 t + 1) := rfl
theorem mkA_8 {s : mS} {a : mA} {b t th at_ : Nat} : mkA s a b t th at_ 8 = va_up (a 8) t (s 10) := rfl
theorem mk_inv {s : mS} {a : mA} (J : IS s) (I : IA a) (M : M9 s a) (h : s 10 < 1360) {b t th at_ : Nat} (hb : b < 1048576) (ht : t < 40) (hth : th ≤ 1) (hat : at_ < 1048576) : IS (va_up s 10 (s 10 + 1)) ∧ IA (mkA s a b t th at_) ∧ M9 (va_up s 10 (s 10 + 1)) (mkA s a b t th at_) := by
  refine ⟨IS.up J (by omega) (by omega) (by omega) (by omega) (by omega) (by omega), IA.mkA J I M hb ht hth hat, fun i => ?_⟩
  rw [mkA_9, mkA_8, show va_up s 10 (s 10 + 1) 10 = s 10 + 1 from rfl]
  by_cases hi : i = t
  · subst hi; rw [up_s, up_s]; have := M i; omega
  · rw [up_n hi, up_n hi]; have := M i; omega
theorem mkZ {s : mS} {a : mA} (M : M9 s a) (Z : a 13 0 = 0) {b t th at_ : Nat} : mkA s a b t th at_ 13 0 = 0 := by
  show va_up (a 13) (s 10) (if a 9 t = 0 then 0 else a 8 t + 1) 0 = 0
  have := M t
  by_cases h : (0 : Nat) = s 10
  · rw [← h, up_s, if_pos (by omega)]
  · rw [up_n h]; exact Z
theorem oUndoes_inv {s : mS} {a : mA} (J : IS s) (I : IA a) (M : M9 s a) (h : s 10 < 1360) (Z : a 13 0 = 0) {b t o : Nat} (hb : b < 1048576) (ht : t < 40) : IS (oUndoes s a b t o).2.1 ∧ IA (oUndoes s a b t o).2.2 ∧ M9 (oUndoes s a b t o).2.1 (oUndoes s a b t o).2.2 ∧ (oUndoes s a b t o).2.1 6 = s 6 ∧ (oUndoes s a b t o).2.1 10 ≤ s 10 + 1 ∧ (oUndoes s a b t o).2.2 13 0 = 0 := by
  have g0 : ∀ z : mU, oUnd0 s a b t = z → IS z.2.1 ∧ IA z.2.2 ∧ M9 z.2.1 z.2.2 ∧ z.2.1 6 = s 6 ∧ z.2.1 10 ≤ s 10 + 1 ∧ z.2.2 13 0 = 0 := by
    intro z hz
    unfold oUnd0 at hz
    split at hz
    · subst hz; exact ⟨J, I, M, rfl, by show s 10 ≤ _; omega, Z⟩
    · subst hz
      have hj : IS (va_up s 23 0) := IS.asked J (by omega)
      obtain ⟨k1, k2, k3⟩ := mk_inv hj I (M : M9 (va_up s 23 0) a) (h : (va_up s 23 0) 10 < 1360) (b := b) (t := t) (th := 0) (at_ := 0) hb ht (by omega) (by omega)
      exact ⟨k1, k2, k3, rfl, Nat.le_refl _, mkZ (s := va_up s 23 0) (b := b) (t := t) (th := 0) (at_ := 0) M Z⟩
  have g1 : ∀ p z, oUnd1 s a b t p = z → IS z.2.1 ∧ IA z.2.2 ∧ M9 z.2.1 z.2.2 ∧ z.2.1 6 = s 6 ∧ z.2.1 10 ≤ s 10 + 1 ∧ z.2.2 13 0 = 0 := by
    intro p z hz
    have h19 := I.size p
    have h18 := I.1 18 p
    have hj : IS (va_up (va_up s 23 0) 23 (a 19 p)) := IS.asked (IS.asked J (by omega)) (by omega)
    have hi : IA (aVr a p (a 19 p)) := I.aVr p _
    have hm : M9 (va_up (va_up s 23 0) 23 (a 19 p)) (aVr a p (a 19 p)) := M
    unfold oUnd1 at hz
    split at hz
    · subst hz
      obtain ⟨k1, k2, k3⟩ := mk_inv hj hi hm (h : _ < 1360) (b := b) (t := t) (th := 1) (at_ := a 18 p) hb ht (by omega) h18
      exact ⟨k1, k2, k3, rfl, Nat.le_refl _, mkZ (b := b) (t := t) (th := 1) (at_ := a 18 p) hm Z⟩
    · split at hz
      · subst hz; exact ⟨hj, hi, hm, rfl, by show s 10 ≤ _; omega, Z⟩
      · split at hz
        · subst hz
          refine ⟨hj, hi.ring t, fun i => ?_, rfl, by show s 10 ≤ _; omega, by show mRingA _ _ _ 13 0 = 0; rw [mRingA_k (by decide)]; exact Z⟩
          have := hm i
          show mRingA _ _ _ 9 i ≤ _ ∧ (mRingA _ _ _ 9 i = 0 ∨ mRingA _ _ _ 8 i < _)
          rw [mRingA_k (by decide), mRingA_k (by decide)]
          exact this
        · subst hz
          have hm2 : M9 (va_up (va_up s 23 0) 23 (a 19 p)) (mRingA (va_up (va_up s 23 0) 23 (a 19 p)) (aVr a p (a 19 p)) t) := fun i => by
            rw [mRingA_k (by decide), mRingA_k (by decide)]
            exact hm i
          obtain ⟨k1, k2, k3⟩ := mk_inv hj (hi.ring t) hm2 (h : _ < 1360) (b := b) (t := t) (th := 1) (at_ := a 18 p) hb ht (by omega) h18
          exact ⟨k1, k2, k3, rfl, Nat.le_refl _, mkZ (b := b) (t := t) (th := 1) (at_ := a 18 p) hm2 (by rw [mRingA_k (by decide)]; exact Z)⟩
  unfold oUndoes
  split
  · exact g0 _ rfl
  · split
    · exact g1 _ _ rfl
    · exact g0 _ rfl
abbrev mZ3 : Type := Nat × mS × mA
def oU1 (b o t : Nat) (z : mZ3) : mZ3 := if mHasOf z.2.1 z.2.2 t o = true then (if z.2.2 14 (z.2.2 8 t) = o then (z.1 + (if (oUndoes z.2.1 z.2.2 b t o).1 = true then 0 else 1), (oUndoes z.2.1 z.2.2 b t o).2.1, (oUndoes z.2.1 z.2.2 b t o).2.2) else (z.1 + 1, z.2.1, z.2.2)) else z
def oUR (b o : Nat) : Nat → mZ3 → mZ3
  | 0, z => z
  | t + 1, z => oUR b o t (oU1 b o t z)
theorem oUR_s {b o t : Nat} {z z' w : mZ3} (h : oU1 b o t z = z') (e : oUR b o (t + 1) z = w) : oUR b o t z' = w := by rw [← h]; exact e
def oUndo (s : mS) (a : mA) (p q : Int32) : mO := if inN p (s 2) = true ∧ inN q (s 2) = true then (if a 3 (tn p) = 0 ∧ a 3 (tn q) = 1 then
  (nI (oUR (tn p) (tn q) (s 6) (0, va_up s 25 0, a)).1, (oUR (tn p) (tn q) (s 6) (0, va_up s 25 0, a)).2.1, (oUR (tn p) (tn q) (s 6) (0, va_up s 25 0, a)).2.2) else oTh s a 2) else oTh s a 1
theorem mP_dec (p : Nat) : nI p + Int32.ofInt (-1) = mP p := by
  unfold mP
  rw [Int32.sub_eq_add_neg]
  rfl
set_option maxRecDepth 100000 in
set_option maxHeartbeats 4000000 in
theorem m_undo (l : Launch) (hlt : l.stackTraces = false) (G : jG) {mo : Nat} {ad : Nat → Nat} {h0 : jH} (M : mG mo ad) (s : mS) (a : mA) (p q : Int32) (J : IS s) (I : IA a) (Z0 : 0 < s 6 → a 13 0 = 0) (M9a : M9 s a) (hv : s 10 + 40 ≤ 1360) : jM l G yX4_undo wsX4_undo 4 95 0 0 [.ref mo, .int p, .int q] (hM G mo ad h0 s a) (fun r h' => r = some (.int (oUndo s a p q).1) ∧ h' = hM G mo ad h0 (oUndo s a p q).2.1 (oUndo s a p q).2.2) (fun _ _ => False) := by
  have h6 := J.2.1
  have h2 := J.2.2.1
  have h4 := J.2.2.2.1
  have h10 := J.2.2.2.2.1
  have hs0 := J.1 0
  have hs1 := J.1 1
  refine jM_of (cc := cX4_undo) (maxL := 7) (ret := (some .int)) hlt (by decide +kernel) rfl (Nat.le_of_ble_eq_true rfl) ?_
  intro X C E hXl hXR hXn
  have hin : ∀ w ∈ u_ws RX4 TX4 26, w ∈ wsX4_undo := by decide +kernel
  show jW X G 7 0 0 0 [(0, .ref mo), (1, .int p), (2, .int q)] [] ((hM G mo ad h0 s a))
  refine j_aload_n C (i := 0) (x := mo) 0 rfl dX4_undo_0 (pc' := 1) rfl ?_
  refine j_iload_n C (i := 1) (x := p) 1 rfl dX4_undo_1 (pc' := 2) rfl ?_
  refine j_callV C (As := [.int p]) (rest := []) (m_isSet X.2.1 C.2.2.2.2.2.2.2.2 G M s a p J) (cwV 1 C.2.2.2.2.1 gX4_undo_X4_isSet rfl rfl rfl (by decide +kernel) (by rw [hXR]; decide)) hM_obj rfl rfl rfl (Nat.le_of_ble_eq_true rfl) dX4_undo_2 (pc' := 5) rfl (by rw [hXR]; exact Nat.zero_le _) (by rw [hXR]; exact Nat.zero_le _) (fun _ _ z => z.elim) ?_
  rintro r h' ⟨rfl, rfl⟩
  show jW X G 7 0 0 5 [(0, .ref mo), (1, .int p), (2, .int q)] [.int (bI (inN p (s 2)))] ((hM G mo ad h0 s a))
  rcases hb_1 : (inN p (s 2)) with _ | _
  · show jW X G 7 0 0 5 [(0, .ref mo), (1, .int p), (2, .int q)] [.int (nI 0)] ((hM G mo ad h0 s a))
    refine j_if_eq C dX4_undo_5 (tgt := 20) (by decide) (pc' := 8) rfl (fun _ => ?_) (fun c_2 => absurd (by decide) c_2)
    refine j_iconst C (v := nI 0) rfl dX4_undo_20 (pc' := 21) rfl ?_
    refine j_istore_n C (i := 3) (x := nI 0) (l' := [(3, .int (nI 0)), (0, .ref mo), (1, .int p), (2, .int q)]) dX4_undo_21 (pc' := 22) rfl (by decide) rfl ?_
    refine j_aload_n C (i := 0) (x := mo) 1 rfl dX4_undo_22 (pc' := 23) rfl ?_
    refine j_iload_n C (i := 3) (x := nI 0) 0 rfl dX4_undo_23 (pc' := 24) rfl ?_
    refine j_iload_n C (i := 3) (x := nI 0) 0 rfl dX4_undo_24 (pc' := 25) rfl ?_
    refine j_if_eq C dX4_undo_25 (tgt := 50) (by decide) (pc' := 28) rfl (fun _ => ?_) (fun c_3 => absurd (by decide) c_3)
    refine j_iconst C (v := nI 0) rfl dX4_undo_50 (pc' := 51) rfl ?_
    refine j_iconst C (v := nI 1) rfl dX4_undo_51 (pc' := 52) rfl ?_
    refine j_callV C (As := [.int (nI 0), .int (nI 0), .int (nI 1)]) (rest := []) (m_goes X.2.1 C.2.2.2.2.2.2.2.2 G M s a false false true) (cwV 3 C.2.2.2.2.1 gX4_undo_X4_goes rfl rfl rfl (by decide +kernel) (by rw [hXR]; decide)) hM_obj rfl rfl rfl (Nat.le_of_ble_eq_true rfl) dX4_undo_52 (pc' := 55) rfl (by rw [hXR]; exact Nat.zero_le _) (by rw [hXR]; exact Nat.zero_le _) (fun _ _ z => z.elim) ?_
    rintro r h' ⟨rfl, rfl⟩
    show jW X G 7 0 0 55 [(3, .int (nI 0)), (0, .ref mo), (1, .int p), (2, .int q)] [.int (nI 0)] ((hM G mo ad h0 (va_up s 25 1) a))
    refine j_if_ne C dX4_undo_55 (tgt := 60) (by decide) (pc' := 58) rfl (fun c_4 => absurd (by decide) c_4) (fun _ => ?_)
    refine j_iconst C (v := nI 0) rfl dX4_undo_58 (pc' := 59) rfl ?_
    exact j_iret C E dX4_undo_59 rfl (Nat.le_refl _) (Nat.le_refl _) (o_leaf (by unfold oUndo; exact oel (fun z => (bff hb_1) z.1) (rfl)))
  · show jW X G 7 0 0 5 [(0, .ref mo), (1, .int p), (2, .int q)] [.int (nI 1)] ((hM G mo ad h0 s a))
    obtain ⟨j, hj, rfl⟩ := inN_of hb_1
    refine j_if_eq C dX4_undo_5 (tgt := 20) (by decide) (pc' := 8) rfl (fun c_5 => absurd c_5 (by decide)) (fun _ => ?_)
    refine j_aload_n C (i := 0) (x := mo) 0 rfl dX4_undo_8 (pc' := 9) rfl ?_
    refine j_iload_n C (i := 2) (x := q) 2 rfl dX4_undo_9 (pc' := 10) rfl ?_
    refine j_callV C (As := [.int q]) (rest := []) (m_isSet X.2.1 C.2.2.2.2.2.2.2.2 G M s a q J) (cwV 1 C.2.2.2.2.1 gX4_undo_X4_isSet rfl rfl rfl (by decide +kernel) (by rw [hXR]; decide)) hM_obj rfl rfl rfl (Nat.le_of_ble_eq_true rfl) dX4_undo_10 (pc' := 13) rfl (by rw [hXR]; exact Nat.zero_le _) (by rw [hXR]; exact Nat.zero_le _) (fun _ _ z => z.elim) ?_
    rintro r h' ⟨rfl, rfl⟩
    show jW X G 7 0 0 13 [(0, .ref mo), (1, .int (nI j)), (2, .int q)] [.int (bI (inN q (s 2)))] ((hM G mo ad h0 s a))
    rcases hb_6 : (inN q (s 2)) with _ | _
    · show jW X G 7 0 0 13 [(0, .ref mo), (1, .int (nI j)), (2, .int q)] [.int (nI 0)] ((hM G mo ad h0 s a))
      refine j_if_eq C dX4_undo_13 (tgt := 20) (by decide) (pc' := 16) rfl (fun _ => ?_) (fun c_7 => absurd (by decide) c_7)
      refine j_iconst C (v := nI 0) rfl dX4_undo_20 (pc' := 21) rfl ?_
      refine j_istore_n C (i := 3) (x := nI 0) (l' := [(3, .int (nI 0)), (0, .ref mo), (1, .int (nI j)), (2, .int q)]) dX4_undo_21 (pc' := 22) rfl (by decide) rfl ?_
      refine j_aload_n C (i := 0) (x := mo) 1 rfl dX4_undo_22 (pc' := 23) rfl ?_
      refine j_iload_n C (i := 3) (x := nI 0) 0 rfl dX4_undo_23 (pc' := 24) rfl ?_
      refine j_iload_n C (i := 3) (x := nI 0) 0 rfl dX4_undo_24 (pc' := 25) rfl ?_
      refine j_if_eq C dX4_undo_25 (tgt := 50) (by decide) (pc' := 28) rfl (fun _ => ?_) (fun c_8 => absurd (by decide) c_8)
      refine j_iconst C (v := nI 0) rfl dX4_undo_50 (pc' := 51) rfl ?_
      refine j_iconst C (v := nI 1) rfl dX4_undo_51 (pc' := 52) rfl ?_
      refine j_callV C (As := [.int (nI 0), .int (nI 0), .int (nI 1)]) (rest := []) (m_goes X.2.1 C.2.2.2.2.2.2.2.2 G M s a false false true) (cwV 3 C.2.2.2.2.1 gX4_undo_X4_goes rfl rfl rfl (by decide +kernel) (by rw [hXR]; decide)) hM_obj rfl rfl rfl (Nat.le_of_ble_eq_true rfl) dX4_undo_52 (pc' := 55) rfl (by rw [hXR]; exact Nat.zero_le _) (by rw [hXR]; exact Nat.zero_le _) (fun _ _ z => z.elim) ?_
      rintro r h' ⟨rfl, rfl⟩
      show jW X G 7 0 0 55 [(3, .int (nI 0)), (0, .ref mo), (1, .int (nI j)), (2, .int q)] [.int (nI 0)] ((hM G mo ad h0 (va_up s 25 1) a))
      refine j_if_ne C dX4_undo_55 (tgt := 60) (by decide) (pc' := 58) rfl (fun c_9 => absurd (by decide) c_9) (fun _ => ?_)
      refine j_iconst C (v := nI 0) rfl dX4_undo_58 (pc' := 59) rfl ?_
      exact j_iret C E dX4_undo_59 rfl (Nat.le_refl _) (Nat.le_refl _) (o_leaf (by unfold oUndo; exact oel (fun z => (bff hb_6) z.2) (rfl)))
    · show jW X G 7 0 0 13 [(0, .ref mo), (1, .int (nI j)), (2, .int q)] [.int (nI 1)] ((hM G mo ad h0 s a))
      obtain ⟨o, ho, rfl⟩ := inN_of hb_6
      refine j_if_eq C dX4_undo_13 (tgt := 20) (by decide) (pc' := 16) rfl (fun c_10 => absurd c_10 (by decide)) (fun _ => ?_)
      refine j_iconst C (v := nI 1) rfl dX4_undo_16 (pc' := 17) rfl ?_
      refine j_goto C dX4_undo_17 (pc' := 21) (by decide) ?_
      refine j_istore_n C (i := 3) (x := nI 1) (l' := [(3, .int (nI 1)), (0, .ref mo), (1, .int (nI j)), (2, .int (nI o))]) dX4_undo_21 (pc' := 22) rfl (by decide) rfl ?_
      refine j_aload_n C (i := 0) (x := mo) 1 rfl dX4_undo_22 (pc' := 23) rfl ?_
      refine j_iload_n C (i := 3) (x := nI 1) 0 rfl dX4_undo_23 (pc' := 24) rfl ?_
      refine j_iload_n C (i := 3) (x := nI 1) 0 rfl dX4_undo_24 (pc' := 25) rfl ?_
      refine j_if_eq C dX4_undo_25 (tgt := 50) (by decide) (pc' := 28) rfl (fun c_11 => absurd c_11 (by decide)) (fun _ => ?_)
      refine j_aload_n C (i := 0) (x := mo) 1 rfl dX4_undo_28 (pc' := 29) rfl ?_
      refine m_geta C (f := 3) (idx := 7) hin (by decide) rfl (by decide +kernel) dX4_undo_29 (pc' := 32) rfl ?_
      refine j_iload_n C (i := 1) (x := nI j) 2 rfl dX4_undo_32 (pc' := 33) rfl ?_
      refine m_zld C M (f := 3) (j := j) (by decide) rfl rfl rfl (show j < 20 by omega) dX4_undo_33 (pc' := 34) rfl ?_
      have B_12 := IA.closed I j
      refine j_if_ne C dX4_undo_34 (tgt := 50) (by decide) (pc' := 37) rfl (fun c_13 => ?_) (fun c_13 => ?_)
      · have c_13 := fun zq => c_13 ((nI_eq (a := a 3 j) (b := 0) (by omega) (by omega)).mpr zq)
        have c_13 : ¬ (a 3 j) = 0 := c_13
        refine j_iconst C (v := nI 0) rfl dX4_undo_50 (pc' := 51) rfl ?_
        refine j_iconst C (v := nI 1) rfl dX4_undo_51 (pc' := 52) rfl ?_
        refine j_callV C (As := [.int (nI 1), .int (nI 0), .int (nI 1)]) (rest := []) (m_goes X.2.1 C.2.2.2.2.2.2.2.2 G M s a true false true) (cwV 3 C.2.2.2.2.1 gX4_undo_X4_goes rfl rfl rfl (by decide +kernel) (by rw [hXR]; decide)) hM_obj rfl rfl rfl (Nat.le_of_ble_eq_true rfl) dX4_undo_52 (pc' := 55) rfl (by rw [hXR]; exact Nat.zero_le _) (by rw [hXR]; exact Nat.zero_le _) (fun _ _ z => z.elim) ?_
        rintro r h' ⟨rfl, rfl⟩
        show jW X G 7 0 0 55 [(3, .int (nI 1)), (0, .ref mo), (1, .int (nI j)), (2, .int (nI o))] [.int (nI 0)] ((hM G mo ad h0 (va_up s 25 2) a))
        refine j_if_ne C dX4_undo_55 (tgt := 60) (by decide) (pc' := 58) rfl (fun c_14 => absurd (by decide) c_14) (fun _ => ?_)
        refine j_iconst C (v := nI 0) rfl dX4_undo_58 (pc' := 59) rfl ?_
        exact j_iret C E dX4_undo_59 rfl (Nat.le_refl _) (Nat.le_refl _) (o_leaf (by unfold oUndo; simp only [tn_nI (show j < 2 ^ 31 by omega), tn_nI (show o < 2 ^ 31 by omega)]; exact oif ⟨hb_1, hb_6⟩ (oel (fun z => (show ¬ (a 3 j = 0) by omega) z.1) (rfl))))
      · have c_13 := (nI_eq (a := a 3 j) (b := 0) (by omega) (by omega)).mp c_13
        have c_13 : (a 3 j) = 0 := c_13
        refine j_aload_n C (i := 0) (x := mo) 1 rfl dX4_undo_37 (pc' := 38) rfl ?_
        refine m_geta C (f := 3) (idx := 7) hin (by decide) rfl (by decide +kernel) dX4_undo_38 (pc' := 41) rfl ?_
        refine j_iload_n C (i := 2) (x := nI o) 3 rfl dX4_undo_41 (pc' := 42) rfl ?_
        refine m_zld C M (f := 3) (j := o) (by decide) rfl rfl rfl (show o < 20 by omega) dX4_undo_42 (pc' := 43) rfl ?_
        have B_15 := IA.closed I o
        refine j_if_eq C dX4_undo_43 (tgt := 50) (by decide) (pc' := 46) rfl (fun c_16 => ?_) (fun c_16 => ?_)
        · have c_16 := (nI_eq (a := a 3 o) (b := 0) (by omega) (by omega)).mp c_16
          have c_16 : (a 3 o) = 0 := c_16
          refine j_iconst C (v := nI 0) rfl dX4_undo_50 (pc' := 51) rfl ?_
          refine j_iconst C (v := nI 1) rfl dX4_undo_51 (pc' := 52) rfl ?_
          refine j_callV C (As := [.int (nI 1), .int (nI 0), .int (nI 1)]) (rest := []) (m_goes X.2.1 C.2.2.2.2.2.2.2.2 G M s a true false true) (cwV 3 C.2.2.2.2.1 gX4_undo_X4_goes rfl rfl rfl (by decide +kernel) (by rw [hXR]; decide)) hM_obj rfl rfl rfl (Nat.le_of_ble_eq_true rfl) dX4_undo_52 (pc' := 55) rfl (by rw [hXR]; exact Nat.zero_le _) (by rw [hXR]; exact Nat.zero_le _) (fun _ _ z => z.elim) ?_
          rintro r h' ⟨rfl, rfl⟩
          show jW X G 7 0 0 55 [(3, .int (nI 1)), (0, .ref mo), (1, .int (nI j)), (2, .int (nI o))] [.int (nI 0)] ((hM G mo ad h0 (va_up s 25 2) a))
          refine j_if_ne C dX4_undo_55 (tgt := 60) (by decide) (pc' := 58) rfl (fun c_17 => absurd (by decide) c_17) (fun _ => ?_)
          refine j_iconst C (v := nI 0) rfl dX4_undo_58 (pc' := 59) rfl ?_
          exact j_iret C E dX4_undo_59 rfl (Nat.le_refl _) (Nat.le_refl _) (o_leaf (by unfold oUndo; simp only [tn_nI (show j < 2 ^ 31 by omega), tn_nI (show o < 2 ^ 31 by omega)]; exact oif ⟨hb_1, hb_6⟩ (oel (fun z => (show ¬ (a 3 o = 1) by omega) z.2) (rfl))))
        · have c_16 := fun zq => c_16 ((nI_eq (a := a 3 o) (b := 0) (by omega) (by omega)).mpr zq)
          have c_16 : ¬ (a 3 o) = 0 := c_16
          refine j_iconst C (v := nI 1) rfl dX4_undo_46 (pc' := 47) rfl ?_
          refine j_goto C dX4_undo_47 (pc' := 51) (by decide) ?_
          refine j_iconst C (v := nI 1) rfl dX4_undo_51 (pc' := 52) rfl ?_
          refine j_callV C (As := [.int (nI 1), .int (nI 1), .int (nI 1)]) (rest := []) (m_goes X.2.1 C.2.2.2.2.2.2.2.2 G M s a true true true) (cwV 3 C.2.2.2.2.1 gX4_undo_X4_goes rfl rfl rfl (by decide +kernel) (by rw [hXR]; decide)) hM_obj rfl rfl rfl (Nat.le_of_ble_eq_true rfl) dX4_undo_52 (pc' := 55) rfl (by rw [hXR]; exact Nat.zero_le _) (by rw [hXR]; exact Nat.zero_le _) (fun _ _ z => z.elim) ?_
          rintro r h' ⟨rfl, rfl⟩
          show jW X G 7 0 0 55 [(3, .int (nI 1)), (0, .ref mo), (1, .int (nI j)), (2, .int (nI o))] [.int (nI 1)] ((hM G mo ad h0 (va_up s 25 0) a))
          refine j_if_ne C dX4_undo_55 (tgt := 60) (by decide) (pc' := 58) rfl (fun _ => ?_) (fun c_18 => absurd c_18 (by decide))
          refine j_iconst C (v := nI 0) rfl dX4_undo_60 (pc' := 61) rfl ?_
          refine j_istore C (i := 4) (x := nI 0) (l' := [(4, .int (nI 0)), (3, .int (nI 1)), (0, .ref mo), (1, .int (nI j)), (2, .int (nI o))]) dX4_undo_61 (pc' := 63) rfl (by decide) rfl ?_
          refine j_aload_n C (i := 0) (x := mo) 2 rfl dX4_undo_63 (pc' := 64) rfl ?_
          refine m_get C (f := 6) (idx := 69) hin (by decide) rfl (by decide +kernel) dX4_undo_64 (pc' := 67) rfl ?_
          show jW X G 7 0 0 67 [(4, .int (nI 0)), (3, .int (nI 1)), (0, .ref mo), (1, .int (nI j)), (2, .int (nI o))] [.int (nI (s 6))] ((hM G mo ad h0 (va_up s 25 0) a))
          refine j_iconst C (v := nI 1) rfl dX4_undo_67 (pc' := 68) rfl ?_
          refine j_isub C (x := nI (s 6)) (y := nI 1) dX4_undo_68 (pc' := 69) rfl ?_
          refine j_istore C (i := 5) (x := nI (s 6) - nI 1) (l' := [(5, .int (nI (s 6) - nI 1)), (4, .int (nI 0)), (3, .int (nI 1)), (0, .ref mo), (1, .int (nI j)), (2, .int (nI o))]) dX4_undo_69 (pc' := 71) rfl (by decide) rfl ?_
          have L_71 : ∀ (N_71 : Nat) (b : Nat) (z : mZ3), (b) < N_71 → (IS z.2.1) → (IA z.2.2) → (M9 z.2.1 z.2.2) → (0 < s 6 → z.2.2 13 0 = 0) → (z.2.1 6 = s 6) → (z.2.1 10 + b ≤ s 10 + 40) → (b ≤ s 6) → (z.1 + b ≤ 40) → (oUR j o b z = oUR j o (s 6) (0, va_up s 25 0, a)) → jW X G 7 0 0 71 [(0, .ref mo), (1, .int (nI j)), (2, .int (nI o)), (3, .int (nI 1)), (4, .int (nI z.1)), (5, .int (mP b))] [] ((hM G mo ad h0 z.2.1 z.2.2)) := by
            intro N_71
            induction N_71 with
            | zero => intro b z hm_71 Jz Iz Mz Zz h6z h10z hbz hnz hR; omega
            | succ N_71 ih_71 =>
              intro b z hm_71 Jz Iz Mz Zz h6z h10z hbz hnz hR
              rcases b with _ | p
              · refine jt_loc (l' := [(0, .ref mo), (1, .int (nI j)), (2, .int (nI o)), (3, .int (nI 1)), (4, .int (nI z.1)), (5, .int ((-1)))]) (by rw [mP_0]) ?_
                refine j_iload C (i := 5) (x := (-1)) 5 rfl dX4_undo_71 (pc' := 73) rfl ?_
                refine j_if_lt C dX4_undo_73 (tgt := 141) (by decide) (pc' := 76) rfl (fun _ => ?_) (fun c_19 => absurd (by decide) c_19)
                refine j_iload C (i := 4) (x := nI z.1) 4 rfl dX4_undo_141 (pc' := 143) rfl ?_
                exact j_iret C E dX4_undo_143 rfl (Nat.le_refl _) (Nat.le_refl _) (o_leaf (by unfold oUndo; simp only [tn_nI (show j < 2 ^ 31 by omega), tn_nI (show o < 2 ^ 31 by omega)]; exact oif ⟨hb_1, hb_6⟩ (oif ⟨(show a 3 j = 0 by omega), (show a 3 o = 1 by omega)⟩ (by rw [← hR]; rfl))))
              · refine jt_loc (l' := [(0, .ref mo), (1, .int (nI j)), (2, .int (nI o)), (3, .int (nI 1)), (4, .int (nI z.1)), (5, .int (nI p))]) (by rw [mP_s]) ?_
                refine j_iload C (i := 5) (x := nI p) 5 rfl dX4_undo_71 (pc' := 73) rfl ?_
                refine j_if_lt C dX4_undo_73 (tgt := 141) (by decide) (pc' := 76) rfl (fun c_20 => absurd c_20 (nI_pos (by omega))) (fun _ => ?_)
                refine j_aload_n C (i := 0) (x := mo) 0 rfl dX4_undo_76 (pc' := 77) rfl ?_
                refine j_iload C (i := 5) (x := nI p) 5 rfl dX4_undo_77 (pc' := 79) rfl ?_
                refine j_iload_n C (i := 2) (x := nI o) 2 rfl dX4_undo_79 (pc' := 80) rfl ?_
                refine j_callV C (As := [.int (nI p), .int (nI o)]) (rest := []) (m_hasOf X.2.1 C.2.2.2.2.2.2.2.2 G M z.2.1 z.2.2 p o Jz Iz (by omega) (by omega)) (cwV 2 C.2.2.2.2.1 gX4_undo_X4_hasOf rfl rfl rfl (by decide +kernel) (by rw [hXR]; decide)) hM_obj rfl rfl rfl (Nat.le_of_ble_eq_true rfl) dX4_undo_80 (pc' := 83) rfl (by rw [hXR]; exact Nat.zero_le _) (by rw [hXR]; exact Nat.zero_le _) (fun _ _ z => z.elim) ?_
                rintro r h' ⟨rfl, rfl⟩
                show jW X G 7 0 0 83 [(0, .ref mo), (1, .int (nI j)), (2, .int (nI o)), (3, .int (nI 1)), (4, .int (nI z.1)), (5, .int (nI p))] [.int (bI (mHasOf z.2.1 z.2.2 p o))] ((hM G mo ad h0 z.2.1 z.2.2))
                rcases hb_21 : (mHasOf z.2.1 z.2.2 p o) with _ | _
                · show jW X G 7 0 0 83 [(0, .ref mo), (1, .int (nI j)), (2, .int (nI o)), (3, .int (nI 1)), (4, .int (nI z.1)), (5, .int (nI p))] [.int (nI 0)] ((hM G mo ad h0 z.2.1 z.2.2))
                  refine j_if_eq C dX4_undo_83 (tgt := 135) (by decide) (pc' := 86) rfl (fun _ => ?_) (fun c_22 => absurd (by decide) c_22)
                  refine j_iinc C (i := 5) (q := 5) (x := nI p) (v := mP p) (l' := [(5, .int (mP p)), (0, .ref mo), (1, .int (nI j)), (2, .int (nI o)), (3, .int (nI 1)), (4, .int (nI z.1))]) dX4_undo_135 (pc' := 138) rfl rfl (mP_dec p) (by decide) rfl ?_
                  refine j_goto C dX4_undo_138 (pc' := 71) (by decide) ?_
                  exact jW.locals [1, 2, 3, 4, 5, 0] rfl (ih_71 p z (by omega) Jz Iz Mz Zz h6z (by omega) (by omega) (by omega) (oUR_s (by unfold oU1; rw [if_neg (bff hb_21)]) hR))
                · show jW X G 7 0 0 83 [(0, .ref mo), (1, .int (nI j)), (2, .int (nI o)), (3, .int (nI 1)), (4, .int (nI z.1)), (5, .int (nI p))] [.int (nI 1)] ((hM G mo ad h0 z.2.1 z.2.2))
                  refine j_if_eq C dX4_undo_83 (tgt := 135) (by decide) (pc' := 86) rfl (fun c_23 => absurd c_23 (by decide)) (fun _ => ?_)
                  refine j_aload_n C (i := 0) (x := mo) 0 rfl dX4_undo_86 (pc' := 87) rfl ?_
                  refine m_geta C (f := 14) (idx := 35) hin (by decide) rfl (by decide +kernel) dX4_undo_87 (pc' := 90) rfl ?_
                  refine j_aload_n C (i := 0) (x := mo) 0 rfl dX4_undo_90 (pc' := 91) rfl ?_
                  refine m_geta C (f := 8) (idx := 20) hin (by decide) rfl (by decide +kernel) dX4_undo_91 (pc' := 94) rfl ?_
                  refine j_iload C (i := 5) (x := nI p) 5 rfl dX4_undo_94 (pc' := 96) rfl ?_
                  refine m_ald C M (f := 8) (j := p) (by decide) rfl rfl rfl (show p < 40 by omega) dX4_undo_96 (pc' := 97) rfl ?_
                  have B_24 := IA.last Iz p
                  refine m_ald C M (f := 14) (j := z.2.2 8 p) (by decide) rfl rfl rfl (show z.2.2 8 p < 1400 by omega) dX4_undo_97 (pc' := 98) rfl ?_
                  have B_25 := IA.big Iz 14 (z.2.2 8 p)
                  refine j_iload_n C (i := 2) (x := nI o) 2 rfl dX4_undo_98 (pc' := 99) rfl ?_
                  refine j_icmp_ne C dX4_undo_99 (tgt := 117) (by decide) (pc' := 102) rfl (fun c_26 => ?_) (fun c_26 => ?_)
                  · have c_26 := fun zq => c_26 ((nI_eq (a := z.2.2 14 (z.2.2 8 p)) (b := o) (by omega) (by omega)).mpr zq)
                    have c_26 : ¬ (z.2.2 14 (z.2.2 8 p)) = o := c_26
                    refine j_iconst C (v := nI 0) rfl dX4_undo_117 (pc' := 118) rfl ?_
                    refine j_istore C (i := 6) (x := nI 0) (l' := [(6, .int (nI 0)), (0, .ref mo), (1, .int (nI j)), (2, .int (nI o)), (3, .int (nI 1)), (4, .int (nI z.1)), (5, .int (nI p))]) dX4_undo_118 (pc' := 120) rfl (by decide) rfl ?_
                    refine j_iload C (i := 4) (x := nI z.1) 5 rfl dX4_undo_120 (pc' := 122) rfl ?_
                    refine j_iload C (i := 6) (x := nI 0) 0 rfl dX4_undo_122 (pc' := 124) rfl ?_
                    refine j_if_eq C dX4_undo_124 (tgt := 131) (by decide) (pc' := 127) rfl (fun _ => ?_) (fun c_27 => absurd (by decide) c_27)
                    refine j_iconst C (v := nI 1) rfl dX4_undo_131 (pc' := 132) rfl ?_
                    refine j_iadd C (x := nI z.1) (y := nI 1) dX4_undo_132 (pc' := 133) rfl ?_
                    refine jt_i (nI_add _ _) ?_
                    refine j_istore C (i := 4) (x := nI (z.1 + 1)) (l' := [(4, .int (nI (z.1 + 1))), (6, .int (nI 0)), (0, .ref mo), (1, .int (nI j)), (2, .int (nI o)), (3, .int (nI 1)), (5, .int (nI p))]) dX4_undo_133 (pc' := 135) rfl (by decide) rfl ?_
                    refine j_iinc C (i := 5) (q := 6) (x := nI p) (v := mP p) (l' := [(5, .int (mP p)), (4, .int (nI (z.1 + 1))), (6, .int (nI 0)), (0, .ref mo), (1, .int (nI j)), (2, .int (nI o)), (3, .int (nI 1))]) dX4_undo_135 (pc' := 138) rfl rfl (mP_dec p) (by decide) rfl ?_
                    refine j_goto C dX4_undo_138 (pc' := 71) (by decide) ?_
                    exact jW.locals [3, 4, 5, 6, 1, 0] rfl (ih_71 p ((z.1 + 1, z.2.1, z.2.2)) (by omega) Jz Iz Mz Zz h6z (by show z.2.1 10 + p ≤ _; omega) (by omega) (by show z.1 + 1 + p ≤ 40; omega) (oUR_s (by unfold oU1; rw [if_pos hb_21, if_neg c_26]) hR))
                  · have c_26 := (nI_eq (a := z.2.2 14 (z.2.2 8 p)) (b := o) (by omega) (by omega)).mp c_26
                    have c_26 : (z.2.2 14 (z.2.2 8 p)) = o := c_26
                    refine j_aload_n C (i := 0) (x := mo) 0 rfl dX4_undo_102 (pc' := 103) rfl ?_
                    refine j_iload_n C (i := 1) (x := nI j) 1 rfl dX4_undo_103 (pc' := 104) rfl ?_
                    refine j_iload C (i := 5) (x := nI p) 5 rfl dX4_undo_104 (pc' := 106) rfl ?_
                    refine j_iload_n C (i := 2) (x := nI o) 2 rfl dX4_undo_106 (pc' := 107) rfl ?_
                    refine j_callV C (As := [.int (nI j), .int (nI p), .int (nI o)]) (rest := []) (m_undoes X.2.1 C.2.2.2.2.2.2.2.2 G M z.2.1 z.2.2 j p o Jz Iz (Zz (by omega)) (by omega) (by omega) (by omega)) (cwV 3 C.2.2.2.2.1 gX4_undo_X4_undoes rfl rfl rfl (by decide +kernel) (by rw [hXR]; decide)) hM_obj rfl rfl rfl (Nat.le_of_ble_eq_true rfl) dX4_undo_107 (pc' := 110) rfl (by rw [hXR]; exact Nat.zero_le _) (by rw [hXR]; exact Nat.zero_le _) (fun _ _ z => z.elim) ?_
                    rintro r h' ⟨rfl, rfl⟩
                    show jW X G 7 0 0 110 [(0, .ref mo), (1, .int (nI j)), (2, .int (nI o)), (3, .int (nI 1)), (4, .int (nI z.1)), (5, .int (nI p))] [.int (bI ((oUndoes z.2.1 z.2.2 j p o).1))] ((hM G mo ad h0 ((oUndoes z.2.1 z.2.2 j p o).2.1) ((oUndoes z.2.1 z.2.2 j p o).2.2)))
                    have U9 := oUndoes_inv (b := j) (t := p) (o := o) Jz Iz Mz (by omega) (Zz (by omega)) (by omega) (by omega)
                    rcases hb_28 : ((oUndoes z.2.1 z.2.2 j p o).1) with _ | _
                    · show jW X G 7 0 0 110 [(0, .ref mo), (1, .int (nI j)), (2, .int (nI o)), (3, .int (nI 1)), (4, .int (nI z.1)), (5, .int (nI p))] [.int (nI 0)] ((hM G mo ad h0 ((oUndoes z.2.1 z.2.2 j p o).2.1) ((oUndoes z.2.1 z.2.2 j p o).2.2)))
                      refine j_if_eq C dX4_undo_110 (tgt := 117) (by decide) (pc' := 113) rfl (fun _ => ?_) (fun c_29 => absurd (by decide) c_29)
                      refine j_iconst C (v := nI 0) rfl dX4_undo_117 (pc' := 118) rfl ?_
                      refine j_istore C (i := 6) (x := nI 0) (l' := [(6, .int (nI 0)), (0, .ref mo), (1, .int (nI j)), (2, .int (nI o)), (3, .int (nI 1)), (4, .int (nI z.1)), (5, .int (nI p))]) dX4_undo_118 (pc' := 120) rfl (by decide) rfl ?_
                      refine j_iload C (i := 4) (x := nI z.1) 5 rfl dX4_undo_120 (pc' := 122) rfl ?_
                      refine j_iload C (i := 6) (x := nI 0) 0 rfl dX4_undo_122 (pc' := 124) rfl ?_
                      refine j_if_eq C dX4_undo_124 (tgt := 131) (by decide) (pc' := 127) rfl (fun _ => ?_) (fun c_30 => absurd (by decide) c_30)
                      refine j_iconst C (v := nI 1) rfl dX4_undo_131 (pc' := 132) rfl ?_
                      refine j_iadd C (x := nI z.1) (y := nI 1) dX4_undo_132 (pc' := 133) rfl ?_
                      refine jt_i (nI_add _ _) ?_
                      refine j_istore C (i := 4) (x := nI (z.1 + 1)) (l' := [(4, .int (nI (z.1 + 1))), (6, .int (nI 0)), (0, .ref mo), (1, .int (nI j)), (2, .int (nI o)), (3, .int (nI 1)), (5, .int (nI p))]) dX4_undo_133 (pc' := 135) rfl (by decide) rfl ?_
                      refine j_iinc C (i := 5) (q := 6) (x := nI p) (v := mP p) (l' := [(5, .int (mP p)), (4, .int (nI (z.1 + 1))), (6, .int (nI 0)), (0, .ref mo), (1, .int (nI j)), (2, .int (nI o)), (3, .int (nI 1))]) dX4_undo_135 (pc' := 138) rfl rfl (mP_dec p) (by decide) rfl ?_
                      refine j_goto C dX4_undo_138 (pc' := 71) (by decide) ?_
                      exact jW.locals [3, 4, 5, 6, 1, 0] rfl (ih_71 p ((z.1 + 1, (oUndoes z.2.1 z.2.2 j p o).2.1, (oUndoes z.2.1 z.2.2 j p o).2.2)) (by omega) U9.1 U9.2.1 U9.2.2.1 (fun _ => U9.2.2.2.2.2) (U9.2.2.2.1.trans h6z) (by have := U9.2.2.2.2.1; show (oUndoes z.2.1 z.2.2 j p o).2.1 10 + p ≤ _; omega) (by omega) (by show z.1 + 1 + p ≤ 40; omega) (oUR_s (by unfold oU1; rw [if_pos hb_21, if_pos c_26, if_neg (bff hb_28)] <;> rfl) hR))
                    · show jW X G 7 0 0 110 [(0, .ref mo), (1, .int (nI j)), (2, .int (nI o)), (3, .int (nI 1)), (4, .int (nI z.1)), (5, .int (nI p))] [.int (nI 1)] ((hM G mo ad h0 ((oUndoes z.2.1 z.2.2 j p o).2.1) ((oUndoes z.2.1 z.2.2 j p o).2.2)))
                      refine j_if_eq C dX4_undo_110 (tgt := 117) (by decide) (pc' := 113) rfl (fun c_31 => absurd c_31 (by decide)) (fun _ => ?_)
                      refine j_iconst C (v := nI 1) rfl dX4_undo_113 (pc' := 114) rfl ?_
                      refine j_goto C dX4_undo_114 (pc' := 118) (by decide) ?_
                      refine j_istore C (i := 6) (x := nI 1) (l' := [(6, .int (nI 1)), (0, .ref mo), (1, .int (nI j)), (2, .int (nI o)), (3, .int (nI 1)), (4, .int (nI z.1)), (5, .int (nI p))]) dX4_undo_118 (pc' := 120) rfl (by decide) rfl ?_
                      refine j_iload C (i := 4) (x := nI z.1) 5 rfl dX4_undo_120 (pc' := 122) rfl ?_
                      refine j_iload C (i := 6) (x := nI 1) 0 rfl dX4_undo_122 (pc' := 124) rfl ?_
                      refine j_if_eq C dX4_undo_124 (tgt := 131) (by decide) (pc' := 127) rfl (fun c_32 => absurd c_32 (by decide)) (fun _ => ?_)
                      refine j_iconst C (v := nI 0) rfl dX4_undo_127 (pc' := 128) rfl ?_
                      refine j_goto C dX4_undo_128 (pc' := 132) (by decide) ?_
                      refine j_iadd C (x := nI z.1) (y := nI 0) dX4_undo_132 (pc' := 133) rfl ?_
                      refine jt_i (nI_add _ _) ?_
                      refine j_istore C (i := 4) (x := nI (z.1 + 0)) (l' := [(4, .int (nI (z.1 + 0))), (6, .int (nI 1)), (0, .ref mo), (1, .int (nI j)), (2, .int (nI o)), (3, .int (nI 1)), (5, .int (nI p))]) dX4_undo_133 (pc' := 135) rfl (by decide) rfl ?_
                      refine j_iinc C (i := 5) (q := 6) (x := nI p) (v := mP p) (l' := [(5, .int (mP p)), (4, .int (nI (z.1 + 0))), (6, .int (nI 1)), (0, .ref mo), (1, .int (nI j)), (2, .int (nI o)), (3, .int (nI 1))]) dX4_undo_135 (pc' := 138) rfl rfl (mP_dec p) (by decide) rfl ?_
                      refine j_goto C dX4_undo_138 (pc' := 71) (by decide) ?_
                      refine jt_loc (l' := [(5, .int (mP p)), (4, .int (nI z.1)), (6, .int (nI 1)), (0, .ref mo), (1, .int (nI j)), (2, .int (nI o)), (3, .int (nI 1))]) (by rfl) ?_
                      exact jW.locals [3, 4, 5, 6, 1, 0] rfl (ih_71 p ((z.1, (oUndoes z.2.1 z.2.2 j p o).2.1, (oUndoes z.2.1 z.2.2 j p o).2.2)) (by omega) U9.1 U9.2.1 U9.2.2.1 (fun _ => U9.2.2.2.2.2) (U9.2.2.2.1.trans h6z) (by have := U9.2.2.2.2.1; show (oUndoes z.2.1 z.2.2 j p o).2.1 10 + p ≤ _; omega) (by omega) (by show z.1 + p ≤ 40; omega) (oUR_s (by unfold oU1; rw [if_pos hb_21, if_pos c_26, if_pos hb_28] <;> rfl) hR))
          refine jt_loc (l' := [(5, .int (mP (s 6))), (4, .int (nI 0)), (3, .int (nI 1)), (0, .ref mo), (1, .int (nI j)), (2, .int (nI o))]) (by rfl) ?_
          exact jW.locals [3, 4, 5, 2, 1, 0] rfl (L_71 ((s 6) + 1) (s 6) ((0, va_up s 25 0, a)) (by omega) (IS.th J (v := 0) (by first | decide | exact gTh_le _ _ _)) I M9a Z0 rfl (by show s 10 + s 6 ≤ _; omega) (by omega) (by show 0 + s 6 ≤ 40; omega) rfl)
