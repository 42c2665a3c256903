def bxP (a : mA) (x y tx ty k : Nat) : Prop := a 7 k = 0 ∧ mIs a k = true ∧ (x ≤ a 18 (a 8 k) / 100 ∧ a 18 (a 8 k) / 100 ≤ tx) ∧ (y ≤ a 18 (a 8 k) % 100 ∧ a 18 (a 8 k) % 100 ≤ ty)
noncomputable def bx1 (a : mA) (x y tx ty : Nat) : Nat → Nat → Nat
  | 0 => a 22
  | k + 1 => va_up (bx1 a x y tx ty k) k (@ite _ (bxP a x y tx ty k) (Classical.propDecidable _) 1 0)
noncomputable def bx2 (s : mS) (a : mA) (w f o : Nat) (m : Nat → Nat) : Nat → Nat → Nat
  | 0 => m
  | k + 1 => va_up (bx2 s a w f o m k) k (if bx2 s a w f o m k k = 1 ∨ (a 7 k = w ∧ mUsesD s (va_up a 22 (bx2 s a w f o m k)) k f o = true) then 1 else 0)
def bx3i (a : mA) (m : Nat → Nat) (k : Nat) : Nat → Nat → Nat
  | 0 => m
  | n + 1 => va_up (bx3i a m k n) n (if bx3i a m k n n = 1 ∨ (bx3i a m k n k = 1 ∧ a 7 k = 1 ∧ mHas a k n = true) then 1 else 0)
def bx3 (N : Nat) (a : mA) (m : Nat → Nat) : Nat → Nat → Nat
  | 0 => m
  | k + 1 => bx3i a (bx3 N a m k) k N
noncomputable def bxD (s : mS) (a : mA) (x y tx ty : Nat) : Nat → Nat := bx2 s a 2 0 1 (bx3 (s 6) a (bx2 s a 1 0 0 (bx1 a x y tx ty (s 6)) (s 6)) (s 6)) (s 6)
noncomputable def oInBox (s : mS) (a : mA) (x y tx ty w : Int32) : mO := if inR x 0 99 = true ∧ inR y 0 99 = true ∧ inR tx (tn x) 99 = true ∧ inR ty (tn y) 99 = true ∧ inR w 0 2 = true then
  (nI (mDrawn s (va_up a 22 (bxD s a (tn x) (tn y) (tn tx) (tn ty))) (tn w)), va_up s 25 0, va_up a 22 (bxD s a (tn x) (tn y) (tn tx) (tn ty))) else oTh s a 1
theorem cite01 {c : Prop} : (@ite _ c (Classical.propDecidable _) 1 0 : Nat) ≤ 1 := by split <;> omega
theorem bx1_le {a : mA} (I : IA a) (x y tx ty : Nat) : ∀ k j, bx1 a x y tx ty k j ≤ 1
  | 0, j => I.drawn j
  | k + 1, j => up_le (bx1_le I x y tx ty k) cite01 j
theorem bx2_le {s : mS} {a : mA} {w f o : Nat} {m : Nat → Nat} (h : ∀ j, m j ≤ 1) : ∀ k j, bx2 s a w f o m k j ≤ 1
  | 0, j => h j
  | k + 1, j => up_le (bx2_le h k) ite01 j
theorem bx3i_le {a : mA} {m : Nat → Nat} (h : ∀ j, m j ≤ 1) (k : Nat) : ∀ n j, bx3i a m k n j ≤ 1
  | 0, j => h j
  | n + 1, j => up_le (bx3i_le h k n) ite01 j
theorem bx3_le {N : Nat} {a : mA} {m : Nat → Nat} (h : ∀ j, m j ≤ 1) : ∀ k j, bx3 N a m k j ≤ 1
  | 0, j => h j
  | k + 1, j => bx3i_le (bx3_le h k) k N j
theorem bx1_1 {a : mA} {x y tx ty k : Nat} (h : bxP a x y tx ty k) : va_up (bx1 a x y tx ty k) k 1 = bx1 a x y tx ty (k + 1) := by
  show _ = va_up _ k (@ite _ _ (Classical.propDecidable _) 1 0)
  rw [if_pos h]
theorem bx1_0 {a : mA} {x y tx ty k : Nat} (h : ¬ bxP a x y tx ty k) : va_up (bx1 a x y tx ty k) k 0 = bx1 a x y tx ty (k + 1) := by
  show _ = va_up _ k (@ite _ _ (Classical.propDecidable _) 1 0)
  rw [if_neg h]
theorem bx2_1 {s : mS} {a : mA} {w f o k : Nat} {m : Nat → Nat} (h : bx2 s a w f o m k k = 1 ∨ (a 7 k = w ∧ mUsesD s (va_up a 22 (bx2 s a w f o m k)) k f o = true)) : va_up (bx2 s a w f o m k) k 1 = bx2 s a w f o m (k + 1) := by
  show _ = va_up _ k (ite _ 1 0)
  rw [if_pos h]
theorem bx2_0 {s : mS} {a : mA} {w f o k : Nat} {m : Nat → Nat} (h : ¬ (bx2 s a w f o m k k = 1 ∨ (a 7 k = w ∧ mUsesD s (va_up a 22 (bx2 s a w f o m k)) k f o = true))) : va_up (bx2 s a w f o m k) k 0 = bx2 s a w f o m (k + 1) := by
  show _ = va_up _ k (ite _ 1 0)
  rw [if_neg h]
theorem bx3_1 {a : mA} {k n : Nat} {m : Nat → Nat} (h : bx3i a m k n n = 1 ∨ (bx3i a m k n k = 1 ∧ a 7 k = 1 ∧ mHas a k n = true)) : va_up (bx3i a m k n) n 1 = bx3i a m k (n + 1) := by
  show _ = va_up _ n (ite _ 1 0)
  rw [if_pos h]
theorem bx3_0 {a : mA} {k n : Nat} {m : Nat → Nat} (h : ¬ (bx3i a m k n n = 1 ∨ (bx3i a m k n k = 1 ∧ a 7 k = 1 ∧ mHas a k n = true))) : va_up (bx3i a m k n) n 0 = bx3i a m k (n + 1) := by
  show _ = va_up _ n (ite _ 1 0)
  rw [if_neg h]
theorem inNN {a b c : Nat} (ha : a < 1048576) (hb : b < 1048576) (hc : c < 1048576) : (decide (nI a ≤ nI b) && decide (nI b ≤ nI c)) = true ↔ a ≤ b ∧ b ≤ c := by
  rw [Bool.and_eq_true, decide_eq_true_eq, decide_eq_true_eq, nI_leI (by omega) (by omega), nI_leI (by omega) (by omega)]
set_option maxRecDepth 100000 in
set_option maxHeartbeats 4000000 in
theorem m_inBox (l : Launch) (hlt : l.stackTraces = false) (G : jG) {mo : Nat} {ad : Nat → Nat} {h0 : jH} (M : mG mo ad) (s : mS) (a : mA) (x y u v w : Int32) (J : IS s) (I : IA a) : jM l G yX4_inBox wsX4_inBox 3 70 0 0 [.ref mo, .int x, .int y, .int u, .int v, .int w] (hM G mo ad h0 s a) (fun r h' => r = some (.int (oInBox s a x y u v w).1) ∧ h' = hM G mo ad h0 (oInBox s a x y u v w).2.1 (oInBox s a x y u v w).2.2) (fun _ _ => False) := by
  have h6 := J.2.1
  have h2 := J.2.2.1
  have h4 := J.2.2.2.1
  have h10 := J.2.2.2.2.1
  have hs0 := J.1 0
  have hs1 := J.1 1
  refine jM_of (cc := cX4_inBox) (maxL := 9) (ret := (some .int)) hlt (by decide +kernel) rfl (Nat.le_of_ble_eq_true rfl) ?_
  intro X C E hXl hXR hXn
  have hin : ∀ w ∈ u_ws RX4 TX4 26, w ∈ wsX4_inBox := by decide +kernel
  show jW X G 9 0 0 0 [(0, .ref mo), (1, .int x), (2, .int y), (3, .int u), (4, .int v), (5, .int w)] [] ((hM G mo ad h0 s a))
  refine j_iload_n C (i := 1) (x := x) 1 rfl dX4_inBox_0 (pc' := 1) rfl ?_
  refine j_iconst C (v := nI 0) rfl dX4_inBox_1 (pc' := 2) rfl ?_
  refine j_bipush C (v := nI 99) rfl dX4_inBox_2 (pc' := 4) rfl ?_
  refine j_callS C (As := [.int x, .int (nI 0), .int (nI 99)]) (rest := []) (m_in X.2.1 C.2.2.2.2.2.2.2.2 G x (nI 0) (nI 99)) (va_cwS 3 C.2.2.2.2.1 gX4_inBox_X4_in rfl rfl rfl (by decide +kernel) (by rw [hXR]; decide)) rfl rfl (Nat.le_of_ble_eq_true rfl) dX4_inBox_4 (pc' := 7) rfl (by rw [hXR]; exact Nat.zero_le _) (by rw [hXR]; exact Nat.zero_le _) (fun _ _ z => z.elim) ?_
  rintro r h' ⟨rfl, rfl⟩
  show jW X G 9 0 0 7 [(0, .ref mo), (1, .int x), (2, .int y), (3, .int u), (4, .int v), (5, .int w)] [.int (bI (decide (nI 0 ≤ x) && decide (x ≤ nI 99)))] ((hM G mo ad h0 s a))
  rcases hb_1 : (decide (nI 0 ≤ x) && decide (x ≤ nI 99)) with _ | _
  · show jW X G 9 0 0 7 [(0, .ref mo), (1, .int x), (2, .int y), (3, .int u), (4, .int v), (5, .int w)] [.int (nI 0)] ((hM G mo ad h0 s a))
    refine j_if_eq C dX4_inBox_7 (tgt := 55) (by decide) (pc' := 10) rfl (fun _ => ?_) (fun c_2 => absurd (by decide) c_2)
    refine j_iconst C (v := nI 0) rfl dX4_inBox_55 (pc' := 56) rfl ?_
    refine j_istore C (i := 6) (x := nI 0) (l' := [(6, .int (nI 0)), (0, .ref mo), (1, .int x), (2, .int y), (3, .int u), (4, .int v), (5, .int w)]) dX4_inBox_56 (pc' := 58) rfl (by decide) rfl ?_
    refine j_aload_n C (i := 0) (x := mo) 1 rfl dX4_inBox_58 (pc' := 59) rfl ?_
    refine j_iload C (i := 6) (x := nI 0) 0 rfl dX4_inBox_59 (pc' := 61) rfl ?_
    refine j_iconst C (v := nI 1) rfl dX4_inBox_61 (pc' := 62) rfl ?_
    refine j_iconst C (v := nI 1) rfl dX4_inBox_62 (pc' := 63) rfl ?_
    refine j_callV C (As := [.int (nI 0), .int (nI 1), .int (nI 1)]) (rest := []) (m_goes X.2.1 C.2.2.2.2.2.2.2.2 G M s a false true true) (cwV 3 C.2.2.2.2.1 gX4_inBox_X4_goes rfl rfl rfl (by decide +kernel) (by rw [hXR]; decide)) hM_obj rfl rfl rfl (Nat.le_of_ble_eq_true rfl) dX4_inBox_63 (pc' := 66) rfl (by rw [hXR]; exact Nat.zero_le _) (by rw [hXR]; exact Nat.zero_le _) (fun _ _ z => z.elim) ?_
    rintro r h' ⟨rfl, rfl⟩
    show jW X G 9 0 0 66 [(6, .int (nI 0)), (0, .ref mo), (1, .int x), (2, .int y), (3, .int u), (4, .int v), (5, .int w)] [.int (nI 0)] ((hM G mo ad h0 (va_up s 25 1) a))
    refine j_if_ne C dX4_inBox_66 (tgt := 71) (by decide) (pc' := 69) rfl (fun c_3 => absurd (by decide) c_3) (fun _ => ?_)
    refine j_iconst C (v := nI 0) rfl dX4_inBox_69 (pc' := 70) rfl ?_
    exact j_iret C E dX4_inBox_70 rfl (Nat.le_refl _) (Nat.le_refl _) (o_leaf (by unfold oInBox; exact oel (fun z => bff hb_1 z.1) rfl))
  · show jW X G 9 0 0 7 [(0, .ref mo), (1, .int x), (2, .int y), (3, .int u), (4, .int v), (5, .int w)] [.int (nI 1)] ((hM G mo ad h0 s a))
    obtain ⟨x1, lx1, hx1, rfl⟩ := inR_of (by omega) (by omega) (show inR _ 0 99 = true from hb_1)
    refine j_if_eq C dX4_inBox_7 (tgt := 55) (by decide) (pc' := 10) rfl (fun c_4 => absurd c_4 (by decide)) (fun _ => ?_)
    refine j_iload_n C (i := 2) (x := y) 2 rfl dX4_inBox_10 (pc' := 11) rfl ?_
    refine j_iconst C (v := nI 0) rfl dX4_inBox_11 (pc' := 12) rfl ?_
    refine j_bipush C (v := nI 99) rfl dX4_inBox_12 (pc' := 14) rfl ?_
    refine j_callS C (As := [.int y, .int (nI 0), .int (nI 99)]) (rest := []) (m_in X.2.1 C.2.2.2.2.2.2.2.2 G y (nI 0) (nI 99)) (va_cwS 3 C.2.2.2.2.1 gX4_inBox_X4_in rfl rfl rfl (by decide +kernel) (by rw [hXR]; decide)) rfl rfl (Nat.le_of_ble_eq_true rfl) dX4_inBox_14 (pc' := 17) rfl (by rw [hXR]; exact Nat.zero_le _) (by rw [hXR]; exact Nat.zero_le _) (fun _ _ z => z.elim) ?_
    rintro r h' ⟨rfl, rfl⟩
    show jW X G 9 0 0 17 [(0, .ref mo), (1, .int (nI x1)), (2, .int y), (3, .int u), (4, .int v), (5, .int w)] [.int (bI (decide (nI 0 ≤ y) && decide (y ≤ nI 99)))] ((hM G mo ad h0 s a))
    rcases hb_5 : (decide (nI 0 ≤ y) && decide (y ≤ nI 99)) with _ | _
    · show jW X G 9 0 0 17 [(0, .ref mo), (1, .int (nI x1)), (2, .int y), (3, .int u), (4, .int v), (5, .int w)] [.int (nI 0)] ((hM G mo ad h0 s a))
      refine j_if_eq C dX4_inBox_17 (tgt := 55) (by decide) (pc' := 20) rfl (fun _ => ?_) (fun c_6 => absurd (by decide) c_6)
      refine j_iconst C (v := nI 0) rfl dX4_inBox_55 (pc' := 56) rfl ?_
      refine j_istore C (i := 6) (x := nI 0) (l' := [(6, .int (nI 0)), (0, .ref mo), (1, .int (nI x1)), (2, .int y), (3, .int u), (4, .int v), (5, .int w)]) dX4_inBox_56 (pc' := 58) rfl (by decide) rfl ?_
      refine j_aload_n C (i := 0) (x := mo) 1 rfl dX4_inBox_58 (pc' := 59) rfl ?_
      refine j_iload C (i := 6) (x := nI 0) 0 rfl dX4_inBox_59 (pc' := 61) rfl ?_
      refine j_iconst C (v := nI 1) rfl dX4_inBox_61 (pc' := 62) rfl ?_
      refine j_iconst C (v := nI 1) rfl dX4_inBox_62 (pc' := 63) rfl ?_
      refine j_callV C (As := [.int (nI 0), .int (nI 1), .int (nI 1)]) (rest := []) (m_goes X.2.1 C.2.2.2.2.2.2.2.2 G M s a false true true) (cwV 3 C.2.2.2.2.1 gX4_inBox_X4_goes rfl rfl rfl (by decide +kernel) (by rw [hXR]; decide)) hM_obj rfl rfl rfl (Nat.le_of_ble_eq_true rfl) dX4_inBox_63 (pc' := 66) rfl (by rw [hXR]; exact Nat.zero_le _) (by rw [hXR]; exact Nat.zero_le _) (fun _ _ z => z.elim) ?_
      rintro r h' ⟨rfl, rfl⟩
      show jW X G 9 0 0 66 [(6, .int (nI 0)), (0, .ref mo), (1, .int (nI x1)), (2, .int y), (3, .int u), (4, .int v), (5, .int w)] [.int (nI 0)] ((hM G mo ad h0 (va_up s 25 1) a))
      refine j_if_ne C dX4_inBox_66 (tgt := 71) (by decide) (pc' := 69) rfl (fun c_7 => absurd (by decide) c_7) (fun _ => ?_)
      refine j_iconst C (v := nI 0) rfl dX4_inBox_69 (pc' := 70) rfl ?_
      exact j_iret C E dX4_inBox_70 rfl (Nat.le_refl _) (Nat.le_refl _) (o_leaf (by unfold oInBox; simp only [tn_nI (show x1 < 2 ^ 31 by omega)]; exact oel (fun z => bff hb_5 z.2.1) rfl))
    · show jW X G 9 0 0 17 [(0, .ref mo), (1, .int (nI x1)), (2, .int y), (3, .int u), (4, .int v), (5, .int w)] [.int (nI 1)] ((hM G mo ad h0 s a))
      obtain ⟨y1, ly1, hy1, rfl⟩ := inR_of (by omega) (by omega) (show inR _ 0 99 = true from hb_5)
      refine j_if_eq C dX4_inBox_17 (tgt := 55) (by decide) (pc' := 20) rfl (fun c_8 => absurd c_8 (by decide)) (fun _ => ?_)
      refine j_iload_n C (i := 3) (x := u) 3 rfl dX4_inBox_20 (pc' := 21) rfl ?_
      refine j_iload_n C (i := 1) (x := nI x1) 1 rfl dX4_inBox_21 (pc' := 22) rfl ?_
      refine j_bipush C (v := nI 99) rfl dX4_inBox_22 (pc' := 24) rfl ?_
      refine j_callS C (As := [.int u, .int (nI x1), .int (nI 99)]) (rest := []) (m_in X.2.1 C.2.2.2.2.2.2.2.2 G u (nI x1) (nI 99)) (va_cwS 3 C.2.2.2.2.1 gX4_inBox_X4_in rfl rfl rfl (by decide +kernel) (by rw [hXR]; decide)) rfl rfl (Nat.le_of_ble_eq_true rfl) dX4_inBox_24 (pc' := 27) rfl (by rw [hXR]; exact Nat.zero_le _) (by rw [hXR]; exact Nat.zero_le _) (fun _ _ z => z.elim) ?_
      rintro r h' ⟨rfl, rfl⟩
      show jW X G 9 0 0 27 [(0, .ref mo), (1, .int (nI x1)), (2, .int (nI y1)), (3, .int u), (4, .int v), (5, .int w)] [.int (bI (decide (nI x1 ≤ u) && decide (u ≤ nI 99)))] ((hM G mo ad h0 s a))
      rcases hb_9 : (decide (nI x1 ≤ u) && decide (u ≤ nI 99)) with _ | _
      · show jW X G 9 0 0 27 [(0, .ref mo), (1, .int (nI x1)), (2, .int (nI y1)), (3, .int u), (4, .int v), (5, .int w)] [.int (nI 0)] ((hM G mo ad h0 s a))
        refine j_if_eq C dX4_inBox_27 (tgt := 55) (by decide) (pc' := 30) rfl (fun _ => ?_) (fun c_10 => absurd (by decide) c_10)
        refine j_iconst C (v := nI 0) rfl dX4_inBox_55 (pc' := 56) rfl ?_
        refine j_istore C (i := 6) (x := nI 0) (l' := [(6, .int (nI 0)), (0, .ref mo), (1, .int (nI x1)), (2, .int (nI y1)), (3, .int u), (4, .int v), (5, .int w)]) dX4_inBox_56 (pc' := 58) rfl (by decide) rfl ?_
        refine j_aload_n C (i := 0) (x := mo) 1 rfl dX4_inBox_58 (pc' := 59) rfl ?_
        refine j_iload C (i := 6) (x := nI 0) 0 rfl dX4_inBox_59 (pc' := 61) rfl ?_
        refine j_iconst C (v := nI 1) rfl dX4_inBox_61 (pc' := 62) rfl ?_
        refine j_iconst C (v := nI 1) rfl dX4_inBox_62 (pc' := 63) rfl ?_
        refine j_callV C (As := [.int (nI 0), .int (nI 1), .int (nI 1)]) (rest := []) (m_goes X.2.1 C.2.2.2.2.2.2.2.2 G M s a false true true) (cwV 3 C.2.2.2.2.1 gX4_inBox_X4_goes rfl rfl rfl (by decide +kernel) (by rw [hXR]; decide)) hM_obj rfl rfl rfl (Nat.le_of_ble_eq_true rfl) dX4_inBox_63 (pc' := 66) rfl (by rw [hXR]; exact Nat.zero_le _) (by rw [hXR]; exact Nat.zero_le _) (fun _ _ z => z.elim) ?_
        rintro r h' ⟨rfl, rfl⟩
        show jW X G 9 0 0 66 [(6, .int (nI 0)), (0, .ref mo), (1, .int (nI x1)), (2, .int (nI y1)), (3, .int u), (4, .int v), (5, .int w)] [.int (nI 0)] ((hM G mo ad h0 (va_up s 25 1) a))
        refine j_if_ne C dX4_inBox_66 (tgt := 71) (by decide) (pc' := 69) rfl (fun c_11 => absurd (by decide) c_11) (fun _ => ?_)
        refine j_iconst C (v := nI 0) rfl dX4_inBox_69 (pc' := 70) rfl ?_
        exact j_iret C E dX4_inBox_70 rfl (Nat.le_refl _) (Nat.le_refl _) (o_leaf (by unfold oInBox; simp only [tn_nI (show x1 < 2 ^ 31 by omega), tn_nI (show y1 < 2 ^ 31 by omega)]; exact oel (fun z => bff hb_9 z.2.2.1) rfl))
      · show jW X G 9 0 0 27 [(0, .ref mo), (1, .int (nI x1)), (2, .int (nI y1)), (3, .int u), (4, .int v), (5, .int w)] [.int (nI 1)] ((hM G mo ad h0 s a))
        obtain ⟨u1, lu1, hu1, rfl⟩ := inR_of (by omega) (by omega) (show inR _ x1 99 = true from hb_9)
        refine j_if_eq C dX4_inBox_27 (tgt := 55) (by decide) (pc' := 30) rfl (fun c_12 => absurd c_12 (by decide)) (fun _ => ?_)
        refine j_iload C (i := 4) (x := v) 4 rfl dX4_inBox_30 (pc' := 32) rfl ?_
        refine j_iload_n C (i := 2) (x := nI y1) 2 rfl dX4_inBox_32 (pc' := 33) rfl ?_
        refine j_bipush C (v := nI 99) rfl dX4_inBox_33 (pc' := 35) rfl ?_
        refine j_callS C (As := [.int v, .int (nI y1), .int (nI 99)]) (rest := []) (m_in X.2.1 C.2.2.2.2.2.2.2.2 G v (nI y1) (nI 99)) (va_cwS 3 C.2.2.2.2.1 gX4_inBox_X4_in rfl rfl rfl (by decide +kernel) (by rw [hXR]; decide)) rfl rfl (Nat.le_of_ble_eq_true rfl) dX4_inBox_35 (pc' := 38) rfl (by rw [hXR]; exact Nat.zero_le _) (by rw [hXR]; exact Nat.zero_le _) (fun _ _ z => z.elim) ?_
        rintro r h' ⟨rfl, rfl⟩
        show jW X G 9 0 0 38 [(0, .ref mo), (1, .int (nI x1)), (2, .int (nI y1)), (3, .int (nI u1)), (4, .int v), (5, .int w)] [.int (bI (decide (nI y1 ≤ v) && decide (v ≤ nI 99)))] ((hM G mo ad h0 s a))
        rcases hb_13 : (decide (nI y1 ≤ v) && decide (v ≤ nI 99)) with _ | _
        · show jW X G 9 0 0 38 [(0, .ref mo), (1, .int (nI x1)), (2, .int (nI y1)), (3, .int (nI u1)), (4, .int v), (5, .int w)] [.int (nI 0)] ((hM G mo ad h0 s a))
          refine j_if_eq C dX4_inBox_38 (tgt := 55) (by decide) (pc' := 41) rfl (fun _ => ?_) (fun c_14 => absurd (by decide) c_14)
          refine j_iconst C (v := nI 0) rfl dX4_inBox_55 (pc' := 56) rfl ?_
          refine j_istore C (i := 6) (x := nI 0) (l' := [(6, .int (nI 0)), (0, .ref mo), (1, .int (nI x1)), (2, .int (nI y1)), (3, .int (nI u1)), (4, .int v), (5, .int w)]) dX4_inBox_56 (pc' := 58) rfl (by decide) rfl ?_
          refine j_aload_n C (i := 0) (x := mo) 1 rfl dX4_inBox_58 (pc' := 59) rfl ?_
          refine j_iload C (i := 6) (x := nI 0) 0 rfl dX4_inBox_59 (pc' := 61) rfl ?_
          refine j_iconst C (v := nI 1) rfl dX4_inBox_61 (pc' := 62) rfl ?_
          refine j_iconst C (v := nI 1) rfl dX4_inBox_62 (pc' := 63) rfl ?_
          refine j_callV C (As := [.int (nI 0), .int (nI 1), .int (nI 1)]) (rest := []) (m_goes X.2.1 C.2.2.2.2.2.2.2.2 G M s a false true true) (cwV 3 C.2.2.2.2.1 gX4_inBox_X4_goes rfl rfl rfl (by decide +kernel) (by rw [hXR]; decide)) hM_obj rfl rfl rfl (Nat.le_of_ble_eq_true rfl) dX4_inBox_63 (pc' := 66) rfl (by rw [hXR]; exact Nat.zero_le _) (by rw [hXR]; exact Nat.zero_le _) (fun _ _ z => z.elim) ?_
          rintro r h' ⟨rfl, rfl⟩
          show jW X G 9 0 0 66 [(6, .int (nI 0)), (0, .ref mo), (1, .int (nI x1)), (2, .int (nI y1)), (3, .int (nI u1)), (4, .int v), (5, .int w)] [.int (nI 0)] ((hM G mo ad h0 (va_up s 25 1) a))
          refine j_if_ne C dX4_inBox_66 (tgt := 71) (by decide) (pc' := 69) rfl (fun c_15 => absurd (by decide) c_15) (fun _ => ?_)
          refine j_iconst C (v := nI 0) rfl dX4_inBox_69 (pc' := 70) rfl ?_
          exact j_iret C E dX4_inBox_70 rfl (Nat.le_refl _) (Nat.le_refl _) (o_leaf (by unfold oInBox; simp only [tn_nI (show x1 < 2 ^ 31 by omega), tn_nI (show y1 < 2 ^ 31 by omega)]; exact oel (fun z => bff hb_13 z.2.2.2.1) rfl))
        · show jW X G 9 0 0 38 [(0, .ref mo), (1, .int (nI x1)), (2, .int (nI y1)), (3, .int (nI u1)), (4, .int v), (5, .int w)] [.int (nI 1)] ((hM G mo ad h0 s a))
          obtain ⟨v1, lv1, hv1, rfl⟩ := inR_of (by omega) (by omega) (show inR _ y1 99 = true from hb_13)
          refine j_if_eq C dX4_inBox_38 (tgt := 55) (by decide) (pc' := 41) rfl (fun c_16 => absurd c_16 (by decide)) (fun _ => ?_)
          refine j_iload C (i := 5) (x := w) 5 rfl dX4_inBox_41 (pc' := 43) rfl ?_
          refine j_iconst C (v := nI 0) rfl dX4_inBox_43 (pc' := 44) rfl ?_
          refine j_iconst C (v := nI 2) rfl dX4_inBox_44 (pc' := 45) rfl ?_
          refine j_callS C (As := [.int w, .int (nI 0), .int (nI 2)]) (rest := []) (m_in X.2.1 C.2.2.2.2.2.2.2.2 G w (nI 0) (nI 2)) (va_cwS 3 C.2.2.2.2.1 gX4_inBox_X4_in rfl rfl rfl (by decide +kernel) (by rw [hXR]; decide)) rfl rfl (Nat.le_of_ble_eq_true rfl) dX4_inBox_45 (pc' := 48) rfl (by rw [hXR]; exact Nat.zero_le _) (by rw [hXR]; exact Nat.zero_le _) (fun _ _ z => z.elim) ?_
          rintro r h' ⟨rfl, rfl⟩
          show jW X G 9 0 0 48 [(0, .ref mo), (1, .int (nI x1)), (2, .int (nI y1)), (3, .int (nI u1)), (4, .int (nI v1)), (5, .int w)] [.int (bI (decide (nI 0 ≤ w) && decide (w ≤ nI 2)))] ((hM G mo ad h0 s a))
          rcases hb_17 : (decide (nI 0 ≤ w) && decide (w ≤ nI 2)) with _ | _
          · show jW X G 9 0 0 48 [(0, .ref mo), (1, .int (nI x1)), (2, .int (nI y1)), (3, .int (nI u1)), (4, .int (nI v1)), (5, .int w)] [.int (nI 0)] ((hM G mo ad h0 s a))
            refine j_if_eq C dX4_inBox_48 (tgt := 55) (by decide) (pc' := 51) rfl (fun _ => ?_) (fun c_18 => absurd (by decide) c_18)
            refine j_iconst C (v := nI 0) rfl dX4_inBox_55 (pc' := 56) rfl ?_
            refine j_istore C (i := 6) (x := nI 0) (l' := [(6, .int (nI 0)), (0, .ref mo), (1, .int (nI x1)), (2, .int (nI y1)), (3, .int (nI u1)), (4, .int (nI v1)), (5, .int w)]) dX4_inBox_56 (pc' := 58) rfl (by decide) rfl ?_
            refine j_aload_n C (i := 0) (x := mo) 1 rfl dX4_inBox_58 (pc' := 59) rfl ?_
            refine j_iload C (i := 6) (x := nI 0) 0 rfl dX4_inBox_59 (pc' := 61) rfl ?_
            refine j_iconst C (v := nI 1) rfl dX4_inBox_61 (pc' := 62) rfl ?_
            refine j_iconst C (v := nI 1) rfl dX4_inBox_62 (pc' := 63) rfl ?_
            refine j_callV C (As := [.int (nI 0), .int (nI 1), .int (nI 1)]) (rest := []) (m_goes X.2.1 C.2.2.2.2.2.2.2.2 G M s a false true true) (cwV 3 C.2.2.2.2.1 gX4_inBox_X4_goes rfl rfl rfl (by decide +kernel) (by rw [hXR]; decide)) hM_obj rfl rfl rfl (Nat.le_of_ble_eq_true rfl) dX4_inBox_63 (pc' := 66) rfl (by rw [hXR]; exact Nat.zero_le _) (by rw [hXR]; exact Nat.zero_le _) (fun _ _ z => z.elim) ?_
            rintro r h' ⟨rfl, rfl⟩
            show jW X G 9 0 0 66 [(6, .int (nI 0)), (0, .ref mo), (1, .int (nI x1)), (2, .int (nI y1)), (3, .int (nI u1)), (4, .int (nI v1)), (5, .int w)] [.int (nI 0)] ((hM G mo ad h0 (va_up s 25 1) a))
            refine j_if_ne C dX4_inBox_66 (tgt := 71) (by decide) (pc' := 69) rfl (fun c_19 => absurd (by decide) c_19) (fun _ => ?_)
            refine j_iconst C (v := nI 0) rfl dX4_inBox_69 (pc' := 70) rfl ?_
            exact j_iret C E dX4_inBox_70 rfl (Nat.le_refl _) (Nat.le_refl _) (o_leaf (by unfold oInBox; simp only [tn_nI (show x1 < 2 ^ 31 by omega), tn_nI (show y1 < 2 ^ 31 by omega)]; exact oel (fun z => bff hb_17 z.2.2.2.2) rfl))
          · show jW X G 9 0 0 48 [(0, .ref mo), (1, .int (nI x1)), (2, .int (nI y1)), (3, .int (nI u1)), (4, .int (nI v1)), (5, .int w)] [.int (nI 1)] ((hM G mo ad h0 s a))
            obtain ⟨w1, lw1, hw1, rfl⟩ := inR_of (by omega) (by omega) (show inR _ 0 2 = true from hb_17)
            refine j_if_eq C dX4_inBox_48 (tgt := 55) (by decide) (pc' := 51) rfl (fun c_20 => absurd c_20 (by decide)) (fun _ => ?_)
            refine j_iconst C (v := nI 1) rfl dX4_inBox_51 (pc' := 52) rfl ?_
            refine j_goto C dX4_inBox_52 (pc' := 56) (by decide) ?_
            refine j_istore C (i := 6) (x := nI 1) (l' := [(6, .int (nI 1)), (0, .ref mo), (1, .int (nI x1)), (2, .int (nI y1)), (3, .int (nI u1)), (4, .int (nI v1)), (5, .int (nI w1))]) dX4_inBox_56 (pc' := 58) rfl (by decide) rfl ?_
            refine j_aload_n C (i := 0) (x := mo) 1 rfl dX4_inBox_58 (pc' := 59) rfl ?_
            refine j_iload C (i := 6) (x := nI 1) 0 rfl dX4_inBox_59 (pc' := 61) rfl ?_
            refine j_iconst C (v := nI 1) rfl dX4_inBox_61 (pc' := 62) rfl ?_
            refine j_iconst C (v := nI 1) rfl dX4_inBox_62 (pc' := 63) rfl ?_
            refine j_callV C (As := [.int (nI 1), .int (nI 1), .int (nI 1)]) (rest := []) (m_goes X.2.1 C.2.2.2.2.2.2.2.2 G M s a true true true) (cwV 3 C.2.2.2.2.1 gX4_inBox_X4_goes rfl rfl rfl (by decide +kernel) (by rw [hXR]; decide)) hM_obj rfl rfl rfl (Nat.le_of_ble_eq_true rfl) dX4_inBox_63 (pc' := 66) rfl (by rw [hXR]; exact Nat.zero_le _) (by rw [hXR]; exact Nat.zero_le _) (fun _ _ z => z.elim) ?_
            rintro r h' ⟨rfl, rfl⟩
            show jW X G 9 0 0 66 [(6, .int (nI 1)), (0, .ref mo), (1, .int (nI x1)), (2, .int (nI y1)), (3, .int (nI u1)), (4, .int (nI v1)), (5, .int (nI w1))] [.int (nI 1)] ((hM G mo ad h0 (va_up s 25 0) a))
            refine j_if_ne C dX4_inBox_66 (tgt := 71) (by decide) (pc' := 69) rfl (fun _ => ?_) (fun c_21 => absurd c_21 (by decide))
            refine j_iconst C (v := nI 0) rfl dX4_inBox_71 (pc' := 72) rfl ?_
            refine j_istore C (i := 7) (x := nI 0) (l' := [(7, .int (nI 0)), (6, .int (nI 1)), (0, .ref mo), (1, .int (nI x1)), (2, .int (nI y1)), (3, .int (nI u1)), (4, .int (nI v1)), (5, .int (nI w1))]) dX4_inBox_72 (pc' := 74) rfl (by decide) rfl ?_
            have L_74 : ∀ (N_74 : Nat) (k : Nat), (s 6 - k) < N_74 → (k ≤ s 6) → jW X G 9 0 0 74 [(0, .ref mo), (1, .int (nI x1)), (2, .int (nI y1)), (3, .int (nI u1)), (4, .int (nI v1)), (5, .int (nI w1)), (6, .int (nI 1)), (7, .int (nI k))] [] ((hM G mo ad h0 (va_up s 25 0) (va_up a 22 (bx1 a x1 y1 u1 v1 k)))) := by
              intro N_74
              induction N_74 with
              | zero => intro k hm_74 hk; omega
              | succ N_74 ih_74 =>
                intro k hm_74 hk
                have bcur : ∀ j, (bx1 a x1 y1 u1 v1 k) j ≤ 1 := bx1_le I x1 y1 u1 v1 k
                refine j_iload C (i := 7) (x := nI k) 7 rfl dX4_inBox_74 (pc' := 76) rfl ?_
                refine j_aload_n C (i := 0) (x := mo) 0 rfl dX4_inBox_76 (pc' := 77) rfl ?_
                refine m_get C (f := 6) (idx := 69) hin (by decide) rfl (by decide +kernel) dX4_inBox_77 (pc' := 80) rfl ?_
                show jW X G 9 0 0 80 [(0, .ref mo), (1, .int (nI x1)), (2, .int (nI y1)), (3, .int (nI u1)), (4, .int (nI v1)), (5, .int (nI w1)), (6, .int (nI 1)), (7, .int (nI k))] [.int (nI (s 6)), .int (nI k)] ((hM G mo ad h0 (va_up s 25 0) (va_up a 22 (bx1 a x1 y1 u1 v1 k))))
                refine j_icmp_ge C dX4_inBox_80 (tgt := 161) (by decide) (pc' := 83) rfl (fun c_22 => ?_) (fun c_22 => ?_)
                · have c_22 := (nI_leI (a := s 6) (b := k) (by omega) (by omega)).mp c_22
                  have c_22 : (s 6) ≤ k := c_22
                  refine j_iconst C (v := nI 0) rfl dX4_inBox_161 (pc' := 162) rfl ?_
                  refine j_istore C (i := 7) (x := nI 0) (l' := [(7, .int (nI 0)), (0, .ref mo), (1, .int (nI x1)), (2, .int (nI y1)), (3, .int (nI u1)), (4, .int (nI v1)), (5, .int (nI w1)), (6, .int (nI 1))]) dX4_inBox_162 (pc' := 164) rfl (by decide) rfl ?_
                  have L_164 : ∀ (N_164 : Nat) (k : Nat), (s 6 - k) < N_164 → (k ≤ s 6) → jW X G 9 0 0 164 [(0, .ref mo), (1, .int (nI x1)), (2, .int (nI y1)), (3, .int (nI u1)), (4, .int (nI v1)), (5, .int (nI w1)), (6, .int (nI 1)), (7, .int (nI k))] [] ((hM G mo ad h0 (va_up s 25 0) (va_up a 22 (bx2 s a 1 0 0 (bx1 a x1 y1 u1 v1 (s 6)) k)))) := by
                    intro N_164
                    induction N_164 with
                    | zero => intro k hm_164 hk; omega
                    | succ N_164 ih_164 =>
                      intro k hm_164 hk
                      have bcur : ∀ j, (bx2 s a 1 0 0 (bx1 a x1 y1 u1 v1 (s 6)) k) j ≤ 1 := bx2_le (bx1_le I x1 y1 u1 v1 (s 6)) k
                      refine j_iload C (i := 7) (x := nI k) 7 rfl dX4_inBox_164 (pc' := 166) rfl ?_
                      refine j_aload_n C (i := 0) (x := mo) 0 rfl dX4_inBox_166 (pc' := 167) rfl ?_
                      refine m_get C (f := 6) (idx := 69) hin (by decide) rfl (by decide +kernel) dX4_inBox_167 (pc' := 170) rfl ?_
                      show jW X G 9 0 0 170 [(0, .ref mo), (1, .int (nI x1)), (2, .int (nI y1)), (3, .int (nI u1)), (4, .int (nI v1)), (5, .int (nI w1)), (6, .int (nI 1)), (7, .int (nI k))] [.int (nI (s 6)), .int (nI k)] ((hM G mo ad h0 (va_up s 25 0) (va_up a 22 (bx2 s a 1 0 0 (bx1 a x1 y1 u1 v1 (s 6)) k))))
                      refine j_icmp_ge C dX4_inBox_170 (tgt := 223) (by decide) (pc' := 173) rfl (fun c_23 => ?_) (fun c_23 => ?_)
                      · have c_23 := (nI_leI (a := s 6) (b := k) (by omega) (by omega)).mp c_23
                        have c_23 : (s 6) ≤ k := c_23
                        refine j_iconst C (v := nI 0) rfl dX4_inBox_223 (pc' := 224) rfl ?_
                        refine j_istore C (i := 7) (x := nI 0) (l' := [(7, .int (nI 0)), (0, .ref mo), (1, .int (nI x1)), (2, .int (nI y1)), (3, .int (nI u1)), (4, .int (nI v1)), (5, .int (nI w1)), (6, .int (nI 1))]) dX4_inBox_224 (pc' := 226) rfl (by decide) rfl ?_
                        have L_226 : ∀ (N_226 : Nat) (k : Nat), (s 6 - k) < N_226 → (k ≤ s 6) → jW X G 9 0 0 226 [(0, .ref mo), (1, .int (nI x1)), (2, .int (nI y1)), (3, .int (nI u1)), (4, .int (nI v1)), (5, .int (nI w1)), (6, .int (nI 1)), (7, .int (nI k))] [] ((hM G mo ad h0 (va_up s 25 0) (va_up a 22 (bx3 (s 6) a (bx2 s a 1 0 0 (bx1 a x1 y1 u1 v1 (s 6)) (s 6)) k)))) := by
                          intro N_226
                          induction N_226 with
                          | zero => intro k hm_226 hk; omega
                          | succ N_226 ih_226 =>
                            intro k hm_226 hk
                            have bcur : ∀ j, (bx3 (s 6) a (bx2 s a 1 0 0 (bx1 a x1 y1 u1 v1 (s 6)) (s 6)) k) j ≤ 1 := bx3_le (bx2_le (bx1_le I x1 y1 u1 v1 (s 6)) (s 6)) k
                            refine j_iload C (i := 7) (x := nI k) 7 rfl dX4_inBox_226 (pc' := 228) rfl ?_
                            refine j_aload_n C (i := 0) (x := mo) 0 rfl dX4_inBox_228 (pc' := 229) rfl ?_
                            refine m_get C (f := 6) (idx := 69) hin (by decide) rfl (by decide +kernel) dX4_inBox_229 (pc' := 232) rfl ?_
                            show jW X G 9 0 0 232 [(0, .ref mo), (1, .int (nI x1)), (2, .int (nI y1)), (3, .int (nI u1)), (4, .int (nI v1)), (5, .int (nI w1)), (6, .int (nI 1)), (7, .int (nI k))] [.int (nI (s 6)), .int (nI k)] ((hM G mo ad h0 (va_up s 25 0) (va_up a 22 (bx3 (s 6) a (bx2 s a 1 0 0 (bx1 a x1 y1 u1 v1 (s 6)) (s 6)) k))))
                            refine j_icmp_ge C dX4_inBox_232 (tgt := 313) (by decide) (pc' := 235) rfl (fun c_24 => ?_) (fun c_24 => ?_)
                            · have c_24 := (nI_leI (a := s 6) (b := k) (by omega) (by omega)).mp c_24
                              have c_24 : (s 6) ≤ k := c_24
                              refine j_iconst C (v := nI 0) rfl dX4_inBox_313 (pc' := 314) rfl ?_
                              refine j_istore C (i := 7) (x := nI 0) (l' := [(7, .int (nI 0)), (0, .ref mo), (1, .int (nI x1)), (2, .int (nI y1)), (3, .int (nI u1)), (4, .int (nI v1)), (5, .int (nI w1)), (6, .int (nI 1))]) dX4_inBox_314 (pc' := 316) rfl (by decide) rfl ?_
                              have L_316 : ∀ (N_316 : Nat) (k : Nat), (s 6 - k) < N_316 → (k ≤ s 6) → jW X G 9 0 0 316 [(0, .ref mo), (1, .int (nI x1)), (2, .int (nI y1)), (3, .int (nI u1)), (4, .int (nI v1)), (5, .int (nI w1)), (6, .int (nI 1)), (7, .int (nI k))] [] ((hM G mo ad h0 (va_up s 25 0) (va_up a 22 (bx2 s a 2 0 1 (bx3 (s 6) a (bx2 s a 1 0 0 (bx1 a x1 y1 u1 v1 (s 6)) (s 6)) (s 6)) k)))) := by
                                intro N_316
                                induction N_316 with
                                | zero => intro k hm_316 hk; omega
                                | succ N_316 ih_316 =>
                                  intro k hm_316 hk
                                  have bcur : ∀ j, (bx2 s a 2 0 1 (bx3 (s 6) a (bx2 s a 1 0 0 (bx1 a x1 y1 u1 v1 (s 6)) (s 6)) (s 6)) k) j ≤ 1 := bx2_le (bx3_le (bx2_le (bx1_le I x1 y1 u1 v1 (s 6)) (s 6)) (s 6)) k
                                  refine j_iload C (i := 7) (x := nI k) 7 rfl dX4_inBox_316 (pc' := 318) rfl ?_
                                  refine j_aload_n C (i := 0) (x := mo) 0 rfl dX4_inBox_318 (pc' := 319) rfl ?_
                                  refine m_get C (f := 6) (idx := 69) hin (by decide) rfl (by decide +kernel) dX4_inBox_319 (pc' := 322) rfl ?_
                                  show jW X G 9 0 0 322 [(0, .ref mo), (1, .int (nI x1)), (2, .int (nI y1)), (3, .int (nI u1)), (4, .int (nI v1)), (5, .int (nI w1)), (6, .int (nI 1)), (7, .int (nI k))] [.int (nI (s 6)), .int (nI k)] ((hM G mo ad h0 (va_up s 25 0) (va_up a 22 (bx2 s a 2 0 1 (bx3 (s 6) a (bx2 s a 1 0 0 (bx1 a x1 y1 u1 v1 (s 6)) (s 6)) (s 6)) k))))
                                  refine j_icmp_ge C dX4_inBox_322 (tgt := 375) (by decide) (pc' := 325) rfl (fun c_25 => ?_) (fun c_25 => ?_)
                                  · have c_25 := (nI_leI (a := s 6) (b := k) (by omega) (by omega)).mp c_25
                                    have c_25 : (s 6) ≤ k := c_25
                                    refine j_aload_n C (i := 0) (x := mo) 0 rfl dX4_inBox_375 (pc' := 376) rfl ?_
                                    refine j_iload C (i := 5) (x := nI w1) 5 rfl dX4_inBox_376 (pc' := 378) rfl ?_
                                    have bcur : ∀ j, (bx2 s a 2 0 1 (bx3 (s 6) a (bx2 s a 1 0 0 (bx1 a x1 y1 u1 v1 (s 6)) (s 6)) (s 6)) k) j ≤ 1 := bx2_le (bx3_le (bx2_le (bx1_le I x1 y1 u1 v1 (s 6)) (s 6)) (s 6)) k
                                    refine j_callV C (As := [.int (nI w1)]) (rest := []) (m_drawnOf X.2.1 C.2.2.2.2.2.2.2.2 G M (va_up s 25 0) (va_up a 22 (bx2 s a 2 0 1 (bx3 (s 6) a (bx2 s a 1 0 0 (bx1 a x1 y1 u1 v1 (s 6)) (s 6)) (s 6)) k)) w1 (IS.th J (v := 0) (by first | decide | exact gTh_le _ _ _)) (IA.up01 I (Or.inr rfl) bcur) (by omega)) (cwV 1 C.2.2.2.2.1 gX4_inBox_X4_drawnOf rfl rfl rfl (by decide +kernel) (by rw [hXR]; decide)) hM_obj rfl rfl rfl (Nat.le_of_ble_eq_true rfl) dX4_inBox_378 (pc' := 381) rfl (by rw [hXR]; exact Nat.zero_le _) (by rw [hXR]; exact Nat.zero_le _) (fun _ _ z => z.elim) ?_
                                    rintro r h' ⟨rfl, rfl⟩
                                    show jW X G 9 0 0 381 [(0, .ref mo), (1, .int (nI x1)), (2, .int (nI y1)), (3, .int (nI u1)), (4, .int (nI v1)), (5, .int (nI w1)), (6, .int (nI 1)), (7, .int (nI k))] [.int (nI (mDrawn (va_up s 25 0) (va_up a 22 (bx2 s a 2 0 1 (bx3 (s 6) a (bx2 s a 1 0 0 (bx1 a x1 y1 u1 v1 (s 6)) (s 6)) (s 6)) k)) w1))] ((hM G mo ad h0 (va_up s 25 0) (va_up a 22 (bx2 s a 2 0 1 (bx3 (s 6) a (bx2 s a 1 0 0 (bx1 a x1 y1 u1 v1 (s 6)) (s 6)) (s 6)) k))))
                                    exact j_iret C E dX4_inBox_381 rfl (Nat.le_refl _) (Nat.le_refl _) (o_leaf (by unfold oInBox bxD; simp only [tn_nI (show x1 < 2 ^ 31 by omega), tn_nI (show y1 < 2 ^ 31 by omega), tn_nI (show u1 < 2 ^ 31 by omega), tn_nI (show v1 < 2 ^ 31 by omega), tn_nI (show w1 < 2 ^ 31 by omega)]; exact oif ⟨hb_1, hb_5, hb_9, hb_13, hb_17⟩ (by rw [show s 6 = k from by omega]; rfl)))
                                  · have c_25 := fun zq => c_25 ((nI_leI (a := s 6) (b := k) (by omega) (by omega)).mpr zq)
                                    have c_25 : ¬ (s 6) ≤ k := c_25
                                    refine j_aload_n C (i := 0) (x := mo) 0 rfl dX4_inBox_325 (pc' := 326) rfl ?_
                                    refine m_geta C (f := 22) (idx := 59) hin (by decide) rfl (by decide +kernel) dX4_inBox_326 (pc' := 329) rfl ?_
                                    refine j_iload C (i := 7) (x := nI k) 7 rfl dX4_inBox_329 (pc' := 331) rfl ?_
                                    refine j_aload_n C (i := 0) (x := mo) 0 rfl dX4_inBox_331 (pc' := 332) rfl ?_
                                    refine m_geta C (f := 22) (idx := 59) hin (by decide) rfl (by decide +kernel) dX4_inBox_332 (pc' := 335) rfl ?_
                                    refine j_iload C (i := 7) (x := nI k) 7 rfl dX4_inBox_335 (pc' := 337) rfl ?_
                                    refine m_zld C M (f := 22) (j := k) (by decide) rfl rfl rfl (show k < 40 by omega) dX4_inBox_337 (pc' := 338) rfl ?_
                                    show jW X G 9 0 0 338 [(0, .ref mo), (1, .int (nI x1)), (2, .int (nI y1)), (3, .int (nI u1)), (4, .int (nI v1)), (5, .int (nI w1)), (6, .int (nI 1)), (7, .int (nI k))] [.int (nI (bx2 s a 2 0 1 (bx3 (s 6) a (bx2 s a 1 0 0 (bx1 a x1 y1 u1 v1 (s 6)) (s 6)) (s 6)) k k)), .int (nI k), .ref (ad 22)] ((hM G mo ad h0 (va_up s 25 0) (va_up a 22 (bx2 s a 2 0 1 (bx3 (s 6) a (bx2 s a 1 0 0 (bx1 a x1 y1 u1 v1 (s 6)) (s 6)) (s 6)) k))))
                                    have B_26 := bcur k
                                    refine j_if_ne C dX4_inBox_338 (tgt := 363) (by decide) (pc' := 341) rfl (fun c_27 => ?_) (fun c_27 => ?_)
                                    · have c_27 := fun zq => c_27 ((nI_eq (a := bx2 s a 2 0 1 (bx3 (s 6) a (bx2 s a 1 0 0 (bx1 a x1 y1 u1 v1 (s 6)) (s 6)) (s 6)) k k) (b := 0) (by omega) (by omega)).mpr zq)
                                      have c_27 : ¬ (bx2 s a 2 0 1 (bx3 (s 6) a (bx2 s a 1 0 0 (bx1 a x1 y1 u1 v1 (s 6)) (s 6)) (s 6)) k k) = 0 := c_27
                                      refine j_iconst C (v := nI 1) rfl dX4_inBox_363 (pc' := 364) rfl ?_
                                      refine j_goto C dX4_inBox_364 (pc' := 368) (by decide) ?_
                                      refine m_zst C M (f := 22) (j := k) (v := 1) (by decide) rfl rfl rfl (show k < 40 by omega) (by first | rfl | exact bI_vp _) dX4_inBox_368 (pc' := 369) rfl ?_
                                      refine j_iinc C (i := 7) (q := 7) (x := nI k) (v := nI (k + 1)) (l' := [(7, .int (nI (k + 1))), (0, .ref mo), (1, .int (nI x1)), (2, .int (nI y1)), (3, .int (nI u1)), (4, .int (nI v1)), (5, .int (nI w1)), (6, .int (nI 1))]) dX4_inBox_369 (pc' := 372) rfl rfl (nI_add _ _) (by decide) rfl ?_
                                      refine j_goto C dX4_inBox_372 (pc' := 316) (by decide) ?_
                                      refine jt_h (h' := hM G mo ad h0 (va_up s 25 0) (va_up a 22 (bx2 s a 2 0 1 (bx3 (s 6) a (bx2 s a 1 0 0 (bx1 a x1 y1 u1 v1 (s 6)) (s 6)) (s 6)) (k + 1)))) (by rw [up2_in]; exact congrArg (fun m => hM G mo ad h0 (va_up s 25 0) (va_up a 22 m)) (bx2_1 (Or.inl (by omega)))) ?_
                                      exact jW.locals [1, 2, 3, 4, 5, 6, 7, 0] rfl (ih_316 (k + 1) (by omega) (by omega))
                                    · have c_27 := (nI_eq (a := bx2 s a 2 0 1 (bx3 (s 6) a (bx2 s a 1 0 0 (bx1 a x1 y1 u1 v1 (s 6)) (s 6)) (s 6)) k k) (b := 0) (by omega) (by omega)).mp c_27
                                      have c_27 : (bx2 s a 2 0 1 (bx3 (s 6) a (bx2 s a 1 0 0 (bx1 a x1 y1 u1 v1 (s 6)) (s 6)) (s 6)) k k) = 0 := c_27
                                      refine j_aload_n C (i := 0) (x := mo) 0 rfl dX4_inBox_341 (pc' := 342) rfl ?_
                                      refine m_geta C (f := 7) (idx := 17) hin (by decide) rfl (by decide +kernel) dX4_inBox_342 (pc' := 345) rfl ?_
                                      refine j_iload C (i := 7) (x := nI k) 7 rfl dX4_inBox_345 (pc' := 347) rfl ?_
                                      refine m_ald C M (f := 7) (j := k) (by decide) rfl rfl rfl (show k < 40 by omega) dX4_inBox_347 (pc' := 348) rfl ?_
                                      show jW X G 9 0 0 348 [(0, .ref mo), (1, .int (nI x1)), (2, .int (nI y1)), (3, .int (nI u1)), (4, .int (nI v1)), (5, .int (nI w1)), (6, .int (nI 1)), (7, .int (nI k))] [.int (nI (a 7 k)), .int (nI k), .ref (ad 22)] ((hM G mo ad h0 (va_up s 25 0) (va_up a 22 (bx2 s a 2 0 1 (bx3 (s 6) a (bx2 s a 1 0 0 (bx1 a x1 y1 u1 v1 (s 6)) (s 6)) (s 6)) k))))
                                      have B_28 := IA.kind I k
                                      refine j_iconst C (v := nI 2) rfl dX4_inBox_348 (pc' := 349) rfl ?_
                                      refine j_icmp_ne C dX4_inBox_349 (tgt := 367) (by decide) (pc' := 352) rfl (fun c_29 => ?_) (fun c_29 => ?_)
                                      · have c_29 := fun zq => c_29 ((nI_eq (a := a 7 k) (b := 2) (by omega) (by omega)).mpr zq)
                                        have c_29 : ¬ (a 7 k) = 2 := c_29
                                        refine j_iconst C (v := nI 0) rfl dX4_inBox_367 (pc' := 368) rfl ?_
                                        refine m_zst C M (f := 22) (j := k) (v := 0) (by decide) rfl rfl rfl (show k < 40 by omega) (by first | rfl | exact bI_vp _) dX4_inBox_368 (pc' := 369) rfl ?_
                                        refine j_iinc C (i := 7) (q := 7) (x := nI k) (v := nI (k + 1)) (l' := [(7, .int (nI (k + 1))), (0, .ref mo), (1, .int (nI x1)), (2, .int (nI y1)), (3, .int (nI u1)), (4, .int (nI v1)), (5, .int (nI w1)), (6, .int (nI 1))]) dX4_inBox_369 (pc' := 372) rfl rfl (nI_add _ _) (by decide) rfl ?_
                                        refine j_goto C dX4_inBox_372 (pc' := 316) (by decide) ?_
                                        refine jt_h (h' := hM G mo ad h0 (va_up s 25 0) (va_up a 22 (bx2 s a 2 0 1 (bx3 (s 6) a (bx2 s a 1 0 0 (bx1 a x1 y1 u1 v1 (s 6)) (s 6)) (s 6)) (k + 1)))) (by rw [up2_in]; exact congrArg (fun m => hM G mo ad h0 (va_up s 25 0) (va_up a 22 m)) (bx2_0 (by rintro (h | ⟨h, _⟩) <;> omega))) ?_
                                        exact jW.locals [1, 2, 3, 4, 5, 6, 7, 0] rfl (ih_316 (k + 1) (by omega) (by omega))
                                      · have c_29 := (nI_eq (a := a 7 k) (b := 2) (by omega) (by omega)).mp c_29
                                        have c_29 : (a 7 k) = 2 := c_29
                                        refine j_aload_n C (i := 0) (x := mo) 0 rfl dX4_inBox_352 (pc' := 353) rfl ?_
                                        refine j_iload C (i := 7) (x := nI k) 7 rfl dX4_inBox_353 (pc' := 355) rfl ?_
                                        refine j_iconst C (v := nI 0) rfl dX4_inBox_355 (pc' := 356) rfl ?_
                                        refine j_iconst C (v := nI 1) rfl dX4_inBox_356 (pc' := 357) rfl ?_
                                        refine j_callV C (As := [.int (nI k), .int (nI 0), .int (nI 1)]) (rest := [.int (nI k), .ref (ad 22)]) (m_usesDrawn X.2.1 C.2.2.2.2.2.2.2.2 G M (va_up s 25 0) (va_up a 22 (bx2 s a 2 0 1 (bx3 (s 6) a (bx2 s a 1 0 0 (bx1 a x1 y1 u1 v1 (s 6)) (s 6)) (s 6)) k)) k 0 1 (IS.th J (v := 0) (by first | decide | exact gTh_le _ _ _)) (IA.up01 I (Or.inr rfl) bcur) (by omega) (by omega) (by omega)) (cwV 3 C.2.2.2.2.1 gX4_inBox_X4_usesDrawn rfl rfl rfl (by decide +kernel) (by rw [hXR]; decide)) hM_obj rfl rfl rfl (Nat.le_of_ble_eq_true rfl) dX4_inBox_357 (pc' := 360) rfl (by rw [hXR]; exact Nat.zero_le _) (by rw [hXR]; exact Nat.zero_le _) (fun _ _ z => z.elim) ?_
                                        rintro r h' ⟨rfl, rfl⟩
                                        show jW X G 9 0 0 360 [(0, .ref mo), (1, .int (nI x1)), (2, .int (nI y1)), (3, .int (nI u1)), (4, .int (nI v1)), (5, .int (nI w1)), (6, .int (nI 1)), (7, .int (nI k))] [.int (bI (mUsesD (va_up s 25 0) (va_up a 22 (bx2 s a 2 0 1 (bx3 (s 6) a (bx2 s a 1 0 0 (bx1 a x1 y1 u1 v1 (s 6)) (s 6)) (s 6)) k)) k 0 1)), .int (nI k), .ref (ad 22)] ((hM G mo ad h0 (va_up s 25 0) (va_up a 22 (bx2 s a 2 0 1 (bx3 (s 6) a (bx2 s a 1 0 0 (bx1 a x1 y1 u1 v1 (s 6)) (s 6)) (s 6)) k))))
                                        rcases hb_30 : (mUsesD (va_up s 25 0) (va_up a 22 (bx2 s a 2 0 1 (bx3 (s 6) a (bx2 s a 1 0 0 (bx1 a x1 y1 u1 v1 (s 6)) (s 6)) (s 6)) k)) k 0 1) with _ | _
                                        · show jW X G 9 0 0 360 [(0, .ref mo), (1, .int (nI x1)), (2, .int (nI y1)), (3, .int (nI u1)), (4, .int (nI v1)), (5, .int (nI w1)), (6, .int (nI 1)), (7, .int (nI k))] [.int (nI 0), .int (nI k), .ref (ad 22)] ((hM G mo ad h0 (va_up s 25 0) (va_up a 22 (bx2 s a 2 0 1 (bx3 (s 6) a (bx2 s a 1 0 0 (bx1 a x1 y1 u1 v1 (s 6)) (s 6)) (s 6)) k))))
                                          refine j_if_eq C dX4_inBox_360 (tgt := 367) (by decide) (pc' := 363) rfl (fun _ => ?_) (fun c_31 => absurd (by decide) c_31)
                                          refine j_iconst C (v := nI 0) rfl dX4_inBox_367 (pc' := 368) rfl ?_
                                          refine m_zst C M (f := 22) (j := k) (v := 0) (by decide) rfl rfl rfl (show k < 40 by omega) (by first | rfl | exact bI_vp _) dX4_inBox_368 (pc' := 369) rfl ?_
                                          refine j_iinc C (i := 7) (q := 7) (x := nI k) (v := nI (k + 1)) (l' := [(7, .int (nI (k + 1))), (0, .ref mo), (1, .int (nI x1)), (2, .int (nI y1)), (3, .int (nI u1)), (4, .int (nI v1)), (5, .int (nI w1)), (6, .int (nI 1))]) dX4_inBox_369 (pc' := 372) rfl rfl (nI_add _ _) (by decide) rfl ?_
                                          refine j_goto C dX4_inBox_372 (pc' := 316) (by decide) ?_
                                          refine jt_h (h' := hM G mo ad h0 (va_up s 25 0) (va_up a 22 (bx2 s a 2 0 1 (bx3 (s 6) a (bx2 s a 1 0 0 (bx1 a x1 y1 u1 v1 (s 6)) (s 6)) (s 6)) (k + 1)))) (by rw [up2_in]; exact congrArg (fun m => hM G mo ad h0 (va_up s 25 0) (va_up a 22 m)) (bx2_0 (by rintro (h | ⟨_, h⟩) <;> first | omega | exact bff hb_30 h))) ?_
                                          exact jW.locals [1, 2, 3, 4, 5, 6, 7, 0] rfl (ih_316 (k + 1) (by omega) (by omega))
                                        · show jW X G 9 0 0 360 [(0, .ref mo), (1, .int (nI x1)), (2, .int (nI y1)), (3, .int (nI u1)), (4, .int (nI v1)), (5, .int (nI w1)), (6, .int (nI 1)), (7, .int (nI k))] [.int (nI 1), .int (nI k), .ref (ad 22)] ((hM G mo ad h0 (va_up s 25 0) (va_up a 22 (bx2 s a 2 0 1 (bx3 (s 6) a (bx2 s a 1 0 0 (bx1 a x1 y1 u1 v1 (s 6)) (s 6)) (s 6)) k))))
                                          refine j_if_eq C dX4_inBox_360 (tgt := 367) (by decide) (pc' := 363) rfl (fun c_32 => absurd c_32 (by decide)) (fun _ => ?_)
                                          refine j_iconst C (v := nI 1) rfl dX4_inBox_363 (pc' := 364) rfl ?_
                                          refine j_goto C dX4_inBox_364 (pc' := 368) (by decide) ?_
                                          refine m_zst C M (f := 22) (j := k) (v := 1) (by decide) rfl rfl rfl (show k < 40 by omega) (by first | rfl | exact bI_vp _) dX4_inBox_368 (pc' := 369) rfl ?_
                                          refine j_iinc C (i := 7) (q := 7) (x := nI k) (v := nI (k + 1)) (l' := [(7, .int (nI (k + 1))), (0, .ref mo), (1, .int (nI x1)), (2, .int (nI y1)), (3, .int (nI u1)), (4, .int (nI v1)), (5, .int (nI w1)), (6, .int (nI 1))]) dX4_inBox_369 (pc' := 372) rfl rfl (nI_add _ _) (by decide) rfl ?_
                                          refine j_goto C dX4_inBox_372 (pc' := 316) (by decide) ?_
                                          refine jt_h (h' := hM G mo ad h0 (va_up s 25 0) (va_up a 22 (bx2 s a 2 0 1 (bx3 (s 6) a (bx2 s a 1 0 0 (bx1 a x1 y1 u1 v1 (s 6)) (s 6)) (s 6)) (k + 1)))) (by rw [up2_in]; exact congrArg (fun m => hM G mo ad h0 (va_up s 25 0) (va_up a 22 m)) (bx2_1 (Or.inr ⟨by omega, hb_30⟩))) ?_
                                          exact jW.locals [1, 2, 3, 4, 5, 6, 7, 0] rfl (ih_316 (k + 1) (by omega) (by omega))
                              refine jt_h (h' := hM G mo ad h0 (va_up s 25 0) (va_up a 22 (bx2 s a 2 0 1 (bx3 (s 6) a (bx2 s a 1 0 0 (bx1 a x1 y1 u1 v1 (s 6)) (s 6)) (s 6)) 0))) (by rw [show s 6 = k from by omega]; rfl) ?_
                              exact jW.locals [1, 2, 3, 4, 5, 6, 7, 0] rfl (L_316 ((s 6 - 0) + 1) 0 (by omega) (by omega))
                            · have c_24 := fun zq => c_24 ((nI_leI (a := s 6) (b := k) (by omega) (by omega)).mpr zq)
                              have c_24 : ¬ (s 6) ≤ k := c_24
                              refine j_iconst C (v := nI 0) rfl dX4_inBox_235 (pc' := 236) rfl ?_
                              refine j_istore C (i := 8) (x := nI 0) (l' := [(8, .int (nI 0)), (0, .ref mo), (1, .int (nI x1)), (2, .int (nI y1)), (3, .int (nI u1)), (4, .int (nI v1)), (5, .int (nI w1)), (6, .int (nI 1)), (7, .int (nI k))]) dX4_inBox_236 (pc' := 238) rfl (by decide) rfl ?_
                              have L_238 : ∀ (N_238 : Nat) (n : Nat), (s 6 - n) < N_238 → (n ≤ s 6) → jW X G 9 0 0 238 [(0, .ref mo), (1, .int (nI x1)), (2, .int (nI y1)), (3, .int (nI u1)), (4, .int (nI v1)), (5, .int (nI w1)), (6, .int (nI 1)), (7, .int (nI k)), (8, .int (nI n))] [] ((hM G mo ad h0 (va_up s 25 0) (va_up a 22 (bx3i a (bx3 (s 6) a (bx2 s a 1 0 0 (bx1 a x1 y1 u1 v1 (s 6)) (s 6)) k) k n)))) := by
                                intro N_238
                                induction N_238 with
                                | zero => intro n hm_238 hn; omega
                                | succ N_238 ih_238 =>
                                  intro n hm_238 hn
                                  have bcur : ∀ j, (bx3i a (bx3 (s 6) a (bx2 s a 1 0 0 (bx1 a x1 y1 u1 v1 (s 6)) (s 6)) k) k n) j ≤ 1 := bx3i_le (bx3_le (bx2_le (bx1_le I x1 y1 u1 v1 (s 6)) (s 6)) k) k n
                                  refine j_iload C (i := 8) (x := nI n) 8 rfl dX4_inBox_238 (pc' := 240) rfl ?_
                                  refine j_aload_n C (i := 0) (x := mo) 0 rfl dX4_inBox_240 (pc' := 241) rfl ?_
                                  refine m_get C (f := 6) (idx := 69) hin (by decide) rfl (by decide +kernel) dX4_inBox_241 (pc' := 244) rfl ?_
                                  show jW X G 9 0 0 244 [(0, .ref mo), (1, .int (nI x1)), (2, .int (nI y1)), (3, .int (nI u1)), (4, .int (nI v1)), (5, .int (nI w1)), (6, .int (nI 1)), (7, .int (nI k)), (8, .int (nI n))] [.int (nI (s 6)), .int (nI n)] ((hM G mo ad h0 (va_up s 25 0) (va_up a 22 (bx3i a (bx3 (s 6) a (bx2 s a 1 0 0 (bx1 a x1 y1 u1 v1 (s 6)) (s 6)) k) k n))))
                                  refine j_icmp_ge C dX4_inBox_244 (tgt := 307) (by decide) (pc' := 247) rfl (fun c_33 => ?_) (fun c_33 => ?_)
                                  · have c_33 := (nI_leI (a := s 6) (b := n) (by omega) (by omega)).mp c_33
                                    have c_33 : (s 6) ≤ n := c_33
                                    refine j_iinc C (i := 7) (q := 7) (x := nI k) (v := nI (k + 1)) (l' := [(7, .int (nI (k + 1))), (0, .ref mo), (1, .int (nI x1)), (2, .int (nI y1)), (3, .int (nI u1)), (4, .int (nI v1)), (5, .int (nI w1)), (6, .int (nI 1)), (8, .int (nI n))]) dX4_inBox_307 (pc' := 310) rfl rfl (nI_add _ _) (by decide) rfl ?_
                                    refine j_goto C dX4_inBox_310 (pc' := 226) (by decide) ?_
                                    refine jt_h (h' := hM G mo ad h0 (va_up s 25 0) (va_up a 22 (bx3 (s 6) a (bx2 s a 1 0 0 (bx1 a x1 y1 u1 v1 (s 6)) (s 6)) (k + 1)))) (by show _ = hM G mo ad h0 (va_up s 25 0) (va_up a 22 (bx3i a (bx3 (s 6) a (bx2 s a 1 0 0 (bx1 a x1 y1 u1 v1 (s 6)) (s 6)) k) k (s 6))); rw [show s 6 = n from by omega]) ?_
                                    exact jW.locals [1, 2, 3, 4, 5, 6, 7, 0] rfl (ih_226 (k + 1) (by omega) (by omega))
                                  · have c_33 := fun zq => c_33 ((nI_leI (a := s 6) (b := n) (by omega) (by omega)).mpr zq)
                                    have c_33 : ¬ (s 6) ≤ n := c_33
                                    refine j_aload_n C (i := 0) (x := mo) 0 rfl dX4_inBox_247 (pc' := 248) rfl ?_
                                    refine m_geta C (f := 22) (idx := 59) hin (by decide) rfl (by decide +kernel) dX4_inBox_248 (pc' := 251) rfl ?_
                                    refine j_iload C (i := 8) (x := nI n) 8 rfl dX4_inBox_251 (pc' := 253) rfl ?_
                                    refine j_aload_n C (i := 0) (x := mo) 0 rfl dX4_inBox_253 (pc' := 254) rfl ?_
                                    refine m_geta C (f := 22) (idx := 59) hin (by decide) rfl (by decide +kernel) dX4_inBox_254 (pc' := 257) rfl ?_
                                    refine j_iload C (i := 8) (x := nI n) 8 rfl dX4_inBox_257 (pc' := 259) rfl ?_
                                    refine m_zld C M (f := 22) (j := n) (by decide) rfl rfl rfl (show n < 40 by omega) dX4_inBox_259 (pc' := 260) rfl ?_
                                    show jW X G 9 0 0 260 [(0, .ref mo), (1, .int (nI x1)), (2, .int (nI y1)), (3, .int (nI u1)), (4, .int (nI v1)), (5, .int (nI w1)), (6, .int (nI 1)), (7, .int (nI k)), (8, .int (nI n))] [.int (nI (bx3i a (bx3 (s 6) a (bx2 s a 1 0 0 (bx1 a x1 y1 u1 v1 (s 6)) (s 6)) k) k n n)), .int (nI n), .ref (ad 22)] ((hM G mo ad h0 (va_up s 25 0) (va_up a 22 (bx3i a (bx3 (s 6) a (bx2 s a 1 0 0 (bx1 a x1 y1 u1 v1 (s 6)) (s 6)) k) k n))))
                                    have B_34 := bcur n
                                    refine j_if_ne C dX4_inBox_260 (tgt := 295) (by decide) (pc' := 263) rfl (fun c_35 => ?_) (fun c_35 => ?_)
                                    · have c_35 := fun zq => c_35 ((nI_eq (a := bx3i a (bx3 (s 6) a (bx2 s a 1 0 0 (bx1 a x1 y1 u1 v1 (s 6)) (s 6)) k) k n n) (b := 0) (by omega) (by omega)).mpr zq)
                                      have c_35 : ¬ (bx3i a (bx3 (s 6) a (bx2 s a 1 0 0 (bx1 a x1 y1 u1 v1 (s 6)) (s 6)) k) k n n) = 0 := c_35
                                      refine j_iconst C (v := nI 1) rfl dX4_inBox_295 (pc' := 296) rfl ?_
                                      refine j_goto C dX4_inBox_296 (pc' := 300) (by decide) ?_
                                      refine m_zst C M (f := 22) (j := n) (v := 1) (by decide) rfl rfl rfl (show n < 40 by omega) (by first | rfl | exact bI_vp _) dX4_inBox_300 (pc' := 301) rfl ?_
                                      refine j_iinc C (i := 8) (q := 8) (x := nI n) (v := nI (n + 1)) (l' := [(8, .int (nI (n + 1))), (0, .ref mo), (1, .int (nI x1)), (2, .int (nI y1)), (3, .int (nI u1)), (4, .int (nI v1)), (5, .int (nI w1)), (6, .int (nI 1)), (7, .int (nI k))]) dX4_inBox_301 (pc' := 304) rfl rfl (nI_add _ _) (by decide) rfl ?_
                                      refine j_goto C dX4_inBox_304 (pc' := 238) (by decide) ?_
                                      refine jt_h (h' := hM G mo ad h0 (va_up s 25 0) (va_up a 22 (bx3i a (bx3 (s 6) a (bx2 s a 1 0 0 (bx1 a x1 y1 u1 v1 (s 6)) (s 6)) k) k (n + 1)))) (by rw [up2_in]; exact congrArg (fun m => hM G mo ad h0 (va_up s 25 0) (va_up a 22 m)) (bx3_1 (Or.inl (by omega)))) ?_
                                      exact jW.locals [1, 2, 3, 4, 5, 6, 7, 8, 0] rfl (ih_238 (n + 1) (by omega) (by omega))
                                    · have c_35 := (nI_eq (a := bx3i a (bx3 (s 6) a (bx2 s a 1 0 0 (bx1 a x1 y1 u1 v1 (s 6)) (s 6)) k) k n n) (b := 0) (by omega) (by omega)).mp c_35
                                      have c_35 : (bx3i a (bx3 (s 6) a (bx2 s a 1 0 0 (bx1 a x1 y1 u1 v1 (s 6)) (s 6)) k) k n n) = 0 := c_35
                                      refine j_aload_n C (i := 0) (x := mo) 0 rfl dX4_inBox_263 (pc' := 264) rfl ?_
                                      refine m_geta C (f := 22) (idx := 59) hin (by decide) rfl (by decide +kernel) dX4_inBox_264 (pc' := 267) rfl ?_
                                      refine j_iload C (i := 7) (x := nI k) 7 rfl dX4_inBox_267 (pc' := 269) rfl ?_
                                      refine m_zld C M (f := 22) (j := k) (by decide) rfl rfl rfl (show k < 40 by omega) dX4_inBox_269 (pc' := 270) rfl ?_
                                      show jW X G 9 0 0 270 [(0, .ref mo), (1, .int (nI x1)), (2, .int (nI y1)), (3, .int (nI u1)), (4, .int (nI v1)), (5, .int (nI w1)), (6, .int (nI 1)), (7, .int (nI k)), (8, .int (nI n))] [.int (nI (bx3i a (bx3 (s 6) a (bx2 s a 1 0 0 (bx1 a x1 y1 u1 v1 (s 6)) (s 6)) k) k n k)), .int (nI n), .ref (ad 22)] ((hM G mo ad h0 (va_up s 25 0) (va_up a 22 (bx3i a (bx3 (s 6) a (bx2 s a 1 0 0 (bx1 a x1 y1 u1 v1 (s 6)) (s 6)) k) k n))))
                                      have B_36 := bcur k
                                      refine j_if_eq C dX4_inBox_270 (tgt := 299) (by decide) (pc' := 273) rfl (fun c_37 => ?_) (fun c_37 => ?_)
                                      · have c_37 := (nI_eq (a := bx3i a (bx3 (s 6) a (bx2 s a 1 0 0 (bx1 a x1 y1 u1 v1 (s 6)) (s 6)) k) k n k) (b := 0) (by omega) (by omega)).mp c_37
                                        have c_37 : (bx3i a (bx3 (s 6) a (bx2 s a 1 0 0 (bx1 a x1 y1 u1 v1 (s 6)) (s 6)) k) k n k) = 0 := c_37
                                        refine j_iconst C (v := nI 0) rfl dX4_inBox_299 (pc' := 300) rfl ?_
                                        refine m_zst C M (f := 22) (j := n) (v := 0) (by decide) rfl rfl rfl (show n < 40 by omega) (by first | rfl | exact bI_vp _) dX4_inBox_300 (pc' := 301) rfl ?_
                                        refine j_iinc C (i := 8) (q := 8) (x := nI n) (v := nI (n + 1)) (l' := [(8, .int (nI (n + 1))), (0, .ref mo), (1, .int (nI x1)), (2, .int (nI y1)), (3, .int (nI u1)), (4, .int (nI v1)), (5, .int (nI w1)), (6, .int (nI 1)), (7, .int (nI k))]) dX4_inBox_301 (pc' := 304) rfl rfl (nI_add _ _) (by decide) rfl ?_
                                        refine j_goto C dX4_inBox_304 (pc' := 238) (by decide) ?_
                                        refine jt_h (h' := hM G mo ad h0 (va_up s 25 0) (va_up a 22 (bx3i a (bx3 (s 6) a (bx2 s a 1 0 0 (bx1 a x1 y1 u1 v1 (s 6)) (s 6)) k) k (n + 1)))) (by rw [up2_in]; exact congrArg (fun m => hM G mo ad h0 (va_up s 25 0) (va_up a 22 m)) (bx3_0 (by rintro (h | ⟨h, _⟩) <;> omega))) ?_
                                        exact jW.locals [1, 2, 3, 4, 5, 6, 7, 8, 0] rfl (ih_238 (n + 1) (by omega) (by omega))
                                      · have c_37 := fun zq => c_37 ((nI_eq (a := bx3i a (bx3 (s 6) a (bx2 s a 1 0 0 (bx1 a x1 y1 u1 v1 (s 6)) (s 6)) k) k n k) (b := 0) (by omega) (by omega)).mpr zq)
                                        have c_37 : ¬ (bx3i a (bx3 (s 6) a (bx2 s a 1 0 0 (bx1 a x1 y1 u1 v1 (s 6)) (s 6)) k) k n k) = 0 := c_37
                                        refine j_aload_n C (i := 0) (x := mo) 0 rfl dX4_inBox_273 (pc' := 274) rfl ?_
                                        refine m_geta C (f := 7) (idx := 17) hin (by decide) rfl (by decide +kernel) dX4_inBox_274 (pc' := 277) rfl ?_
                                        refine j_iload C (i := 7) (x := nI k) 7 rfl dX4_inBox_277 (pc' := 279) rfl ?_
                                        refine m_ald C M (f := 7) (j := k) (by decide) rfl rfl rfl (show k < 40 by omega) dX4_inBox_279 (pc' := 280) rfl ?_
                                        show jW X G 9 0 0 280 [(0, .ref mo), (1, .int (nI x1)), (2, .int (nI y1)), (3, .int (nI u1)), (4, .int (nI v1)), (5, .int (nI w1)), (6, .int (nI 1)), (7, .int (nI k)), (8, .int (nI n))] [.int (nI (a 7 k)), .int (nI n), .ref (ad 22)] ((hM G mo ad h0 (va_up s 25 0) (va_up a 22 (bx3i a (bx3 (s 6) a (bx2 s a 1 0 0 (bx1 a x1 y1 u1 v1 (s 6)) (s 6)) k) k n))))
                                        have B_38 := IA.kind I k
                                        refine j_iconst C (v := nI 1) rfl dX4_inBox_280 (pc' := 281) rfl ?_
                                        refine j_icmp_ne C dX4_inBox_281 (tgt := 299) (by decide) (pc' := 284) rfl (fun c_39 => ?_) (fun c_39 => ?_)
                                        · have c_39 := fun zq => c_39 ((nI_eq (a := a 7 k) (b := 1) (by omega) (by omega)).mpr zq)
                                          have c_39 : ¬ (a 7 k) = 1 := c_39
                                          refine j_iconst C (v := nI 0) rfl dX4_inBox_299 (pc' := 300) rfl ?_
                                          refine m_zst C M (f := 22) (j := n) (v := 0) (by decide) rfl rfl rfl (show n < 40 by omega) (by first | rfl | exact bI_vp _) dX4_inBox_300 (pc' := 301) rfl ?_
                                          refine j_iinc C (i := 8) (q := 8) (x := nI n) (v := nI (n + 1)) (l' := [(8, .int (nI (n + 1))), (0, .ref mo), (1, .int (nI x1)), (2, .int (nI y1)), (3, .int (nI u1)), (4, .int (nI v1)), (5, .int (nI w1)), (6, .int (nI 1)), (7, .int (nI k))]) dX4_inBox_301 (pc' := 304) rfl rfl (nI_add _ _) (by decide) rfl ?_
                                          refine j_goto C dX4_inBox_304 (pc' := 238) (by decide) ?_
                                          refine jt_h (h' := hM G mo ad h0 (va_up s 25 0) (va_up a 22 (bx3i a (bx3 (s 6) a (bx2 s a 1 0 0 (bx1 a x1 y1 u1 v1 (s 6)) (s 6)) k) k (n + 1)))) (by rw [up2_in]; exact congrArg (fun m => hM G mo ad h0 (va_up s 25 0) (va_up a 22 m)) (bx3_0 (by rintro (h | ⟨_, h, _⟩) <;> omega))) ?_
                                          exact jW.locals [1, 2, 3, 4, 5, 6, 7, 8, 0] rfl (ih_238 (n + 1) (by omega) (by omega))
                                        · have c_39 := (nI_eq (a := a 7 k) (b := 1) (by omega) (by omega)).mp c_39
                                          have c_39 : (a 7 k) = 1 := c_39
                                          refine j_aload_n C (i := 0) (x := mo) 0 rfl dX4_inBox_284 (pc' := 285) rfl ?_
                                          refine j_iload C (i := 7) (x := nI k) 7 rfl dX4_inBox_285 (pc' := 287) rfl ?_
                                          refine j_iload C (i := 8) (x := nI n) 8 rfl dX4_inBox_287 (pc' := 289) rfl ?_
                                          refine j_callV C (As := [.int (nI k), .int (nI n)]) (rest := [.int (nI n), .ref (ad 22)]) (m_hasMember X.2.1 C.2.2.2.2.2.2.2.2 G M (va_up s 25 0) (va_up a 22 (bx3i a (bx3 (s 6) a (bx2 s a 1 0 0 (bx1 a x1 y1 u1 v1 (s 6)) (s 6)) k) k n)) k n (IA.up01 I (Or.inr rfl) bcur) (by omega) (by omega)) (cwV 2 C.2.2.2.2.1 gX4_inBox_X4_hasMember rfl rfl rfl (by decide +kernel) (by rw [hXR]; decide)) hM_obj rfl rfl rfl (Nat.le_of_ble_eq_true rfl) dX4_inBox_289 (pc' := 292) rfl (by rw [hXR]; exact Nat.zero_le _) (by rw [hXR]; exact Nat.zero_le _) (fun _ _ z => z.elim) ?_
                                          rintro r h' ⟨rfl, rfl⟩
                                          show jW X G 9 0 0 292 [(0, .ref mo), (1, .int (nI x1)), (2, .int (nI y1)), (3, .int (nI u1)), (4, .int (nI v1)), (5, .int (nI w1)), (6, .int (nI 1)), (7, .int (nI k)), (8, .int (nI n))] [.int (bI (mHas a k n)), .int (nI n), .ref (ad 22)] ((hM G mo ad h0 (va_up s 25 0) (va_up a 22 (bx3i a (bx3 (s 6) a (bx2 s a 1 0 0 (bx1 a x1 y1 u1 v1 (s 6)) (s 6)) k) k n))))
                                          rcases hb_40 : (mHas a k n) with _ | _
                                          · show jW X G 9 0 0 292 [(0, .ref mo), (1, .int (nI x1)), (2, .int (nI y1)), (3, .int (nI u1)), (4, .int (nI v1)), (5, .int (nI w1)), (6, .int (nI 1)), (7, .int (nI k)), (8, .int (nI n))] [.int (nI 0), .int (nI n), .ref (ad 22)] ((hM G mo ad h0 (va_up s 25 0) (va_up a 22 (bx3i a (bx3 (s 6) a (bx2 s a 1 0 0 (bx1 a x1 y1 u1 v1 (s 6)) (s 6)) k) k n))))
                                            refine j_if_eq C dX4_inBox_292 (tgt := 299) (by decide) (pc' := 295) rfl (fun _ => ?_) (fun c_41 => absurd (by decide) c_41)
                                            refine j_iconst C (v := nI 0) rfl dX4_inBox_299 (pc' := 300) rfl ?_
                                            refine m_zst C M (f := 22) (j := n) (v := 0) (by decide) rfl rfl rfl (show n < 40 by omega) (by first | rfl | exact bI_vp _) dX4_inBox_300 (pc' := 301) rfl ?_
                                            refine j_iinc C (i := 8) (q := 8) (x := nI n) (v := nI (n + 1)) (l' := [(8, .int (nI (n + 1))), (0, .ref mo), (1, .int (nI x1)), (2, .int (nI y1)), (3, .int (nI u1)), (4, .int (nI v1)), (5, .int (nI w1)), (6, .int (nI 1)), (7, .int (nI k))]) dX4_inBox_301 (pc' := 304) rfl rfl (nI_add _ _) (by decide) rfl ?_
                                            refine j_goto C dX4_inBox_304 (pc' := 238) (by decide) ?_
                                            refine jt_h (h' := hM G mo ad h0 (va_up s 25 0) (va_up a 22 (bx3i a (bx3 (s 6) a (bx2 s a 1 0 0 (bx1 a x1 y1 u1 v1 (s 6)) (s 6)) k) k (n + 1)))) (by rw [up2_in]; exact congrArg (fun m => hM G mo ad h0 (va_up s 25 0) (va_up a 22 m)) (bx3_0 (by rintro (h | ⟨_, _, h⟩) <;> first | omega | exact bff hb_40 h))) ?_
                                            exact jW.locals [1, 2, 3, 4, 5, 6, 7, 8, 0] rfl (ih_238 (n + 1) (by omega) (by omega))
                                          · show jW X G 9 0 0 292 [(0, .ref mo), (1, .int (nI x1)), (2, .int (nI y1)), (3, .int (nI u1)), (4, .int (nI v1)), (5, .int (nI w1)), (6, .int (nI 1)), (7, .int (nI k)), (8, .int (nI n))] [.int (nI 1), .int (nI n), .ref (ad 22)] ((hM G mo ad h0 (va_up s 25 0) (va_up a 22 (bx3i a (bx3 (s 6) a (bx2 s a 1 0 0 (bx1 a x1 y1 u1 v1 (s 6)) (s 6)) k) k n))))
                                            refine j_if_eq C dX4_inBox_292 (tgt := 299) (by decide) (pc' := 295) rfl (fun c_42 => absurd c_42 (by decide)) (fun _ => ?_)
                                            refine j_iconst C (v := nI 1) rfl dX4_inBox_295 (pc' := 296) rfl ?_
                                            refine j_goto C dX4_inBox_296 (pc' := 300) (by decide) ?_
                                            refine m_zst C M (f := 22) (j := n) (v := 1) (by decide) rfl rfl rfl (show n < 40 by omega) (by first | rfl | exact bI_vp _) dX4_inBox_300 (pc' := 301) rfl ?_
                                            refine j_iinc C (i := 8) (q := 8) (x := nI n) (v := nI (n + 1)) (l' := [(8, .int (nI (n + 1))), (0, .ref mo), (1, .int (nI x1)), (2, .int (nI y1)), (3, .int (nI u1)), (4, .int (nI v1)), (5, .int (nI w1)), (6, .int (nI 1)), (7, .int (nI k))]) dX4_inBox_301 (pc' := 304) rfl rfl (nI_add _ _) (by decide) rfl ?_
                                            refine j_goto C dX4_inBox_304 (pc' := 238) (by decide) ?_
                                            refine jt_h (h' := hM G mo ad h0 (va_up s 25 0) (va_up a 22 (bx3i a (bx3 (s 6) a (bx2 s a 1 0 0 (bx1 a x1 y1 u1 v1 (s 6)) (s 6)) k) k (n + 1)))) (by rw [up2_in]; exact congrArg (fun m => hM G mo ad h0 (va_up s 25 0) (va_up a 22 m)) (bx3_1 (Or.inr ⟨by omega, by omega, hb_40⟩))) ?_
                                            exact jW.locals [1, 2, 3, 4, 5, 6, 7, 8, 0] rfl (ih_238 (n + 1) (by omega) (by omega))
                              refine jt_h (h' := hM G mo ad h0 (va_up s 25 0) (va_up a 22 (bx3i a (bx3 (s 6) a (bx2 s a 1 0 0 (bx1 a x1 y1 u1 v1 (s 6)) (s 6)) k) k 0))) (rfl) ?_
                              exact jW.locals [1, 2, 3, 4, 5, 6, 7, 8, 0] rfl (L_238 ((s 6 - 0) + 1) 0 (by omega) (by omega))
                        refine jt_h (h' := hM G mo ad h0 (va_up s 25 0) (va_up a 22 (bx3 (s 6) a (bx2 s a 1 0 0 (bx1 a x1 y1 u1 v1 (s 6)) (s 6)) 0))) (by rw [show s 6 = k from by omega]; rfl) ?_
                        exact jW.locals [1, 2, 3, 4, 5, 6, 7, 0] rfl (L_226 ((s 6 - 0) + 1) 0 (by omega) (by omega))
                      · have c_23 := fun zq => c_23 ((nI_leI (a := s 6) (b := k) (by omega) (by omega)).mpr zq)
                        have c_23 : ¬ (s 6) ≤ k := c_23
                        refine j_aload_n C (i := 0) (x := mo) 0 rfl dX4_inBox_173 (pc' := 174) rfl ?_
                        refine m_geta C (f := 22) (idx := 59) hin (by decide) rfl (by decide +kernel) dX4_inBox_174 (pc' := 177) rfl ?_
                        refine j_iload C (i := 7) (x := nI k) 7 rfl dX4_inBox_177 (pc' := 179) rfl ?_
                        refine j_aload_n C (i := 0) (x := mo) 0 rfl dX4_inBox_179 (pc' := 180) rfl ?_
                        refine m_geta C (f := 22) (idx := 59) hin (by decide) rfl (by decide +kernel) dX4_inBox_180 (pc' := 183) rfl ?_
                        refine j_iload C (i := 7) (x := nI k) 7 rfl dX4_inBox_183 (pc' := 185) rfl ?_
                        refine m_zld C M (f := 22) (j := k) (by decide) rfl rfl rfl (show k < 40 by omega) dX4_inBox_185 (pc' := 186) rfl ?_
                        show jW X G 9 0 0 186 [(0, .ref mo), (1, .int (nI x1)), (2, .int (nI y1)), (3, .int (nI u1)), (4, .int (nI v1)), (5, .int (nI w1)), (6, .int (nI 1)), (7, .int (nI k))] [.int (nI (bx2 s a 1 0 0 (bx1 a x1 y1 u1 v1 (s 6)) k k)), .int (nI k), .ref (ad 22)] ((hM G mo ad h0 (va_up s 25 0) (va_up a 22 (bx2 s a 1 0 0 (bx1 a x1 y1 u1 v1 (s 6)) k))))
                        have B_43 := bcur k
                        refine j_if_ne C dX4_inBox_186 (tgt := 211) (by decide) (pc' := 189) rfl (fun c_44 => ?_) (fun c_44 => ?_)
                        · have c_44 := fun zq => c_44 ((nI_eq (a := bx2 s a 1 0 0 (bx1 a x1 y1 u1 v1 (s 6)) k k) (b := 0) (by omega) (by omega)).mpr zq)
                          have c_44 : ¬ (bx2 s a 1 0 0 (bx1 a x1 y1 u1 v1 (s 6)) k k) = 0 := c_44
                          refine j_iconst C (v := nI 1) rfl dX4_inBox_211 (pc' := 212) rfl ?_
                          refine j_goto C dX4_inBox_212 (pc' := 216) (by decide) ?_
                          refine m_zst C M (f := 22) (j := k) (v := 1) (by decide) rfl rfl rfl (show k < 40 by omega) (by first | rfl | exact bI_vp _) dX4_inBox_216 (pc' := 217) rfl ?_
                          refine j_iinc C (i := 7) (q := 7) (x := nI k) (v := nI (k + 1)) (l' := [(7, .int (nI (k + 1))), (0, .ref mo), (1, .int (nI x1)), (2, .int (nI y1)), (3, .int (nI u1)), (4, .int (nI v1)), (5, .int (nI w1)), (6, .int (nI 1))]) dX4_inBox_217 (pc' := 220) rfl rfl (nI_add _ _) (by decide) rfl ?_
                          refine j_goto C dX4_inBox_220 (pc' := 164) (by decide) ?_
                          refine jt_h (h' := hM G mo ad h0 (va_up s 25 0) (va_up a 22 (bx2 s a 1 0 0 (bx1 a x1 y1 u1 v1 (s 6)) (k + 1)))) (by rw [up2_in]; exact congrArg (fun m => hM G mo ad h0 (va_up s 25 0) (va_up a 22 m)) (bx2_1 (Or.inl (by omega)))) ?_
                          exact jW.locals [1, 2, 3, 4, 5, 6, 7, 0] rfl (ih_164 (k + 1) (by omega) (by omega))
                        · have c_44 := (nI_eq (a := bx2 s a 1 0 0 (bx1 a x1 y1 u1 v1 (s 6)) k k) (b := 0) (by omega) (by omega)).mp c_44
                          have c_44 : (bx2 s a 1 0 0 (bx1 a x1 y1 u1 v1 (s 6)) k k) = 0 := c_44
                          refine j_aload_n C (i := 0) (x := mo) 0 rfl dX4_inBox_189 (pc' := 190) rfl ?_
                          refine m_geta C (f := 7) (idx := 17) hin (by decide) rfl (by decide +kernel) dX4_inBox_190 (pc' := 193) rfl ?_
                          refine j_iload C (i := 7) (x := nI k) 7 rfl dX4_inBox_193 (pc' := 195) rfl ?_
                          refine m_ald C M (f := 7) (j := k) (by decide) rfl rfl rfl (show k < 40 by omega) dX4_inBox_195 (pc' := 196) rfl ?_
                          show jW X G 9 0 0 196 [(0, .ref mo), (1, .int (nI x1)), (2, .int (nI y1)), (3, .int (nI u1)), (4, .int (nI v1)), (5, .int (nI w1)), (6, .int (nI 1)), (7, .int (nI k))] [.int (nI (a 7 k)), .int (nI k), .ref (ad 22)] ((hM G mo ad h0 (va_up s 25 0) (va_up a 22 (bx2 s a 1 0 0 (bx1 a x1 y1 u1 v1 (s 6)) k))))
                          have B_45 := IA.kind I k
                          refine j_iconst C (v := nI 1) rfl dX4_inBox_196 (pc' := 197) rfl ?_
                          refine j_icmp_ne C dX4_inBox_197 (tgt := 215) (by decide) (pc' := 200) rfl (fun c_46 => ?_) (fun c_46 => ?_)
                          · have c_46 := fun zq => c_46 ((nI_eq (a := a 7 k) (b := 1) (by omega) (by omega)).mpr zq)
                            have c_46 : ¬ (a 7 k) = 1 := c_46
                            refine j_iconst C (v := nI 0) rfl dX4_inBox_215 (pc' := 216) rfl ?_
                            refine m_zst C M (f := 22) (j := k) (v := 0) (by decide) rfl rfl rfl (show k < 40 by omega) (by first | rfl | exact bI_vp _) dX4_inBox_216 (pc' := 217) rfl ?_
                            refine j_iinc C (i := 7) (q := 7) (x := nI k) (v := nI (k + 1)) (l' := [(7, .int (nI (k + 1))), (0, .ref mo), (1, .int (nI x1)), (2, .int (nI y1)), (3, .int (nI u1)), (4, .int (nI v1)), (5, .int (nI w1)), (6, .int (nI 1))]) dX4_inBox_217 (pc' := 220) rfl rfl (nI_add _ _) (by decide) rfl ?_
                            refine j_goto C dX4_inBox_220 (pc' := 164) (by decide) ?_
                            refine jt_h (h' := hM G mo ad h0 (va_up s 25 0) (va_up a 22 (bx2 s a 1 0 0 (bx1 a x1 y1 u1 v1 (s 6)) (k + 1)))) (by rw [up2_in]; exact congrArg (fun m => hM G mo ad h0 (va_up s 25 0) (va_up a 22 m)) (bx2_0 (by rintro (h | ⟨h, _⟩) <;> omega))) ?_
                            exact jW.locals [1, 2, 3, 4, 5, 6, 7, 0] rfl (ih_164 (k + 1) (by omega) (by omega))
                          · have c_46 := (nI_eq (a := a 7 k) (b := 1) (by omega) (by omega)).mp c_46
                            have c_46 : (a 7 k) = 1 := c_46
                            refine j_aload_n C (i := 0) (x := mo) 0 rfl dX4_inBox_200 (pc' := 201) rfl ?_
                            refine j_iload C (i := 7) (x := nI k) 7 rfl dX4_inBox_201 (pc' := 203) rfl ?_
                            refine j_iconst C (v := nI 0) rfl dX4_inBox_203 (pc' := 204) rfl ?_
                            refine j_iconst C (v := nI 0) rfl dX4_inBox_204 (pc' := 205) rfl ?_
                            refine j_callV C (As := [.int (nI k), .int (nI 0), .int (nI 0)]) (rest := [.int (nI k), .ref (ad 22)]) (m_usesDrawn X.2.1 C.2.2.2.2.2.2.2.2 G M (va_up s 25 0) (va_up a 22 (bx2 s a 1 0 0 (bx1 a x1 y1 u1 v1 (s 6)) k)) k 0 0 (IS.th J (v := 0) (by first | decide | exact gTh_le _ _ _)) (IA.up01 I (Or.inr rfl) bcur) (by omega) (by omega) (by omega)) (cwV 3 C.2.2.2.2.1 gX4_inBox_X4_usesDrawn rfl rfl rfl (by decide +kernel) (by rw [hXR]; decide)) hM_obj rfl rfl rfl (Nat.le_of_ble_eq_true rfl) dX4_inBox_205 (pc' := 208) rfl (by rw [hXR]; exact Nat.zero_le _) (by rw [hXR]; exact Nat.zero_le _) (fun _ _ z => z.elim) ?_
                            rintro r h' ⟨rfl, rfl⟩
                            show jW X G 9 0 0 208 [(0, .ref mo), (1, .int (nI x1)), (2, .int (nI y1)), (3, .int (nI u1)), (4, .int (nI v1)), (5, .int (nI w1)), (6, .int (nI 1)), (7, .int (nI k))] [.int (bI (mUsesD (va_up s 25 0) (va_up a 22 (bx2 s a 1 0 0 (bx1 a x1 y1 u1 v1 (s 6)) k)) k 0 0)), .int (nI k), .ref (ad 22)] ((hM G mo ad h0 (va_up s 25 0) (va_up a 22 (bx2 s a 1 0 0 (bx1 a x1 y1 u1 v1 (s 6)) k))))
                            rcases hb_47 : (mUsesD (va_up s 25 0) (va_up a 22 (bx2 s a 1 0 0 (bx1 a x1 y1 u1 v1 (s 6)) k)) k 0 0) with _ | _
                            · show jW X G 9 0 0 208 [(0, .ref mo), (1, .int (nI x1)), (2, .int (nI y1)), (3, .int (nI u1)), (4, .int (nI v1)), (5, .int (nI w1)), (6, .int (nI 1)), (7, .int (nI k))] [.int (nI 0), .int (nI k), .ref (ad 22)] ((hM G mo ad h0 (va_up s 25 0) (va_up a 22 (bx2 s a 1 0 0 (bx1 a x1 y1 u1 v1 (s 6)) k))))
                              refine j_if_eq C dX4_inBox_208 (tgt := 215) (by decide) (pc' := 211) rfl (fun _ => ?_) (fun c_48 => absurd (by decide) c_48)
                              refine j_iconst C (v := nI 0) rfl dX4_inBox_215 (pc' := 216) rfl ?_
                              refine m_zst C M (f := 22) (j := k) (v := 0) (by decide) rfl rfl rfl (show k < 40 by omega) (by first | rfl | exact bI_vp _) dX4_inBox_216 (pc' := 217) rfl ?_
                              refine j_iinc C (i := 7) (q := 7) (x := nI k) (v := nI (k + 1)) (l' := [(7, .int (nI (k + 1))), (0, .ref mo), (1, .int (nI x1)), (2, .int (nI y1)), (3, .int (nI u1)), (4, .int (nI v1)), (5, .int (nI w1)), (6, .int (nI 1))]) dX4_inBox_217 (pc' := 220) rfl rfl (nI_add _ _) (by decide) rfl ?_
                              refine j_goto C dX4_inBox_220 (pc' := 164) (by decide) ?_
                              refine jt_h (h' := hM G mo ad h0 (va_up s 25 0) (va_up a 22 (bx2 s a 1 0 0 (bx1 a x1 y1 u1 v1 (s 6)) (k + 1)))) (by rw [up2_in]; exact congrArg (fun m => hM G mo ad h0 (va_up s 25 0) (va_up a 22 m)) (bx2_0 (by rintro (h | ⟨_, h⟩) <;> first | omega | exact bff hb_47 h))) ?_
                              exact jW.locals [1, 2, 3, 4, 5, 6, 7, 0] rfl (ih_164 (k + 1) (by omega) (by omega))
                            · show jW X G 9 0 0 208 [(0, .ref mo), (1, .int (nI x1)), (2, .int (nI y1)), (3, .int (nI u1)), (4, .int (nI v1)), (5, .int (nI w1)), (6, .int (nI 1)), (7, .int (nI k))] [.int (nI 1), .int (nI k), .ref (ad 22)] ((hM G mo ad h0 (va_up s 25 0) (va_up a 22 (bx2 s a 1 0 0 (bx1 a x1 y1 u1 v1 (s 6)) k))))
                              refine j_if_eq C dX4_inBox_208 (tgt := 215) (by decide) (pc' := 211) rfl (fun c_49 => absurd c_49 (by decide)) (fun _ => ?_)
                              refine j_iconst C (v := nI 1) rfl dX4_inBox_211 (pc' := 212) rfl ?_
                              refine j_goto C dX4_inBox_212 (pc' := 216) (by decide) ?_
                              refine m_zst C M (f := 22) (j := k) (v := 1) (by decide) rfl rfl rfl (show k < 40 by omega) (by first | rfl | exact bI_vp _) dX4_inBox_216 (pc' := 217) rfl ?_
                              refine j_iinc C (i := 7) (q := 7) (x := nI k) (v := nI (k + 1)) (l' := [(7, .int (nI (k + 1))), (0, .ref mo), (1, .int (nI x1)), (2, .int (nI y1)), (3, .int (nI u1)), (4, .int (nI v1)), (5, .int (nI w1)), (6, .int (nI 1))]) dX4_inBox_217 (pc' := 220) rfl rfl (nI_add _ _) (by decide) rfl ?_
                              refine j_goto C dX4_inBox_220 (pc' := 164) (by decide) ?_
                              refine jt_h (h' := hM G mo ad h0 (va_up s 25 0) (va_up a 22 (bx2 s a 1 0 0 (bx1 a x1 y1 u1 v1 (s 6)) (k + 1)))) (by rw [up2_in]; exact congrArg (fun m => hM G mo ad h0 (va_up s 25 0) (va_up a 22 m)) (bx2_1 (Or.inr ⟨by omega, hb_47⟩))) ?_
                              exact jW.locals [1, 2, 3, 4, 5, 6, 7, 0] rfl (ih_164 (k + 1) (by omega) (by omega))
                  refine jt_h (h' := hM G mo ad h0 (va_up s 25 0) (va_up a 22 (bx2 s a 1 0 0 (bx1 a x1 y1 u1 v1 (s 6)) 0))) (by rw [show s 6 = k from by omega]; rfl) ?_
                  exact jW.locals [1, 2, 3, 4, 5, 6, 7, 0] rfl (L_164 ((s 6 - 0) + 1) 0 (by omega) (by omega))
                · have c_22 := fun zq => c_22 ((nI_leI (a := s 6) (b := k) (by omega) (by omega)).mpr zq)
                  have c_22 : ¬ (s 6) ≤ k := c_22
                  refine j_aload_n C (i := 0) (x := mo) 0 rfl dX4_inBox_83 (pc' := 84) rfl ?_
                  refine m_geta C (f := 18) (idx := 47) hin (by decide) rfl (by decide +kernel) dX4_inBox_84 (pc' := 87) rfl ?_
                  refine j_aload_n C (i := 0) (x := mo) 0 rfl dX4_inBox_87 (pc' := 88) rfl ?_
                  refine m_geta C (f := 8) (idx := 20) hin (by decide) rfl (by decide +kernel) dX4_inBox_88 (pc' := 91) rfl ?_
                  refine j_iload C (i := 7) (x := nI k) 7 rfl dX4_inBox_91 (pc' := 93) rfl ?_
                  refine m_ald C M (f := 8) (j := k) (by decide) rfl rfl rfl (show k < 40 by omega) dX4_inBox_93 (pc' := 94) rfl ?_
                  show jW X G 9 0 0 94 [(0, .ref mo), (1, .int (nI x1)), (2, .int (nI y1)), (3, .int (nI u1)), (4, .int (nI v1)), (5, .int (nI w1)), (6, .int (nI 1)), (7, .int (nI k))] [.int (nI (a 8 k)), .ref (ad 18)] ((hM G mo ad h0 (va_up s 25 0) (va_up a 22 (bx1 a x1 y1 u1 v1 k))))
                  have B_50 := IA.last I k
                  refine m_ald C M (f := 18) (j := a 8 k) (by decide) rfl rfl rfl (show a 8 k < 1400 by omega) dX4_inBox_94 (pc' := 95) rfl ?_
                  show jW X G 9 0 0 95 [(0, .ref mo), (1, .int (nI x1)), (2, .int (nI y1)), (3, .int (nI u1)), (4, .int (nI v1)), (5, .int (nI w1)), (6, .int (nI 1)), (7, .int (nI k))] [.int (nI (a 18 (a 8 k)))] ((hM G mo ad h0 (va_up s 25 0) (va_up a 22 (bx1 a x1 y1 u1 v1 k))))
                  have B_51 := IA.big I 18 (a 8 k)
                  refine j_istore C (i := 8) (x := nI (a 18 (a 8 k))) (l' := [(8, .int (nI (a 18 (a 8 k)))), (0, .ref mo), (1, .int (nI x1)), (2, .int (nI y1)), (3, .int (nI u1)), (4, .int (nI v1)), (5, .int (nI w1)), (6, .int (nI 1)), (7, .int (nI k))]) dX4_inBox_95 (pc' := 97) rfl (by decide) rfl ?_
                  refine j_aload_n C (i := 0) (x := mo) 1 rfl dX4_inBox_97 (pc' := 98) rfl ?_
                  refine m_geta C (f := 22) (idx := 59) hin (by decide) rfl (by decide +kernel) dX4_inBox_98 (pc' := 101) rfl ?_
                  refine j_iload C (i := 7) (x := nI k) 8 rfl dX4_inBox_101 (pc' := 103) rfl ?_
                  refine j_aload_n C (i := 0) (x := mo) 1 rfl dX4_inBox_103 (pc' := 104) rfl ?_
                  refine m_geta C (f := 7) (idx := 17) hin (by decide) rfl (by decide +kernel) dX4_inBox_104 (pc' := 107) rfl ?_
                  refine j_iload C (i := 7) (x := nI k) 8 rfl dX4_inBox_107 (pc' := 109) rfl ?_
                  refine m_ald C M (f := 7) (j := k) (by decide) rfl rfl rfl (show k < 40 by omega) dX4_inBox_109 (pc' := 110) rfl ?_
                  show jW X G 9 0 0 110 [(8, .int (nI (a 18 (a 8 k)))), (0, .ref mo), (1, .int (nI x1)), (2, .int (nI y1)), (3, .int (nI u1)), (4, .int (nI v1)), (5, .int (nI w1)), (6, .int (nI 1)), (7, .int (nI k))] [.int (nI (a 7 k)), .int (nI k), .ref (ad 22)] ((hM G mo ad h0 (va_up s 25 0) (va_up a 22 (bx1 a x1 y1 u1 v1 k))))
                  have B_52 := IA.kind I k
                  refine j_if_ne C dX4_inBox_110 (tgt := 153) (by decide) (pc' := 113) rfl (fun c_53 => ?_) (fun c_53 => ?_)
                  · have c_53 := fun zq => c_53 ((nI_eq (a := a 7 k) (b := 0) (by omega) (by omega)).mpr zq)
                    have c_53 : ¬ (a 7 k) = 0 := c_53
                    refine j_iconst C (v := nI 0) rfl dX4_inBox_153 (pc' := 154) rfl ?_
                    refine m_zst C M (f := 22) (j := k) (v := 0) (by decide) rfl rfl rfl (show k < 40 by omega) (by first | rfl | exact bI_vp _) dX4_inBox_154 (pc' := 155) rfl ?_
                    refine j_iinc C (i := 7) (q := 8) (x := nI k) (v := nI (k + 1)) (l' := [(7, .int (nI (k + 1))), (8, .int (nI (a 18 (a 8 k)))), (0, .ref mo), (1, .int (nI x1)), (2, .int (nI y1)), (3, .int (nI u1)), (4, .int (nI v1)), (5, .int (nI w1)), (6, .int (nI 1))]) dX4_inBox_155 (pc' := 158) rfl rfl (nI_add _ _) (by decide) rfl ?_
                    refine j_goto C dX4_inBox_158 (pc' := 74) (by decide) ?_
                    refine jt_h (h' := hM G mo ad h0 (va_up s 25 0) (va_up a 22 (bx1 a x1 y1 u1 v1 (k + 1)))) (by rw [up2_in]; exact congrArg (fun m => hM G mo ad h0 (va_up s 25 0) (va_up a 22 m)) (bx1_0 (fun z => absurd z.1 (by omega)))) ?_
                    exact jW.locals [2, 3, 4, 5, 6, 7, 8, 0] rfl (ih_74 (k + 1) (by omega) (by omega))
                  · have c_53 := (nI_eq (a := a 7 k) (b := 0) (by omega) (by omega)).mp c_53
                    have c_53 : (a 7 k) = 0 := c_53
                    refine j_aload_n C (i := 0) (x := mo) 1 rfl dX4_inBox_113 (pc' := 114) rfl ?_
                    refine j_iload C (i := 7) (x := nI k) 8 rfl dX4_inBox_114 (pc' := 116) rfl ?_
                    refine j_callV C (As := [.int (nI k)]) (rest := [.int (nI k), .ref (ad 22)]) (m_is X.2.1 C.2.2.2.2.2.2.2.2 G M (va_up s 25 0) (va_up a 22 (bx1 a x1 y1 u1 v1 k)) k (IA.up01 I (Or.inr rfl) bcur) (by omega)) (cwV 1 C.2.2.2.2.1 gX4_inBox_X4_is rfl rfl rfl (by decide +kernel) (by rw [hXR]; decide)) hM_obj rfl rfl rfl (Nat.le_of_ble_eq_true rfl) dX4_inBox_116 (pc' := 119) rfl (by rw [hXR]; exact Nat.zero_le _) (by rw [hXR]; exact Nat.zero_le _) (fun _ _ z => z.elim) ?_
                    rintro r h' ⟨rfl, rfl⟩
                    show jW X G 9 0 0 119 [(8, .int (nI (a 18 (a 8 k)))), (0, .ref mo), (1, .int (nI x1)), (2, .int (nI y1)), (3, .int (nI u1)), (4, .int (nI v1)), (5, .int (nI w1)), (6, .int (nI 1)), (7, .int (nI k))] [.int (bI (mIs a k)), .int (nI k), .ref (ad 22)] ((hM G mo ad h0 (va_up s 25 0) (va_up a 22 (bx1 a x1 y1 u1 v1 k))))
                    rcases hb_54 : (mIs a k) with _ | _
                    · show jW X G 9 0 0 119 [(8, .int (nI (a 18 (a 8 k)))), (0, .ref mo), (1, .int (nI x1)), (2, .int (nI y1)), (3, .int (nI u1)), (4, .int (nI v1)), (5, .int (nI w1)), (6, .int (nI 1)), (7, .int (nI k))] [.int (nI 0), .int (nI k), .ref (ad 22)] ((hM G mo ad h0 (va_up s 25 0) (va_up a 22 (bx1 a x1 y1 u1 v1 k))))
                      refine j_if_eq C dX4_inBox_119 (tgt := 153) (by decide) (pc' := 122) rfl (fun _ => ?_) (fun c_55 => absurd (by decide) c_55)
                      refine j_iconst C (v := nI 0) rfl dX4_inBox_153 (pc' := 154) rfl ?_
                      refine m_zst C M (f := 22) (j := k) (v := 0) (by decide) rfl rfl rfl (show k < 40 by omega) (by first | rfl | exact bI_vp _) dX4_inBox_154 (pc' := 155) rfl ?_
                      refine j_iinc C (i := 7) (q := 8) (x := nI k) (v := nI (k + 1)) (l' := [(7, .int (nI (k + 1))), (8, .int (nI (a 18 (a 8 k)))), (0, .ref mo), (1, .int (nI x1)), (2, .int (nI y1)), (3, .int (nI u1)), (4, .int (nI v1)), (5, .int (nI w1)), (6, .int (nI 1))]) dX4_inBox_155 (pc' := 158) rfl rfl (nI_add _ _) (by decide) rfl ?_
                      refine j_goto C dX4_inBox_158 (pc' := 74) (by decide) ?_
                      refine jt_h (h' := hM G mo ad h0 (va_up s 25 0) (va_up a 22 (bx1 a x1 y1 u1 v1 (k + 1)))) (by rw [up2_in]; exact congrArg (fun m => hM G mo ad h0 (va_up s 25 0) (va_up a 22 m)) (bx1_0 (fun z => bff hb_54 z.2.1))) ?_
                      exact jW.locals [2, 3, 4, 5, 6, 7, 8, 0] rfl (ih_74 (k + 1) (by omega) (by omega))
                    · show jW X G 9 0 0 119 [(8, .int (nI (a 18 (a 8 k)))), (0, .ref mo), (1, .int (nI x1)), (2, .int (nI y1)), (3, .int (nI u1)), (4, .int (nI v1)), (5, .int (nI w1)), (6, .int (nI 1)), (7, .int (nI k))] [.int (nI 1), .int (nI k), .ref (ad 22)] ((hM G mo ad h0 (va_up s 25 0) (va_up a 22 (bx1 a x1 y1 u1 v1 k))))
                      refine j_if_eq C dX4_inBox_119 (tgt := 153) (by decide) (pc' := 122) rfl (fun c_56 => absurd c_56 (by decide)) (fun _ => ?_)
                      refine j_iload C (i := 8) (x := nI (a 18 (a 8 k))) 0 rfl dX4_inBox_122 (pc' := 124) rfl ?_
                      refine j_bipush C (v := nI 100) rfl dX4_inBox_124 (pc' := 126) rfl ?_
                      refine j_idiv C (x := nI (a 18 (a 8 k))) (y := nI 100) (by decide) dX4_inBox_126 (pc' := 127) rfl ?_
                      refine jt_i (pk_div (by omega) (by omega) (by omega)) ?_
                      refine j_iload_n C (i := 1) (x := nI x1) 2 rfl dX4_inBox_127 (pc' := 128) rfl ?_
                      refine j_iload_n C (i := 3) (x := nI u1) 4 rfl dX4_inBox_128 (pc' := 129) rfl ?_
                      refine j_callS C (As := [.int (nI ((a 18 (a 8 k)) / 100)), .int (nI x1), .int (nI u1)]) (rest := [.int (nI k), .ref (ad 22)]) (m_in X.2.1 C.2.2.2.2.2.2.2.2 G (nI ((a 18 (a 8 k)) / 100)) (nI x1) (nI u1)) (va_cwS 3 C.2.2.2.2.1 gX4_inBox_X4_in rfl rfl rfl (by decide +kernel) (by rw [hXR]; decide)) rfl rfl (Nat.le_of_ble_eq_true rfl) dX4_inBox_129 (pc' := 132) rfl (by rw [hXR]; exact Nat.zero_le _) (by rw [hXR]; exact Nat.zero_le _) (fun _ _ z => z.elim) ?_
                      rintro r h' ⟨rfl, rfl⟩
                      show jW X G 9 0 0 132 [(8, .int (nI (a 18 (a 8 k)))), (0, .ref mo), (1, .int (nI x1)), (2, .int (nI y1)), (3, .int (nI u1)), (4, .int (nI v1)), (5, .int (nI w1)), (6, .int (nI 1)), (7, .int (nI k))] [.int (bI (decide (nI x1 ≤ nI ((a 18 (a 8 k)) / 100)) && decide (nI ((a 18 (a 8 k)) / 100) ≤ nI u1))), .int (nI k), .ref (ad 22)] ((hM G mo ad h0 (va_up s 25 0) (va_up a 22 (bx1 a x1 y1 u1 v1 k))))
                      rcases hb_57 : (decide (nI x1 ≤ nI ((a 18 (a 8 k)) / 100)) && decide (nI ((a 18 (a 8 k)) / 100) ≤ nI u1)) with _ | _
                      · show jW X G 9 0 0 132 [(8, .int (nI (a 18 (a 8 k)))), (0, .ref mo), (1, .int (nI x1)), (2, .int (nI y1)), (3, .int (nI u1)), (4, .int (nI v1)), (5, .int (nI w1)), (6, .int (nI 1)), (7, .int (nI k))] [.int (nI 0), .int (nI k), .ref (ad 22)] ((hM G mo ad h0 (va_up s 25 0) (va_up a 22 (bx1 a x1 y1 u1 v1 k))))
                        refine j_if_eq C dX4_inBox_132 (tgt := 153) (by decide) (pc' := 135) rfl (fun _ => ?_) (fun c_58 => absurd (by decide) c_58)
                        refine j_iconst C (v := nI 0) rfl dX4_inBox_153 (pc' := 154) rfl ?_
                        refine m_zst C M (f := 22) (j := k) (v := 0) (by decide) rfl rfl rfl (show k < 40 by omega) (by first | rfl | exact bI_vp _) dX4_inBox_154 (pc' := 155) rfl ?_
                        refine j_iinc C (i := 7) (q := 8) (x := nI k) (v := nI (k + 1)) (l' := [(7, .int (nI (k + 1))), (8, .int (nI (a 18 (a 8 k)))), (0, .ref mo), (1, .int (nI x1)), (2, .int (nI y1)), (3, .int (nI u1)), (4, .int (nI v1)), (5, .int (nI w1)), (6, .int (nI 1))]) dX4_inBox_155 (pc' := 158) rfl rfl (nI_add _ _) (by decide) rfl ?_
                        refine j_goto C dX4_inBox_158 (pc' := 74) (by decide) ?_
                        refine jt_h (h' := hM G mo ad h0 (va_up s 25 0) (va_up a 22 (bx1 a x1 y1 u1 v1 (k + 1)))) (by rw [up2_in]; exact congrArg (fun m => hM G mo ad h0 (va_up s 25 0) (va_up a 22 m)) (bx1_0 (fun z => bff hb_57 ((inNN (by omega) (by omega) (by omega)).mpr z.2.2.1)))) ?_
                        exact jW.locals [2, 3, 4, 5, 6, 7, 8, 0] rfl (ih_74 (k + 1) (by omega) (by omega))
                      · show jW X G 9 0 0 132 [(8, .int (nI (a 18 (a 8 k)))), (0, .ref mo), (1, .int (nI x1)), (2, .int (nI y1)), (3, .int (nI u1)), (4, .int (nI v1)), (5, .int (nI w1)), (6, .int (nI 1)), (7, .int (nI k))] [.int (nI 1), .int (nI k), .ref (ad 22)] ((hM G mo ad h0 (va_up s 25 0) (va_up a 22 (bx1 a x1 y1 u1 v1 k))))
                        refine j_if_eq C dX4_inBox_132 (tgt := 153) (by decide) (pc' := 135) rfl (fun c_59 => absurd c_59 (by decide)) (fun _ => ?_)
                        refine j_iload C (i := 8) (x := nI (a 18 (a 8 k))) 0 rfl dX4_inBox_135 (pc' := 137) rfl ?_
                        refine j_bipush C (v := nI 100) rfl dX4_inBox_137 (pc' := 139) rfl ?_
                        refine j_irem C (x := nI (a 18 (a 8 k))) (y := nI 100) (by decide) dX4_inBox_139 (pc' := 140) rfl ?_
                        refine jt_i (pk_rem (by omega) (by omega) (by omega)) ?_
                        refine j_iload_n C (i := 2) (x := nI y1) 3 rfl dX4_inBox_140 (pc' := 141) rfl ?_
                        refine j_iload C (i := 4) (x := nI v1) 5 rfl dX4_inBox_141 (pc' := 143) rfl ?_
                        refine j_callS C (As := [.int (nI ((a 18 (a 8 k)) % 100)), .int (nI y1), .int (nI v1)]) (rest := [.int (nI k), .ref (ad 22)]) (m_in X.2.1 C.2.2.2.2.2.2.2.2 G (nI ((a 18 (a 8 k)) % 100)) (nI y1) (nI v1)) (va_cwS 3 C.2.2.2.2.1 gX4_inBox_X4_in rfl rfl rfl (by decide +kernel) (by rw [hXR]; decide)) rfl rfl (Nat.le_of_ble_eq_true rfl) dX4_inBox_143 (pc' := 146) rfl (by rw [hXR]; exact Nat.zero_le _) (by rw [hXR]; exact Nat.zero_le _) (fun _ _ z => z.elim) ?_
                        rintro r h' ⟨rfl, rfl⟩
                        show jW X G 9 0 0 146 [(8, .int (nI (a 18 (a 8 k)))), (0, .ref mo), (1, .int (nI x1)), (2, .int (nI y1)), (3, .int (nI u1)), (4, .int (nI v1)), (5, .int (nI w1)), (6, .int (nI 1)), (7, .int (nI k))] [.int (bI (decide (nI y1 ≤ nI ((a 18 (a 8 k)) % 100)) && decide (nI ((a 18 (a 8 k)) % 100) ≤ nI v1))), .int (nI k), .ref (ad 22)] ((hM G mo ad h0 (va_up s 25 0) (va_up a 22 (bx1 a x1 y1 u1 v1 k))))
                        rcases hb_60 : (decide (nI y1 ≤ nI ((a 18 (a 8 k)) % 100)) && decide (nI ((a 18 (a 8 k)) % 100) ≤ nI v1)) with _ | _
                        · show jW X G 9 0 0 146 [(8, .int (nI (a 18 (a 8 k)))), (0, .ref mo), (1, .int (nI x1)), (2, .int (nI y1)), (3, .int (nI u1)), (4, .int (nI v1)), (5, .int (nI w1)), (6, .int (nI 1)), (7, .int (nI k))] [.int (nI 0), .int (nI k), .ref (ad 22)] ((hM G mo ad h0 (va_up s 25 0) (va_up a 22 (bx1 a x1 y1 u1 v1 k))))
                          refine j_if_eq C dX4_inBox_146 (tgt := 153) (by decide) (pc' := 149) rfl (fun _ => ?_) (fun c_61 => absurd (by decide) c_61)
                          refine j_iconst C (v := nI 0) rfl dX4_inBox_153 (pc' := 154) rfl ?_
                          refine m_zst C M (f := 22) (j := k) (v := 0) (by decide) rfl rfl rfl (show k < 40 by omega) (by first | rfl | exact bI_vp _) dX4_inBox_154 (pc' := 155) rfl ?_
                          refine j_iinc C (i := 7) (q := 8) (x := nI k) (v := nI (k + 1)) (l' := [(7, .int (nI (k + 1))), (8, .int (nI (a 18 (a 8 k)))), (0, .ref mo), (1, .int (nI x1)), (2, .int (nI y1)), (3, .int (nI u1)), (4, .int (nI v1)), (5, .int (nI w1)), (6, .int (nI 1))]) dX4_inBox_155 (pc' := 158) rfl rfl (nI_add _ _) (by decide) rfl ?_
                          refine j_goto C dX4_inBox_158 (pc' := 74) (by decide) ?_
                          refine jt_h (h' := hM G mo ad h0 (va_up s 25 0) (va_up a 22 (bx1 a x1 y1 u1 v1 (k + 1)))) (by rw [up2_in]; exact congrArg (fun m => hM G mo ad h0 (va_up s 25 0) (va_up a 22 m)) (bx1_0 (fun z => bff hb_60 ((inNN (by omega) (by omega) (by omega)).mpr z.2.2.2)))) ?_
                          exact jW.locals [2, 3, 4, 5, 6, 7, 8, 0] rfl (ih_74 (k + 1) (by omega) (by omega))
                        · show jW X G 9 0 0 146 [(8, .int (nI (a 18 (a 8 k)))), (0, .ref mo), (1, .int (nI x1)), (2, .int (nI y1)), (3, .int (nI u1)), (4, .int (nI v1)), (5, .int (nI w1)), (6, .int (nI 1)), (7, .int (nI k))] [.int (nI 1), .int (nI k), .ref (ad 22)] ((hM G mo ad h0 (va_up s 25 0) (va_up a 22 (bx1 a x1 y1 u1 v1 k))))
                          refine j_if_eq C dX4_inBox_146 (tgt := 153) (by decide) (pc' := 149) rfl (fun c_62 => absurd c_62 (by decide)) (fun _ => ?_)
                          refine j_iconst C (v := nI 1) rfl dX4_inBox_149 (pc' := 150) rfl ?_
                          refine j_goto C dX4_inBox_150 (pc' := 154) (by decide) ?_
                          refine m_zst C M (f := 22) (j := k) (v := 1) (by decide) rfl rfl rfl (show k < 40 by omega) (by first | rfl | exact bI_vp _) dX4_inBox_154 (pc' := 155) rfl ?_
                          refine j_iinc C (i := 7) (q := 8) (x := nI k) (v := nI (k + 1)) (l' := [(7, .int (nI (k + 1))), (8, .int (nI (a 18 (a 8 k)))), (0, .ref mo), (1, .int (nI x1)), (2, .int (nI y1)), (3, .int (nI u1)), (4, .int (nI v1)), (5, .int (nI w1)), (6, .int (nI 1))]) dX4_inBox_155 (pc' := 158) rfl rfl (nI_add _ _) (by decide) rfl ?_
                          refine j_goto C dX4_inBox_158 (pc' := 74) (by decide) ?_
                          refine jt_h (h' := hM G mo ad h0 (va_up s 25 0) (va_up a 22 (bx1 a x1 y1 u1 v1 (k + 1)))) (by rw [up2_in]; exact congrArg (fun m => hM G mo ad h0 (va_up s 25 0) (va_up a 22 m)) (bx1_1 (⟨by omega, hb_54, (inNN (by omega) (by omega) (by omega)).mp hb_57, (inNN (by omega) (by omega) (by omega)).mp hb_60⟩))) ?_
                          exact jW.locals [2, 3, 4, 5, 6, 7, 8, 0] rfl (ih_74 (k + 1) (by omega) (by omega))
            refine jt_h (h' := hM G mo ad h0 (va_up s 25 0) (va_up a 22 (bx1 a x1 y1 u1 v1 0))) (by rw [show bx1 a x1 y1 u1 v1 0 = a 22 from rfl, up_same]) ?_
            exact jW.locals [2, 3, 4, 5, 6, 7, 1, 0] rfl (L_74 ((s 6 - 0) + 1) 0 (by omega) (by omega))
