theorem up2_in {a : mA} {f : Nat} {m : Nat → Nat} {j v : Nat} : va_up2 (va_up a f m) f j v = va_up a f (va_up m j v) := by
  unfold va_up2; rw [up_s, up_up]
theorem up_same {a : mA} {f : Nat} : va_up a f (a f) = a := by
  funext g
  by_cases h : g = f
  · subst h; rw [up_s]
  · rw [up_n h]
def rC (a : mA) (n : Nat) : Nat → Nat := fun j => if j < n then 0 else a 21 j
def rQ (N : Nat) (a : mA) : Nat → Nat → Nat
  | 0 => rC a N
  | k + 1 => va_up (rQ N a k) (a 24 k) (if a 7 (a 24 k) = 2 then 1 else 0)
def rS (a : mA) (its : Nat) (m : Nat → Nat) (k n : Nat) : Nat → Nat := va_up m n (if m n = 1 ∨ (m k = 1 ∧ k ≠ its ∧ a 7 n = 2 ∧ mHas a k n = true) then 1 else 0)
def rI (a : mA) (its : Nat) (m : Nat → Nat) (k : Nat) : Nat → Nat → Nat
  | 0 => m
  | n + 1 => rS a its (rI a its m k n) k n
def rK (N : Nat) (a : mA) (its : Nat) (m : Nat → Nat) : Nat → Nat → Nat
  | 0 => m
  | k + 1 => rI a its (rK N a its m k) k N
def rR (N Q : Nat) (a : mA) (its : Nat) : Nat → Nat → Nat
  | 0 => rQ N a Q
  | r + 1 => rK N a its (rR N Q a its r) N
def mRing (s : mS) (a : mA) (its : Nat) : Bool := decide (a 7 its = 2) && decide (rR (s 6) (s 23) a its (s 6) its = 1)
def mRingA (s : mS) (a : mA) (its : Nat) : mA := if a 7 its = 2 then va_up a 21 (rR (s 6) (s 23) a its (s 6)) else a
theorem up_le {m : Nat → Nat} {j v b : Nat} (h : ∀ j, m j ≤ b) (hv : v ≤ b) (i : Nat) : va_up m j v i ≤ b := by
  by_cases e : i = j
  · subst e; rw [up_s]; exact hv
  · rw [up_n e]; exact h i
theorem ite01 {c : Prop} [Decidable c] : (if c then 1 else 0 : Nat) ≤ 1 := by split <;> omega
theorem rC_le {a : mA} (I : IA a) (n j : Nat) : rC a n j ≤ 1 := by
  unfold rC
  by_cases h : j < n
  · rw [if_pos h]; omega
  · rw [if_neg h]; exact I.marked j
theorem rQ_le {N : Nat} {a : mA} (I : IA a) : ∀ k j, rQ N a k j ≤ 1
  | 0, j => rC_le I N j
  | k + 1, j => up_le (rQ_le I k) ite01 j
theorem rS_le {a : mA} {its : Nat} {m : Nat → Nat} (h : ∀ j, m j ≤ 1) (k n j : Nat) : rS a its m k n j ≤ 1 := up_le h ite01 j
theorem rI_le {a : mA} {its : Nat} {m : Nat → Nat} (h : ∀ j, m j ≤ 1) (k : Nat) : ∀ n j, rI a its m k n j ≤ 1
  | 0, j => h j
  | n + 1, j => rS_le (rI_le h k n) k n j
theorem rK_le {N : Nat} {a : mA} {its : Nat} {m : Nat → Nat} (h : ∀ j, m j ≤ 1) : ∀ k j, rK N a its m k j ≤ 1
  | 0, j => h j
  | k + 1, j => rI_le (rK_le h k) k N j
theorem rR_le {N Q : Nat} {a : mA} {its : Nat} (I : IA a) : ∀ r j, rR N Q a its r j ≤ 1
  | 0, j => rQ_le I Q j
  | r + 1, j => rK_le (rR_le I r) N j
theorem IA.up01 {a : mA} (I : IA a) {g : Nat} (hg : g = 21 ∨ g = 22) {f : Nat → Nat} (h : ∀ j, f j ≤ 1) : IA (va_up a g f) := by
  have key : ∀ q, q ≠ 21 → q ≠ 22 → va_up a g f q = a q := fun q h1 h2 => up_n (by rcases hg with rfl | rfl <;> assumption)
  refine ⟨fun q j => ?_, fun j => ?_, fun j => ?_, fun j => ?_, fun j => ?_, fun j => ?_, fun j => ?_, fun j => ?_, fun j => ?_, fun j => ?_, fun j => ?_, fun j => ?_, fun j => ?_, fun j => ?_⟩
  · by_cases hq : q = g
    · subst hq; rw [up_s]; have := h j; omega
    · rw [up_n hq]; exact I.1 q j
  · rw [key 8 (by decide) (by decide)]; exact I.last j
  · rw [key 5 (by decide) (by decide)]; exact I.draft j
  · rw [key 24 (by decide) (by decide)]; exact I.asks j
  · rw [key 19 (by decide) (by decide)]; exact I.size j
  · rw [key 20 (by decide) (by decide)]; exact I.member j
  · rw [key 11 (by decide) (by decide)]; exact I.of j
  · rw [key 13 (by decide) (by decide)]; exact I.ahead' j
  · rw [key 3 (by decide) (by decide)]; exact I.closed j
  · rw [key 16 (by decide) (by decide)]; exact I.there j
  · rw [key 17 (by decide) (by decide)]; exact I.hidden j
  · by_cases h2 : (21 : Nat) = g
    · rw [← h2, up_s]; exact h j
    · rw [up_n h2]; exact I.marked j
  · by_cases h2 : (22 : Nat) = g
    · rw [← h2, up_s]; exact h j
    · rw [up_n h2]; exact I.drawn j
  · rw [key 7 (by decide) (by decide)]; exact I.kind j
theorem IA.ring {s : mS} {a : mA} (I : IA a) (its : Nat) : IA (mRingA s a its) := by
  unfold mRingA
  split
  · exact I.up01 (Or.inl rfl) (rR_le I _)
  · exact I
theorem rS_1 {a : mA} {its : Nat} {m : Nat → Nat} {k n : Nat} (h : m n = 1 ∨ (m k = 1 ∧ k ≠ its ∧ a 7 n = 2 ∧ mHas a k n = true)) : va_up m n 1 = rS a its m k n := by unfold rS; rw [if_pos h]
theorem rS_0 {a : mA} {its : Nat} {m : Nat → Nat} {k n : Nat} (h : ¬ (m n = 1 ∨ (m k = 1 ∧ k ≠ its ∧ a 7 n = 2 ∧ mHas a k n = true))) : va_up m n 0 = rS a its m k n := by unfold rS; rw [if_neg h]
set_option maxRecDepth 100000 in
set_option maxHeartbeats 4000000 in
theorem m_isRing (l : Launch) (hlt : l.stackTraces = false) (G : jG) {mo : Nat} {ad : Nat → Nat} {h0 : jH} (M : mG mo ad) (s : mS) (a : mA) (its : Nat) (J : IS s) (I : IA a) (hi : its < 40) : jM l G yX4_isRing wsX4_isRing 2 45 0 0 [.ref mo, .int (nI its)] (hM G mo ad h0 s a) (fun r h' => r = some (.int (bI (mRing s a its))) ∧ h' = hM G mo ad h0 s (mRingA s a its)) (fun _ _ => False) := by
  have h6 := J.2.1
  have h23 := J.2.2.2.2.2
  refine jM_of (cc := cX4_isRing) (maxL := 5) (ret := (some .boolean)) hlt (by decide +kernel) rfl (Nat.le_of_ble_eq_true rfl) ?_
  intro X C E hXl hXR hXn
  have hin : ∀ w ∈ u_ws RX4 TX4 26, w ∈ wsX4_isRing := by decide +kernel
  show jW X G 5 0 0 0 [(0, .ref mo), (1, .int (nI its))] [] ((hM G mo ad h0 s a))
  refine j_aload_n C (i := 0) (x := mo) 0 rfl dX4_isRing_0 (pc' := 1) rfl ?_
  refine m_geta C (f := 7) (idx := 17) hin (by decide) rfl (by decide +kernel) dX4_isRing_1 (pc' := 4) rfl ?_
  refine j_iload_n C (i := 1) (x := nI its) 1 rfl dX4_isRing_4 (pc' := 5) rfl ?_
  refine m_ald C M (f := 7) (j := its) (by decide) rfl rfl rfl (show its < 40 by omega) dX4_isRing_5 (pc' := 6) rfl ?_
  have B_1 := IA.kind I its
  refine j_iconst C (v := nI 2) rfl dX4_isRing_6 (pc' := 7) rfl ?_
  refine j_icmp_eq C dX4_isRing_7 (tgt := 12) (by decide) (pc' := 10) rfl (fun c_2 => ?_) (fun c_2 => ?_)
  · have c_2 := (nI_eq (a := a 7 its) (b := 2) (by omega) (by omega)).mp c_2
    have c_2 : (a 7 its) = 2 := c_2
    refine j_iconst C (v := nI 0) rfl dX4_isRing_12 (pc' := 13) rfl ?_
    refine j_istore_n C (i := 2) (x := nI 0) (l' := [(2, .int (nI 0)), (0, .ref mo), (1, .int (nI its))]) dX4_isRing_13 (pc' := 14) rfl (by decide) rfl ?_
    have L_14 : ∀ (N_14 : Nat) (k : Nat), (s 6 - k) < N_14 → (k ≤ s 6) → jW X G 5 0 0 14 [(0, .ref mo), (1, .int (nI its)), (2, .int (nI k))] [] ((hM G mo ad h0 s (va_up a 21 (rC a k)))) := by
      intro N_14
      induction N_14 with
      | zero => intro k hm_14 hk; omega
      | succ N_14 ih_14 =>
        intro k hm_14 hk
        refine j_iload_n C (i := 2) (x := nI k) 2 rfl dX4_isRing_14 (pc' := 15) rfl ?_
        refine j_aload_n C (i := 0) (x := mo) 0 rfl dX4_isRing_15 (pc' := 16) rfl ?_
        refine m_get C (f := 6) (idx := 69) hin (by decide) rfl (by decide +kernel) dX4_isRing_16 (pc' := 19) rfl ?_
        refine j_icmp_ge C dX4_isRing_19 (tgt := 35) (by decide) (pc' := 22) rfl (fun c_3 => ?_) (fun c_3 => ?_)
        · have c_3 := (nI_leI (a := s 6) (b := k) (by omega) (by omega)).mp c_3
          have c_3 : (s 6) ≤ k := c_3
          refine j_iconst C (v := nI 0) rfl dX4_isRing_35 (pc' := 36) rfl ?_
          refine j_istore_n C (i := 2) (x := nI 0) (l' := [(2, .int (nI 0)), (0, .ref mo), (1, .int (nI its))]) dX4_isRing_36 (pc' := 37) rfl (by decide) rfl ?_
          have L_37 : ∀ (N_37 : Nat) (k : Nat), (s 23 - k) < N_37 → (k ≤ s 23) → jW X G 5 0 0 37 [(0, .ref mo), (1, .int (nI its)), (2, .int (nI k))] [] ((hM G mo ad h0 s (va_up a 21 (rQ (s 6) a k)))) := by
            intro N_37
            induction N_37 with
            | zero => intro k hm_37 hk; omega
            | succ N_37 ih_37 =>
              intro k hm_37 hk
              refine j_iload_n C (i := 2) (x := nI k) 2 rfl dX4_isRing_37 (pc' := 38) rfl ?_
              refine j_aload_n C (i := 0) (x := mo) 0 rfl dX4_isRing_38 (pc' := 39) rfl ?_
              refine m_get C (f := 23) (idx := 100) hin (by decide) rfl (by decide +kernel) dX4_isRing_39 (pc' := 42) rfl ?_
              refine j_icmp_ge C dX4_isRing_42 (tgt := 82) (by decide) (pc' := 45) rfl (fun c_4 => ?_) (fun c_4 => ?_)
              · have c_4 := (nI_leI (a := s 23) (b := k) (by omega) (by omega)).mp c_4
                have c_4 : (s 23) ≤ k := c_4
                refine j_iconst C (v := nI 0) rfl dX4_isRing_82 (pc' := 83) rfl ?_
                refine j_istore_n C (i := 2) (x := nI 0) (l' := [(2, .int (nI 0)), (0, .ref mo), (1, .int (nI its))]) dX4_isRing_83 (pc' := 84) rfl (by decide) rfl ?_
                have L_84 : ∀ (N_84 : Nat) (r : Nat), (s 6 - r) < N_84 → (r ≤ s 6) → jW X G 5 0 0 84 [(0, .ref mo), (1, .int (nI its)), (2, .int (nI r))] [] ((hM G mo ad h0 s (va_up a 21 (rR (s 6) (s 23) a its r)))) := by
                  intro N_84
                  induction N_84 with
                  | zero => intro r hm_84 hr; omega
                  | succ N_84 ih_84 =>
                    intro r hm_84 hr
                    have b84 : ∀ j, (rR (s 6) (s 23) a its r) j ≤ 1 := rR_le I r
                    refine j_iload_n C (i := 2) (x := nI r) 2 rfl dX4_isRing_84 (pc' := 85) rfl ?_
                    refine j_aload_n C (i := 0) (x := mo) 0 rfl dX4_isRing_85 (pc' := 86) rfl ?_
                    refine m_get C (f := 6) (idx := 69) hin (by decide) rfl (by decide +kernel) dX4_isRing_86 (pc' := 89) rfl ?_
                    refine j_icmp_ge C dX4_isRing_89 (tgt := 189) (by decide) (pc' := 92) rfl (fun c_5 => ?_) (fun c_5 => ?_)
                    · have c_5 := (nI_leI (a := s 6) (b := r) (by omega) (by omega)).mp c_5
                      have c_5 : (s 6) ≤ r := c_5
                      refine j_aload_n C (i := 0) (x := mo) 0 rfl dX4_isRing_189 (pc' := 190) rfl ?_
                      refine m_geta C (f := 21) (idx := 56) hin (by decide) rfl (by decide +kernel) dX4_isRing_190 (pc' := 193) rfl ?_
                      refine j_iload_n C (i := 1) (x := nI its) 1 rfl dX4_isRing_193 (pc' := 194) rfl ?_
                      refine m_zld C M (f := 21) (j := its) (by decide) rfl rfl rfl (show its < 40 by omega) dX4_isRing_194 (pc' := 195) rfl ?_
                      show jW X G 5 0 0 195 [(0, .ref mo), (1, .int (nI its)), (2, .int (nI r))] [.int (nI (rR (s 6) (s 23) a its r its))] ((hM G mo ad h0 s (va_up a 21 (rR (s 6) (s 23) a its r))))
                      have B_6 := b84 its
                      exact j_iret C E dX4_isRing_195 (by first | rfl | exact nar1 (rR_le I _ _)) (Nat.le_refl _) (Nat.le_refl _) ⟨bI_e (by unfold mRing; rw [decide_eq_true c_2, show s 6 = r from by omega, Bool.true_and]; exact toN1 (rR_le I _ _)), by unfold mRingA; rw [if_pos c_2, show s 6 = r from by omega]⟩
                    · have c_5 := fun zq => c_5 ((nI_leI (a := s 6) (b := r) (by omega) (by omega)).mpr zq)
                      have c_5 : ¬ (s 6) ≤ r := c_5
                      refine j_iconst C (v := nI 0) rfl dX4_isRing_92 (pc' := 93) rfl ?_
                      refine j_istore_n C (i := 3) (x := nI 0) (l' := [(3, .int (nI 0)), (0, .ref mo), (1, .int (nI its)), (2, .int (nI r))]) dX4_isRing_93 (pc' := 94) rfl (by decide) rfl ?_
                      have L_94 : ∀ (N_94 : Nat) (k : Nat), (s 6 - k) < N_94 → (k ≤ s 6) → jW X G 5 0 0 94 [(0, .ref mo), (1, .int (nI its)), (2, .int (nI r)), (3, .int (nI k))] [] ((hM G mo ad h0 s (va_up a 21 (rK (s 6) a its (rR (s 6) (s 23) a its r) k)))) := by
                        intro N_94
                        induction N_94 with
                        | zero => intro k hm_94 hk; omega
                        | succ N_94 ih_94 =>
                          intro k hm_94 hk
                          have b94 : ∀ j, (rK (s 6) a its (rR (s 6) (s 23) a its r) k) j ≤ 1 := rK_le b84 k
                          refine j_iload_n C (i := 3) (x := nI k) 3 rfl dX4_isRing_94 (pc' := 95) rfl ?_
                          refine j_aload_n C (i := 0) (x := mo) 0 rfl dX4_isRing_95 (pc' := 96) rfl ?_
                          refine m_get C (f := 6) (idx := 69) hin (by decide) rfl (by decide +kernel) dX4_isRing_96 (pc' := 99) rfl ?_
                          refine j_icmp_ge C dX4_isRing_99 (tgt := 183) (by decide) (pc' := 102) rfl (fun c_7 => ?_) (fun c_7 => ?_)
                          · have c_7 := (nI_leI (a := s 6) (b := k) (by omega) (by omega)).mp c_7
                            have c_7 : (s 6) ≤ k := c_7
                            refine j_iinc C (i := 2) (q := 2) (x := nI r) (v := nI (r + 1)) (l' := [(2, .int (nI (r + 1))), (0, .ref mo), (1, .int (nI its)), (3, .int (nI k))]) dX4_isRing_183 (pc' := 186) rfl rfl (nI_add _ _) (by decide) rfl ?_
                            refine j_goto C dX4_isRing_186 (pc' := 84) (by decide) ?_
                            refine jt_h (h' := hM G mo ad h0 s (va_up a 21 (rR (s 6) (s 23) a its (r + 1)))) (by show _ = hM G mo ad h0 s (va_up a 21 (rK (s 6) a its (rR (s 6) (s 23) a its r) (s 6))); rw [show s 6 = k from by omega]) ?_
                            exact jW.locals [1, 2, 0] rfl (ih_84 (r + 1) (by omega) (by omega))
                          · have c_7 := fun zq => c_7 ((nI_leI (a := s 6) (b := k) (by omega) (by omega)).mpr zq)
                            have c_7 : ¬ (s 6) ≤ k := c_7
                            refine j_iconst C (v := nI 0) rfl dX4_isRing_102 (pc' := 103) rfl ?_
                            refine j_istore C (i := 4) (x := nI 0) (l' := [(4, .int (nI 0)), (0, .ref mo), (1, .int (nI its)), (2, .int (nI r)), (3, .int (nI k))]) dX4_isRing_103 (pc' := 105) rfl (by decide) rfl ?_
                            have L_105 : ∀ (N_105 : Nat) (n : Nat), (s 6 - n) < N_105 → (n ≤ s 6) → jW X G 5 0 0 105 [(0, .ref mo), (1, .int (nI its)), (2, .int (nI r)), (3, .int (nI k)), (4, .int (nI n))] [] ((hM G mo ad h0 s (va_up a 21 (rI a its (rK (s 6) a its (rR (s 6) (s 23) a its r) k) k n)))) := by
                              intro N_105
                              induction N_105 with
                              | zero => intro n hm_105 hn; omega
                              | succ N_105 ih_105 =>
                                intro n hm_105 hn
                                have b105 : ∀ j, (rI a its (rK (s 6) a its (rR (s 6) (s 23) a its r) k) k n) j ≤ 1 := rI_le b94 k n
                                refine j_iload C (i := 4) (x := nI n) 4 rfl dX4_isRing_105 (pc' := 107) rfl ?_
                                refine j_aload_n C (i := 0) (x := mo) 0 rfl dX4_isRing_107 (pc' := 108) rfl ?_
                                refine m_get C (f := 6) (idx := 69) hin (by decide) rfl (by decide +kernel) dX4_isRing_108 (pc' := 111) rfl ?_
                                refine j_icmp_ge C dX4_isRing_111 (tgt := 177) (by decide) (pc' := 114) rfl (fun c_8 => ?_) (fun c_8 => ?_)
                                · have c_8 := (nI_leI (a := s 6) (b := n) (by omega) (by omega)).mp c_8
                                  have c_8 : (s 6) ≤ n := c_8
                                  refine j_iinc C (i := 3) (q := 3) (x := nI k) (v := nI (k + 1)) (l' := [(3, .int (nI (k + 1))), (0, .ref mo), (1, .int (nI its)), (2, .int (nI r)), (4, .int (nI n))]) dX4_isRing_177 (pc' := 180) rfl rfl (nI_add _ _) (by decide) rfl ?_
                                  refine j_goto C dX4_isRing_180 (pc' := 94) (by decide) ?_
                                  refine jt_h (h' := hM G mo ad h0 s (va_up a 21 (rK (s 6) a its (rR (s 6) (s 23) a its r) (k + 1)))) (by show _ = hM G mo ad h0 s (va_up a 21 (rI a its (rK (s 6) a its (rR (s 6) (s 23) a its r) k) k (s 6))); rw [show s 6 = n from by omega]) ?_
                                  exact jW.locals [1, 2, 3, 0] rfl (ih_94 (k + 1) (by omega) (by omega))
                                · have c_8 := fun zq => c_8 ((nI_leI (a := s 6) (b := n) (by omega) (by omega)).mpr zq)
                                  have c_8 : ¬ (s 6) ≤ n := c_8
                                  refine j_aload_n C (i := 0) (x := mo) 0 rfl dX4_isRing_114 (pc' := 115) rfl ?_
                                  refine m_geta C (f := 21) (idx := 56) hin (by decide) rfl (by decide +kernel) dX4_isRing_115 (pc' := 118) rfl ?_
                                  refine j_iload C (i := 4) (x := nI n) 4 rfl dX4_isRing_118 (pc' := 120) rfl ?_
                                  refine j_aload_n C (i := 0) (x := mo) 0 rfl dX4_isRing_120 (pc' := 121) rfl ?_
                                  refine m_geta C (f := 21) (idx := 56) hin (by decide) rfl (by decide +kernel) dX4_isRing_121 (pc' := 124) rfl ?_
                                  refine j_iload C (i := 4) (x := nI n) 4 rfl dX4_isRing_124 (pc' := 126) rfl ?_
                                  refine m_zld C M (f := 21) (j := n) (by decide) rfl rfl rfl (show n < 40 by omega) dX4_isRing_126 (pc' := 127) rfl ?_
                                  show jW X G 5 0 0 127 [(0, .ref mo), (1, .int (nI its)), (2, .int (nI r)), (3, .int (nI k)), (4, .int (nI n))] [.int (nI (rI a its (rK (s 6) a its (rR (s 6) (s 23) a its r) k) k n n)), .int (nI n), .ref (ad 21)] ((hM G mo ad h0 s (va_up a 21 (rI a its (rK (s 6) a its (rR (s 6) (s 23) a its r) k) k n))))
                                  have B_9 := b105 n
                                  refine j_if_ne C dX4_isRing_127 (tgt := 165) (by decide) (pc' := 130) rfl (fun c_10 => ?_) (fun c_10 => ?_)
                                  · have c_10 := fun zq => c_10 ((nI_eq (a := rI a its (rK (s 6) a its (rR (s 6) (s 23) a its r) k) k n n) (b := 0) (by omega) (by omega)).mpr zq)
                                    have c_10 : ¬ (rI a its (rK (s 6) a its (rR (s 6) (s 23) a its r) k) k n n) = 0 := c_10
                                    refine j_iconst C (v := nI 1) rfl dX4_isRing_165 (pc' := 166) rfl ?_
                                    refine j_goto C dX4_isRing_166 (pc' := 170) (by decide) ?_
                                    refine m_zst C M (f := 21) (j := n) (v := 1) (by decide) rfl rfl rfl (show n < 40 by omega) (by first | rfl | exact bI_vp _) dX4_isRing_170 (pc' := 171) rfl ?_
                                    refine j_iinc C (i := 4) (q := 4) (x := nI n) (v := nI (n + 1)) (l' := [(4, .int (nI (n + 1))), (0, .ref mo), (1, .int (nI its)), (2, .int (nI r)), (3, .int (nI k))]) dX4_isRing_171 (pc' := 174) rfl rfl (nI_add _ _) (by decide) rfl ?_
                                    refine j_goto C dX4_isRing_174 (pc' := 105) (by decide) ?_
                                    refine jt_h (h' := hM G mo ad h0 s (va_up a 21 (rI a its (rK (s 6) a its (rR (s 6) (s 23) a its r) k) k (n + 1)))) (by rw [up2_in]; exact congrArg (fun m => hM G mo ad h0 s (va_up a 21 m)) (rS_1 (Or.inl (by omega)))) ?_
                                    exact jW.locals [1, 2, 3, 4, 0] rfl (ih_105 (n + 1) (by omega) (by omega))
                                  · have c_10 := (nI_eq (a := rI a its (rK (s 6) a its (rR (s 6) (s 23) a its r) k) k n n) (b := 0) (by omega) (by omega)).mp c_10
                                    have c_10 : (rI a its (rK (s 6) a its (rR (s 6) (s 23) a its r) k) k n n) = 0 := c_10
                                    refine j_aload_n C (i := 0) (x := mo) 0 rfl dX4_isRing_130 (pc' := 131) rfl ?_
                                    refine m_geta C (f := 21) (idx := 56) hin (by decide) rfl (by decide +kernel) dX4_isRing_131 (pc' := 134) rfl ?_
                                    refine j_iload_n C (i := 3) (x := nI k) 3 rfl dX4_isRing_134 (pc' := 135) rfl ?_
                                    refine m_zld C M (f := 21) (j := k) (by decide) rfl rfl rfl (show k < 40 by omega) dX4_isRing_135 (pc' := 136) rfl ?_
                                    show jW X G 5 0 0 136 [(0, .ref mo), (1, .int (nI its)), (2, .int (nI r)), (3, .int (nI k)), (4, .int (nI n))] [.int (nI (rI a its (rK (s 6) a its (rR (s 6) (s 23) a its r) k) k n k)), .int (nI n), .ref (ad 21)] ((hM G mo ad h0 s (va_up a 21 (rI a its (rK (s 6) a its (rR (s 6) (s 23) a its r) k) k n))))
                                    have B_11 := b105 k
                                    refine j_if_eq C dX4_isRing_136 (tgt := 169) (by decide) (pc' := 139) rfl (fun c_12 => ?_) (fun c_12 => ?_)
                                    · have c_12 := (nI_eq (a := rI a its (rK (s 6) a its (rR (s 6) (s 23) a its r) k) k n k) (b := 0) (by omega) (by omega)).mp c_12
                                      have c_12 : (rI a its (rK (s 6) a its (rR (s 6) (s 23) a its r) k) k n k) = 0 := c_12
                                      refine j_iconst C (v := nI 0) rfl dX4_isRing_169 (pc' := 170) rfl ?_
                                      refine m_zst C M (f := 21) (j := n) (v := 0) (by decide) rfl rfl rfl (show n < 40 by omega) (by first | rfl | exact bI_vp _) dX4_isRing_170 (pc' := 171) rfl ?_
                                      refine j_iinc C (i := 4) (q := 4) (x := nI n) (v := nI (n + 1)) (l' := [(4, .int (nI (n + 1))), (0, .ref mo), (1, .int (nI its)), (2, .int (nI r)), (3, .int (nI k))]) dX4_isRing_171 (pc' := 174) rfl rfl (nI_add _ _) (by decide) rfl ?_
                                      refine j_goto C dX4_isRing_174 (pc' := 105) (by decide) ?_
                                      refine jt_h (h' := hM G mo ad h0 s (va_up a 21 (rI a its (rK (s 6) a its (rR (s 6) (s 23) a its r) k) k (n + 1)))) (by rw [up2_in]; exact congrArg (fun m => hM G mo ad h0 s (va_up a 21 m)) (rS_0 (by rintro (h | h) <;> omega))) ?_
                                      exact jW.locals [1, 2, 3, 4, 0] rfl (ih_105 (n + 1) (by omega) (by omega))
                                    · have c_12 := fun zq => c_12 ((nI_eq (a := rI a its (rK (s 6) a its (rR (s 6) (s 23) a its r) k) k n k) (b := 0) (by omega) (by omega)).mpr zq)
                                      have c_12 : ¬ (rI a its (rK (s 6) a its (rR (s 6) (s 23) a its r) k) k n k) = 0 := c_12
                                      refine j_iload_n C (i := 3) (x := nI k) 3 rfl dX4_isRing_139 (pc' := 140) rfl ?_
                                      refine j_iload_n C (i := 1) (x := nI its) 1 rfl dX4_isRing_140 (pc' := 141) rfl ?_
                                      refine j_icmp_eq C dX4_isRing_141 (tgt := 169) (by decide) (pc' := 144) rfl (fun c_13 => ?_) (fun c_13 => ?_)
                                      · have c_13 := (nI_eq (a := k) (b := its) (by omega) (by omega)).mp c_13
                                        have c_13 : k = its := c_13
                                        refine j_iconst C (v := nI 0) rfl dX4_isRing_169 (pc' := 170) rfl ?_
                                        refine m_zst C M (f := 21) (j := n) (v := 0) (by decide) rfl rfl rfl (show n < 40 by omega) (by first | rfl | exact bI_vp _) dX4_isRing_170 (pc' := 171) rfl ?_
                                        refine j_iinc C (i := 4) (q := 4) (x := nI n) (v := nI (n + 1)) (l' := [(4, .int (nI (n + 1))), (0, .ref mo), (1, .int (nI its)), (2, .int (nI r)), (3, .int (nI k))]) dX4_isRing_171 (pc' := 174) rfl rfl (nI_add _ _) (by decide) rfl ?_
                                        refine j_goto C dX4_isRing_174 (pc' := 105) (by decide) ?_
                                        refine jt_h (h' := hM G mo ad h0 s (va_up a 21 (rI a its (rK (s 6) a its (rR (s 6) (s 23) a its r) k) k (n + 1)))) (by rw [up2_in]; exact congrArg (fun m => hM G mo ad h0 s (va_up a 21 m)) (rS_0 (by rintro (h | ⟨_, h, _⟩) <;> first | omega | (exact h (by omega))))) ?_
                                        exact jW.locals [1, 2, 3, 4, 0] rfl (ih_105 (n + 1) (by omega) (by omega))
                                      · have c_13 := fun zq => c_13 ((nI_eq (a := k) (b := its) (by omega) (by omega)).mpr zq)
                                        have c_13 : ¬ k = its := c_13
                                        refine j_aload_n C (i := 0) (x := mo) 0 rfl dX4_isRing_144 (pc' := 145) rfl ?_
                                        refine m_geta C (f := 7) (idx := 17) hin (by decide) rfl (by decide +kernel) dX4_isRing_145 (pc' := 148) rfl ?_
                                        refine j_iload C (i := 4) (x := nI n) 4 rfl dX4_isRing_148 (pc' := 150) rfl ?_
                                        refine m_ald C M (f := 7) (j := n) (by decide) rfl rfl rfl (show n < 40 by omega) dX4_isRing_150 (pc' := 151) rfl ?_
                                        show jW X G 5 0 0 151 [(0, .ref mo), (1, .int (nI its)), (2, .int (nI r)), (3, .int (nI k)), (4, .int (nI n))] [.int (nI (a 7 n)), .int (nI n), .ref (ad 21)] ((hM G mo ad h0 s (va_up a 21 (rI a its (rK (s 6) a its (rR (s 6) (s 23) a its r) k) k n))))
                                        have B_14 := IA.kind I n
                                        refine j_iconst C (v := nI 2) rfl dX4_isRing_151 (pc' := 152) rfl ?_
                                        refine j_icmp_ne C dX4_isRing_152 (tgt := 169) (by decide) (pc' := 155) rfl (fun c_15 => ?_) (fun c_15 => ?_)
                                        · have c_15 := fun zq => c_15 ((nI_eq (a := a 7 n) (b := 2) (by omega) (by omega)).mpr zq)
                                          have c_15 : ¬ (a 7 n) = 2 := c_15
                                          refine j_iconst C (v := nI 0) rfl dX4_isRing_169 (pc' := 170) rfl ?_
                                          refine m_zst C M (f := 21) (j := n) (v := 0) (by decide) rfl rfl rfl (show n < 40 by omega) (by first | rfl | exact bI_vp _) dX4_isRing_170 (pc' := 171) rfl ?_
                                          refine j_iinc C (i := 4) (q := 4) (x := nI n) (v := nI (n + 1)) (l' := [(4, .int (nI (n + 1))), (0, .ref mo), (1, .int (nI its)), (2, .int (nI r)), (3, .int (nI k))]) dX4_isRing_171 (pc' := 174) rfl rfl (nI_add _ _) (by decide) rfl ?_
                                          refine j_goto C dX4_isRing_174 (pc' := 105) (by decide) ?_
                                          refine jt_h (h' := hM G mo ad h0 s (va_up a 21 (rI a its (rK (s 6) a its (rR (s 6) (s 23) a its r) k) k (n + 1)))) (by rw [up2_in]; exact congrArg (fun m => hM G mo ad h0 s (va_up a 21 m)) (rS_0 (by rintro (h | ⟨_, _, h, _⟩) <;> omega))) ?_
                                          exact jW.locals [1, 2, 3, 4, 0] rfl (ih_105 (n + 1) (by omega) (by omega))
                                        · have c_15 := (nI_eq (a := a 7 n) (b := 2) (by omega) (by omega)).mp c_15
                                          have c_15 : (a 7 n) = 2 := c_15
                                          refine j_aload_n C (i := 0) (x := mo) 0 rfl dX4_isRing_155 (pc' := 156) rfl ?_
                                          refine j_iload_n C (i := 3) (x := nI k) 3 rfl dX4_isRing_156 (pc' := 157) rfl ?_
                                          refine j_iload C (i := 4) (x := nI n) 4 rfl dX4_isRing_157 (pc' := 159) rfl ?_
                                          refine j_callV C (As := [.int (nI k), .int (nI n)]) (rest := [.int (nI n), .ref (ad 21)]) (m_hasMember X.2.1 C.2.2.2.2.2.2.2.2 G M s (va_up a 21 (rI a its (rK (s 6) a its (rR (s 6) (s 23) a its r) k) k n)) k n (IA.up01 I (Or.inl rfl) b105) (by omega) (by omega)) (cwV 2 C.2.2.2.2.1 gX4_isRing_X4_hasMember rfl rfl rfl (by decide +kernel) (by rw [hXR]; decide)) hM_obj rfl rfl rfl (Nat.le_of_ble_eq_true rfl) dX4_isRing_159 (pc' := 162) rfl (by rw [hXR]; exact Nat.zero_le _) (by rw [hXR]; exact Nat.zero_le _) (fun _ _ z => z.elim) ?_
                                          rintro r h' ⟨rfl, rfl⟩
                                          show jW X G 5 0 0 162 [(0, .ref mo), (1, .int (nI its)), (2, .int (nI r)), (3, .int (nI k)), (4, .int (nI n))] [.int (bI (mHas a k n)), .int (nI n), .ref (ad 21)] ((hM G mo ad h0 s (va_up a 21 (rI a its (rK (s 6) a its (rR (s 6) (s 23) a its r) k) k n))))
                                          rcases hb_16 : (mHas a k n) with _ | _
                                          · show jW X G 5 0 0 162 [(0, .ref mo), (1, .int (nI its)), (2, .int (nI r)), (3, .int (nI k)), (4, .int (nI n))] [.int (nI 0), .int (nI n), .ref (ad 21)] ((hM G mo ad h0 s (va_up a 21 (rI a its (rK (s 6) a its (rR (s 6) (s 23) a its r) k) k n))))
                                            refine j_if_eq C dX4_isRing_162 (tgt := 169) (by decide) (pc' := 165) rfl (fun _ => ?_) (fun c_17 => absurd (by decide) c_17)
                                            refine j_iconst C (v := nI 0) rfl dX4_isRing_169 (pc' := 170) rfl ?_
                                            refine m_zst C M (f := 21) (j := n) (v := 0) (by decide) rfl rfl rfl (show n < 40 by omega) (by first | rfl | exact bI_vp _) dX4_isRing_170 (pc' := 171) rfl ?_
                                            refine j_iinc C (i := 4) (q := 4) (x := nI n) (v := nI (n + 1)) (l' := [(4, .int (nI (n + 1))), (0, .ref mo), (1, .int (nI its)), (2, .int (nI r)), (3, .int (nI k))]) dX4_isRing_171 (pc' := 174) rfl rfl (nI_add _ _) (by decide) rfl ?_
                                            refine j_goto C dX4_isRing_174 (pc' := 105) (by decide) ?_
                                            refine jt_h (h' := hM G mo ad h0 s (va_up a 21 (rI a its (rK (s 6) a its (rR (s 6) (s 23) a its r) k) k (n + 1)))) (by rw [up2_in]; exact congrArg (fun m => hM G mo ad h0 s (va_up a 21 m)) (rS_0 (by rintro (h | ⟨_, _, _, h⟩) <;> first | omega | (rw [hb_16] at h; cases h)))) ?_
                                            exact jW.locals [1, 2, 3, 4, 0] rfl (ih_105 (n + 1) (by omega) (by omega))
                                          · show jW X G 5 0 0 162 [(0, .ref mo), (1, .int (nI its)), (2, .int (nI r)), (3, .int (nI k)), (4, .int (nI n))] [.int (nI 1), .int (nI n), .ref (ad 21)] ((hM G mo ad h0 s (va_up a 21 (rI a its (rK (s 6) a its (rR (s 6) (s 23) a its r) k) k n))))
                                            refine j_if_eq C dX4_isRing_162 (tgt := 169) (by decide) (pc' := 165) rfl (fun c_18 => absurd c_18 (by decide)) (fun _ => ?_)
                                            refine j_iconst C (v := nI 1) rfl dX4_isRing_165 (pc' := 166) rfl ?_
                                            refine j_goto C dX4_isRing_166 (pc' := 170) (by decide) ?_
                                            refine m_zst C M (f := 21) (j := n) (v := 1) (by decide) rfl rfl rfl (show n < 40 by omega) (by first | rfl | exact bI_vp _) dX4_isRing_170 (pc' := 171) rfl ?_
                                            refine j_iinc C (i := 4) (q := 4) (x := nI n) (v := nI (n + 1)) (l' := [(4, .int (nI (n + 1))), (0, .ref mo), (1, .int (nI its)), (2, .int (nI r)), (3, .int (nI k))]) dX4_isRing_171 (pc' := 174) rfl rfl (nI_add _ _) (by decide) rfl ?_
                                            refine j_goto C dX4_isRing_174 (pc' := 105) (by decide) ?_
                                            refine jt_h (h' := hM G mo ad h0 s (va_up a 21 (rI a its (rK (s 6) a its (rR (s 6) (s 23) a its r) k) k (n + 1)))) (by rw [up2_in]; exact congrArg (fun m => hM G mo ad h0 s (va_up a 21 m)) (rS_1 (Or.inr ⟨by omega, by omega, by omega, hb_16⟩))) ?_
                                            exact jW.locals [1, 2, 3, 4, 0] rfl (ih_105 (n + 1) (by omega) (by omega))
                            refine jt_h (h' := hM G mo ad h0 s (va_up a 21 (rI a its (rK (s 6) a its (rR (s 6) (s 23) a its r) k) k 0))) rfl ?_
                            exact jW.locals [1, 2, 3, 4, 0] rfl (L_105 ((s 6 - 0) + 1) 0 (by omega) (by omega))
                      refine jt_h (h' := hM G mo ad h0 s (va_up a 21 (rK (s 6) a its (rR (s 6) (s 23) a its r) 0))) rfl ?_
                      exact jW.locals [1, 2, 3, 0] rfl (L_94 ((s 6 - 0) + 1) 0 (by omega) (by omega))
                refine jt_h (h' := hM G mo ad h0 s (va_up a 21 (rR (s 6) (s 23) a its 0))) (by rw [show s 23 = k from by omega]; rfl) ?_
                exact jW.locals [1, 2, 0] rfl (L_84 ((s 6 - 0) + 1) 0 (by omega) (by omega))
              · have c_4 := fun zq => c_4 ((nI_leI (a := s 23) (b := k) (by omega) (by omega)).mpr zq)
                have c_4 : ¬ (s 23) ≤ k := c_4
                refine j_aload_n C (i := 0) (x := mo) 0 rfl dX4_isRing_45 (pc' := 46) rfl ?_
                refine m_geta C (f := 21) (idx := 56) hin (by decide) rfl (by decide +kernel) dX4_isRing_46 (pc' := 49) rfl ?_
                refine j_aload_n C (i := 0) (x := mo) 0 rfl dX4_isRing_49 (pc' := 50) rfl ?_
                refine m_geta C (f := 24) (idx := 62) hin (by decide) rfl (by decide +kernel) dX4_isRing_50 (pc' := 53) rfl ?_
                refine j_iload_n C (i := 2) (x := nI k) 2 rfl dX4_isRing_53 (pc' := 54) rfl ?_
                refine m_ald C M (f := 24) (j := k) (by decide) rfl rfl rfl (show k < 6 by omega) dX4_isRing_54 (pc' := 55) rfl ?_
                show jW X G 5 0 0 55 [(0, .ref mo), (1, .int (nI its)), (2, .int (nI k))] [.int (nI (a 24 k)), .ref (ad 21)] ((hM G mo ad h0 s (va_up a 21 (rQ (s 6) a k))))
                have B_19 := IA.asks I k
                refine j_aload_n C (i := 0) (x := mo) 0 rfl dX4_isRing_55 (pc' := 56) rfl ?_
                refine m_geta C (f := 7) (idx := 17) hin (by decide) rfl (by decide +kernel) dX4_isRing_56 (pc' := 59) rfl ?_
                refine j_aload_n C (i := 0) (x := mo) 0 rfl dX4_isRing_59 (pc' := 60) rfl ?_
                refine m_geta C (f := 24) (idx := 62) hin (by decide) rfl (by decide +kernel) dX4_isRing_60 (pc' := 63) rfl ?_
                refine j_iload_n C (i := 2) (x := nI k) 2 rfl dX4_isRing_63 (pc' := 64) rfl ?_
                refine m_ald C M (f := 24) (j := k) (by decide) rfl rfl rfl (show k < 6 by omega) dX4_isRing_64 (pc' := 65) rfl ?_
                show jW X G 5 0 0 65 [(0, .ref mo), (1, .int (nI its)), (2, .int (nI k))] [.int (nI (a 24 k)), .ref (ad 7), .int (nI (a 24 k)), .ref (ad 21)] ((hM G mo ad h0 s (va_up a 21 (rQ (s 6) a k))))
                have B_20 := IA.asks I k
                refine m_ald C M (f := 7) (j := a 24 k) (by decide) rfl rfl rfl (show a 24 k < 40 by omega) dX4_isRing_65 (pc' := 66) rfl ?_
                show jW X G 5 0 0 66 [(0, .ref mo), (1, .int (nI its)), (2, .int (nI k))] [.int (nI (a 7 (a 24 k))), .int (nI (a 24 k)), .ref (ad 21)] ((hM G mo ad h0 s (va_up a 21 (rQ (s 6) a k))))
                have B_21 := IA.kind I (a 24 k)
                refine j_iconst C (v := nI 2) rfl dX4_isRing_66 (pc' := 67) rfl ?_
                refine j_icmp_ne C dX4_isRing_67 (tgt := 74) (by decide) (pc' := 70) rfl (fun c_22 => ?_) (fun c_22 => ?_)
                · have c_22 := fun zq => c_22 ((nI_eq (a := a 7 (a 24 k)) (b := 2) (by omega) (by omega)).mpr zq)
                  have c_22 : ¬ (a 7 (a 24 k)) = 2 := c_22
                  refine j_iconst C (v := nI 0) rfl dX4_isRing_74 (pc' := 75) rfl ?_
                  refine m_zst C M (f := 21) (j := a 24 k) (v := 0) (by decide) rfl rfl rfl (show a 24 k < 40 by omega) (by first | rfl | exact bI_vp _) dX4_isRing_75 (pc' := 76) rfl ?_
                  refine j_iinc C (i := 2) (q := 2) (x := nI k) (v := nI (k + 1)) (l' := [(2, .int (nI (k + 1))), (0, .ref mo), (1, .int (nI its))]) dX4_isRing_76 (pc' := 79) rfl rfl (nI_add _ _) (by decide) rfl ?_
                  refine j_goto C dX4_isRing_79 (pc' := 37) (by decide) ?_
                  refine jt_h (h' := hM G mo ad h0 s (va_up a 21 (rQ (s 6) a (k + 1)))) (by rw [up2_in]; show _ = hM G mo ad h0 s (va_up a 21 (va_up (rQ (s 6) a k) (a 24 k) (if a 7 (a 24 k) = 2 then 1 else 0))); rw [if_neg c_22]) ?_
                  exact jW.locals [1, 2, 0] rfl (ih_37 (k + 1) (by omega) (by omega))
                · have c_22 := (nI_eq (a := a 7 (a 24 k)) (b := 2) (by omega) (by omega)).mp c_22
                  have c_22 : (a 7 (a 24 k)) = 2 := c_22
                  refine j_iconst C (v := nI 1) rfl dX4_isRing_70 (pc' := 71) rfl ?_
                  refine j_goto C dX4_isRing_71 (pc' := 75) (by decide) ?_
                  refine m_zst C M (f := 21) (j := a 24 k) (v := 1) (by decide) rfl rfl rfl (show a 24 k < 40 by omega) (by first | rfl | exact bI_vp _) dX4_isRing_75 (pc' := 76) rfl ?_
                  refine j_iinc C (i := 2) (q := 2) (x := nI k) (v := nI (k + 1)) (l' := [(2, .int (nI (k + 1))), (0, .ref mo), (1, .int (nI its))]) dX4_isRing_76 (pc' := 79) rfl rfl (nI_add _ _) (by decide) rfl ?_
                  refine j_goto C dX4_isRing_79 (pc' := 37) (by decide) ?_
                  refine jt_h (h' := hM G mo ad h0 s (va_up a 21 (rQ (s 6) a (k + 1)))) (by rw [up2_in]; show _ = hM G mo ad h0 s (va_up a 21 (va_up (rQ (s 6) a k) (a 24 k) (if a 7 (a 24 k) = 2 then 1 else 0))); rw [if_pos c_22]) ?_
                  exact jW.locals [1, 2, 0] rfl (ih_37 (k + 1) (by omega) (by omega))
          refine jt_h (h' := hM G mo ad h0 s (va_up a 21 (rQ (s 6) a 0))) (by rw [show s 6 = k from by omega]; rfl) ?_
          exact jW.locals [1, 2, 0] rfl (L_37 ((s 23 - 0) + 1) 0 (by omega) (by omega))
        · have c_3 := fun zq => c_3 ((nI_leI (a := s 6) (b := k) (by omega) (by omega)).mpr zq)
          have c_3 : ¬ (s 6) ≤ k := c_3
          refine j_aload_n C (i := 0) (x := mo) 0 rfl dX4_isRing_22 (pc' := 23) rfl ?_
          refine m_geta C (f := 21) (idx := 56) hin (by decide) rfl (by decide +kernel) dX4_isRing_23 (pc' := 26) rfl ?_
          refine j_iload_n C (i := 2) (x := nI k) 2 rfl dX4_isRing_26 (pc' := 27) rfl ?_
          refine j_iconst C (v := nI 0) rfl dX4_isRing_27 (pc' := 28) rfl ?_
          refine m_zst C M (f := 21) (j := k) (v := 0) (by decide) rfl rfl rfl (show k < 40 by omega) (by first | rfl | exact bI_vp _) dX4_isRing_28 (pc' := 29) rfl ?_
          refine j_iinc C (i := 2) (q := 2) (x := nI k) (v := nI (k + 1)) (l' := [(2, .int (nI (k + 1))), (0, .ref mo), (1, .int (nI its))]) dX4_isRing_29 (pc' := 32) rfl rfl (nI_add _ _) (by decide) rfl ?_
          refine j_goto C dX4_isRing_32 (pc' := 14) (by decide) ?_
          refine jt_h (h' := hM G mo ad h0 s (va_up a 21 (rC a (k + 1)))) (by rw [up2_in]; exact congrArg (fun m => hM G mo ad h0 s (va_up a 21 m)) (upd_lt (g := fun _ => 0))) ?_
          exact jW.locals [1, 2, 0] rfl (ih_14 (k + 1) (by omega) (by omega))
    refine jt_h (h' := hM G mo ad h0 s (va_up a 21 (rC a 0))) (by rw [show rC a 0 = a 21 from rfl, up_same]) ?_
    exact jW.locals [1, 2, 0] rfl (L_14 ((s 6 - 0) + 1) 0 (by omega) (by omega))
  · have c_2 := fun zq => c_2 ((nI_eq (a := a 7 its) (b := 2) (by omega) (by omega)).mpr zq)
    have c_2 : ¬ (a 7 its) = 2 := c_2
    refine j_iconst C (v := nI 0) rfl dX4_isRing_10 (pc' := 11) rfl ?_
    exact j_iret C E dX4_isRing_11 (by first | rfl | exact nar1 (rR_le I _ _)) (Nat.le_refl _) (Nat.le_refl _) ⟨bI0 (by unfold mRing; rw [decide_eq_false c_2]; rfl), by unfold mRingA; rw [if_neg c_2]⟩
