theorem gif {α : Type} {c : Prop} [Decidable c] {x y z : α} (h : c) (e : x = z) : (if c then x else y) = z := by rw [if_pos h]; exact e
theorem gel {α : Type} {c : Prop} [Decidable c] {x y z : α} (h : ¬ c) (e : y = z) : (if c then x else y) = z := by rw [if_neg h]; exact e
def buF (a : mA) (o : Nat) : Nat → Nat → Nat
  | 0, _ => 0
  | _ + 1, 0 => 0
  | f + 1, p + 1 => if a 14 p = o then buF a o f (a 13 p) else p + 1
/-- the version to which an undoing goes back: its place and one, or 0 -/
def mBU (a : mA) (t o : Nat) : Nat := buF a o 1400 (a 8 t + 1)
theorem bu_eq {a : mA} {o f p x : Nat} (h : x = buF a o f (p + 1)) (hf : p + 1 ≤ f) (hc : a 14 p = o) (hz : a 13 p ≤ p) : x = buF a o (f - 1) (a 13 p) ∧ a 13 p ≤ f - 1 := by
  obtain ⟨g, rfl⟩ : ∃ g, f = g + 1 := ⟨f - 1, by omega⟩
  have e : buF a o (g + 1) (p + 1) = if a 14 p = o then buF a o g (a 13 p) else p + 1 := rfl
  rw [e, if_pos hc] at h
  exact ⟨h, by show _ ≤ g + 1 - 1; omega⟩
theorem bu_ne {a : mA} {o f p x : Nat} (h : x = buF a o f (p + 1)) (hf : p + 1 ≤ f) (hc : ¬ a 14 p = o) : x = p + 1 := by
  obtain ⟨g, rfl⟩ : ∃ g, f = g + 1 := ⟨f - 1, by omega⟩
  have e : buF a o (g + 1) (p + 1) = if a 14 p = o then buF a o g (a 13 p) else p + 1 := rfl
  rw [e, if_neg hc] at h
  exact h
theorem bu_0 {a : mA} {o f x : Nat} (h : x = buF a o f 0) : x = 0 := by cases f <;> exact h
abbrev mU : Type := Bool × mS × mA
def oUnd0 (s : mS) (a : mA) (b t : Nat) : mU := if 0 < mUsers a (s 6) t then (false, s, a) else (true, va_up (va_up s 23 0) 10 (s 10 + 1), mkA (va_up s 23 0) a b t 0 0)
def oUnd1 (s : mS) (a : mA) (b t p : Nat) : mU :=
  if a 7 t = 0 then (true, va_up (va_up (va_up s 23 0) 23 (a 19 p)) 10 (s 10 + 1), mkA (va_up (va_up s 23 0) 23 (a 19 p)) (aVr a p (a 19 p)) b t 1 (a 18 p))
  else if mUnl (va_up (va_up s 23 0) 23 (a 19 p)) (aVr a p (a 19 p)) (a 7 t) = true then (false, va_up (va_up s 23 0) 23 (a 19 p), aVr a p (a 19 p))
  else if mRing (va_up (va_up s 23 0) 23 (a 19 p)) (aVr a p (a 19 p)) t = true then (false, va_up (va_up s 23 0) 23 (a 19 p), mRingA (va_up (va_up s 23 0) 23 (a 19 p)) (aVr a p (a 19 p)) t)
  else (true, va_up (va_up (va_up s 23 0) 23 (a 19 p)) 10 (s 10 + 1), mkA (va_up (va_up s 23 0) 23 (a 19 p)) (mRingA (va_up (va_up s 23 0) 23 (a 19 p)) (aVr a p (a 19 p)) t) b t 1 (a 18 p))
def oUndoes (s : mS) (a : mA) (b t o : Nat) : mU := if mBU a t o = 0 then oUnd0 s a b t else if a 16 (mBU a t o - 1) = 1 then oUnd1 s a b t (mBU a t o - 1) else oUnd0 s a b t
theorem oUndoes_0 {s : mS} {a : mA} {b t o : Nat} {z : mU} (h : mBU a t o = 0) (e : oUnd0 s a b t = z) : oUndoes s a b t o = z := by unfold oUndoes; rw [if_pos h]; exact e
theorem oUndoes_1 {s : mS} {a : mA} {b t o p : Nat} {z : mU} (h : mBU a t o = p + 1) (h2 : a 16 p = 1) (e : oUnd1 s a b t p = z) : oUndoes s a b t o = z := by unfold oUndoes; rw [h, if_neg (by omega), show p + 1 - 1 = p from rfl, if_pos h2]; exact e
theorem oUndoes_2 {s : mS} {a : mA} {b t o p : Nat} {z : mU} (h : mBU a t o = p + 1) (h2 : ¬ a 16 p = 1) (e : oUnd0 s a b t = z) : oUndoes s a b t o = z := by unfold oUndoes; rw [h, if_neg (by omega), show p + 1 - 1 = p from rfl, if_neg h2]; exact e
theorem u_leaf {G : jG} {mo : Nat} {ad : Nat → Nat} {h0 : jH} {o : mU} {x : Bool} {s' : mS} {a' : mA} (h : o = (x, s', a')) : some (Value.int (nI x.toNat)) = some (Value.int (bI o.1)) ∧ hM G mo ad h0 s' a' = hM G mo ad h0 o.2.1 o.2.2 := by rw [h]; exact ⟨rfl, rfl⟩
theorem mRingA_9v {s : mS} {a : mA} {t p n i : Nat} : mRingA s (aVr a p n) t 9 i = a 9 i := by rw [mRingA_k (by decide)]; rfl
set_option maxRecDepth 100000 in
set_option maxHeartbeats 4000000 in
theorem m_undoes (l : Launch) (hlt : l.stackTraces = false) (G : jG) {mo : Nat} {ad : Nat → Nat} {h0 : jH} (M : mG mo ad) (s : mS) (a : mA) (b_ t o : Nat) (J : IS s) (I : IA a) (Z : a 13 0 = 0) (hb_ : b_ < 1048576) (ht : t < 40) (ho : o < 1048576) : jM l G yX4_undoes wsX4_undoes 3 69 0 0 [.ref mo, .int (nI b_), .int (nI t), .int (nI o)] (hM G mo ad h0 s a) (fun r h' => r = some (.int (bI (oUndoes s a b_ t o).1)) ∧ h' = hM G mo ad h0 (oUndoes s a b_ t o).2.1 (oUndoes s a b_ t o).2.2) (fun _ _ => False) := by
  have h6 := J.2.1
  have h2 := J.2.2.1
  have h4 := J.2.2.2.1
  have h10 := J.2.2.2.2.1
  have hs0 := J.1 0
  have hs1 := J.1 1
  have hl := IA.last I t
  refine jM_of (cc := cX4_undoes) (maxL := 7) (ret := (some .boolean)) hlt (by decide +kernel) rfl (Nat.le_of_ble_eq_true rfl) ?_
  intro X C E hXl hXR hXn
  have hin : ∀ w ∈ u_ws RX4 TX4 26, w ∈ wsX4_undoes := by decide +kernel
  show jW X G 7 0 0 0 [(0, .ref mo), (1, .int (nI b_)), (2, .int (nI t)), (3, .int (nI o))] [] ((hM G mo ad h0 s a))
  refine j_aload_n C (i := 0) (x := mo) 0 rfl dX4_undoes_0 (pc' := 1) rfl ?_
  refine m_geta C (f := 8) (idx := 20) hin (by decide) rfl (by decide +kernel) dX4_undoes_1 (pc' := 4) rfl ?_
  refine j_iload_n C (i := 2) (x := nI t) 2 rfl dX4_undoes_4 (pc' := 5) rfl ?_
  refine m_ald C M (f := 8) (j := t) (by decide) rfl rfl rfl (show t < 40 by omega) dX4_undoes_5 (pc' := 6) rfl ?_
  have B_1 := IA.last I t
  refine j_istore C (i := 4) (x := nI (a 8 t)) (l' := [(4, .int (nI (a 8 t))), (0, .ref mo), (1, .int (nI b_)), (2, .int (nI t)), (3, .int (nI o))]) dX4_undoes_6 (pc' := 8) rfl (by decide) rfl ?_
  have L_8 : ∀ (N_8 : Nat) (f b : Nat), (b) < N_8 → (b ≤ f) → (f ≤ 1400) → (mBU a t o = buF a o f b) → jW X G 7 0 0 8 [(0, .ref mo), (1, .int (nI b_)), (2, .int (nI t)), (3, .int (nI o)), (4, .int (mP b))] [] ((hM G mo ad h0 s a)) := by
    intro N_8
    induction N_8 with
    | zero => intro f b hm_8 hb hf hR; omega
    | succ N_8 ih_8 =>
      intro f b hm_8 hb hf hR
      rcases b with _ | p
      · refine jt_loc (l' := [(0, .ref mo), (1, .int (nI b_)), (2, .int (nI t)), (3, .int (nI o)), (4, .int ((-1)))]) (by rw [mP_0]) ?_
        refine j_iload C (i := 4) (x := (-1)) 4 rfl dX4_undoes_8 (pc' := 10) rfl ?_
        refine j_iconst C (v := (-1)) rfl dX4_undoes_10 (pc' := 11) rfl ?_
        refine j_icmp_eq C dX4_undoes_11 (tgt := 37) (by decide) (pc' := 14) rfl (fun _ => ?_) (fun c_2 => absurd rfl c_2)
        refine j_iload C (i := 4) (x := (-1)) 4 rfl dX4_undoes_37 (pc' := 39) rfl ?_
        refine j_iconst C (v := (-1)) rfl dX4_undoes_39 (pc' := 40) rfl ?_
        refine j_icmp_eq C dX4_undoes_40 (tgt := 57) (by decide) (pc' := 43) rfl (fun _ => ?_) (fun c_3 => absurd rfl c_3)
        refine j_iconst C (v := nI 0) rfl dX4_undoes_57 (pc' := 58) rfl ?_
        refine j_istore C (i := 5) (x := nI 0) (l' := [(5, .int (nI 0)), (0, .ref mo), (1, .int (nI b_)), (2, .int (nI t)), (3, .int (nI o)), (4, .int ((-1)))]) dX4_undoes_58 (pc' := 60) rfl (by decide) rfl ?_
        refine j_iload C (i := 5) (x := nI 0) 0 rfl dX4_undoes_60 (pc' := 62) rfl ?_
        refine j_if_ne C dX4_undoes_62 (tgt := 75) (by decide) (pc' := 65) rfl (fun c_4 => absurd (by decide) c_4) (fun _ => ?_)
        refine j_aload_n C (i := 0) (x := mo) 1 rfl dX4_undoes_65 (pc' := 66) rfl ?_
        refine j_iload_n C (i := 2) (x := nI t) 3 rfl dX4_undoes_66 (pc' := 67) rfl ?_
        refine j_callV C (As := [.int (nI t)]) (rest := []) (m_users X.2.1 C.2.2.2.2.2.2.2.2 G M s a t J I (by omega)) (cwV 1 C.2.2.2.2.1 gX4_undoes_X4_users rfl rfl rfl (by decide +kernel) (by rw [hXR]; decide)) hM_obj rfl rfl rfl (Nat.le_of_ble_eq_true rfl) dX4_undoes_67 (pc' := 70) rfl (by rw [hXR]; exact Nat.zero_le _) (by rw [hXR]; exact Nat.zero_le _) (fun _ _ z => z.elim) ?_
        rintro r h' ⟨rfl, rfl⟩
        show jW X G 7 0 0 70 [(5, .int (nI 0)), (0, .ref mo), (1, .int (nI b_)), (2, .int (nI t)), (3, .int (nI o)), (4, .int ((-1)))] [.int (nI (mUsers a (s 6) t))] ((hM G mo ad h0 s a))
        have B_5 := mUsers_le a (s 6) t
        refine j_if_le C dX4_undoes_70 (tgt := 75) (by decide) (pc' := 73) rfl (fun c_6 => ?_) (fun c_6 => ?_)
        · have c_6 := (nI_leI (a := mUsers a (s 6) t) (b := 0) (by omega) (by omega)).mp c_6
          have c_6 : (mUsers a (s 6) t) ≤ 0 := c_6
          refine j_aload_n C (i := 0) (x := mo) 1 rfl dX4_undoes_75 (pc' := 76) rfl ?_
          refine j_iconst C (v := nI 0) rfl dX4_undoes_76 (pc' := 77) rfl ?_
          refine m_put C (f := 23) (idx := 100) (v := 0) hin (by decide) rfl (by decide +kernel) dX4_undoes_77 (pc' := 80) rfl ?_
          refine j_iload C (i := 5) (x := nI 0) 0 rfl dX4_undoes_80 (pc' := 82) rfl ?_
          refine j_if_eq C dX4_undoes_82 (tgt := 91) (by decide) (pc' := 85) rfl (fun _ => ?_) (fun c_7 => absurd (by decide) c_7)
          refine j_iload C (i := 5) (x := nI 0) 0 rfl dX4_undoes_91 (pc' := 93) rfl ?_
          refine j_if_eq C dX4_undoes_93 (tgt := 128) (by decide) (pc' := 96) rfl (fun _ => ?_) (fun c_8 => absurd (by decide) c_8)
          refine j_aload_n C (i := 0) (x := mo) 1 rfl dX4_undoes_128 (pc' := 129) rfl ?_
          refine j_iload_n C (i := 1) (x := nI b_) 2 rfl dX4_undoes_129 (pc' := 130) rfl ?_
          refine j_iload_n C (i := 2) (x := nI t) 3 rfl dX4_undoes_130 (pc' := 131) rfl ?_
          refine j_iload C (i := 5) (x := nI 0) 0 rfl dX4_undoes_131 (pc' := 133) rfl ?_
          refine j_iload C (i := 5) (x := nI 0) 0 rfl dX4_undoes_133 (pc' := 135) rfl ?_
          refine j_if_eq C dX4_undoes_135 (tgt := 148) (by decide) (pc' := 138) rfl (fun _ => ?_) (fun c_9 => absurd (by decide) c_9)
          refine j_iconst C (v := nI 0) rfl dX4_undoes_148 (pc' := 149) rfl ?_
          refine j_callV C (As := [.int (nI b_), .int (nI t), .int (nI 0), .int (nI 0)]) (rest := []) (m_makes X.2.1 C.2.2.2.2.2.2.2.2 G M (va_up s 23 0) a b_ t 0 0 (IS.asked J (v := 0) (by omega)) I (by omega) (by omega) (by omega) (by omega)) (cwV 4 C.2.2.2.2.1 gX4_undoes_X4_makes rfl rfl rfl (by decide +kernel) (by rw [hXR]; decide)) hM_obj rfl rfl rfl (Nat.le_of_ble_eq_true rfl) dX4_undoes_149 (pc' := 152) rfl (by rw [hXR]; exact Nat.zero_le _) (by rw [hXR]; exact Nat.zero_le _) (fun _ _ z => z.elim) ?_
          rintro r h' ⟨rfl, rfl⟩
          show jW X G 7 0 0 152 [(5, .int (nI 0)), (0, .ref mo), (1, .int (nI b_)), (2, .int (nI t)), (3, .int (nI o)), (4, .int ((-1)))] [.int (nI (a 9 t + 1))] ((hM G mo ad h0 (va_up (va_up s 23 0) 10 (s 10 + 1)) (mkA (va_up s 23 0) a b_ t 0 0)))
          refine j_istore C (i := 6) (x := nI (a 9 t + 1)) (l' := [(6, .int (nI (a 9 t + 1))), (5, .int (nI 0)), (0, .ref mo), (1, .int (nI b_)), (2, .int (nI t)), (3, .int (nI o)), (4, .int ((-1)))]) dX4_undoes_152 (pc' := 154) rfl (by decide) rfl ?_
          refine j_iconst C (v := nI 1) rfl dX4_undoes_154 (pc' := 155) rfl ?_
          exact j_iret C E dX4_undoes_155 rfl (Nat.le_refl _) (Nat.le_refl _) (u_leaf (x := true) (oUndoes_0 (bu_0 hR) (gel (show ¬ 0 < mUsers a (s 6) t by omega) rfl)))
        · have c_6 := fun zq => c_6 ((nI_leI (a := mUsers a (s 6) t) (b := 0) (by omega) (by omega)).mpr zq)
          have c_6 : ¬ (mUsers a (s 6) t) ≤ 0 := c_6
          refine j_iconst C (v := nI 0) rfl dX4_undoes_73 (pc' := 74) rfl ?_
          exact j_iret C E dX4_undoes_74 rfl (Nat.le_refl _) (Nat.le_refl _) (u_leaf (x := false) (oUndoes_0 (bu_0 hR) (gif (show 0 < mUsers a (s 6) t by omega) rfl)))
      · refine jt_loc (l' := [(0, .ref mo), (1, .int (nI b_)), (2, .int (nI t)), (3, .int (nI o)), (4, .int (nI p))]) (by rw [mP_s]) ?_
        have hp9 : p < 1400 := by omega
        refine j_iload C (i := 4) (x := nI p) 4 rfl dX4_undoes_8 (pc' := 10) rfl ?_
        refine j_iconst C (v := (-1)) rfl dX4_undoes_10 (pc' := 11) rfl ?_
        refine j_icmp_eq C dX4_undoes_11 (tgt := 37) (by decide) (pc' := 14) rfl (fun c_10 => absurd c_10 (nI_ne1 (by omega))) (fun _ => ?_)
        refine j_aload_n C (i := 0) (x := mo) 0 rfl dX4_undoes_14 (pc' := 15) rfl ?_
        refine m_geta C (f := 14) (idx := 35) hin (by decide) rfl (by decide +kernel) dX4_undoes_15 (pc' := 18) rfl ?_
        refine j_iload C (i := 4) (x := nI p) 4 rfl dX4_undoes_18 (pc' := 20) rfl ?_
        refine m_ald C M (f := 14) (j := p) (by decide) rfl rfl rfl (show p < 1400 by omega) dX4_undoes_20 (pc' := 21) rfl ?_
        have B_11 := IA.big I 14 p
        refine j_iload_n C (i := 3) (x := nI o) 3 rfl dX4_undoes_21 (pc' := 22) rfl ?_
        refine j_icmp_ne C dX4_undoes_22 (tgt := 37) (by decide) (pc' := 25) rfl (fun c_12 => ?_) (fun c_12 => ?_)
        · have c_12 := fun zq => c_12 ((nI_eq (a := a 14 p) (b := o) (by omega) (by omega)).mpr zq)
          have c_12 : ¬ (a 14 p) = o := c_12
          refine j_iload C (i := 4) (x := nI p) 4 rfl dX4_undoes_37 (pc' := 39) rfl ?_
          refine j_iconst C (v := (-1)) rfl dX4_undoes_39 (pc' := 40) rfl ?_
          refine j_icmp_eq C dX4_undoes_40 (tgt := 57) (by decide) (pc' := 43) rfl (fun c_13 => absurd c_13 (nI_ne1 (by omega))) (fun _ => ?_)
          refine j_aload_n C (i := 0) (x := mo) 0 rfl dX4_undoes_43 (pc' := 44) rfl ?_
          refine m_geta C (f := 16) (idx := 41) hin (by decide) rfl (by decide +kernel) dX4_undoes_44 (pc' := 47) rfl ?_
          refine j_iload C (i := 4) (x := nI p) 4 rfl dX4_undoes_47 (pc' := 49) rfl ?_
          refine m_zld C M (f := 16) (j := p) (by decide) rfl rfl rfl (show p < 1400 by omega) dX4_undoes_49 (pc' := 50) rfl ?_
          have B_14 := IA.there I p
          refine j_if_eq C dX4_undoes_50 (tgt := 57) (by decide) (pc' := 53) rfl (fun c_15 => ?_) (fun c_15 => ?_)
          · have c_15 := (nI_eq (a := a 16 p) (b := 0) (by omega) (by omega)).mp c_15
            have c_15 : (a 16 p) = 0 := c_15
            refine j_iconst C (v := nI 0) rfl dX4_undoes_57 (pc' := 58) rfl ?_
            refine j_istore C (i := 5) (x := nI 0) (l' := [(5, .int (nI 0)), (0, .ref mo), (1, .int (nI b_)), (2, .int (nI t)), (3, .int (nI o)), (4, .int (nI p))]) dX4_undoes_58 (pc' := 60) rfl (by decide) rfl ?_
            refine j_iload C (i := 5) (x := nI 0) 0 rfl dX4_undoes_60 (pc' := 62) rfl ?_
            refine j_if_ne C dX4_undoes_62 (tgt := 75) (by decide) (pc' := 65) rfl (fun c_16 => absurd (by decide) c_16) (fun _ => ?_)
            refine j_aload_n C (i := 0) (x := mo) 1 rfl dX4_undoes_65 (pc' := 66) rfl ?_
            refine j_iload_n C (i := 2) (x := nI t) 3 rfl dX4_undoes_66 (pc' := 67) rfl ?_
            refine j_callV C (As := [.int (nI t)]) (rest := []) (m_users X.2.1 C.2.2.2.2.2.2.2.2 G M s a t J I (by omega)) (cwV 1 C.2.2.2.2.1 gX4_undoes_X4_users rfl rfl rfl (by decide +kernel) (by rw [hXR]; decide)) hM_obj rfl rfl rfl (Nat.le_of_ble_eq_true rfl) dX4_undoes_67 (pc' := 70) rfl (by rw [hXR]; exact Nat.zero_le _) (by rw [hXR]; exact Nat.zero_le _) (fun _ _ z => z.elim) ?_
            rintro r h' ⟨rfl, rfl⟩
            show jW X G 7 0 0 70 [(5, .int (nI 0)), (0, .ref mo), (1, .int (nI b_)), (2, .int (nI t)), (3, .int (nI o)), (4, .int (nI p))] [.int (nI (mUsers a (s 6) t))] ((hM G mo ad h0 s a))
            have B_17 := mUsers_le a (s 6) t
            refine j_if_le C dX4_undoes_70 (tgt := 75) (by decide) (pc' := 73) rfl (fun c_18 => ?_) (fun c_18 => ?_)
            · have c_18 := (nI_leI (a := mUsers a (s 6) t) (b := 0) (by omega) (by omega)).mp c_18
              have c_18 : (mUsers a (s 6) t) ≤ 0 := c_18
              refine j_aload_n C (i := 0) (x := mo) 1 rfl dX4_undoes_75 (pc' := 76) rfl ?_
              refine j_iconst C (v := nI 0) rfl dX4_undoes_76 (pc' := 77) rfl ?_
              refine m_put C (f := 23) (idx := 100) (v := 0) hin (by decide) rfl (by decide +kernel) dX4_undoes_77 (pc' := 80) rfl ?_
              refine j_iload C (i := 5) (x := nI 0) 0 rfl dX4_undoes_80 (pc' := 82) rfl ?_
              refine j_if_eq C dX4_undoes_82 (tgt := 91) (by decide) (pc' := 85) rfl (fun _ => ?_) (fun c_19 => absurd (by decide) c_19)
              refine j_iload C (i := 5) (x := nI 0) 0 rfl dX4_undoes_91 (pc' := 93) rfl ?_
              refine j_if_eq C dX4_undoes_93 (tgt := 128) (by decide) (pc' := 96) rfl (fun _ => ?_) (fun c_20 => absurd (by decide) c_20)
              refine j_aload_n C (i := 0) (x := mo) 1 rfl dX4_undoes_128 (pc' := 129) rfl ?_
              refine j_iload_n C (i := 1) (x := nI b_) 2 rfl dX4_undoes_129 (pc' := 130) rfl ?_
              refine j_iload_n C (i := 2) (x := nI t) 3 rfl dX4_undoes_130 (pc' := 131) rfl ?_
              refine j_iload C (i := 5) (x := nI 0) 0 rfl dX4_undoes_131 (pc' := 133) rfl ?_
              refine j_iload C (i := 5) (x := nI 0) 0 rfl dX4_undoes_133 (pc' := 135) rfl ?_
              refine j_if_eq C dX4_undoes_135 (tgt := 148) (by decide) (pc' := 138) rfl (fun _ => ?_) (fun c_21 => absurd (by decide) c_21)
              refine j_iconst C (v := nI 0) rfl dX4_undoes_148 (pc' := 149) rfl ?_
              refine j_callV C (As := [.int (nI b_), .int (nI t), .int (nI 0), .int (nI 0)]) (rest := []) (m_makes X.2.1 C.2.2.2.2.2.2.2.2 G M (va_up s 23 0) a b_ t 0 0 (IS.asked J (v := 0) (by omega)) I (by omega) (by omega) (by omega) (by omega)) (cwV 4 C.2.2.2.2.1 gX4_undoes_X4_makes rfl rfl rfl (by decide +kernel) (by rw [hXR]; decide)) hM_obj rfl rfl rfl (Nat.le_of_ble_eq_true rfl) dX4_undoes_149 (pc' := 152) rfl (by rw [hXR]; exact Nat.zero_le _) (by rw [hXR]; exact Nat.zero_le _) (fun _ _ z => z.elim) ?_
              rintro r h' ⟨rfl, rfl⟩
              show jW X G 7 0 0 152 [(5, .int (nI 0)), (0, .ref mo), (1, .int (nI b_)), (2, .int (nI t)), (3, .int (nI o)), (4, .int (nI p))] [.int (nI (a 9 t + 1))] ((hM G mo ad h0 (va_up (va_up s 23 0) 10 (s 10 + 1)) (mkA (va_up s 23 0) a b_ t 0 0)))
              refine j_istore C (i := 6) (x := nI (a 9 t + 1)) (l' := [(6, .int (nI (a 9 t + 1))), (5, .int (nI 0)), (0, .ref mo), (1, .int (nI b_)), (2, .int (nI t)), (3, .int (nI o)), (4, .int (nI p))]) dX4_undoes_152 (pc' := 154) rfl (by decide) rfl ?_
              refine j_iconst C (v := nI 1) rfl dX4_undoes_154 (pc' := 155) rfl ?_
              exact j_iret C E dX4_undoes_155 rfl (Nat.le_refl _) (Nat.le_refl _) (u_leaf (x := true) (oUndoes_2 (bu_ne hR hb (by omega)) (show ¬ a 16 p = 1 by omega) (gel (show ¬ 0 < mUsers a (s 6) t by omega) rfl)))
            · have c_18 := fun zq => c_18 ((nI_leI (a := mUsers a (s 6) t) (b := 0) (by omega) (by omega)).mpr zq)
              have c_18 : ¬ (mUsers a (s 6) t) ≤ 0 := c_18
              refine j_iconst C (v := nI 0) rfl dX4_undoes_73 (pc' := 74) rfl ?_
              exact j_iret C E dX4_undoes_74 rfl (Nat.le_refl _) (Nat.le_refl _) (u_leaf (x := false) (oUndoes_2 (bu_ne hR hb (by omega)) (show ¬ a 16 p = 1 by omega) (gif (show 0 < mUsers a (s 6) t by omega) rfl)))
          · have c_15 := fun zq => c_15 ((nI_eq (a := a 16 p) (b := 0) (by omega) (by omega)).mpr zq)
            have c_15 : ¬ (a 16 p) = 0 := c_15
            refine j_iconst C (v := nI 1) rfl dX4_undoes_53 (pc' := 54) rfl ?_
            refine j_goto C dX4_undoes_54 (pc' := 58) (by decide) ?_
            refine j_istore C (i := 5) (x := nI 1) (l' := [(5, .int (nI 1)), (0, .ref mo), (1, .int (nI b_)), (2, .int (nI t)), (3, .int (nI o)), (4, .int (nI p))]) dX4_undoes_58 (pc' := 60) rfl (by decide) rfl ?_
            refine j_iload C (i := 5) (x := nI 1) 0 rfl dX4_undoes_60 (pc' := 62) rfl ?_
            refine j_if_ne C dX4_undoes_62 (tgt := 75) (by decide) (pc' := 65) rfl (fun _ => ?_) (fun c_22 => absurd c_22 (by decide))
            refine j_aload_n C (i := 0) (x := mo) 1 rfl dX4_undoes_75 (pc' := 76) rfl ?_
            refine j_iconst C (v := nI 0) rfl dX4_undoes_76 (pc' := 77) rfl ?_
            refine m_put C (f := 23) (idx := 100) (v := 0) hin (by decide) rfl (by decide +kernel) dX4_undoes_77 (pc' := 80) rfl ?_
            refine j_iload C (i := 5) (x := nI 1) 0 rfl dX4_undoes_80 (pc' := 82) rfl ?_
            refine j_if_eq C dX4_undoes_82 (tgt := 91) (by decide) (pc' := 85) rfl (fun c_23 => absurd c_23 (by decide)) (fun _ => ?_)
            refine j_aload_n C (i := 0) (x := mo) 1 rfl dX4_undoes_85 (pc' := 86) rfl ?_
            refine j_iload C (i := 4) (x := nI p) 5 rfl dX4_undoes_86 (pc' := 88) rfl ?_
            refine j_callV C (As := [.int (nI p)]) (rest := []) (m_asksVersion X.2.1 C.2.2.2.2.2.2.2.2 G M (va_up s 23 0) a p (IS.asked J (v := 0) (by omega)) I (by omega)) (cwV 1 C.2.2.2.2.1 gX4_undoes_X4_asksVersion rfl rfl rfl (by decide +kernel) (by rw [hXR]; decide)) hM_obj rfl rfl rfl (Nat.le_of_ble_eq_true rfl) dX4_undoes_88 (pc' := 91) rfl (by rw [hXR]; exact Nat.zero_le _) (by rw [hXR]; exact Nat.zero_le _) (fun _ _ z => z.elim) ?_
            rintro r h' ⟨rfl, rfl⟩
            show jW X G 7 0 0 91 [(5, .int (nI 1)), (0, .ref mo), (1, .int (nI b_)), (2, .int (nI t)), (3, .int (nI o)), (4, .int (nI p))] [] ((hM G mo ad h0 (va_up (va_up s 23 0) 23 (a 19 p)) (aVr a p (a 19 p))))
            have B_24 := IA.size I p
            refine j_iload C (i := 5) (x := nI 1) 0 rfl dX4_undoes_91 (pc' := 93) rfl ?_
            refine j_if_eq C dX4_undoes_93 (tgt := 128) (by decide) (pc' := 96) rfl (fun c_25 => absurd c_25 (by decide)) (fun _ => ?_)
            refine j_aload_n C (i := 0) (x := mo) 1 rfl dX4_undoes_96 (pc' := 97) rfl ?_
            refine m_geta C (f := 7) (idx := 17) hin (by decide) rfl (by decide +kernel) dX4_undoes_97 (pc' := 100) rfl ?_
            refine j_iload_n C (i := 2) (x := nI t) 3 rfl dX4_undoes_100 (pc' := 101) rfl ?_
            refine m_ald C M (f := 7) (j := t) (by decide) rfl rfl rfl (show t < 40 by omega) dX4_undoes_101 (pc' := 102) rfl ?_
            show jW X G 7 0 0 102 [(5, .int (nI 1)), (0, .ref mo), (1, .int (nI b_)), (2, .int (nI t)), (3, .int (nI o)), (4, .int (nI p))] [.int (nI (a 7 t))] ((hM G mo ad h0 (va_up (va_up s 23 0) 23 (a 19 p)) (aVr a p (a 19 p))))
            have B_26 := IA.kind I t
            refine j_if_eq C dX4_undoes_102 (tgt := 128) (by decide) (pc' := 105) rfl (fun c_27 => ?_) (fun c_27 => ?_)
            · have c_27 := (nI_eq (a := a 7 t) (b := 0) (by omega) (by omega)).mp c_27
              have c_27 : (a 7 t) = 0 := c_27
              refine j_aload_n C (i := 0) (x := mo) 1 rfl dX4_undoes_128 (pc' := 129) rfl ?_
              refine j_iload_n C (i := 1) (x := nI b_) 2 rfl dX4_undoes_129 (pc' := 130) rfl ?_
              refine j_iload_n C (i := 2) (x := nI t) 3 rfl dX4_undoes_130 (pc' := 131) rfl ?_
              refine j_iload C (i := 5) (x := nI 1) 0 rfl dX4_undoes_131 (pc' := 133) rfl ?_
              refine j_iload C (i := 5) (x := nI 1) 0 rfl dX4_undoes_133 (pc' := 135) rfl ?_
              refine j_if_eq C dX4_undoes_135 (tgt := 148) (by decide) (pc' := 138) rfl (fun c_28 => absurd c_28 (by decide)) (fun _ => ?_)
              refine j_aload_n C (i := 0) (x := mo) 1 rfl dX4_undoes_138 (pc' := 139) rfl ?_
              refine m_geta C (f := 18) (idx := 47) hin (by decide) rfl (by decide +kernel) dX4_undoes_139 (pc' := 142) rfl ?_
              refine j_iload C (i := 4) (x := nI p) 5 rfl dX4_undoes_142 (pc' := 144) rfl ?_
              refine m_ald C M (f := 18) (j := p) (by decide) rfl rfl rfl (show p < 1400 by omega) dX4_undoes_144 (pc' := 145) rfl ?_
              show jW X G 7 0 0 145 [(5, .int (nI 1)), (0, .ref mo), (1, .int (nI b_)), (2, .int (nI t)), (3, .int (nI o)), (4, .int (nI p))] [.int (nI (a 18 p)), .int (nI 1), .int (nI t), .int (nI b_), .ref mo] ((hM G mo ad h0 (va_up (va_up s 23 0) 23 (a 19 p)) (aVr a p (a 19 p))))
              have B_29 := IA.big I 18 p
              refine j_goto C dX4_undoes_145 (pc' := 149) (by decide) ?_
              refine j_callV C (As := [.int (nI b_), .int (nI t), .int (nI 1), .int (nI (a 18 p))]) (rest := []) (m_makes X.2.1 C.2.2.2.2.2.2.2.2 G M (va_up (va_up s 23 0) 23 (a 19 p)) (aVr a p (a 19 p)) b_ t 1 (a 18 p) (IS.asked (IS.asked J (v := 0) (by omega)) (v := (a 19 p)) (by omega)) (IA.aVr I p (a 19 p)) (by omega) (by omega) (by omega) (by omega)) (cwV 4 C.2.2.2.2.1 gX4_undoes_X4_makes rfl rfl rfl (by decide +kernel) (by rw [hXR]; decide)) hM_obj rfl rfl rfl (Nat.le_of_ble_eq_true rfl) dX4_undoes_149 (pc' := 152) rfl (by rw [hXR]; exact Nat.zero_le _) (by rw [hXR]; exact Nat.zero_le _) (fun _ _ z => z.elim) ?_
              rintro r h' ⟨rfl, rfl⟩
              show jW X G 7 0 0 152 [(5, .int (nI 1)), (0, .ref mo), (1, .int (nI b_)), (2, .int (nI t)), (3, .int (nI o)), (4, .int (nI p))] [.int (nI (a 9 t + 1))] ((hM G mo ad h0 (va_up (va_up (va_up s 23 0) 23 (a 19 p)) 10 (s 10 + 1)) (mkA (va_up (va_up s 23 0) 23 (a 19 p)) (aVr a p (a 19 p)) b_ t 1 (a 18 p))))
              refine j_istore C (i := 6) (x := nI (a 9 t + 1)) (l' := [(6, .int (nI (a 9 t + 1))), (5, .int (nI 1)), (0, .ref mo), (1, .int (nI b_)), (2, .int (nI t)), (3, .int (nI o)), (4, .int (nI p))]) dX4_undoes_152 (pc' := 154) rfl (by decide) rfl ?_
              refine j_iconst C (v := nI 1) rfl dX4_undoes_154 (pc' := 155) rfl ?_
              exact j_iret C E dX4_undoes_155 rfl (Nat.le_refl _) (Nat.le_refl _) (u_leaf (x := true) (oUndoes_1 (bu_ne hR hb (by omega)) (show a 16 p = 1 by omega) (gif (show a 7 t = 0 by omega) rfl)))
            · have c_27 := fun zq => c_27 ((nI_eq (a := a 7 t) (b := 0) (by omega) (by omega)).mpr zq)
              have c_27 : ¬ (a 7 t) = 0 := c_27
              refine j_aload_n C (i := 0) (x := mo) 1 rfl dX4_undoes_105 (pc' := 106) rfl ?_
              refine j_aload_n C (i := 0) (x := mo) 1 rfl dX4_undoes_106 (pc' := 107) rfl ?_
              refine m_geta C (f := 7) (idx := 17) hin (by decide) rfl (by decide +kernel) dX4_undoes_107 (pc' := 110) rfl ?_
              refine j_iload_n C (i := 2) (x := nI t) 3 rfl dX4_undoes_110 (pc' := 111) rfl ?_
              refine m_ald C M (f := 7) (j := t) (by decide) rfl rfl rfl (show t < 40 by omega) dX4_undoes_111 (pc' := 112) rfl ?_
              show jW X G 7 0 0 112 [(5, .int (nI 1)), (0, .ref mo), (1, .int (nI b_)), (2, .int (nI t)), (3, .int (nI o)), (4, .int (nI p))] [.int (nI (a 7 t)), .ref mo] ((hM G mo ad h0 (va_up (va_up s 23 0) 23 (a 19 p)) (aVr a p (a 19 p))))
              have B_30 := IA.kind I t
              refine j_callV C (As := [.int (nI (a 7 t))]) (rest := []) (m_isUnlike X.2.1 C.2.2.2.2.2.2.2.2 G M (va_up (va_up s 23 0) 23 (a 19 p)) (aVr a p (a 19 p)) (a 7 t) (IS.asked (IS.asked J (v := 0) (by omega)) (v := (a 19 p)) (by omega)) (IA.aVr I p (a 19 p)) (by omega)) (cwV 1 C.2.2.2.2.1 gX4_undoes_X4_isUnlike rfl rfl rfl (by decide +kernel) (by rw [hXR]; decide)) hM_obj rfl rfl rfl (Nat.le_of_ble_eq_true rfl) dX4_undoes_112 (pc' := 115) rfl (by rw [hXR]; exact Nat.zero_le _) (by rw [hXR]; exact Nat.zero_le _) (fun _ _ z => z.elim) ?_
              rintro r h' ⟨rfl, rfl⟩
              show jW X G 7 0 0 115 [(5, .int (nI 1)), (0, .ref mo), (1, .int (nI b_)), (2, .int (nI t)), (3, .int (nI o)), (4, .int (nI p))] [.int (bI (mUnl (va_up (va_up s 23 0) 23 (a 19 p)) (aVr a p (a 19 p)) (a 7 t)))] ((hM G mo ad h0 (va_up (va_up s 23 0) 23 (a 19 p)) (aVr a p (a 19 p))))
              rcases hb_31 : (mUnl (va_up (va_up s 23 0) 23 (a 19 p)) (aVr a p (a 19 p)) (a 7 t)) with _ | _
              · show jW X G 7 0 0 115 [(5, .int (nI 1)), (0, .ref mo), (1, .int (nI b_)), (2, .int (nI t)), (3, .int (nI o)), (4, .int (nI p))] [.int (nI 0)] ((hM G mo ad h0 (va_up (va_up s 23 0) 23 (a 19 p)) (aVr a p (a 19 p))))
                refine j_if_ne C dX4_undoes_115 (tgt := 126) (by decide) (pc' := 118) rfl (fun c_32 => absurd (by decide) c_32) (fun _ => ?_)
                refine j_aload_n C (i := 0) (x := mo) 1 rfl dX4_undoes_118 (pc' := 119) rfl ?_
                refine j_iload_n C (i := 2) (x := nI t) 3 rfl dX4_undoes_119 (pc' := 120) rfl ?_
                refine j_callV C (As := [.int (nI t)]) (rest := []) (m_isRing X.2.1 C.2.2.2.2.2.2.2.2 G M (va_up (va_up s 23 0) 23 (a 19 p)) (aVr a p (a 19 p)) t (IS.asked (IS.asked J (v := 0) (by omega)) (v := (a 19 p)) (by omega)) (IA.aVr I p (a 19 p)) (by omega)) (cwV 1 C.2.2.2.2.1 gX4_undoes_X4_isRing rfl rfl rfl (by decide +kernel) (by rw [hXR]; decide)) hM_obj rfl rfl rfl (Nat.le_of_ble_eq_true rfl) dX4_undoes_120 (pc' := 123) rfl (by rw [hXR]; exact Nat.zero_le _) (by rw [hXR]; exact Nat.zero_le _) (fun _ _ z => z.elim) ?_
                rintro r h' ⟨rfl, rfl⟩
                show jW X G 7 0 0 123 [(5, .int (nI 1)), (0, .ref mo), (1, .int (nI b_)), (2, .int (nI t)), (3, .int (nI o)), (4, .int (nI p))] [.int (bI (mRing (va_up (va_up s 23 0) 23 (a 19 p)) (aVr a p (a 19 p)) t))] ((hM G mo ad h0 (va_up (va_up s 23 0) 23 (a 19 p)) (mRingA (va_up (va_up s 23 0) 23 (a 19 p)) (aVr a p (a 19 p)) t)))
                rcases hb_33 : (mRing (va_up (va_up s 23 0) 23 (a 19 p)) (aVr a p (a 19 p)) t) with _ | _
                · show jW X G 7 0 0 123 [(5, .int (nI 1)), (0, .ref mo), (1, .int (nI b_)), (2, .int (nI t)), (3, .int (nI o)), (4, .int (nI p))] [.int (nI 0)] ((hM G mo ad h0 (va_up (va_up s 23 0) 23 (a 19 p)) (mRingA (va_up (va_up s 23 0) 23 (a 19 p)) (aVr a p (a 19 p)) t)))
                  refine j_if_eq C dX4_undoes_123 (tgt := 128) (by decide) (pc' := 126) rfl (fun _ => ?_) (fun c_34 => absurd (by decide) c_34)
                  refine j_aload_n C (i := 0) (x := mo) 1 rfl dX4_undoes_128 (pc' := 129) rfl ?_
                  refine j_iload_n C (i := 1) (x := nI b_) 2 rfl dX4_undoes_129 (pc' := 130) rfl ?_
                  refine j_iload_n C (i := 2) (x := nI t) 3 rfl dX4_undoes_130 (pc' := 131) rfl ?_
                  refine j_iload C (i := 5) (x := nI 1) 0 rfl dX4_undoes_131 (pc' := 133) rfl ?_
                  refine j_iload C (i := 5) (x := nI 1) 0 rfl dX4_undoes_133 (pc' := 135) rfl ?_
                  refine j_if_eq C dX4_undoes_135 (tgt := 148) (by decide) (pc' := 138) rfl (fun c_35 => absurd c_35 (by decide)) (fun _ => ?_)
                  refine j_aload_n C (i := 0) (x := mo) 1 rfl dX4_undoes_138 (pc' := 139) rfl ?_
                  refine m_geta C (f := 18) (idx := 47) hin (by decide) rfl (by decide +kernel) dX4_undoes_139 (pc' := 142) rfl ?_
                  refine j_iload C (i := 4) (x := nI p) 5 rfl dX4_undoes_142 (pc' := 144) rfl ?_
                  refine m_ald C M (f := 18) (j := p) (by decide) rfl rfl rfl (show p < 1400 by omega) dX4_undoes_144 (pc' := 145) rfl ?_
                  refine jt_i (show nI ((mRingA (va_up (va_up s 23 0) 23 (a 19 p)) (aVr a p (a 19 p)) t) 18 p) = nI (a 18 p) from by rw [mRingA_k (by decide)]; rfl) ?_
                  have B_36 := IA.big I 18 p
                  refine j_goto C dX4_undoes_145 (pc' := 149) (by decide) ?_
                  refine j_callV C (As := [.int (nI b_), .int (nI t), .int (nI 1), .int (nI (a 18 p))]) (rest := []) (m_makes X.2.1 C.2.2.2.2.2.2.2.2 G M (va_up (va_up s 23 0) 23 (a 19 p)) (mRingA (va_up (va_up s 23 0) 23 (a 19 p)) (aVr a p (a 19 p)) t) b_ t 1 (a 18 p) (IS.asked (IS.asked J (v := 0) (by omega)) (v := (a 19 p)) (by omega)) (IA.ring (s := (va_up (va_up s 23 0) 23 (a 19 p))) (IA.aVr I p (a 19 p)) t) (by omega) (by omega) (by omega) (by omega)) (cwV 4 C.2.2.2.2.1 gX4_undoes_X4_makes rfl rfl rfl (by decide +kernel) (by rw [hXR]; decide)) hM_obj rfl rfl rfl (Nat.le_of_ble_eq_true rfl) dX4_undoes_149 (pc' := 152) rfl (by rw [hXR]; exact Nat.zero_le _) (by rw [hXR]; exact Nat.zero_le _) (fun _ _ z => z.elim) ?_
                  rintro r h' ⟨rfl, rfl⟩
                  rw [mRingA_9v]
                  show jW X G 7 0 0 152 [(5, .int (nI 1)), (0, .ref mo), (1, .int (nI b_)), (2, .int (nI t)), (3, .int (nI o)), (4, .int (nI p))] [.int (nI (a 9 t + 1))] ((hM G mo ad h0 (va_up (va_up (va_up s 23 0) 23 (a 19 p)) 10 (s 10 + 1)) (mkA (va_up (va_up s 23 0) 23 (a 19 p)) (mRingA (va_up (va_up s 23 0) 23 (a 19 p)) (aVr a p (a 19 p)) t) b_ t 1 (a 18 p))))
                  refine j_istore C (i := 6) (x := nI (a 9 t + 1)) (l' := [(6, .int (nI (a 9 t + 1))), (5, .int (nI 1)), (0, .ref mo), (1, .int (nI b_)), (2, .int (nI t)), (3, .int (nI o)), (4, .int (nI p))]) dX4_undoes_152 (pc' := 154) rfl (by decide) rfl ?_
                  refine j_iconst C (v := nI 1) rfl dX4_undoes_154 (pc' := 155) rfl ?_
                  exact j_iret C E dX4_undoes_155 rfl (Nat.le_refl _) (Nat.le_refl _) (u_leaf (x := true) (oUndoes_1 (bu_ne hR hb (by omega)) (show a 16 p = 1 by omega) (gel (show ¬ a 7 t = 0 by omega) (gel (bff hb_31) (gel (bff hb_33) rfl)))))
                · show jW X G 7 0 0 123 [(5, .int (nI 1)), (0, .ref mo), (1, .int (nI b_)), (2, .int (nI t)), (3, .int (nI o)), (4, .int (nI p))] [.int (nI 1)] ((hM G mo ad h0 (va_up (va_up s 23 0) 23 (a 19 p)) (mRingA (va_up (va_up s 23 0) 23 (a 19 p)) (aVr a p (a 19 p)) t)))
                  refine j_if_eq C dX4_undoes_123 (tgt := 128) (by decide) (pc' := 126) rfl (fun c_37 => absurd c_37 (by decide)) (fun _ => ?_)
                  refine j_iconst C (v := nI 0) rfl dX4_undoes_126 (pc' := 127) rfl ?_
                  exact j_iret C E dX4_undoes_127 rfl (Nat.le_refl _) (Nat.le_refl _) (u_leaf (x := false) (oUndoes_1 (bu_ne hR hb (by omega)) (show a 16 p = 1 by omega) (gel (show ¬ a 7 t = 0 by omega) (gel (bff hb_31) (gif hb_33 rfl)))))
              · show jW X G 7 0 0 115 [(5, .int (nI 1)), (0, .ref mo), (1, .int (nI b_)), (2, .int (nI t)), (3, .int (nI o)), (4, .int (nI p))] [.int (nI 1)] ((hM G mo ad h0 (va_up (va_up s 23 0) 23 (a 19 p)) (aVr a p (a 19 p))))
                refine j_if_ne C dX4_undoes_115 (tgt := 126) (by decide) (pc' := 118) rfl (fun _ => ?_) (fun c_38 => absurd c_38 (by decide))
                refine j_iconst C (v := nI 0) rfl dX4_undoes_126 (pc' := 127) rfl ?_
                exact j_iret C E dX4_undoes_127 rfl (Nat.le_refl _) (Nat.le_refl _) (u_leaf (x := false) (oUndoes_1 (bu_ne hR hb (by omega)) (show a 16 p = 1 by omega) (gel (show ¬ a 7 t = 0 by omega) (gif hb_31 rfl))))
        · have c_12 := (nI_eq (a := a 14 p) (b := o) (by omega) (by omega)).mp c_12
          have c_12 : (a 14 p) = o := c_12
          refine j_aload_n C (i := 0) (x := mo) 0 rfl dX4_undoes_25 (pc' := 26) rfl ?_
          refine m_geta C (f := 13) (idx := 32) hin (by decide) rfl (by decide +kernel) dX4_undoes_26 (pc' := 29) rfl ?_
          refine j_iload C (i := 4) (x := nI p) 4 rfl dX4_undoes_29 (pc' := 31) rfl ?_
          refine m_ald C M (f := 13) (j := p) (by decide) rfl rfl rfl (show p < 1400 by omega) dX4_undoes_31 (pc' := 32) rfl ?_
          have B_39 := IA.ahead I Z p
          refine j_istore C (i := 4) (x := mV 13 (a 13 p)) (l' := [(4, .int (mV 13 (a 13 p))), (0, .ref mo), (1, .int (nI b_)), (2, .int (nI t)), (3, .int (nI o))]) dX4_undoes_32 (pc' := 34) rfl (by decide) rfl ?_
          refine j_goto C dX4_undoes_34 (pc' := 8) (by decide) ?_
          refine jt_loc (l' := [(4, .int (mP (a 13 p))), (0, .ref mo), (1, .int (nI b_)), (2, .int (nI t)), (3, .int (nI o))]) (by rfl) ?_
          exact jW.locals [1, 2, 3, 4, 0] rfl (ih_8 (f - 1) (a 13 p) (by omega) (bu_eq hR hb (by omega) (IA.ahead I Z p)).2 (by omega) (bu_eq hR hb (by omega) (IA.ahead I Z p)).1)
  refine jt_loc (l' := [(4, .int (mP (a 8 t + 1))), (0, .ref mo), (1, .int (nI b_)), (2, .int (nI t)), (3, .int (nI o))]) (by rw [← mP_s]) ?_
  exact jW.locals [1, 2, 3, 4, 0] rfl (L_8 ((a 8 t + 1) + 1) 1400 (a 8 t + 1) (by omega) (by omega) (by omega) rfl)
