/-! Every call keeps what holds of the store. -/
def WW (n : Nat) (s : mS) (a : mA) : Prop := WI s a ∧ WB n s a
section KEEP
variable {n : Nat} {s s' : mS} {a a' : mA}
theorem inN_tn {p : Int32} {m : Nat} (h : inN p m = true) : tn p < m := by
  have h := of_decide_eq_true h
  unfold tn
  omega
theorem inR_tn {p : Int32} {lo hi : Nat} (h1 : lo < 1048576) (h2 : hi < 1048576) (h : inR p lo hi = true) : lo ≤ tn p ∧ tn p ≤ hi := by
  obtain ⟨i, l, u, rfl⟩ := inR_of (v := p) (lo := lo) (hi := hi) (by omega) (by omega) h
  rw [tn_nI (by omega)]
  exact ⟨l, u⟩
theorem mopen_of {p : Int32} (h : mOpen s a p = true) : tn p < s 2 ∧ a 3 (tn p) = 0 := by
  unfold mOpen at h
  rw [Bool.and_eq_true] at h
  exact ⟨inN_tn h.1, of_decide_eq_true h.2⟩
theorem WW.soft (h : WW n s a) (J' : IS s') (I' : IA a') (hs : ∀ f, f ≠ 25 → f ≠ 23 → s' f = s f) (ha : ∀ f, f ≠ 24 → f ≠ 21 → f ≠ 22 → f ≠ 17 → a' f = a f) : WW (n + 1) s' a' := by
  obtain ⟨W, B⟩ := h
  have e0 := hs 0 (by decide) (by decide)
  have e1 := hs 1 (by decide) (by decide)
  have e2 := hs 2 (by decide) (by decide)
  have e4 := hs 4 (by decide) (by decide)
  have e6 := hs 6 (by decide) (by decide)
  have e10 := hs 10 (by decide) (by decide)
  refine ⟨W.keep J' I' e6 e10 (by omega) (by omega) (by rw [e0, e1]; exact W.T.1) (by rw [e0]; exact W.T.2.1) (fun j hj => ?_) (fun f hf => ha f (by omega) (by omega) (by omega) (by omega)), (B.keep e10 e6 (ha 8 (by decide) (by decide) (by decide) (by decide)) (ha 14 (by decide) (by decide) (by decide) (by decide)) (fun o ho => by rw [ha 3 (by decide) (by decide) (by decide) (by decide)]; exact ho)).more (by omega)⟩
  rw [ha 5 (by decide) (by decide) (by decide) (by decide)]
  exact W.T.2.2.2 j (by omega)
theorem WW.th (h : WW n s a) {k : Nat} (hk : k ≤ 3) : WW (n + 1) (va_up s 25 k) a := h.soft (h.1.J.th hk) h.1.I (fun f h25 _ => up_n h25) (fun f _ _ _ _ => rfl)
theorem IS.plain (J : IS s) {f v : Nat} (hv : v < 1048576) (h6 : f ≠ 6) (h2 : f ≠ 2) (h4 : f ≠ 4) (h10 : f ≠ 10) (h23 : f ≠ 23) : IS (va_up s f v) := J.up hv (fun z => absurd z h6) (fun z => absurd z h2) (fun z => absurd z h4) (fun z => absurd z h10) (fun z => absurd z h23)
theorem WW.opens (h : WW n s a) : WW (n + 1) (oOpen s a).2.1 (oOpen s a).2.2 := by
  unfold oOpen
  split
  · rename_i c
    obtain ⟨W, B⟩ := h
    refine ⟨W.keep ((W.J.th (v := 0) (by omega)).up (f := 2) (v := s 2 + 1) (by omega) (fun z => absurd z (by decide)) (fun _ => by omega) (fun z => absurd z (by decide)) (fun z => absurd z (by decide)) (fun z => absurd z (by decide))) W.I rfl rfl (Nat.le_succ _) (Nat.le_refl _) W.T.1 W.T.2.1 W.T.2.2.2 (fun f _ => rfl), (B.keep (s' := va_up (va_up s 25 0) 2 (s 2 + 1)) (a' := a) rfl rfl rfl rfl (fun o ho => ho)).more (by omega)⟩
  · exact h.th (by decide)
theorem WW.close (h : WW n s a) (p : Int32) : WW (n + 1) (oClose s a p).2.1 (oClose s a p).2.2 := by
  unfold oClose
  split
  · split
    · obtain ⟨W, B⟩ := h
      refine ⟨W.keep (W.J.th (v := 0) (by omega)) (W.I.up2c (f := 3) (j := tn p) (v := 1) ⟨by omega, by omega, by omega, by omega, by omega, by omega, by omega, by omega, by omega, by omega, by omega, by omega, by omega, by omega⟩) rfl rfl (Nat.le_refl _) (Nat.le_refl _) W.T.1 W.T.2.1 W.T.2.2.2 (fun f hf => by unfold va_up2; exact up_n (by omega)), (B.keep (s' := va_up s 25 0) (a' := va_up2 a 3 (tn p) 1) rfl rfl rfl rfl (fun o ho => ?_)).more (by omega)⟩
      unfold va_up2
      rw [up_s]
      by_cases e : o = tn p
      · rw [e, up_s]
      · rw [up_n e]; exact ho
    · exact h.th (by decide)
  · exact h.th (by decide)
theorem WW.refer (h : WW n s a) (p : Int32) : WW (n + 1) (oRefer s a p).2.1 (oRefer s a p).2.2 := by
  unfold oRefer
  split
  · rename_i c
    have hp := inN_tn c
    split
    · rename_i c4
      obtain ⟨W, B⟩ := h
      have h6 := W.J.2.1
      refine ⟨W.keep ((W.J.th (v := 0) (by omega)).up (f := 4) (v := s 4 + 1) (by omega) (fun z => absurd z (by decide)) (fun z => absurd z (by decide)) (fun _ => by omega) (fun z => absurd z (by decide)) (fun z => absurd z (by decide))) (W.I.up2c (f := 5) (j := s 4) (v := tn p) ⟨by omega, by omega, by omega, by omega, by omega, by omega, by omega, by omega, by omega, by omega, by omega, by omega, by omega, by omega⟩) rfl rfl (Nat.le_refl _) (Nat.le_refl _) W.T.1 W.T.2.1 (fun j hj => ?_) (fun f hf => by unfold va_up2; exact up_n (by omega)), (B.keep (s' := va_up (va_up s 25 0) 4 (s 4 + 1)) (a' := va_up2 a 5 (s 4) (tn p)) rfl rfl rfl rfl (fun o ho => ho)).more (by omega)⟩
      have hj : j < s 4 + 1 := hj
      show va_up2 a 5 (s 4) (tn p) 5 j < s 6
      unfold va_up2
      rw [up_s]
      by_cases e : j = s 4
      · rw [e, up_s]; exact hp
      · rw [up_n e]; exact W.T.2.2.2 j (by omega)
    · exact h.th (by decide)
  · exact h.th (by decide)
theorem WW.wipe (h : WW n s a) : WW (n + 1) (oWipe s a).2.1 (oWipe s a).2.2 := by
  obtain ⟨W, B⟩ := h
  exact ⟨W.keep ((W.J.up (f := 4) (v := 0) (by omega) (fun z => absurd z (by decide)) (fun z => absurd z (by decide)) (fun _ => by omega) (fun z => absurd z (by decide)) (fun z => absurd z (by decide))).th (v := 0) (by omega)) W.I rfl rfl (Nat.le_refl _) (Nat.le_refl _) W.T.1 W.T.2.1 (fun j hj => absurd hj (Nat.not_lt_zero j)) (fun f _ => rfl), (B.keep (s' := va_up (va_up s 4 0) 25 0) (a' := a) rfl rfl rfl rfl (fun o ho => ho)).more (by omega)⟩
theorem WW.pass (h : WW n s a) (m : Int32) : WW (n + 1) (oPass s a m).2.1 (oPass s a m).2.2 := by
  unfold oPass
  split
  · split
    · rename_i c5
      obtain ⟨W, B⟩ := h
      have h1 := W.T.1
      exact ⟨W.keep ((W.J.th (v := 0) (by omega)).plain (f := 0) (v := s 0 + tn m) (by omega) (by decide) (by decide) (by decide) (by decide) (by decide)) W.I rfl rfl (Nat.le_refl _) (Nat.le_add_right _ _) (show s 1 ≤ s 0 + tn m by omega) c5 W.T.2.2.2 (fun f _ => rfl), (B.keep (s' := va_up (va_up s 25 0) 0 (s 0 + tn m)) (a' := a) rfl rfl rfl rfl (fun o ho => ho)).more (by omega)⟩
    · exact h.th (by decide)
  · exact h.th (by decide)
theorem takeN_le (s : mS) (m : Int32) : oTakeN s m ≤ s 0 := by
  unfold oTakeN
  split <;> omega
theorem WW.take (h : WW n s a) (m : Int32) : WW (n + 1) (oTake s a m).2.1 (oTake s a m).2.2 := by
  unfold oTake
  split
  · obtain ⟨W, B⟩ := h
    have h1 := takeN_le s m
    have h0 := W.J.1 0
    exact ⟨W.keep ((W.J.th (v := 0) (by omega)).plain (f := 1) (v := oTakeN s m) (by omega) (by decide) (by decide) (by decide) (by decide) (by decide)) W.I rfl rfl (Nat.le_refl _) (Nat.le_refl _) h1 W.T.2.1 W.T.2.2.2 (fun f _ => rfl), (B.keep (s' := va_up (va_up s 25 0) 1 (oTakeN s m)) (a' := a) rfl rfl rfl rfl (fun o ho => ho)).more (by omega)⟩
  · exact h.th (by decide)
theorem WW.hide (h : WW n s a) (p v : Int32) : WW (n + 1) (oHide s a p v).2.1 (oHide s a p v).2.2 := by
  unfold oHide
  split
  · split
    · exact h.soft (h.1.J.th (v := 0) (by omega)) (h.1.I.up2c (f := 17) (v := 1) ⟨by omega, by omega, by omega, by omega, by omega, by omega, by omega, by omega, by omega, by omega, by omega, by omega, by omega, by omega⟩) (fun f h25 _ => up_n h25) (fun f _ _ _ h17 => by unfold va_up2; exact up_n h17)
    · exact h.th (by decide)
  · exact h.th (by decide)
theorem WW.inBox (h : WW n s a) (x y tx ty w : Int32) : WW (n + 1) (oInBox s a x y tx ty w).2.1 (oInBox s a x y tx ty w).2.2 := by
  unfold oInBox
  split
  · exact h.soft (h.1.J.th (v := 0) (by omega)) (h.1.I.up01 (Or.inr rfl) (fun j => bx2_le (bx3_le (bx2_le (bx1_le h.1.I _ _ _ _ _) _) _) _ j)) (fun f h25 _ => up_n h25) (fun f _ _ h22 _ => up_n h22)
  · exact h.th (by decide)
theorem mUnl_f {w : Nat} (h : ¬ mUnl s a w = true) : ∀ j, j < s 23 → mIs a (a 24 j) = true ∧ (w = 1 → a 7 (a 24 j) = 0) := by
  intro j hj
  unfold mUnl at h
  have h2 : anyN (fun k => !mIs a (a 24 k) || (decide (w = 1) && !decide (a 7 (a 24 k) = 0))) (s 23) = false := by
    cases e : anyN (fun k => !mIs a (a 24 k) || (decide (w = 1) && !decide (a 7 (a 24 k) = 0))) (s 23) with
    | false => rfl
    | true => rw [e, Bool.or_true] at h; exact absurd rfl h
  have h3 : (!mIs a (a 24 j) || (decide (w = 1) && !decide (a 7 (a 24 j) = 0))) = false := by
    cases e : (!mIs a (a 24 j) || (decide (w = 1) && !decide (a 7 (a 24 j) = 0))) with
    | false => rfl
    | true =>
      have := (anyN_iff (P := fun k => !mIs a (a 24 k) || (decide (w = 1) && !decide (a 7 (a 24 k) = 0)))).mpr ⟨j, hj, e⟩
      rw [h2] at this
      exact Bool.noConfusion this
  rw [Bool.or_eq_false_iff, Bool.and_eq_false_iff] at h3
  refine ⟨?_, fun hw => ?_⟩
  · have := h3.1
    cases e : mIs a (a 24 j) with
    | true => rfl
    | false => rw [e] at this; exact Bool.noConfusion this
  · rcases h3.2 with z | z
    · rw [decide_eq_true hw] at z; exact Bool.noConfusion z
    · by_cases e : a 7 (a 24 j) = 0
      · exact e
      · rw [decide_eq_false e] at z; exact Bool.noConfusion z
theorem IS.more (J : IS s) (h : s 10 + 1 ≤ 1360) : IS (va_up s 10 (s 10 + 1)) := J.up (by omega) (fun z => absurd z (by decide)) (fun z => absurd z (by decide)) (fun z => absurd z (by decide)) (fun _ => h) (fun z => absurd z (by decide))
theorem IS.thing (J : IS s) (h : s 6 < 40) : IS (va_up s 6 (s 6 + 1)) := J.up (by omega) (fun _ => by omega) (fun z => absurd z (by decide)) (fun z => absurd z (by decide)) (fun z => absurd z (by decide)) (fun z => absurd z (by decide))
theorem IS.i25 (J : IS s) : IS (va_up s 25 0) := J.th (by omega)
theorem WW.point (h : WW n s a) (hn : n < 512) (p x y : Int32) : WW (n + 1) (oPoint s a p x y).2.1 (oPoint s a p x y).2.2 := by
  unfold oPoint
  split
  · split
    · rename_i c2
      split
      · rename_i c3
        obtain ⟨W, B⟩ := h
        have hB := B.le
        obtain ⟨hb, h3⟩ := mopen_of c3.1
        have hx := inR_tn (by omega) (by omega) c2.1
        have hy := inR_tn (by omega) (by omega) c2.2
        have J1 : IS (va_up (va_up s 25 0) 23 0) := W.J.i25.asked (by omega)
        have J2 : IS (va_up (va_up (va_up (va_up s 25 0) 23 0) 10 (s 10 + 1)) 6 (s 6 + 1)) := (J1.more (show s 10 + 1 ≤ 1360 by omega)).thing c3.2
        have hA : ∀ f, f ≠ 24 → f ≠ 21 → f ≠ 7 → va_up2 a 7 (s 6) 0 f = a f := fun f _ _ h7 => by unfold va_up2; exact up_n h7
        have I1 : IA (va_up2 a 7 (s 6) 0) := W.I.up2c ⟨by omega, by omega, by omega, by omega, by omega, by omega, by omega, by omega, by omega, by omega, by omega, by omega, by omega, by omega⟩
        refine ⟨W.make (s1 := va_up (va_up s 25 0) 23 0) (a1 := va_up2 a 7 (s 6) 0) rfl rfl (Nat.zero_le _) rfl rfl rfl rfl rfl (Or.inr ⟨rfl, rfl⟩) J1 J2 I1 hA (fun t ht => by unfold va_up2; rw [up_s, up_n (by omega)]) hb (by omega) (by omega) (fun z => absurd z (by omega)) c3.2 (fun _ j hj => absurd hj (Nat.not_lt_zero j)) (fun _ _ => rfl), B.make (i := s 6) (b := tn p) (fun t ht => (W.K.2 t ht).1) rfl (Nat.le_succ _) rfl rfl rfl h3⟩
      · exact h.th (by decide)
    · exact h.th (by decide)
  · exact h.th (by decide)
theorem WW.draft (h : WW n s a) : WW (n + 1) (va_up (va_up s 25 0) 23 (s 4)) (aDr a (s 4)) := h.soft (h.1.J.i25.asked h.1.J.2.2.2.1) (h.1.I.aDr _) (fun f h25 h23 => by rw [up_n h23, up_n h25]) (fun f h24 _ _ _ => by unfold aDr; exact up_n h24)
theorem WW.make (h : WW n s a) (hn : n < 512) (p w : Int32) : WW (n + 1) (oMake s a p w).2.1 (oMake s a p w).2.2 := by
  unfold oMake
  split
  · split
    · rename_i c2
      split
      · rename_i c3
        split
        · exact h.draft
        · rename_i c4
          obtain ⟨W, B⟩ := h
          have hB := B.le
          obtain ⟨hb, h3⟩ := mopen_of c3.1
          have hw := inR_tn (by omega) (by omega) c2
          have h4 := W.J.2.2.2.1
          have J1 : IS (va_up (va_up s 25 0) 23 (s 4)) := W.J.i25.asked h4
          have J2 : IS (va_up (va_up (va_up (va_up s 25 0) 23 (s 4)) 10 (s 10 + 1)) 6 (s 6 + 1)) := (J1.more (show s 10 + 1 ≤ 1360 by omega)).thing c3.2
          have hA : ∀ f, f ≠ 24 → f ≠ 21 → f ≠ 7 → va_up2 (aDr a (s 4)) 7 (s 6) (tn w) f = a f := fun f h24 _ h7 => by unfold va_up2 aDr; rw [up_n h7, up_n h24]
          have I1 : IA (va_up2 (aDr a (s 4)) 7 (s 6) (tn w)) := (W.I.aDr _).up2c ⟨by omega, by omega, by omega, by omega, by omega, by omega, by omega, by omega, by omega, by omega, by omega, by omega, by omega, by omega⟩
          have hu := mUnl_f c4
          refine ⟨W.make (s1 := va_up (va_up s 25 0) 23 (s 4)) (a1 := va_up2 (aDr a (s 4)) 7 (s 6) (tn w)) rfl rfl h4 rfl rfl rfl rfl rfl (Or.inr ⟨rfl, rfl⟩) J1 J2 I1 hA (fun t ht => by unfold va_up2; rw [up_s, up_n (by omega)]; rfl) hb (by omega) (by omega) (fun z => absurd z (by omega)) c3.2 (fun _ j hj => ?_) (fun _ z => ?_), B.make (i := s 6) (b := tn p) (fun t ht => (W.K.2 t ht).1) rfl (Nat.le_succ _) rfl rfl rfl h3⟩
          · have hj : j < s 4 := hj
            have e24 : va_up2 (aDr a (s 4)) 7 (s 6) (tn w) 24 j = a 5 j := show (if j < s 4 then a 5 j else a 24 j) = a 5 j from if_pos hj
            have h5 := W.T.2.2.2 j hj
            rw [e24]
            refine ⟨h5, fun z => ?_⟩
            have e7 : va_up2 (aDr a (s 4)) 7 (s 6) (tn w) 7 (s 6) = tn w := by unfold va_up2; rw [up_s, up_s]
            rw [e7] at z
            have e1 : va_up2 (aDr a (s 4)) 7 (s 6) (tn w) 7 (a 5 j) = a 7 (a 5 j) := by unfold va_up2; rw [up_s, up_n (by omega)]; rfl
            rw [e1]
            have := (hu j hj).2 z
            rw [show aDr a (s 4) 24 j = a 5 j from if_pos hj] at this
            exact this
          · have e7 : va_up2 (aDr a (s 4)) 7 (s 6) (tn w) 7 (s 6) = tn w := by unfold va_up2; rw [up_s, up_s]
            rw [e7] at z
            omega
      · exact h.th (by decide)
    · exact h.th (by decide)
  · exact h.th (by decide)
theorem WW.move (h : WW n s a) (hn : n < 512) (p t v x y : Int32) : WW (n + 1) (oMove s a p t v x y).2.1 (oMove s a p t v x y).2.2 := by
  have hsoft : WW (n + 1) (va_up (va_up s 25 0) 23 0) a := h.soft (h.1.J.i25.asked (by omega)) h.1.I (fun f h25 h23 => by rw [up_n h23, up_n h25]) (fun f _ _ _ _ => rfl)
  unfold oMove
  split
  · rename_i c1
    split
    · rename_i c2
      split
      · rename_i c3
        split
        · split
          · obtain ⟨W, B⟩ := h
            have hB := B.le
            obtain ⟨hb, h3⟩ := mopen_of c3
            have ht := inN_tn c1.2
            have h6 := W.J.2.1
            have hx := inR_tn (by omega) (by omega) c2.2.1
            have hy := inR_tn (by omega) (by omega) c2.2.2
            have J1 : IS (va_up (va_up s 25 0) 23 0) := W.J.i25.asked (by omega)
            exact ⟨W.make (s1 := va_up (va_up s 25 0) 23 0) (a1 := a) rfl rfl (Nat.zero_le _) rfl rfl rfl rfl rfl (Or.inl ⟨rfl, ht⟩) J1 (J1.more (show s 10 + 1 ≤ 1360 by omega)) W.I (fun _ _ _ _ => rfl) (fun _ _ => rfl) hb (by omega) (by omega) (fun z => absurd z (by omega)) (by omega) (fun _ j hj => absurd hj (Nat.not_lt_zero j)) (fun _ _ => rfl), B.make (i := tn t) (b := tn p) (fun t ht => (W.K.2 t ht).1) rfl (Nat.le_refl _) rfl rfl rfl h3⟩
          · exact hsoft
        · exact hsoft
      · exact h.th (by decide)
    · exact h.th (by decide)
  · exact h.th (by decide)
theorem WW.change (h : WW n s a) (hn : n < 512) (p t v : Int32) : WW (n + 1) (oChange s a p t v).2.1 (oChange s a p t v).2.2 := by
  unfold oChange
  split
  · rename_i c1
    split
    · exact h.th (by decide)
    · rename_i c2
      split
      · rename_i c3
        split
        · split
          · split
            · exact h.draft
            · rename_i c4
              split
              · show WW (n + 1) (va_up (va_up s 25 0) 23 (s 4)) (mRingA (va_up (va_up s 25 0) 23 (s 4)) (aDr a (s 4)) (tn t))
                exact h.soft (h.1.J.i25.asked h.1.J.2.2.2.1) ((h.1.I.aDr _).ring _) (fun f h25 h23 => by rw [up_n h23, up_n h25]) (fun f h24 h21 _ _ => by rw [mRingA_k h21]; unfold aDr; exact up_n h24)
              · obtain ⟨W, B⟩ := h
                have hB := B.le
                obtain ⟨hb, h3⟩ := mopen_of c3
                have ht := inN_tn c1.2
                have h6 := W.J.2.1
                have h4 := W.J.2.2.2.1
                have J1 : IS (va_up (va_up s 25 0) 23 (s 4)) := W.J.i25.asked h4
                have hA : ∀ f, f ≠ 24 → f ≠ 21 → f ≠ 7 → mRingA (va_up (va_up s 25 0) 23 (s 4)) (aDr a (s 4)) (tn t) f = a f := fun f h24 h21 _ => by rw [mRingA_k h21]; unfold aDr; exact up_n h24
                have h7 : mRingA (va_up (va_up s 25 0) 23 (s 4)) (aDr a (s 4)) (tn t) 7 = a 7 := by rw [mRingA_k (by decide)]; rfl
                have hu := mUnl_f c4
                show WW (n + 1) (va_up (va_up (va_up s 25 0) 23 (s 4)) 10 (s 10 + 1)) (mkA (va_up (va_up s 25 0) 23 (s 4)) (mRingA (va_up (va_up s 25 0) 23 (s 4)) (aDr a (s 4)) (tn t)) (tn p) (tn t) 1 0)
                refine ⟨W.make (s1 := va_up (va_up s 25 0) 23 (s 4)) (a1 := mRingA (va_up (va_up s 25 0) 23 (s 4)) (aDr a (s 4)) (tn t)) rfl rfl h4 rfl rfl rfl rfl rfl (Or.inl ⟨rfl, ht⟩) J1 (J1.more (show s 10 + 1 ≤ 1360 by omega)) ((W.I.aDr _).ring _) hA (fun t _ => by rw [h7]) hb (by omega) (by omega) (fun z => absurd z (by omega)) (by omega) (fun _ j hj => ?_) (fun _ z => ?_), B.make (i := tn t) (b := tn p) (fun t ht => (W.K.2 t ht).1) rfl (Nat.le_refl _) (by rw [mkA_3, hA 3 (by decide) (by decide) (by decide)]) (by rw [mkA_r8, hA 8 (by decide) (by decide) (by decide)]; rfl) (by rw [mkA_14, hA 14 (by decide) (by decide) (by decide)]; rfl) h3⟩
                · have hj : j < s 4 := hj
                  have e24 : mRingA (va_up (va_up s 25 0) 23 (s 4)) (aDr a (s 4)) (tn t) 24 j = a 5 j := by
                    rw [mRingA_k (by decide)]
                    exact if_pos hj
                  rw [e24, h7]
                  refine ⟨W.T.2.2.2 j hj, fun z => ?_⟩
                  have := (hu j hj).2 z
                  rw [show aDr a (s 4) 24 j = a 5 j from if_pos hj] at this
                  exact this
                · rw [h7] at z
                  exact absurd z c2
          · exact h.draft
        · exact h.draft
      · exact h.th (by decide)
  · exact h.th (by decide)
theorem WW.delete (h : WW n s a) (hn : n < 512) (p t v : Int32) : WW (n + 1) (oDelete s a p t v).2.1 (oDelete s a p t v).2.2 := by
  unfold oDelete
  split
  · rename_i c1
    split
    · rename_i c3
      split
      · split
        · split
          · exact h.th (by decide)
          · obtain ⟨W, B⟩ := h
            have hB := B.le
            obtain ⟨hb, h3⟩ := mopen_of c3
            have ht := inN_tn c1.2
            have h6 := W.J.2.1
            exact ⟨W.make (s1 := va_up s 25 0) (a1 := a) rfl rfl W.J.2.2.2.2.2 rfl rfl rfl rfl rfl (Or.inl ⟨rfl, ht⟩) W.J.i25 (W.J.i25.more (show s 10 + 1 ≤ 1360 by omega)) W.I (fun _ _ _ _ => rfl) (fun _ _ => rfl) hb (by omega) (by omega) (fun _ => rfl) (by omega) (fun z => absurd rfl z) (fun z => absurd rfl z), B.make (i := tn t) (b := tn p) (fun t ht => (W.K.2 t ht).1) rfl (Nat.le_refl _) rfl rfl rfl h3⟩
        · exact h.th (by decide)
      · exact h.th (by decide)
    · exact h.th (by decide)
  · exact h.th (by decide)
end KEEP
