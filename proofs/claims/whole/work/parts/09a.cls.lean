/-- the place (plus 1) of the newest version ahead that another set made; 0 is none -/
def caF (a : mA) (o : Nat) : Nat → Nat → Nat
  | 0, _ => 0
  | _ + 1, 0 => 0
  | f + 1, p + 1 => if a 14 p = o then caF a o f (a 13 p) else p + 1
theorem ca_eq {a : mA} {o f p x : Nat} (h : x = caF a o f (p + 1)) (hf : p + 1 ≤ f) (hc : a 14 p = o) (hz : a 13 p ≤ p) : x = caF a o (f - 1) (a 13 p) ∧ a 13 p ≤ f - 1 := by
  obtain ⟨g, rfl⟩ : ∃ g, f = g + 1 := ⟨f - 1, by omega⟩
  have e : caF a o (g + 1) (p + 1) = if a 14 p = o then caF a o g (a 13 p) else p + 1 := rfl
  rw [e, if_pos hc] at h
  exact ⟨h, by show _ ≤ g + 1 - 1; omega⟩
theorem ca_ne {a : mA} {o f p x : Nat} (h : x = caF a o f (p + 1)) (hf : p + 1 ≤ f) (hc : ¬ a 14 p = o) : x = p + 1 := by
  obtain ⟨g, rfl⟩ : ∃ g, f = g + 1 := ⟨f - 1, by omega⟩
  have e : caF a o (g + 1) (p + 1) = if a 14 p = o then caF a o g (a 13 p) else p + 1 := rfl
  rw [e, if_neg hc] at h
  exact h
theorem ca_0 {a : mA} {o f x : Nat} (h : x = caF a o f 0) : x = 0 := by cases f <;> exact h
def cC (xa ca : Nat → Nat) (x : Nat) : Nat := if x = 0 then xa 1 else ca (x - 1)
theorem cC_0 {xa ca : Nat → Nat} {x : Nat} (h : x = 0) : some (Value.ref (xa 1)) = some (.ref (cC xa ca x)) := by rw [h]; rfl
theorem cC_s {xa ca : Nat → Nat} {x p : Nat} (h : x = p + 1) : some (Value.ref (ca p)) = some (.ref (cC xa ca x)) := by rw [h]; rfl
set_option maxRecDepth 100000 in
set_option maxHeartbeats 4000000 in
theorem c_contentAhead (l : Launch) (hlt : l.stackTraces = false) (G : jG) {P : Nat → Prop} {xo : Nat} {xa th va ca ma : Nat → Nat} {dat cap : Nat} {mod : Int32} {df : Nat → Option Nat} {vf dr : Nat → Int32} {mf : Nat → Nat → Int32} {s : mS} {a : mA} {h : jH} (Q : cQ G P xo xa th va ca ma dat cap mod df vf dr mf s a h) (J : IS s) (I : IA a) (p0 o : Nat) (hp0 : p0 < s 10) (ho : o < 1048576) : jM l G yX3_contentAheadOf wsX3_contentAheadOf 0 0 0 0 [.ref xo, .ref (va p0), .int (nI o)] h (fun r h' => r = some (.ref (cC xa ca (caF a o 1400 (a 13 p0)))) ∧ h' = h) (fun _ _ => False) := by
  have h6 := J.2.1
  have h2 := J.2.2.1
  have h4 := J.2.2.2.1
  have h10 := J.2.2.2.2.1
  have hs0 := J.1 0
  have hs1 := J.1 1
  have ha0 := Q.ahead hp0
  refine jM_of (cc := cX3_contentAheadOf) (maxL := 4) (ret := (some (.object "MapRevisions$Content"))) hlt (by decide +kernel) rfl (Nat.le_of_ble_eq_true rfl) ?_
  intro X C E hXl hXR hXn
  have hinX2 : ∀ w ∈ u_ws RX2 TX2 6, w ∈ wsX3_contentAheadOf := by decide +kernel
  have hinX3 : ∀ w ∈ u_ws RX3 TX3 11, w ∈ wsX3_contentAheadOf := by decide +kernel
  show jW X G 4 0 0 0 [(0, .ref xo), (1, .ref (va p0)), (2, .int (nI o))] [] h
  refine j_aload_n C (i := 1) (x := va p0) 1 rfl dX3_contentAheadOf_0 (pc' := 1) rfl ?_
  refine j_get C (ref := "MapRevisions$Version") (CN := RX2) (T := TX2) (N := 6) (ci := 3) (index := 242) (a := va p0) (kf := 0) (fs := [cP va (a 13 p0), .int (nI (a 12 p0)), .int (nI (a 14 p0)), .int (nI (a 15 p0)), .ref (ca p0), .int (nI (a 17 p0))]) (v := cP va (a 13 p0)) hinX2 rfl (by decide) (by decide +kernel) rfl (Q.ver (v := p0) (by omega)) rfl dX3_contentAheadOf_1 (pc' := 4) rfl ?_
  have B_1 := Q.ahead (v := p0) (by omega)
  refine j_astore_nv C (i := 3) (v := cP va (a 13 p0)) (l' := [(3, cP va (a 13 p0)), (0, .ref xo), (1, .ref (va p0)), (2, .int (nI o))]) dX3_contentAheadOf_4 (pc' := 5) rfl (by decide) (cP_or _ _) rfl ?_
  have L_5 : ∀ (N_5 : Nat) (f b : Nat), (b) < N_5 → (b ≤ f) → (f ≤ 1400) → (b ≤ s 10) → (caF a o 1400 (a 13 p0) = caF a o f b) → jW X G 4 0 0 5 [(0, .ref xo), (1, .ref (va p0)), (2, .int (nI o)), (3, cP va b)] [] h := by
    intro N_5
    induction N_5 with
    | zero => intro f b hm_5 hb hf hbs hR; omega
    | succ N_5 ih_5 =>
      intro f b hm_5 hb hf hbs hR
      rcases b with _ | p
      · refine jt_loc (l' := [(0, .ref xo), (1, .ref (va p0)), (2, .int (nI o)), (3, .null)]) (by rw [cP_0]) ?_
        refine j_aload_nv C (i := 3) (v := .null) 3 rfl (Or.inl rfl) dX3_contentAheadOf_5 (pc' := 6) rfl ?_
        refine j_ifnull_n C dX3_contentAheadOf_6 (tgt := 25) (by decide) ?_
        refine j_aload_nv C (i := 3) (v := .null) 3 rfl (Or.inl rfl) dX3_contentAheadOf_25 (pc' := 26) rfl ?_
        refine j_ifnonnull_n C dX3_contentAheadOf_26 (pc' := 29) rfl ?_
        refine j_aload_n C (i := 0) (x := xo) 0 rfl dX3_contentAheadOf_29 (pc' := 30) rfl ?_
        refine j_get C (ref := "MapRevisions") (CN := RX3) (T := TX3) (N := 11) (ci := 4) (index := 18) (a := xo) (kf := 1) (fs := [.ref (xa 0), .ref (xa 1), .ref (xa 2), .ref (xa 3), .ref (xa 4), .ref (xa 5), .int (nI (s 2)), .int (nI (s 4)), .int (nI (s 10)), .int (nI (s 0)), .int (nI (s 1))]) (v := .ref (xa 1)) hinX3 rfl (by decide) (by decide +kernel) rfl Q.obj rfl dX3_contentAheadOf_30 (pc' := 33) rfl ?_
        refine j_goto C dX3_contentAheadOf_33 (pc' := 40) (by decide) ?_
        exact j_aret C E (Or.inl ⟨_, rfl⟩) (Or.inr ⟨_, rfl⟩) dX3_contentAheadOf_40 (Nat.le_of_ble_eq_true rfl) (Nat.le_of_ble_eq_true rfl) ⟨cC_0 (ca_0 hR), rfl⟩
      · refine jt_loc (l' := [(0, .ref xo), (1, .ref (va p0)), (2, .int (nI o)), (3, .ref (va p))]) (by rw [cP_s]) ?_
        have hp9 : p < s 10 := by omega
        refine j_aload_n C (i := 3) (x := va p) 3 rfl dX3_contentAheadOf_5 (pc' := 6) rfl ?_
        refine j_ifnull_r C (x := va p) dX3_contentAheadOf_6 (pc' := 9) rfl ?_
        refine j_aload_n C (i := 3) (x := va p) 3 rfl dX3_contentAheadOf_9 (pc' := 10) rfl ?_
        refine j_get C (ref := "MapRevisions$Version") (CN := RX2) (T := TX2) (N := 6) (ci := 3) (index := 198) (a := va p) (kf := 2) (fs := [cP va (a 13 p), .int (nI (a 12 p)), .int (nI (a 14 p)), .int (nI (a 15 p)), .ref (ca p), .int (nI (a 17 p))]) (v := .int (nI (a 14 p))) hinX2 rfl (by decide) (by decide +kernel) rfl (Q.ver (v := p) (by omega)) rfl dX3_contentAheadOf_10 (pc' := 13) rfl ?_
        have B_2 := IA.big I 14 p
        refine j_iload_n C (i := 2) (x := nI o) 2 rfl dX3_contentAheadOf_13 (pc' := 14) rfl ?_
        refine j_icmp_ne C dX3_contentAheadOf_14 (tgt := 25) (by decide) (pc' := 17) rfl (fun c_3 => ?_) (fun c_3 => ?_)
        · have c_3 := fun zq => c_3 ((nI_eq (a := a 14 p) (b := o) (by omega) (by omega)).mpr zq)
          have c_3 : ¬ (a 14 p) = o := c_3
          refine j_aload_n C (i := 3) (x := va p) 3 rfl dX3_contentAheadOf_25 (pc' := 26) rfl ?_
          refine j_ifnonnull_r C (x := va p) dX3_contentAheadOf_26 (tgt := 36) (by decide) ?_
          refine j_aload_n C (i := 3) (x := va p) 3 rfl dX3_contentAheadOf_36 (pc' := 37) rfl ?_
          refine j_get C (ref := "MapRevisions$Version") (CN := RX2) (T := TX2) (N := 6) (ci := 3) (index := 151) (a := va p) (kf := 4) (fs := [cP va (a 13 p), .int (nI (a 12 p)), .int (nI (a 14 p)), .int (nI (a 15 p)), .ref (ca p), .int (nI (a 17 p))]) (v := .ref (ca p)) hinX2 rfl (by decide) (by decide +kernel) rfl (Q.ver (v := p) (by omega)) rfl dX3_contentAheadOf_37 (pc' := 40) rfl ?_
          exact j_aret C E (Or.inl ⟨_, rfl⟩) (Or.inr ⟨_, rfl⟩) dX3_contentAheadOf_40 (Nat.le_of_ble_eq_true rfl) (Nat.le_of_ble_eq_true rfl) ⟨cC_s (ca_ne hR hb (by omega)), rfl⟩
        · have c_3 := (nI_eq (a := a 14 p) (b := o) (by omega) (by omega)).mp c_3
          have c_3 : (a 14 p) = o := c_3
          refine j_aload_n C (i := 3) (x := va p) 3 rfl dX3_contentAheadOf_17 (pc' := 18) rfl ?_
          refine j_get C (ref := "MapRevisions$Version") (CN := RX2) (T := TX2) (N := 6) (ci := 3) (index := 242) (a := va p) (kf := 0) (fs := [cP va (a 13 p), .int (nI (a 12 p)), .int (nI (a 14 p)), .int (nI (a 15 p)), .ref (ca p), .int (nI (a 17 p))]) (v := cP va (a 13 p)) hinX2 rfl (by decide) (by decide +kernel) rfl (Q.ver (v := p) (by omega)) rfl dX3_contentAheadOf_18 (pc' := 21) rfl ?_
          have B_4 := Q.ahead (v := p) (by omega)
          refine j_astore_nv C (i := 3) (v := cP va (a 13 p)) (l' := [(3, cP va (a 13 p)), (0, .ref xo), (1, .ref (va p0)), (2, .int (nI o))]) dX3_contentAheadOf_21 (pc' := 22) rfl (by decide) (cP_or _ _) rfl ?_
          refine j_goto C dX3_contentAheadOf_22 (pc' := 5) (by decide) ?_
          exact jW.locals [1, 2, 3, 0] rfl (ih_5 (f - 1) (a 13 p) (by omega) (ca_eq hR hb (by omega) (Q.ahead (v := p) (by omega))).2 (by omega) (by omega) (ca_eq hR hb (by omega) (Q.ahead (v := p) (by omega))).1)
  exact jW.locals [1, 2, 3, 0] rfl (L_5 ((a 13 p0) + 1) 1400 (a 13 p0) (by omega) (by omega) (by omega) (by omega) rfl)
