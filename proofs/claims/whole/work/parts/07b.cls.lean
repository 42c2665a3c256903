def chF (a : mA) (o : Nat) : Nat → Nat → Bool
  | 0, _ => false
  | _ + 1, 0 => false
  | f + 1, p + 1 => if a 14 p = o then true else chF a o f (a 13 p)
def mChH (a : mA) (t o : Nat) : Bool := chF a o 1400 (a 8 t + 1)
theorem ch_eq {a : mA} {o f p : Nat} {x : Bool} (h : x = chF a o f (p + 1)) (hf : p + 1 ≤ f) (hc : a 14 p = o) : x = true := by
  obtain ⟨g, rfl⟩ : ∃ g, f = g + 1 := ⟨f - 1, by omega⟩
  have e : chF a o (g + 1) (p + 1) = if a 14 p = o then true else chF a o g (a 13 p) := rfl
  rw [e, if_pos hc] at h
  exact h
theorem ch_ne {a : mA} {o f p : Nat} {x : Bool} (h : x = chF a o f (p + 1)) (hf : p + 1 ≤ f) (hc : ¬ a 14 p = o) (hz : a 13 p ≤ p) : x = chF a o (f - 1) (a 13 p) ∧ a 13 p ≤ f - 1 := by
  obtain ⟨g, rfl⟩ : ∃ g, f = g + 1 := ⟨f - 1, by omega⟩
  have e : chF a o (g + 1) (p + 1) = if a 14 p = o then true else chF a o g (a 13 p) := rfl
  rw [e, if_neg hc] at h
  exact ⟨h, by show _ ≤ g + 1 - 1; omega⟩
theorem ch_0 {a : mA} {o f : Nat} {x : Bool} (h : x = chF a o f 0) : x = false := by cases f <;> exact h
def nvF (a : mA) (v : Int32) : Nat → Nat → Nat
  | 0, _ => 0
  | _ + 1, 0 => 0
  | f + 1, p + 1 => if nI (a 12 p) = v then p + 1 else nvF a v f (a 13 p)
def mNv (a : mA) (t : Nat) (v : Int32) : Nat := nvF a v 1400 (a 8 t + 1)
theorem nv_eq {a : mA} {v : Int32} {f p x : Nat} (h : x = nvF a v f (p + 1)) (hf : p + 1 ≤ f) (hc : nI (a 12 p) = v) : x = p + 1 := by
  obtain ⟨g, rfl⟩ : ∃ g, f = g + 1 := ⟨f - 1, by omega⟩
  have e : nvF a v (g + 1) (p + 1) = if nI (a 12 p) = v then p + 1 else nvF a v g (a 13 p) := rfl
  rw [e, if_pos hc] at h
  exact h
theorem nv_ne {a : mA} {v : Int32} {f p x : Nat} (h : x = nvF a v f (p + 1)) (hf : p + 1 ≤ f) (hc : ¬ nI (a 12 p) = v) (hz : a 13 p ≤ p) : x = nvF a v (f - 1) (a 13 p) ∧ a 13 p ≤ f - 1 := by
  obtain ⟨g, rfl⟩ : ∃ g, f = g + 1 := ⟨f - 1, by omega⟩
  have e : nvF a v (g + 1) (p + 1) = if nI (a 12 p) = v then p + 1 else nvF a v g (a 13 p) := rfl
  rw [e, if_neg hc] at h
  exact ⟨h, by show _ ≤ g + 1 - 1; omega⟩
theorem nv_0 {a : mA} {v : Int32} {f x : Nat} (h : x = nvF a v f 0) : x = 0 := by cases f <;> exact h
set_option maxRecDepth 100000 in
set_option maxHeartbeats 4000000 in
theorem c_lmb (l : Launch) (hlt : l.stackTraces = false) (G : jG) {P : Nat → Prop} {xo : Nat} {xa th va ca ma : Nat → Nat} {dat cap : Nat} {mod : Int32} {df : Nat → Option Nat} {vf dr : Nat → Int32} {mf : Nat → Nat → Int32} {s : mS} {a : mA} {h : jH} (Q : cQ G P xo xa th va ca ma dat cap mod df vf dr mf s a h) (J : IS s) (I : IA a) (t w : Nat) (ht : t < s 6) (hw : w < 2097152) : jM l G yX3_lastMadeBefore wsX3_lastMadeBefore 3 64 0 0 [.ref xo, .int (nI t), .int (nI w)] h (fun r h' => r = some (.int (nI (mBef a t w))) ∧ h' = h) (fun _ _ => False) := by
  have h6 := J.2.1
  have h2 := J.2.2.1
  have h4 := J.2.2.2.1
  have h10 := J.2.2.2.2.1
  have hs0 := J.1 0
  have hs1 := J.1 1
  have hl8 := Q.last ht
  refine jM_of (cc := cX3_lastMadeBefore) (maxL := 4) (ret := (some .int)) hlt (by decide +kernel) rfl (Nat.le_of_ble_eq_true rfl) ?_
  intro X C E hXl hXR hXn
  have hinX3 : ∀ w ∈ u_ws RX3 TX3 11, w ∈ wsX3_lastMadeBefore := by decide +kernel
  have hinX1 : ∀ w ∈ u_ws RX1 TX1 2, w ∈ wsX3_lastMadeBefore := by decide +kernel
  have hinX2 : ∀ w ∈ u_ws RX2 TX2 6, w ∈ wsX3_lastMadeBefore := by decide +kernel
  show jW X G 4 0 0 0 [(0, .ref xo), (1, .int (nI t)), (2, .int (nI w))] [] h
  refine j_aload_n C (i := 0) (x := xo) 0 rfl dX3_lastMadeBefore_0 (pc' := 1) rfl ?_
  refine j_get C (ref := "MapRevisions") (CN := RX3) (T := TX3) (N := 11) (ci := 4) (index := 25) (a := xo) (kf := 2) (fs := [.ref (xa 0), .ref (xa 1), .ref (xa 2), .ref (xa 3), .ref (xa 4), .ref (xa 5), .int (nI (s 2)), .int (nI (s 4)), .int (nI (s 10)), .int (nI (s 0)), .int (nI (s 1))]) (v := .ref (xa 2)) hinX3 rfl (by decide) (by decide +kernel) rfl Q.obj rfl dX3_lastMadeBefore_1 (pc' := 4) rfl ?_
  refine j_iload_n C (i := 1) (x := nI t) 1 rfl dX3_lastMadeBefore_4 (pc' := 5) rfl ?_
  have D_5 := Q.dta (t := t) (by omega)
  refine j_callV C (As := [.int (nI t)]) (rest := []) (c_get X.2.1 C.2.2.2.2.2.2.2.2 G Q.lst D_5.1 t (th t) (by omega) D_5.2.2.1 (by omega) D_5.2.1) (cwV 1 C.2.2.2.2.1 gX3_lastMadeBefore_Jx4a65c_get_915e3 rfl rfl rfl (by decide +kernel) (by rw [hXR]; decide)) Q.lst rfl rfl rfl (Nat.le_of_ble_eq_true rfl) dX3_lastMadeBefore_5 (pc' := 8) rfl (by rw [hXR]; exact Nat.le_of_ble_eq_true rfl) (by rw [hXR]; exact Nat.le_of_ble_eq_true rfl) (fun _ _ z => z.elim) ?_
  rintro r h' ⟨rfl, hh⟩
  have hh := hh.symm
  subst hh
  show jW X G 4 0 0 8 [(0, .ref xo), (1, .int (nI t)), (2, .int (nI w))] [.ref (th t)] h
  refine j_cast C (CN := RX1) (T := TX1) (N := 2) (ci := 2) (index := 111) (a := th t) (fs := [.int (nI (a 7 t)), .ref (va (a 8 t))]) (Q.thing (t := t) (by omega)) rfl (by decide +kernel) dX3_lastMadeBefore_8 (pc' := 11) rfl ?_
  refine j_get C (ref := "MapRevisions$Thing") (CN := RX1) (T := TX1) (N := 2) (ci := 2) (index := 138) (a := th t) (kf := 1) (fs := [.int (nI (a 7 t)), .ref (va (a 8 t))]) (v := .ref (va (a 8 t))) hinX1 rfl (by decide) (by decide +kernel) rfl (Q.thing (t := t) (by omega)) rfl dX3_lastMadeBefore_11 (pc' := 14) rfl ?_
  have B_1 := Q.last (t := t) (by omega)
  refine j_astore_n C (i := 3) (x := va (a 8 t)) (l' := [(3, .ref (va (a 8 t))), (0, .ref xo), (1, .int (nI t)), (2, .int (nI w))]) dX3_lastMadeBefore_14 (pc' := 15) rfl (by decide) rfl ?_
  have L_15 : ∀ (N_15 : Nat) (f b : Nat), (b) < N_15 → (b ≤ f) → (f ≤ 1400) → (b ≤ s 10) → (mBef a t w = bkF a w f b) → jW X G 4 0 0 15 [(0, .ref xo), (1, .int (nI t)), (2, .int (nI w)), (3, cP va b)] [] h := by
    intro N_15
    induction N_15 with
    | zero => intro f b hm_15 hb hf hbs hR; omega
    | succ N_15 ih_15 =>
      intro f b hm_15 hb hf hbs hR
      rcases b with _ | p
      · refine jt_loc (l' := [(0, .ref xo), (1, .int (nI t)), (2, .int (nI w)), (3, .null)]) (by rw [cP_0]) ?_
        refine j_aload_nv C (i := 3) (v := .null) 3 rfl (Or.inl rfl) dX3_lastMadeBefore_15 (pc' := 16) rfl ?_
        refine j_ifnull_n C dX3_lastMadeBefore_16 (tgt := 35) (by decide) ?_
        refine j_aload_nv C (i := 3) (v := .null) 3 rfl (Or.inl rfl) dX3_lastMadeBefore_35 (pc' := 36) rfl ?_
        refine j_ifnonnull_n C dX3_lastMadeBefore_36 (pc' := 39) rfl ?_
        refine j_iconst C (v := nI 0) rfl dX3_lastMadeBefore_39 (pc' := 40) rfl ?_
        refine j_goto C dX3_lastMadeBefore_40 (pc' := 47) (by decide) ?_
        exact j_iret C E dX3_lastMadeBefore_47 rfl (Nat.le_of_ble_eq_true rfl) (Nat.le_of_ble_eq_true rfl) ⟨by rw [show mBef a t w = 0 from bk_0 hR], rfl⟩
      · refine jt_loc (l' := [(0, .ref xo), (1, .int (nI t)), (2, .int (nI w)), (3, .ref (va p))]) (by rw [cP_s]) ?_
        have hp9 : p < s 10 := by omega
        refine j_aload_n C (i := 3) (x := va p) 3 rfl dX3_lastMadeBefore_15 (pc' := 16) rfl ?_
        refine j_ifnull_r C (x := va p) dX3_lastMadeBefore_16 (pc' := 19) rfl ?_
        refine j_aload_n C (i := 3) (x := va p) 3 rfl dX3_lastMadeBefore_19 (pc' := 20) rfl ?_
        refine j_get C (ref := "MapRevisions$Version") (CN := RX2) (T := TX2) (N := 6) (ci := 3) (index := 229) (a := va p) (kf := 3) (fs := [cP va (a 13 p), .int (nI (a 12 p)), .int (nI (a 14 p)), .int (nI (a 15 p)), .ref (ca p), .int (nI (a 17 p))]) (v := .int (nI (a 15 p))) hinX2 rfl (by decide) (by decide +kernel) rfl (Q.ver (v := p) (by omega)) rfl dX3_lastMadeBefore_20 (pc' := 23) rfl ?_
        have B_2 := IA.big I 15 p
        refine j_iload_n C (i := 2) (x := nI w) 2 rfl dX3_lastMadeBefore_23 (pc' := 24) rfl ?_
        refine j_icmp_lt C dX3_lastMadeBefore_24 (tgt := 35) (by decide) (pc' := 27) rfl (fun c_3 => ?_) (fun c_3 => ?_)
        · have c_3 := (nI_ltI (a := a 15 p) (b := w) (by omega) (by omega)).mp c_3
          have c_3 : (a 15 p) < w := c_3
          refine j_aload_n C (i := 3) (x := va p) 3 rfl dX3_lastMadeBefore_35 (pc' := 36) rfl ?_
          refine j_ifnonnull_r C (x := va p) dX3_lastMadeBefore_36 (tgt := 43) (by decide) ?_
          refine j_aload_n C (i := 3) (x := va p) 3 rfl dX3_lastMadeBefore_43 (pc' := 44) rfl ?_
          refine j_get C (ref := "MapRevisions$Version") (CN := RX2) (T := TX2) (N := 6) (ci := 3) (index := 142) (a := va p) (kf := 1) (fs := [cP va (a 13 p), .int (nI (a 12 p)), .int (nI (a 14 p)), .int (nI (a 15 p)), .ref (ca p), .int (nI (a 17 p))]) (v := .int (nI (a 12 p))) hinX2 rfl (by decide) (by decide +kernel) rfl (Q.ver (v := p) (by omega)) rfl dX3_lastMadeBefore_44 (pc' := 47) rfl ?_
          have B_4 := IA.big I 12 p
          exact j_iret C E dX3_lastMadeBefore_47 rfl (Nat.le_of_ble_eq_true rfl) (Nat.le_of_ble_eq_true rfl) ⟨by rw [show mBef a t w = a 12 p from bk_lt hR hb (by omega)], rfl⟩
        · have c_3 := fun zq => c_3 ((nI_ltI (a := a 15 p) (b := w) (by omega) (by omega)).mpr zq)
          have c_3 : ¬ (a 15 p) < w := c_3
          refine j_aload_n C (i := 3) (x := va p) 3 rfl dX3_lastMadeBefore_27 (pc' := 28) rfl ?_
          refine j_get C (ref := "MapRevisions$Version") (CN := RX2) (T := TX2) (N := 6) (ci := 3) (index := 242) (a := va p) (kf := 0) (fs := [cP va (a 13 p), .int (nI (a 12 p)), .int (nI (a 14 p)), .int (nI (a 15 p)), .ref (ca p), .int (nI (a 17 p))]) (v := cP va (a 13 p)) hinX2 rfl (by decide) (by decide +kernel) rfl (Q.ver (v := p) (by omega)) rfl dX3_lastMadeBefore_28 (pc' := 31) rfl ?_
          have B_5 := Q.ahead (v := p) (by omega)
          refine j_astore_nv C (i := 3) (v := cP va (a 13 p)) (l' := [(3, cP va (a 13 p)), (0, .ref xo), (1, .int (nI t)), (2, .int (nI w))]) dX3_lastMadeBefore_31 (pc' := 32) rfl (by decide) (cP_or _ _) rfl ?_
          refine j_goto C dX3_lastMadeBefore_32 (pc' := 15) (by decide) ?_
          exact jW.locals [1, 2, 3, 0] rfl (ih_15 (f - 1) (a 13 p) (by omega) (bk_ge hR hb (by omega) (Q.ahead (v := p) (by omega))).2 (by omega) (by omega) (bk_ge hR hb (by omega) (Q.ahead (v := p) (by omega))).1)
  refine jt_loc (l' := [(3, cP va (a 8 t + 1)), (0, .ref xo), (1, .int (nI t)), (2, .int (nI w))]) (by rw [cP_s]) ?_
  exact jW.locals [1, 2, 3, 0] rfl (L_15 ((a 8 t + 1) + 1) 1400 (a 8 t + 1) (by omega) (by omega) (by omega) (by omega) rfl)
set_option maxRecDepth 100000 in
set_option maxHeartbeats 4000000 in
theorem c_hvo (l : Launch) (hlt : l.stackTraces = false) (G : jG) {P : Nat → Prop} {xo : Nat} {xa th va ca ma : Nat → Nat} {dat cap : Nat} {mod : Int32} {df : Nat → Option Nat} {vf dr : Nat → Int32} {mf : Nat → Nat → Int32} {s : mS} {a : mA} {h : jH} (Q : cQ G P xo xa th va ca ma dat cap mod df vf dr mf s a h) (J : IS s) (I : IA a) (t o : Nat) (ht : t < s 6) (ho : o < 1048576) : jM l G yX3_hasVersionOf wsX3_hasVersionOf 3 64 0 0 [.ref xo, .int (nI t), .int (nI o)] h (fun r h' => r = some (.int (bI (mChH a t o))) ∧ h' = h) (fun _ _ => False) := by
  have h6 := J.2.1
  have h2 := J.2.2.1
  have h4 := J.2.2.2.1
  have h10 := J.2.2.2.2.1
  have hs0 := J.1 0
  have hs1 := J.1 1
  have hl8 := Q.last ht
  refine jM_of (cc := cX3_hasVersionOf) (maxL := 4) (ret := (some .boolean)) hlt (by decide +kernel) rfl (Nat.le_of_ble_eq_true rfl) ?_
  intro X C E hXl hXR hXn
  have hinX3 : ∀ w ∈ u_ws RX3 TX3 11, w ∈ wsX3_hasVersionOf := by decide +kernel
  have hinX1 : ∀ w ∈ u_ws RX1 TX1 2, w ∈ wsX3_hasVersionOf := by decide +kernel
  have hinX2 : ∀ w ∈ u_ws RX2 TX2 6, w ∈ wsX3_hasVersionOf := by decide +kernel
  show jW X G 4 0 0 0 [(0, .ref xo), (1, .int (nI t)), (2, .int (nI o))] [] h
  refine j_aload_n C (i := 0) (x := xo) 0 rfl dX3_hasVersionOf_0 (pc' := 1) rfl ?_
  refine j_get C (ref := "MapRevisions") (CN := RX3) (T := TX3) (N := 11) (ci := 4) (index := 25) (a := xo) (kf := 2) (fs := [.ref (xa 0), .ref (xa 1), .ref (xa 2), .ref (xa 3), .ref (xa 4), .ref (xa 5), .int (nI (s 2)), .int (nI (s 4)), .int (nI (s 10)), .int (nI (s 0)), .int (nI (s 1))]) (v := .ref (xa 2)) hinX3 rfl (by decide) (by decide +kernel) rfl Q.obj rfl dX3_hasVersionOf_1 (pc' := 4) rfl ?_
  refine j_iload_n C (i := 1) (x := nI t) 1 rfl dX3_hasVersionOf_4 (pc' := 5) rfl ?_
  have D_5 := Q.dta (t := t) (by omega)
  refine j_callV C (As := [.int (nI t)]) (rest := []) (c_get X.2.1 C.2.2.2.2.2.2.2.2 G Q.lst D_5.1 t (th t) (by omega) D_5.2.2.1 (by omega) D_5.2.1) (cwV 1 C.2.2.2.2.1 gX3_hasVersionOf_Jx4a65c_get_915e3 rfl rfl rfl (by decide +kernel) (by rw [hXR]; decide)) Q.lst rfl rfl rfl (Nat.le_of_ble_eq_true rfl) dX3_hasVersionOf_5 (pc' := 8) rfl (by rw [hXR]; exact Nat.le_of_ble_eq_true rfl) (by rw [hXR]; exact Nat.le_of_ble_eq_true rfl) (fun _ _ z => z.elim) ?_
  rintro r h' ⟨rfl, hh⟩
  have hh := hh.symm
  subst hh
  show jW X G 4 0 0 8 [(0, .ref xo), (1, .int (nI t)), (2, .int (nI o))] [.ref (th t)] h
  refine j_cast C (CN := RX1) (T := TX1) (N := 2) (ci := 2) (index := 111) (a := th t) (fs := [.int (nI (a 7 t)), .ref (va (a 8 t))]) (Q.thing (t := t) (by omega)) rfl (by decide +kernel) dX3_hasVersionOf_8 (pc' := 11) rfl ?_
  refine j_get C (ref := "MapRevisions$Thing") (CN := RX1) (T := TX1) (N := 2) (ci := 2) (index := 138) (a := th t) (kf := 1) (fs := [.int (nI (a 7 t)), .ref (va (a 8 t))]) (v := .ref (va (a 8 t))) hinX1 rfl (by decide) (by decide +kernel) rfl (Q.thing (t := t) (by omega)) rfl dX3_hasVersionOf_11 (pc' := 14) rfl ?_
  have B_1 := Q.last (t := t) (by omega)
  refine j_astore_n C (i := 3) (x := va (a 8 t)) (l' := [(3, .ref (va (a 8 t))), (0, .ref xo), (1, .int (nI t)), (2, .int (nI o))]) dX3_hasVersionOf_14 (pc' := 15) rfl (by decide) rfl ?_
  have L_15 : ∀ (N_15 : Nat) (f b : Nat), (b) < N_15 → (b ≤ f) → (f ≤ 1400) → (b ≤ s 10) → (mChH a t o = chF a o f b) → jW X G 4 0 0 15 [(0, .ref xo), (1, .int (nI t)), (2, .int (nI o)), (3, cP va b)] [] h := by
    intro N_15
    induction N_15 with
    | zero => intro f b hm_15 hb hf hbs hR; omega
    | succ N_15 ih_15 =>
      intro f b hm_15 hb hf hbs hR
      rcases b with _ | p
      · refine jt_loc (l' := [(0, .ref xo), (1, .int (nI t)), (2, .int (nI o)), (3, .null)]) (by rw [cP_0]) ?_
        refine j_aload_nv C (i := 3) (v := .null) 3 rfl (Or.inl rfl) dX3_hasVersionOf_15 (pc' := 16) rfl ?_
        refine j_ifnull_n C dX3_hasVersionOf_16 (tgt := 35) (by decide) ?_
        refine j_aload_nv C (i := 3) (v := .null) 3 rfl (Or.inl rfl) dX3_hasVersionOf_35 (pc' := 36) rfl ?_
        refine j_ifnull_n C dX3_hasVersionOf_36 (tgt := 43) (by decide) ?_
        refine j_iconst C (v := nI 0) rfl dX3_hasVersionOf_43 (pc' := 44) rfl ?_
        exact j_iret C E dX3_hasVersionOf_44 rfl (Nat.le_of_ble_eq_true rfl) (Nat.le_of_ble_eq_true rfl) ⟨bI0 (ch_0 hR), rfl⟩
      · refine jt_loc (l' := [(0, .ref xo), (1, .int (nI t)), (2, .int (nI o)), (3, .ref (va p))]) (by rw [cP_s]) ?_
        have hp9 : p < s 10 := by omega
        refine j_aload_n C (i := 3) (x := va p) 3 rfl dX3_hasVersionOf_15 (pc' := 16) rfl ?_
        refine j_ifnull_r C (x := va p) dX3_hasVersionOf_16 (pc' := 19) rfl ?_
        refine j_aload_n C (i := 3) (x := va p) 3 rfl dX3_hasVersionOf_19 (pc' := 20) rfl ?_
        refine j_get C (ref := "MapRevisions$Version") (CN := RX2) (T := TX2) (N := 6) (ci := 3) (index := 198) (a := va p) (kf := 2) (fs := [cP va (a 13 p), .int (nI (a 12 p)), .int (nI (a 14 p)), .int (nI (a 15 p)), .ref (ca p), .int (nI (a 17 p))]) (v := .int (nI (a 14 p))) hinX2 rfl (by decide) (by decide +kernel) rfl (Q.ver (v := p) (by omega)) rfl dX3_hasVersionOf_20 (pc' := 23) rfl ?_
        have B_2 := IA.big I 14 p
        refine j_iload_n C (i := 2) (x := nI o) 2 rfl dX3_hasVersionOf_23 (pc' := 24) rfl ?_
        refine j_icmp_eq C dX3_hasVersionOf_24 (tgt := 35) (by decide) (pc' := 27) rfl (fun c_3 => ?_) (fun c_3 => ?_)
        · have c_3 := (nI_eq (a := a 14 p) (b := o) (by omega) (by omega)).mp c_3
          have c_3 : (a 14 p) = o := c_3
          refine j_aload_n C (i := 3) (x := va p) 3 rfl dX3_hasVersionOf_35 (pc' := 36) rfl ?_
          refine j_ifnull_r C (x := va p) dX3_hasVersionOf_36 (pc' := 39) rfl ?_
          refine j_iconst C (v := nI 1) rfl dX3_hasVersionOf_39 (pc' := 40) rfl ?_
          refine j_goto C dX3_hasVersionOf_40 (pc' := 44) (by decide) ?_
          exact j_iret C E dX3_hasVersionOf_44 rfl (Nat.le_of_ble_eq_true rfl) (Nat.le_of_ble_eq_true rfl) ⟨bI1 (ch_eq hR hb (by omega)), rfl⟩
        · have c_3 := fun zq => c_3 ((nI_eq (a := a 14 p) (b := o) (by omega) (by omega)).mpr zq)
          have c_3 : ¬ (a 14 p) = o := c_3
          refine j_aload_n C (i := 3) (x := va p) 3 rfl dX3_hasVersionOf_27 (pc' := 28) rfl ?_
          refine j_get C (ref := "MapRevisions$Version") (CN := RX2) (T := TX2) (N := 6) (ci := 3) (index := 242) (a := va p) (kf := 0) (fs := [cP va (a 13 p), .int (nI (a 12 p)), .int (nI (a 14 p)), .int (nI (a 15 p)), .ref (ca p), .int (nI (a 17 p))]) (v := cP va (a 13 p)) hinX2 rfl (by decide) (by decide +kernel) rfl (Q.ver (v := p) (by omega)) rfl dX3_hasVersionOf_28 (pc' := 31) rfl ?_
          have B_4 := Q.ahead (v := p) (by omega)
          refine j_astore_nv C (i := 3) (v := cP va (a 13 p)) (l' := [(3, cP va (a 13 p)), (0, .ref xo), (1, .int (nI t)), (2, .int (nI o))]) dX3_hasVersionOf_31 (pc' := 32) rfl (by decide) (cP_or _ _) rfl ?_
          refine j_goto C dX3_hasVersionOf_32 (pc' := 15) (by decide) ?_
          exact jW.locals [1, 2, 3, 0] rfl (ih_15 (f - 1) (a 13 p) (by omega) (ch_ne hR hb (by omega) (Q.ahead (v := p) (by omega))).2 (by omega) (by omega) (ch_ne hR hb (by omega) (Q.ahead (v := p) (by omega))).1)
  refine jt_loc (l' := [(3, cP va (a 8 t + 1)), (0, .ref xo), (1, .int (nI t)), (2, .int (nI o))]) (by rw [cP_s]) ?_
  exact jW.locals [1, 2, 3, 0] rfl (L_15 ((a 8 t + 1) + 1) 1400 (a 8 t + 1) (by omega) (by omega) (by omega) (by omega) rfl)
set_option maxRecDepth 100000 in
set_option maxHeartbeats 4000000 in
theorem c_shown (l : Launch) (hlt : l.stackTraces = false) (G : jG) {P : Nat → Prop} {xo : Nat} {xa th va ca ma : Nat → Nat} {dat cap : Nat} {mod : Int32} {df : Nat → Option Nat} {vf dr : Nat → Int32} {mf : Nat → Nat → Int32} {s : mS} {a : mA} {h : jH} (Q : cQ G P xo xa th va ca ma dat cap mod df vf dr mf s a h) (J : IS s) (I : IA a) (t : Nat) (ht : t < s 6) : jM l G yX3_countShown wsX3_countShown 3 64 0 0 [.ref xo, .int (nI t)] h (fun r h' => r = some (.int (nI (shF a 1400 (a 8 t + 1)))) ∧ h' = h) (fun _ _ => False) := by
  have h6 := J.2.1
  have h2 := J.2.2.1
  have h4 := J.2.2.2.1
  have h10 := J.2.2.2.2.1
  have hs0 := J.1 0
  have hs1 := J.1 1
  have hl8 := Q.last ht
  refine jM_of (cc := cX3_countShown) (maxL := 4) (ret := (some .int)) hlt (by decide +kernel) rfl (Nat.le_of_ble_eq_true rfl) ?_
  intro X C E hXl hXR hXn
  have hinX3 : ∀ w ∈ u_ws RX3 TX3 11, w ∈ wsX3_countShown := by decide +kernel
  have hinX1 : ∀ w ∈ u_ws RX1 TX1 2, w ∈ wsX3_countShown := by decide +kernel
  have hinX2 : ∀ w ∈ u_ws RX2 TX2 6, w ∈ wsX3_countShown := by decide +kernel
  show jW X G 4 0 0 0 [(0, .ref xo), (1, .int (nI t))] [] h
  refine j_iconst C (v := nI 0) rfl dX3_countShown_0 (pc' := 1) rfl ?_
  refine j_istore_n C (i := 2) (x := nI 0) (l' := [(2, .int (nI 0)), (0, .ref xo), (1, .int (nI t))]) dX3_countShown_1 (pc' := 2) rfl (by decide) rfl ?_
  refine j_aload_n C (i := 0) (x := xo) 1 rfl dX3_countShown_2 (pc' := 3) rfl ?_
  refine j_get C (ref := "MapRevisions") (CN := RX3) (T := TX3) (N := 11) (ci := 4) (index := 25) (a := xo) (kf := 2) (fs := [.ref (xa 0), .ref (xa 1), .ref (xa 2), .ref (xa 3), .ref (xa 4), .ref (xa 5), .int (nI (s 2)), .int (nI (s 4)), .int (nI (s 10)), .int (nI (s 0)), .int (nI (s 1))]) (v := .ref (xa 2)) hinX3 rfl (by decide) (by decide +kernel) rfl Q.obj rfl dX3_countShown_3 (pc' := 6) rfl ?_
  refine j_iload_n C (i := 1) (x := nI t) 2 rfl dX3_countShown_6 (pc' := 7) rfl ?_
  have D_7 := Q.dta (t := t) (by omega)
  refine j_callV C (As := [.int (nI t)]) (rest := []) (c_get X.2.1 C.2.2.2.2.2.2.2.2 G Q.lst D_7.1 t (th t) (by omega) D_7.2.2.1 (by omega) D_7.2.1) (cwV 1 C.2.2.2.2.1 gX3_countShown_Jx4a65c_get_915e3 rfl rfl rfl (by decide +kernel) (by rw [hXR]; decide)) Q.lst rfl rfl rfl (Nat.le_of_ble_eq_true rfl) dX3_countShown_7 (pc' := 10) rfl (by rw [hXR]; exact Nat.le_of_ble_eq_true rfl) (by rw [hXR]; exact Nat.le_of_ble_eq_true rfl) (fun _ _ z => z.elim) ?_
  rintro r h' ⟨rfl, hh⟩
  have hh := hh.symm
  subst hh
  show jW X G 4 0 0 10 [(2, .int (nI 0)), (0, .ref xo), (1, .int (nI t))] [.ref (th t)] h
  refine j_cast C (CN := RX1) (T := TX1) (N := 2) (ci := 2) (index := 111) (a := th t) (fs := [.int (nI (a 7 t)), .ref (va (a 8 t))]) (Q.thing (t := t) (by omega)) rfl (by decide +kernel) dX3_countShown_10 (pc' := 13) rfl ?_
  refine j_get C (ref := "MapRevisions$Thing") (CN := RX1) (T := TX1) (N := 2) (ci := 2) (index := 138) (a := th t) (kf := 1) (fs := [.int (nI (a 7 t)), .ref (va (a 8 t))]) (v := .ref (va (a 8 t))) hinX1 rfl (by decide) (by decide +kernel) rfl (Q.thing (t := t) (by omega)) rfl dX3_countShown_13 (pc' := 16) rfl ?_
  have B_1 := Q.last (t := t) (by omega)
  refine j_astore_n C (i := 3) (x := va (a 8 t)) (l' := [(3, .ref (va (a 8 t))), (2, .int (nI 0)), (0, .ref xo), (1, .int (nI t))]) dX3_countShown_16 (pc' := 17) rfl (by decide) rfl ?_
  have L_17 : ∀ (N_17 : Nat) (f b n : Nat), (b) < N_17 → (b ≤ f) → (f ≤ 1400) → (b ≤ s 10) → (n + shF a f b = shF a 1400 (a 8 t + 1)) → jW X G 4 0 0 17 [(0, .ref xo), (1, .int (nI t)), (2, .int (nI n)), (3, cP va b)] [] h := by
    intro N_17
    induction N_17 with
    | zero => intro f b n hm_17 hb hf hbs hR; omega
    | succ N_17 ih_17 =>
      intro f b n hm_17 hb hf hbs hR
      rcases b with _ | p
      · refine jt_loc (l' := [(0, .ref xo), (1, .int (nI t)), (2, .int (nI n)), (3, .null)]) (by rw [cP_0]) ?_
        refine j_aload_nv C (i := 3) (v := .null) 3 rfl (Or.inl rfl) dX3_countShown_17 (pc' := 18) rfl ?_
        refine j_ifnull_n C dX3_countShown_18 (tgt := 39) (by decide) ?_
        refine j_iload_n C (i := 2) (x := nI n) 2 rfl dX3_countShown_39 (pc' := 40) rfl ?_
        exact j_iret C E dX3_countShown_40 rfl (Nat.le_of_ble_eq_true rfl) (Nat.le_of_ble_eq_true rfl) ⟨by rw [sh_0 hR], rfl⟩
      · refine jt_loc (l' := [(0, .ref xo), (1, .int (nI t)), (2, .int (nI n)), (3, .ref (va p))]) (by rw [cP_s]) ?_
        have hp9 : p < s 10 := by omega
        refine j_aload_n C (i := 3) (x := va p) 3 rfl dX3_countShown_17 (pc' := 18) rfl ?_
        refine j_ifnull_r C (x := va p) dX3_countShown_18 (pc' := 21) rfl ?_
        refine j_aload_n C (i := 3) (x := va p) 3 rfl dX3_countShown_21 (pc' := 22) rfl ?_
        refine j_get C (ref := "MapRevisions$Version") (CN := RX2) (T := TX2) (N := 6) (ci := 3) (index := 187) (a := va p) (kf := 5) (fs := [cP va (a 13 p), .int (nI (a 12 p)), .int (nI (a 14 p)), .int (nI (a 15 p)), .ref (ca p), .int (nI (a 17 p))]) (v := .int (nI (a 17 p))) hinX2 rfl (by decide) (by decide +kernel) rfl (Q.ver (v := p) (by omega)) rfl dX3_countShown_22 (pc' := 25) rfl ?_
        have B_2 := IA.hidden I p
        refine j_if_ne C dX3_countShown_25 (tgt := 31) (by decide) (pc' := 28) rfl (fun c_3 => ?_) (fun c_3 => ?_)
        · have c_3 := fun zq => c_3 ((nI_eq (a := a 17 p) (b := 0) (by omega) (by omega)).mpr zq)
          have c_3 : ¬ (a 17 p) = 0 := c_3
          refine j_aload_n C (i := 3) (x := va p) 3 rfl dX3_countShown_31 (pc' := 32) rfl ?_
          refine j_get C (ref := "MapRevisions$Version") (CN := RX2) (T := TX2) (N := 6) (ci := 3) (index := 242) (a := va p) (kf := 0) (fs := [cP va (a 13 p), .int (nI (a 12 p)), .int (nI (a 14 p)), .int (nI (a 15 p)), .ref (ca p), .int (nI (a 17 p))]) (v := cP va (a 13 p)) hinX2 rfl (by decide) (by decide +kernel) rfl (Q.ver (v := p) (by omega)) rfl dX3_countShown_32 (pc' := 35) rfl ?_
          have B_4 := Q.ahead (v := p) (by omega)
          refine j_astore_nv C (i := 3) (v := cP va (a 13 p)) (l' := [(3, cP va (a 13 p)), (0, .ref xo), (1, .int (nI t)), (2, .int (nI n))]) dX3_countShown_35 (pc' := 36) rfl (by decide) (cP_or _ _) rfl ?_
          refine j_goto C dX3_countShown_36 (pc' := 17) (by decide) ?_
          exact jW.locals [1, 2, 3, 0] rfl (ih_17 (f - 1) (a 13 p) n (by omega) (sh_s (x := 0) hR hb (by rw [if_neg (show ¬ a 17 p = 0 by omega)]) (Q.ahead (v := p) (by omega))).2 (by omega) (by omega) (sh_s (x := 0) hR hb (by rw [if_neg (show ¬ a 17 p = 0 by omega)]) (Q.ahead (v := p) (by omega))).1)
        · have c_3 := (nI_eq (a := a 17 p) (b := 0) (by omega) (by omega)).mp c_3
          have c_3 : (a 17 p) = 0 := c_3
          refine j_iinc C (i := 2) (q := 2) (x := nI n) (v := nI (n + 1)) (l' := [(2, .int (nI (n + 1))), (0, .ref xo), (1, .int (nI t)), (3, .ref (va p))]) dX3_countShown_28 (pc' := 31) rfl rfl (nI_add _ _) (by decide) rfl ?_
          refine j_aload_n C (i := 3) (x := va p) 3 rfl dX3_countShown_31 (pc' := 32) rfl ?_
          refine j_get C (ref := "MapRevisions$Version") (CN := RX2) (T := TX2) (N := 6) (ci := 3) (index := 242) (a := va p) (kf := 0) (fs := [cP va (a 13 p), .int (nI (a 12 p)), .int (nI (a 14 p)), .int (nI (a 15 p)), .ref (ca p), .int (nI (a 17 p))]) (v := cP va (a 13 p)) hinX2 rfl (by decide) (by decide +kernel) rfl (Q.ver (v := p) (by omega)) rfl dX3_countShown_32 (pc' := 35) rfl ?_
          have B_5 := Q.ahead (v := p) (by omega)
          refine j_astore_nv C (i := 3) (v := cP va (a 13 p)) (l' := [(3, cP va (a 13 p)), (2, .int (nI (n + 1))), (0, .ref xo), (1, .int (nI t))]) dX3_countShown_35 (pc' := 36) rfl (by decide) (cP_or _ _) rfl ?_
          refine j_goto C dX3_countShown_36 (pc' := 17) (by decide) ?_
          exact jW.locals [2, 3, 1, 0] rfl (ih_17 (f - 1) (a 13 p) (n + 1) (by omega) (sh_s (x := 1) hR hb (by rw [if_pos (show a 17 p = 0 by omega)]) (Q.ahead (v := p) (by omega))).2 (by omega) (by omega) (sh_s (x := 1) hR hb (by rw [if_pos (show a 17 p = 0 by omega)]) (Q.ahead (v := p) (by omega))).1)
  refine jt_loc (l' := [(3, cP va (a 8 t + 1)), (2, .int (nI 0)), (0, .ref xo), (1, .int (nI t))]) (by rw [cP_s]) ?_
  exact jW.locals [2, 3, 1, 0] rfl (L_17 ((a 8 t + 1) + 1) 1400 (a 8 t + 1) 0 (by omega) (by omega) (by omega) (by omega) (by rw [Nat.zero_add]))
set_option maxRecDepth 100000 in
set_option maxHeartbeats 4000000 in
theorem c_needV (l : Launch) (hlt : l.stackTraces = false) (G : jG) {P : Nat → Prop} {xo : Nat} {xa th va ca ma : Nat → Nat} {dat cap : Nat} {mod : Int32} {df : Nat → Option Nat} {vf dr : Nat → Int32} {mf : Nat → Nat → Int32} {s : mS} {a : mA} {h : jH} (Q : cQ G P xo xa th va ca ma dat cap mod df vf dr mf s a h) (J : IS s) (I : IA a) (t : Nat) (v : Int32) (ht : t < s 6) : jM l G yX3_needVersion wsX3_needVersion 6 90 1 6 [.ref xo, .int (nI t), .int v] h (fun r h' => (∃ p, r = some (.ref (va p)) ∧ mNv a t v = p + 1 ∧ p < s 10) ∧ h' = h) (fun E h' => E = "java/lang/IndexOutOfBoundsException" ∧ h' = h ∧ mNv a t v = 0) := by
  have h6 := J.2.1
  have h2 := J.2.2.1
  have h4 := J.2.2.2.1
  have h10 := J.2.2.2.2.1
  have hs0 := J.1 0
  have hs1 := J.1 1
  have hl8 := Q.last ht
  refine jM_of (cc := cX3_needVersion) (maxL := 4) (ret := (some (.object "MapRevisions$Version"))) hlt (by decide +kernel) rfl (Nat.le_of_ble_eq_true rfl) ?_
  intro X C E hXl hXR hXn
  have hinX3 : ∀ w ∈ u_ws RX3 TX3 11, w ∈ wsX3_needVersion := by decide +kernel
  have hinX1 : ∀ w ∈ u_ws RX1 TX1 2, w ∈ wsX3_needVersion := by decide +kernel
  have hinX2 : ∀ w ∈ u_ws RX2 TX2 6, w ∈ wsX3_needVersion := by decide +kernel
  show jW X G 4 0 0 0 [(0, .ref xo), (1, .int (nI t)), (2, .int v)] [] h
  refine j_aload_n C (i := 0) (x := xo) 0 rfl dX3_needVersion_0 (pc' := 1) rfl ?_
  refine j_get C (ref := "MapRevisions") (CN := RX3) (T := TX3) (N := 11) (ci := 4) (index := 25) (a := xo) (kf := 2) (fs := [.ref (xa 0), .ref (xa 1), .ref (xa 2), .ref (xa 3), .ref (xa 4), .ref (xa 5), .int (nI (s 2)), .int (nI (s 4)), .int (nI (s 10)), .int (nI (s 0)), .int (nI (s 1))]) (v := .ref (xa 2)) hinX3 rfl (by decide) (by decide +kernel) rfl Q.obj rfl dX3_needVersion_1 (pc' := 4) rfl ?_
  refine j_iload_n C (i := 1) (x := nI t) 1 rfl dX3_needVersion_4 (pc' := 5) rfl ?_
  have D_5 := Q.dta (t := t) (by omega)
  refine j_callV C (As := [.int (nI t)]) (rest := []) (c_get X.2.1 C.2.2.2.2.2.2.2.2 G Q.lst D_5.1 t (th t) (by omega) D_5.2.2.1 (by omega) D_5.2.1) (cwV 1 C.2.2.2.2.1 gX3_needVersion_Jx4a65c_get_915e3 rfl rfl rfl (by decide +kernel) (by rw [hXR]; decide)) Q.lst rfl rfl rfl (Nat.le_of_ble_eq_true rfl) dX3_needVersion_5 (pc' := 8) rfl (by rw [hXR]; exact Nat.le_of_ble_eq_true rfl) (by rw [hXR]; exact Nat.le_of_ble_eq_true rfl) (fun _ _ z => z.elim) ?_
  rintro r h' ⟨rfl, hh⟩
  have hh := hh.symm
  subst hh
  show jW X G 4 0 0 8 [(0, .ref xo), (1, .int (nI t)), (2, .int v)] [.ref (th t)] h
  refine j_cast C (CN := RX1) (T := TX1) (N := 2) (ci := 2) (index := 111) (a := th t) (fs := [.int (nI (a 7 t)), .ref (va (a 8 t))]) (Q.thing (t := t) (by omega)) rfl (by decide +kernel) dX3_needVersion_8 (pc' := 11) rfl ?_
  refine j_get C (ref := "MapRevisions$Thing") (CN := RX1) (T := TX1) (N := 2) (ci := 2) (index := 138) (a := th t) (kf := 1) (fs := [.int (nI (a 7 t)), .ref (va (a 8 t))]) (v := .ref (va (a 8 t))) hinX1 rfl (by decide) (by decide +kernel) rfl (Q.thing (t := t) (by omega)) rfl dX3_needVersion_11 (pc' := 14) rfl ?_
  have B_1 := Q.last (t := t) (by omega)
  refine j_astore_n C (i := 3) (x := va (a 8 t)) (l' := [(3, .ref (va (a 8 t))), (0, .ref xo), (1, .int (nI t)), (2, .int v)]) dX3_needVersion_14 (pc' := 15) rfl (by decide) rfl ?_
  have L_15 : ∀ (N_15 : Nat) (f b : Nat), (b) < N_15 → (b ≤ f) → (f ≤ 1400) → (b ≤ s 10) → (mNv a t v = nvF a v f b) → jW X G 4 0 0 15 [(0, .ref xo), (1, .int (nI t)), (2, .int v), (3, cP va b)] [] h := by
    intro N_15
    induction N_15 with
    | zero => intro f b hm_15 hb hf hbs hR; omega
    | succ N_15 ih_15 =>
      intro f b hm_15 hb hf hbs hR
      rcases b with _ | p
      · refine jt_loc (l' := [(0, .ref xo), (1, .int (nI t)), (2, .int v), (3, .null)]) (by rw [cP_0]) ?_
        refine j_aload_nv C (i := 3) (v := .null) 3 rfl (Or.inl rfl) dX3_needVersion_15 (pc' := 16) rfl ?_
        refine j_ifnull_n C dX3_needVersion_16 (tgt := 35) (by decide) ?_
        refine j_aload_nv C (i := 3) (v := .null) 3 rfl (Or.inl rfl) dX3_needVersion_35 (pc' := 36) rfl ?_
        refine j_ifnonnull_n C dX3_needVersion_36 (pc' := 39) rfl ?_
        exact j_throw C E (cls := "java/lang/IndexOutOfBoundsException") (text := "there is no such version") (ik := 232) (is := 245) (ic := 236) (by decide +kernel) (by decide +kernel) (by decide +kernel) (by decide +kernel) (by decide +kernel) jt_iob.1 jt_iob.2.1 jt_iob.2.2 dX3_needVersion_39 dX3_needVersion_42 dX3_needVersion_43 dX3_needVersion_45 dX3_needVersion_48 (by rw [hXR]; exact Nat.le_of_ble_eq_true rfl) (by rw [hXR]; exact Nat.le_of_ble_eq_true rfl) (Nat.le_of_ble_eq_true rfl) (Nat.le_of_ble_eq_true rfl) (⟨rfl, rfl, nv_0 hR⟩)
      · refine jt_loc (l' := [(0, .ref xo), (1, .int (nI t)), (2, .int v), (3, .ref (va p))]) (by rw [cP_s]) ?_
        have hp9 : p < s 10 := by omega
        refine j_aload_n C (i := 3) (x := va p) 3 rfl dX3_needVersion_15 (pc' := 16) rfl ?_
        refine j_ifnull_r C (x := va p) dX3_needVersion_16 (pc' := 19) rfl ?_
        refine j_aload_n C (i := 3) (x := va p) 3 rfl dX3_needVersion_19 (pc' := 20) rfl ?_
        refine j_get C (ref := "MapRevisions$Version") (CN := RX2) (T := TX2) (N := 6) (ci := 3) (index := 142) (a := va p) (kf := 1) (fs := [cP va (a 13 p), .int (nI (a 12 p)), .int (nI (a 14 p)), .int (nI (a 15 p)), .ref (ca p), .int (nI (a 17 p))]) (v := .int (nI (a 12 p))) hinX2 rfl (by decide) (by decide +kernel) rfl (Q.ver (v := p) (by omega)) rfl dX3_needVersion_20 (pc' := 23) rfl ?_
        have B_2 := IA.big I 12 p
        refine j_iload_n C (i := 2) (x := v) 2 rfl dX3_needVersion_23 (pc' := 24) rfl ?_
        refine j_icmp_eq C dX3_needVersion_24 (tgt := 35) (by decide) (pc' := 27) rfl (fun c_3 => ?_) (fun c_3 => ?_)
        · refine j_aload_n C (i := 3) (x := va p) 3 rfl dX3_needVersion_35 (pc' := 36) rfl ?_
          refine j_ifnonnull_r C (x := va p) dX3_needVersion_36 (tgt := 49) (by decide) ?_
          refine j_aload_n C (i := 3) (x := va p) 3 rfl dX3_needVersion_49 (pc' := 50) rfl ?_
          exact j_aret C E (Or.inl ⟨_, rfl⟩) (Or.inr ⟨_, rfl⟩) dX3_needVersion_50 (Nat.le_of_ble_eq_true rfl) (Nat.le_of_ble_eq_true rfl) ⟨⟨p, rfl, nv_eq hR hb c_3, hp9⟩, rfl⟩
        · have c24 := c_3
          refine j_aload_n C (i := 3) (x := va p) 3 rfl dX3_needVersion_27 (pc' := 28) rfl ?_
          refine j_get C (ref := "MapRevisions$Version") (CN := RX2) (T := TX2) (N := 6) (ci := 3) (index := 242) (a := va p) (kf := 0) (fs := [cP va (a 13 p), .int (nI (a 12 p)), .int (nI (a 14 p)), .int (nI (a 15 p)), .ref (ca p), .int (nI (a 17 p))]) (v := cP va (a 13 p)) hinX2 rfl (by decide) (by decide +kernel) rfl (Q.ver (v := p) (by omega)) rfl dX3_needVersion_28 (pc' := 31) rfl ?_
          have B_4 := Q.ahead (v := p) (by omega)
          refine j_astore_nv C (i := 3) (v := cP va (a 13 p)) (l' := [(3, cP va (a 13 p)), (0, .ref xo), (1, .int (nI t)), (2, .int v)]) dX3_needVersion_31 (pc' := 32) rfl (by decide) (cP_or _ _) rfl ?_
          refine j_goto C dX3_needVersion_32 (pc' := 15) (by decide) ?_
          exact jW.locals [1, 2, 3, 0] rfl (ih_15 (f - 1) (a 13 p) (by omega) (nv_ne hR hb c24 (Q.ahead (v := p) (by omega))).2 (by omega) (by omega) (nv_ne hR hb c24 (Q.ahead (v := p) (by omega))).1)
  refine jt_loc (l' := [(3, cP va (a 8 t + 1)), (0, .ref xo), (1, .int (nI t)), (2, .int v)]) (by rw [cP_s]) ?_
  exact jW.locals [1, 2, 3, 0] rfl (L_15 ((a 8 t + 1) + 1) 1400 (a 8 t + 1) (by omega) (by omega) (by omega) (by omega) rfl)
set_option maxRecDepth 100000 in
set_option maxHeartbeats 4000000 in
theorem c_latest (l : Launch) (hlt : l.stackTraces = false) (G : jG) {P : Nat → Prop} {xo : Nat} {xa th va ca ma : Nat → Nat} {dat cap : Nat} {mod : Int32} {df : Nat → Option Nat} {vf dr : Nat → Int32} {mf : Nat → Nat → Int32} {s : mS} {a : mA} {h : jH} (Q : cQ G P xo xa th va ca ma dat cap mod df vf dr mf s a h) (J : IS s) (I : IA a) (p : Int32) (K : mCh s a) : jM l G yX3_latest wsX3_latest 7 111 1 6 [.ref xo, .int p] h (fun r h' => r = some (.int (oLatest s a p).1) ∧ h' = h ∧ (oLatest s a p).2.1 25 = 0) (fun E h' => (E = "java/lang/IndexOutOfBoundsException" ∧ h' = h ∧ (oLatest s a p).2.1 25 = 1)) := by
  have h6 := J.2.1
  have h2 := J.2.2.1
  have h4 := J.2.2.2.1
  have h10 := J.2.2.2.2.1
  have hs0 := J.1 0
  have hs1 := J.1 1
  refine jM_of (cc := cX3_latest) (maxL := 2) (ret := (some .int)) hlt (by decide +kernel) rfl (Nat.le_of_ble_eq_true rfl) ?_
  intro X C E hXl hXR hXn
  have hinX3 : ∀ w ∈ u_ws RX3 TX3 11, w ∈ wsX3_latest := by decide +kernel
  have hinX1 : ∀ w ∈ u_ws RX1 TX1 2, w ∈ wsX3_latest := by decide +kernel
  have hinX2 : ∀ w ∈ u_ws RX2 TX2 6, w ∈ wsX3_latest := by decide +kernel
  show jW X G 2 0 0 0 [(0, .ref xo), (1, .int p)] [] h
  refine j_aload_n C (i := 0) (x := xo) 0 rfl dX3_latest_0 (pc' := 1) rfl ?_
  refine j_iload_n C (i := 1) (x := p) 1 rfl dX3_latest_1 (pc' := 2) rfl ?_
  refine j_callV C (As := [.int p]) (rest := []) (c_needThing X.2.1 C.2.2.2.2.2.2.2.2 G Q J I p) (cwV 1 C.2.2.2.2.1 gX3_latest_X3_needThing rfl rfl rfl (by decide +kernel) (by rw [hXR]; decide)) Q.obj rfl rfl rfl (Nat.le_of_ble_eq_true rfl) dX3_latest_2 (pc' := 5) rfl (by rw [hXR]; exact Nat.le_of_ble_eq_true rfl) (by rw [hXR]; exact Nat.le_of_ble_eq_true rfl) (by rintro E' h' ⟨rfl, hx, ex_1⟩; exact j_out C E (Nat.le_of_ble_eq_true rfl) (Nat.le_of_ble_eq_true rfl) ⟨rfl, hx, by unfold oLatest; rw [if_neg (bff ex_1)] <;> rfl⟩) ?_
  rintro r h' ⟨rfl, hh, nd_2⟩
  have hh := hh.symm
  subst hh
  show jW X G 2 1 6 5 [(0, .ref xo), (1, .int p)] [] h
  obtain ⟨j, hj, rfl⟩ := inN_of nd_2
  refine j_aload_n C (i := 0) (x := xo) 0 rfl dX3_latest_5 (pc' := 6) rfl ?_
  refine j_get C (ref := "MapRevisions") (CN := RX3) (T := TX3) (N := 11) (ci := 4) (index := 25) (a := xo) (kf := 2) (fs := [.ref (xa 0), .ref (xa 1), .ref (xa 2), .ref (xa 3), .ref (xa 4), .ref (xa 5), .int (nI (s 2)), .int (nI (s 4)), .int (nI (s 10)), .int (nI (s 0)), .int (nI (s 1))]) (v := .ref (xa 2)) hinX3 rfl (by decide) (by decide +kernel) rfl Q.obj rfl dX3_latest_6 (pc' := 9) rfl ?_
  refine j_iload_n C (i := 1) (x := nI j) 1 rfl dX3_latest_9 (pc' := 10) rfl ?_
  have D_10 := Q.dta (t := j) (by omega)
  refine j_callV C (As := [.int (nI j)]) (rest := []) (c_get X.2.1 C.2.2.2.2.2.2.2.2 G Q.lst D_10.1 j (th j) (by omega) D_10.2.2.1 (by omega) D_10.2.1) (cwV 1 C.2.2.2.2.1 gX3_latest_Jx4a65c_get_915e3 rfl rfl rfl (by decide +kernel) (by rw [hXR]; decide)) Q.lst rfl rfl rfl (Nat.le_of_ble_eq_true rfl) dX3_latest_10 (pc' := 13) rfl (by rw [hXR]; exact Nat.le_of_ble_eq_true rfl) (by rw [hXR]; exact Nat.le_of_ble_eq_true rfl) (fun _ _ z => z.elim) ?_
  rintro r h' ⟨rfl, hh⟩
  have hh := hh.symm
  subst hh
  show jW X G 2 1 6 13 [(0, .ref xo), (1, .int (nI j))] [.ref (th j)] h
  refine j_cast C (CN := RX1) (T := TX1) (N := 2) (ci := 2) (index := 111) (a := th j) (fs := [.int (nI (a 7 j)), .ref (va (a 8 j))]) (Q.thing (t := j) (by omega)) rfl (by decide +kernel) dX3_latest_13 (pc' := 16) rfl ?_
  refine j_get C (ref := "MapRevisions$Thing") (CN := RX1) (T := TX1) (N := 2) (ci := 2) (index := 138) (a := th j) (kf := 1) (fs := [.int (nI (a 7 j)), .ref (va (a 8 j))]) (v := .ref (va (a 8 j))) hinX1 rfl (by decide) (by decide +kernel) rfl (Q.thing (t := j) (by omega)) rfl dX3_latest_16 (pc' := 19) rfl ?_
  have B_3 := Q.last (t := j) (by omega)
  refine j_get C (ref := "MapRevisions$Version") (CN := RX2) (T := TX2) (N := 6) (ci := 3) (index := 142) (a := va (a 8 j)) (kf := 1) (fs := [cP va (a 13 (a 8 j)), .int (nI (a 12 (a 8 j))), .int (nI (a 14 (a 8 j))), .int (nI (a 15 (a 8 j))), .ref (ca (a 8 j)), .int (nI (a 17 (a 8 j)))]) (v := .int (nI (a 12 (a 8 j)))) hinX2 rfl (by decide) (by decide +kernel) rfl (Q.ver (v := (a 8 j)) (by omega)) rfl dX3_latest_19 (pc' := 22) rfl ?_
  have B_4 := IA.big I 12 (a 8 j)
  exact j_iret C E dX3_latest_22 rfl (Nat.le_of_ble_eq_true rfl) (Nat.le_of_ble_eq_true rfl) ⟨by unfold oLatest; rw [if_pos (show inN (nI j) (s 6) = true by rw [inN_nI (by omega)]; exact decide_eq_true hj), tn_nI (j := j) (by omega), (K.2 j hj).2] <;> rfl, rfl, by unfold oLatest; rw [if_pos (show inN (nI j) (s 6) = true by rw [inN_nI (by omega)]; exact decide_eq_true hj), tn_nI (j := j) (by omega)] <;> rfl⟩
set_option maxRecDepth 100000 in
set_option maxHeartbeats 4000000 in
theorem c_members (l : Launch) (hlt : l.stackTraces = false) (G : jG) {P : Nat → Prop} {xo : Nat} {xa th va ca ma : Nat → Nat} {dat cap : Nat} {mod : Int32} {df : Nat → Option Nat} {vf dr : Nat → Int32} {mf : Nat → Nat → Int32} {s : mS} {a : mA} {h : jH} (Q : cQ G P xo xa th va ca ma dat cap mod df vf dr mf s a h) (J : IS s) (I : IA a) (p : Int32) : jM l G yX3_members wsX3_members 7 111 1 6 [.ref xo, .int p] h (fun r h' => r = some (.int (oMembers s a p).1) ∧ h' = h ∧ (oMembers s a p).2.1 25 = 0) (fun E h' => (E = "java/lang/IndexOutOfBoundsException" ∧ h' = h ∧ (oMembers s a p).2.1 25 = 1)) := by
  have h6 := J.2.1
  have h2 := J.2.2.1
  have h4 := J.2.2.2.1
  have h10 := J.2.2.2.2.1
  have hs0 := J.1 0
  have hs1 := J.1 1
  refine jM_of (cc := cX3_members) (maxL := 2) (ret := (some .int)) hlt (by decide +kernel) rfl (Nat.le_of_ble_eq_true rfl) ?_
  intro X C E hXl hXR hXn
  have hinX3 : ∀ w ∈ u_ws RX3 TX3 11, w ∈ wsX3_members := by decide +kernel
  have hinX1 : ∀ w ∈ u_ws RX1 TX1 2, w ∈ wsX3_members := by decide +kernel
  have hinX2 : ∀ w ∈ u_ws RX2 TX2 6, w ∈ wsX3_members := by decide +kernel
  have hinX0 : ∀ w ∈ u_ws RX0 TX0 4, w ∈ wsX3_members := by decide +kernel
  show jW X G 2 0 0 0 [(0, .ref xo), (1, .int p)] [] h
  refine j_aload_n C (i := 0) (x := xo) 0 rfl dX3_members_0 (pc' := 1) rfl ?_
  refine j_iload_n C (i := 1) (x := p) 1 rfl dX3_members_1 (pc' := 2) rfl ?_
  refine j_callV C (As := [.int p]) (rest := []) (c_needThing X.2.1 C.2.2.2.2.2.2.2.2 G Q J I p) (cwV 1 C.2.2.2.2.1 gX3_members_X3_needThing rfl rfl rfl (by decide +kernel) (by rw [hXR]; decide)) Q.obj rfl rfl rfl (Nat.le_of_ble_eq_true rfl) dX3_members_2 (pc' := 5) rfl (by rw [hXR]; exact Nat.le_of_ble_eq_true rfl) (by rw [hXR]; exact Nat.le_of_ble_eq_true rfl) (by rintro E' h' ⟨rfl, hx, ex_1⟩; exact j_out C E (Nat.le_of_ble_eq_true rfl) (Nat.le_of_ble_eq_true rfl) ⟨rfl, hx, by unfold oMembers; rw [if_neg (bff ex_1)] <;> rfl⟩) ?_
  rintro r h' ⟨rfl, hh, nd_2⟩
  have hh := hh.symm
  subst hh
  show jW X G 2 1 6 5 [(0, .ref xo), (1, .int p)] [] h
  obtain ⟨j, hj, rfl⟩ := inN_of nd_2
  refine j_aload_n C (i := 0) (x := xo) 0 rfl dX3_members_5 (pc' := 6) rfl ?_
  refine j_get C (ref := "MapRevisions") (CN := RX3) (T := TX3) (N := 11) (ci := 4) (index := 25) (a := xo) (kf := 2) (fs := [.ref (xa 0), .ref (xa 1), .ref (xa 2), .ref (xa 3), .ref (xa 4), .ref (xa 5), .int (nI (s 2)), .int (nI (s 4)), .int (nI (s 10)), .int (nI (s 0)), .int (nI (s 1))]) (v := .ref (xa 2)) hinX3 rfl (by decide) (by decide +kernel) rfl Q.obj rfl dX3_members_6 (pc' := 9) rfl ?_
  refine j_iload_n C (i := 1) (x := nI j) 1 rfl dX3_members_9 (pc' := 10) rfl ?_
  have D_10 := Q.dta (t := j) (by omega)
  refine j_callV C (As := [.int (nI j)]) (rest := []) (c_get X.2.1 C.2.2.2.2.2.2.2.2 G Q.lst D_10.1 j (th j) (by omega) D_10.2.2.1 (by omega) D_10.2.1) (cwV 1 C.2.2.2.2.1 gX3_members_Jx4a65c_get_915e3 rfl rfl rfl (by decide +kernel) (by rw [hXR]; decide)) Q.lst rfl rfl rfl (Nat.le_of_ble_eq_true rfl) dX3_members_10 (pc' := 13) rfl (by rw [hXR]; exact Nat.le_of_ble_eq_true rfl) (by rw [hXR]; exact Nat.le_of_ble_eq_true rfl) (fun _ _ z => z.elim) ?_
  rintro r h' ⟨rfl, hh⟩
  have hh := hh.symm
  subst hh
  show jW X G 2 1 6 13 [(0, .ref xo), (1, .int (nI j))] [.ref (th j)] h
  refine j_cast C (CN := RX1) (T := TX1) (N := 2) (ci := 2) (index := 111) (a := th j) (fs := [.int (nI (a 7 j)), .ref (va (a 8 j))]) (Q.thing (t := j) (by omega)) rfl (by decide +kernel) dX3_members_13 (pc' := 16) rfl ?_
  refine j_get C (ref := "MapRevisions$Thing") (CN := RX1) (T := TX1) (N := 2) (ci := 2) (index := 138) (a := th j) (kf := 1) (fs := [.int (nI (a 7 j)), .ref (va (a 8 j))]) (v := .ref (va (a 8 j))) hinX1 rfl (by decide) (by decide +kernel) rfl (Q.thing (t := j) (by omega)) rfl dX3_members_16 (pc' := 19) rfl ?_
  have B_3 := Q.last (t := j) (by omega)
  refine j_get C (ref := "MapRevisions$Version") (CN := RX2) (T := TX2) (N := 6) (ci := 3) (index := 151) (a := va (a 8 j)) (kf := 4) (fs := [cP va (a 13 (a 8 j)), .int (nI (a 12 (a 8 j))), .int (nI (a 14 (a 8 j))), .int (nI (a 15 (a 8 j))), .ref (ca (a 8 j)), .int (nI (a 17 (a 8 j)))]) (v := .ref (ca (a 8 j))) hinX2 rfl (by decide) (by decide +kernel) rfl (Q.ver (v := (a 8 j)) (by omega)) rfl dX3_members_19 (pc' := 22) rfl ?_
  refine j_get C (ref := "MapRevisions$Content") (CN := RX0) (T := TX0) (N := 4) (ci := 1) (index := 100) (a := ca (a 8 j)) (kf := 3) (fs := [.int (nI (a 16 (a 8 j))), .int (nI (a 18 (a 8 j) / 100)), .int (nI (a 18 (a 8 j) % 100)), .ref (ma (a 8 j))]) (v := .ref (ma (a 8 j))) hinX0 rfl (by decide) (by decide +kernel) rfl (Q.con (v := (a 8 j)) (by omega)) rfl dX3_members_22 (pc' := 25) rfl ?_
  have B_4 := IA.size I (a 8 j)
  refine j_alen C (a := ma (a 8 j)) (t0 := 0) (v := nI (a 19 (a 8 j))) (Q.mem (v := (a 8 j)) (by omega)) rfl rfl dX3_members_25 (pc' := 26) rfl ?_
  exact j_iret C E dX3_members_26 rfl (Nat.le_of_ble_eq_true rfl) (Nat.le_of_ble_eq_true rfl) ⟨by unfold oMembers; rw [if_pos (show inN (nI j) (s 6) = true by rw [inN_nI (by omega)]; exact decide_eq_true hj), tn_nI (j := j) (by omega)] <;> rfl, rfl, by unfold oMembers; rw [if_pos (show inN (nI j) (s 6) = true by rw [inN_nI (by omega)]; exact decide_eq_true hj), tn_nI (j := j) (by omega)] <;> rfl⟩
set_option maxRecDepth 100000 in
set_option maxHeartbeats 4000000 in
theorem c_inCopy (l : Launch) (hlt : l.stackTraces = false) (G : jG) {P : Nat → Prop} {xo : Nat} {xa th va ca ma : Nat → Nat} {dat cap : Nat} {mod : Int32} {df : Nat → Option Nat} {vf dr : Nat → Int32} {mf : Nat → Nat → Int32} {s : mS} {a : mA} {h : jH} (Q : cQ G P xo xa th va ca ma dat cap mod df vf dr mf s a h) (J : IS s) (I : IA a) (p : Int32) : jM l G yX3_inCopy wsX3_inCopy 7 111 1 6 [.ref xo, .int p] h (fun r h' => r = some (.int (oInCopy s a p).1) ∧ h' = h ∧ (oInCopy s a p).2.1 25 = 0) (fun E h' => (E = "java/lang/IndexOutOfBoundsException" ∧ h' = h ∧ (oInCopy s a p).2.1 25 = 1)) := by
  have h6 := J.2.1
  have h2 := J.2.2.1
  have h4 := J.2.2.2.1
  have h10 := J.2.2.2.2.1
  have hs0 := J.1 0
  have hs1 := J.1 1
  refine jM_of (cc := cX3_inCopy) (maxL := 2) (ret := (some .int)) hlt (by decide +kernel) rfl (Nat.le_of_ble_eq_true rfl) ?_
  intro X C E hXl hXR hXn
  have hinX3 : ∀ w ∈ u_ws RX3 TX3 11, w ∈ wsX3_inCopy := by decide +kernel
  show jW X G 2 0 0 0 [(0, .ref xo), (1, .int p)] [] h
  refine j_aload_n C (i := 0) (x := xo) 0 rfl dX3_inCopy_0 (pc' := 1) rfl ?_
  refine j_iload_n C (i := 1) (x := p) 1 rfl dX3_inCopy_1 (pc' := 2) rfl ?_
  refine j_callV C (As := [.int p]) (rest := []) (c_needThing X.2.1 C.2.2.2.2.2.2.2.2 G Q J I p) (cwV 1 C.2.2.2.2.1 gX3_inCopy_X3_needThing rfl rfl rfl (by decide +kernel) (by rw [hXR]; decide)) Q.obj rfl rfl rfl (Nat.le_of_ble_eq_true rfl) dX3_inCopy_2 (pc' := 5) rfl (by rw [hXR]; exact Nat.le_of_ble_eq_true rfl) (by rw [hXR]; exact Nat.le_of_ble_eq_true rfl) (by rintro E' h' ⟨rfl, hx, ex_1⟩; exact j_out C E (Nat.le_of_ble_eq_true rfl) (Nat.le_of_ble_eq_true rfl) ⟨rfl, hx, by unfold oInCopy; rw [if_neg (bff ex_1)] <;> rfl⟩) ?_
  rintro r h' ⟨rfl, hh, nd_2⟩
  have hh := hh.symm
  subst hh
  show jW X G 2 1 6 5 [(0, .ref xo), (1, .int p)] [] h
  obtain ⟨j, hj, rfl⟩ := inN_of nd_2
  refine j_aload_n C (i := 0) (x := xo) 0 rfl dX3_inCopy_5 (pc' := 6) rfl ?_
  refine j_iload_n C (i := 1) (x := nI j) 1 rfl dX3_inCopy_6 (pc' := 7) rfl ?_
  refine j_aload_n C (i := 0) (x := xo) 0 rfl dX3_inCopy_7 (pc' := 8) rfl ?_
  refine j_get C (ref := "MapRevisions") (CN := RX3) (T := TX3) (N := 11) (ci := 4) (index := 52) (a := xo) (kf := 10) (fs := [.ref (xa 0), .ref (xa 1), .ref (xa 2), .ref (xa 3), .ref (xa 4), .ref (xa 5), .int (nI (s 2)), .int (nI (s 4)), .int (nI (s 10)), .int (nI (s 0)), .int (nI (s 1))]) (v := .int (nI (s 1))) hinX3 rfl (by decide) (by decide +kernel) rfl Q.obj rfl dX3_inCopy_8 (pc' := 11) rfl ?_
  refine j_callV C (As := [.int (nI j), .int (nI (s 1))]) (rest := []) (c_lmb X.2.1 C.2.2.2.2.2.2.2.2 G Q J I j (s 1) (by omega) (by omega)) (cwV 2 C.2.2.2.2.1 gX3_inCopy_X3_lastMadeBefore rfl rfl rfl (by decide +kernel) (by rw [hXR]; decide)) Q.obj rfl rfl rfl (Nat.le_of_ble_eq_true rfl) dX3_inCopy_11 (pc' := 14) rfl (by rw [hXR]; exact Nat.le_of_ble_eq_true rfl) (by rw [hXR]; exact Nat.le_of_ble_eq_true rfl) (fun _ _ z => z.elim) ?_
  rintro r h' ⟨rfl, hh⟩
  have hh := hh.symm
  subst hh
  show jW X G 2 1 6 14 [(0, .ref xo), (1, .int (nI j))] [.int (nI (mBef a j (s 1)))] h
  exact j_iret C E dX3_inCopy_14 rfl (Nat.le_of_ble_eq_true rfl) (Nat.le_of_ble_eq_true rfl) ⟨by unfold oInCopy; rw [if_pos (show inN (nI j) (s 6) = true by rw [inN_nI (by omega)]; exact decide_eq_true hj), tn_nI (j := j) (by omega)] <;> rfl, rfl, by unfold oInCopy; rw [if_pos (show inN (nI j) (s 6) = true by rw [inN_nI (by omega)]; exact decide_eq_true hj), tn_nI (j := j) (by omega)] <;> rfl⟩
set_option maxRecDepth 100000 in
set_option maxHeartbeats 4000000 in
theorem c_isThere (l : Launch) (hlt : l.stackTraces = false) (G : jG) {P : Nat → Prop} {xo : Nat} {xa th va ca ma : Nat → Nat} {dat cap : Nat} {mod : Int32} {df : Nat → Option Nat} {vf dr : Nat → Int32} {mf : Nat → Nat → Int32} {s : mS} {a : mA} {h : jH} (Q : cQ G P xo xa th va ca ma dat cap mod df vf dr mf s a h) (J : IS s) (I : IA a) (p : Int32) : jM l G yX3_isThere wsX3_isThere 7 111 1 6 [.ref xo, .int p] h (fun r h' => r = some (.int (oIsThere s a p).1) ∧ h' = h ∧ (oIsThere s a p).2.1 25 = 0) (fun E h' => (E = "java/lang/IndexOutOfBoundsException" ∧ h' = h ∧ (oIsThere s a p).2.1 25 = 1)) := by
  have h6 := J.2.1
  have h2 := J.2.2.1
  have h4 := J.2.2.2.1
  have h10 := J.2.2.2.2.1
  have hs0 := J.1 0
  have hs1 := J.1 1
  refine jM_of (cc := cX3_isThere) (maxL := 2) (ret := (some .boolean)) hlt (by decide +kernel) rfl (Nat.le_of_ble_eq_true rfl) ?_
  intro X C E hXl hXR hXn
  show jW X G 2 0 0 0 [(0, .ref xo), (1, .int p)] [] h
  refine j_aload_n C (i := 0) (x := xo) 0 rfl dX3_isThere_0 (pc' := 1) rfl ?_
  refine j_iload_n C (i := 1) (x := p) 1 rfl dX3_isThere_1 (pc' := 2) rfl ?_
  refine j_callV C (As := [.int p]) (rest := []) (c_needThing X.2.1 C.2.2.2.2.2.2.2.2 G Q J I p) (cwV 1 C.2.2.2.2.1 gX3_isThere_X3_needThing rfl rfl rfl (by decide +kernel) (by rw [hXR]; decide)) Q.obj rfl rfl rfl (Nat.le_of_ble_eq_true rfl) dX3_isThere_2 (pc' := 5) rfl (by rw [hXR]; exact Nat.le_of_ble_eq_true rfl) (by rw [hXR]; exact Nat.le_of_ble_eq_true rfl) (by rintro E' h' ⟨rfl, hx, ex_1⟩; exact j_out C E (Nat.le_of_ble_eq_true rfl) (Nat.le_of_ble_eq_true rfl) ⟨rfl, hx, by unfold oIsThere; rw [if_neg (bff ex_1)] <;> rfl⟩) ?_
  rintro r h' ⟨rfl, hh, nd_2⟩
  have hh := hh.symm
  subst hh
  show jW X G 2 1 6 5 [(0, .ref xo), (1, .int p)] [] h
  obtain ⟨j, hj, rfl⟩ := inN_of nd_2
  refine j_aload_n C (i := 0) (x := xo) 0 rfl dX3_isThere_5 (pc' := 6) rfl ?_
  refine j_iload_n C (i := 1) (x := nI j) 1 rfl dX3_isThere_6 (pc' := 7) rfl ?_
  refine j_callV C (As := [.int (nI j)]) (rest := []) (c_isNow X.2.1 C.2.2.2.2.2.2.2.2 G Q J I (nI j)) (cwV 1 C.2.2.2.2.1 gX3_isThere_X3_isNow rfl rfl rfl (by decide +kernel) (by rw [hXR]; decide)) Q.obj rfl rfl rfl (Nat.le_of_ble_eq_true rfl) dX3_isThere_7 (pc' := 10) rfl (by rw [hXR]; exact Nat.le_of_ble_eq_true rfl) (by rw [hXR]; exact Nat.le_of_ble_eq_true rfl) (fun _ _ z => z.elim) ?_
  rintro r h' ⟨rfl, hh⟩
  have hh := hh.symm
  subst hh
  show jW X G 2 1 6 10 [(0, .ref xo), (1, .int (nI j))] [.int (bI (inN (nI j) (s 6) && mIs a (tn (nI j))))] h
  exact j_iret C E dX3_isThere_10 (bI_nar _) (Nat.le_of_ble_eq_true rfl) (Nat.le_of_ble_eq_true rfl) ⟨by unfold oIsThere; rw [if_pos (show inN (nI j) (s 6) = true by rw [inN_nI (by omega)]; exact decide_eq_true hj), tn_nI (j := j) (by omega), show (inN (nI j) (s 6) && mIs a j) = mIs a j from by rw [inN_nI (by omega), decide_eq_true hj]; rfl] <;> rfl, rfl, by unfold oIsThere; rw [if_pos (show inN (nI j) (s 6) = true by rw [inN_nI (by omega)]; exact decide_eq_true hj), tn_nI (j := j) (by omega)] <;> rfl⟩
set_option maxRecDepth 100000 in
set_option maxHeartbeats 4000000 in
theorem c_versionAt (l : Launch) (hlt : l.stackTraces = false) (G : jG) {P : Nat → Prop} {xo : Nat} {xa th va ca ma : Nat → Nat} {dat cap : Nat} {mod : Int32} {df : Nat → Option Nat} {vf dr : Nat → Int32} {mf : Nat → Nat → Int32} {s : mS} {a : mA} {h : jH} (Q : cQ G P xo xa th va ca ma dat cap mod df vf dr mf s a h) (J : IS s) (I : IA a) (p w : Int32) : jM l G yX3_versionAt wsX3_versionAt 7 111 2 12 [.ref xo, .int p, .int w] h (fun r h' => r = some (.int (oVersionAt s a p w).1) ∧ h' = h ∧ (oVersionAt s a p w).2.1 25 = 0) (fun E h' => (E = "java/lang/IndexOutOfBoundsException" ∧ h' = h ∧ (oVersionAt s a p w).2.1 25 = 1) ∨ (E = "java/lang/IllegalArgumentException" ∧ h' = h ∧ (oVersionAt s a p w).2.1 25 = 2)) := by
  have h6 := J.2.1
  have h2 := J.2.2.1
  have h4 := J.2.2.2.1
  have h10 := J.2.2.2.2.1
  have hs0 := J.1 0
  have hs1 := J.1 1
  refine jM_of (cc := cX3_versionAt) (maxL := 3) (ret := (some .int)) hlt (by decide +kernel) rfl (Nat.le_of_ble_eq_true rfl) ?_
  intro X C E hXl hXR hXn
  have hinX3 : ∀ w ∈ u_ws RX3 TX3 11, w ∈ wsX3_versionAt := by decide +kernel
  show jW X G 3 0 0 0 [(0, .ref xo), (1, .int p), (2, .int w)] [] h
  refine j_aload_n C (i := 0) (x := xo) 0 rfl dX3_versionAt_0 (pc' := 1) rfl ?_
  refine j_iload_n C (i := 1) (x := p) 1 rfl dX3_versionAt_1 (pc' := 2) rfl ?_
  refine j_callV C (As := [.int p]) (rest := []) (c_needThing X.2.1 C.2.2.2.2.2.2.2.2 G Q J I p) (cwV 1 C.2.2.2.2.1 gX3_versionAt_X3_needThing rfl rfl rfl (by decide +kernel) (by rw [hXR]; decide)) Q.obj rfl rfl rfl (Nat.le_of_ble_eq_true rfl) dX3_versionAt_2 (pc' := 5) rfl (by rw [hXR]; exact Nat.le_of_ble_eq_true rfl) (by rw [hXR]; exact Nat.le_of_ble_eq_true rfl) (by rintro E' h' ⟨rfl, hx, ex_1⟩; exact j_out C E (Nat.le_of_ble_eq_true rfl) (Nat.le_of_ble_eq_true rfl) (Or.inl ⟨rfl, hx, by unfold oVersionAt; rw [if_neg (bff ex_1)] <;> rfl⟩)) ?_
  rintro r h' ⟨rfl, hh, nd_2⟩
  have hh := hh.symm
  subst hh
  show jW X G 3 1 6 5 [(0, .ref xo), (1, .int p), (2, .int w)] [] h
  obtain ⟨j, hj, rfl⟩ := inN_of nd_2
  refine j_iload_n C (i := 2) (x := w) 2 rfl dX3_versionAt_5 (pc' := 6) rfl ?_
  refine j_if_lt C dX3_versionAt_6 (tgt := 17) (by decide) (pc' := 9) rfl (fun c_3 => ?_) (fun c_3 => ?_)
  · exact j_throw C E (cls := "java/lang/IllegalArgumentException") (text := "the minute is out of range") (ik := 91) (is := 201) (ic := 95) (by decide +kernel) (by decide +kernel) (by decide +kernel) (by decide +kernel) (by decide +kernel) jt_iae.1 jt_iae.2.1 jt_iae.2.2 dX3_versionAt_17 dX3_versionAt_20 dX3_versionAt_21 dX3_versionAt_23 dX3_versionAt_26 (by rw [hXR]; exact Nat.le_of_ble_eq_true rfl) (by rw [hXR]; exact Nat.le_of_ble_eq_true rfl) (Nat.le_of_ble_eq_true rfl) (Nat.le_of_ble_eq_true rfl) (Or.inr ⟨rfl, rfl, by unfold oVersionAt; rw [if_pos (show inN (nI j) (s 6) = true by rw [inN_nI (by omega)]; exact decide_eq_true hj), if_neg (bff (inR_lo c_3))] <;> rfl⟩)
  · refine j_iload_n C (i := 2) (x := w) 2 rfl dX3_versionAt_9 (pc' := 10) rfl ?_
    refine j_aload_n C (i := 0) (x := xo) 0 rfl dX3_versionAt_10 (pc' := 11) rfl ?_
    refine j_get C (ref := "MapRevisions") (CN := RX3) (T := TX3) (N := 11) (ci := 4) (index := 49) (a := xo) (kf := 9) (fs := [.ref (xa 0), .ref (xa 1), .ref (xa 2), .ref (xa 3), .ref (xa 4), .ref (xa 5), .int (nI (s 2)), .int (nI (s 4)), .int (nI (s 10)), .int (nI (s 0)), .int (nI (s 1))]) (v := .int (nI (s 0))) hinX3 rfl (by decide) (by decide +kernel) rfl Q.obj rfl dX3_versionAt_11 (pc' := 14) rfl ?_
    refine j_icmp_le C dX3_versionAt_14 (tgt := 27) (by decide) (pc' := 17) rfl (fun c_4 => ?_) (fun c_4 => ?_)
    · obtain ⟨i, li, hi, rfl⟩ := inR_of (v := w) (lo := 0) (hi := s 0) (by omega) (by omega) (inR_in c_3 c_4)
      refine j_aload_n C (i := 0) (x := xo) 0 rfl dX3_versionAt_27 (pc' := 28) rfl ?_
      refine j_iload_n C (i := 1) (x := nI j) 1 rfl dX3_versionAt_28 (pc' := 29) rfl ?_
      refine j_iload_n C (i := 2) (x := nI i) 2 rfl dX3_versionAt_29 (pc' := 30) rfl ?_
      refine j_iconst C (v := nI 1) rfl dX3_versionAt_30 (pc' := 31) rfl ?_
      refine j_iadd C (x := nI i) (y := nI 1) dX3_versionAt_31 (pc' := 32) rfl ?_
      refine jt_i (nI_add _ _) ?_
      refine j_callV C (As := [.int (nI j), .int (nI (i + 1))]) (rest := []) (c_lmb X.2.1 C.2.2.2.2.2.2.2.2 G Q J I j (i + 1) (by omega) (by omega)) (cwV 2 C.2.2.2.2.1 gX3_versionAt_X3_lastMadeBefore rfl rfl rfl (by decide +kernel) (by rw [hXR]; decide)) Q.obj rfl rfl rfl (Nat.le_of_ble_eq_true rfl) dX3_versionAt_32 (pc' := 35) rfl (by rw [hXR]; exact Nat.le_of_ble_eq_true rfl) (by rw [hXR]; exact Nat.le_of_ble_eq_true rfl) (fun _ _ z => z.elim) ?_
      rintro r h' ⟨rfl, hh⟩
      have hh := hh.symm
      subst hh
      show jW X G 3 1 6 35 [(0, .ref xo), (1, .int (nI j)), (2, .int (nI i))] [.int (nI (mBef a j (i + 1)))] h
      exact j_iret C E dX3_versionAt_35 rfl (Nat.le_of_ble_eq_true rfl) (Nat.le_of_ble_eq_true rfl) ⟨by unfold oVersionAt; rw [if_pos (show inN (nI j) (s 6) = true by rw [inN_nI (by omega)]; exact decide_eq_true hj), if_pos (show inR (nI i) 0 (s 0) = true from inR_in (lo := 0) (nI_nlt (by omega) (by omega)) (nI_le hi (by omega))), tn_nI (j := j) (by omega), tn_nI (j := i) (by omega)] <;> rfl, rfl, by unfold oVersionAt; rw [if_pos (show inN (nI j) (s 6) = true by rw [inN_nI (by omega)]; exact decide_eq_true hj), if_pos (show inR (nI i) 0 (s 0) = true from inR_in (lo := 0) (nI_nlt (by omega) (by omega)) (nI_le hi (by omega))), tn_nI (j := j) (by omega), tn_nI (j := i) (by omega)] <;> rfl⟩
    · exact j_throw C E (cls := "java/lang/IllegalArgumentException") (text := "the minute is out of range") (ik := 91) (is := 201) (ic := 95) (by decide +kernel) (by decide +kernel) (by decide +kernel) (by decide +kernel) (by decide +kernel) jt_iae.1 jt_iae.2.1 jt_iae.2.2 dX3_versionAt_17 dX3_versionAt_20 dX3_versionAt_21 dX3_versionAt_23 dX3_versionAt_26 (by rw [hXR]; exact Nat.le_of_ble_eq_true rfl) (by rw [hXR]; exact Nat.le_of_ble_eq_true rfl) (Nat.le_of_ble_eq_true rfl) (Nat.le_of_ble_eq_true rfl) (Or.inr ⟨rfl, rfl, by unfold oVersionAt; rw [if_pos (show inN (nI j) (s 6) = true by rw [inN_nI (by omega)]; exact decide_eq_true hj), if_neg (bff (inR_hi (Int32.not_le.mp c_4)))] <;> rfl⟩)
set_option maxRecDepth 100000 in
set_option maxHeartbeats 4000000 in
theorem c_whereIs (l : Launch) (hlt : l.stackTraces = false) (G : jG) {P : Nat → Prop} {xo : Nat} {xa th va ca ma : Nat → Nat} {dat cap : Nat} {mod : Int32} {df : Nat → Option Nat} {vf dr : Nat → Int32} {mf : Nat → Nat → Int32} {s : mS} {a : mA} {h : jH} (Q : cQ G P xo xa th va ca ma dat cap mod df vf dr mf s a h) (J : IS s) (I : IA a) (p : Int32) : jM l G yX3_whereIs wsX3_whereIs 7 111 2 12 [.ref xo, .int p] h (fun r h' => r = some (.int (oWhereIs s a p).1) ∧ h' = h ∧ (oWhereIs s a p).2.1 25 = 0) (fun E h' => (E = "java/lang/IndexOutOfBoundsException" ∧ h' = h ∧ (oWhereIs s a p).2.1 25 = 1) ∨ (E = "java/util/NoSuchElementException" ∧ h' = h ∧ (oWhereIs s a p).2.1 25 = 2)) := by
  have h6 := J.2.1
  have h2 := J.2.2.1
  have h4 := J.2.2.2.1
  have h10 := J.2.2.2.2.1
  have hs0 := J.1 0
  have hs1 := J.1 1
  refine jM_of (cc := cX3_whereIs) (maxL := 3) (ret := (some .int)) hlt (by decide +kernel) rfl (Nat.le_of_ble_eq_true rfl) ?_
  intro X C E hXl hXR hXn
  have hinX3 : ∀ w ∈ u_ws RX3 TX3 11, w ∈ wsX3_whereIs := by decide +kernel
  have hinX1 : ∀ w ∈ u_ws RX1 TX1 2, w ∈ wsX3_whereIs := by decide +kernel
  have hinX2 : ∀ w ∈ u_ws RX2 TX2 6, w ∈ wsX3_whereIs := by decide +kernel
  have hinX0 : ∀ w ∈ u_ws RX0 TX0 4, w ∈ wsX3_whereIs := by decide +kernel
  show jW X G 3 0 0 0 [(0, .ref xo), (1, .int p)] [] h
  refine j_aload_n C (i := 0) (x := xo) 0 rfl dX3_whereIs_0 (pc' := 1) rfl ?_
  refine j_iload_n C (i := 1) (x := p) 1 rfl dX3_whereIs_1 (pc' := 2) rfl ?_
  refine j_callV C (As := [.int p]) (rest := []) (c_needThing X.2.1 C.2.2.2.2.2.2.2.2 G Q J I p) (cwV 1 C.2.2.2.2.1 gX3_whereIs_X3_needThing rfl rfl rfl (by decide +kernel) (by rw [hXR]; decide)) Q.obj rfl rfl rfl (Nat.le_of_ble_eq_true rfl) dX3_whereIs_2 (pc' := 5) rfl (by rw [hXR]; exact Nat.le_of_ble_eq_true rfl) (by rw [hXR]; exact Nat.le_of_ble_eq_true rfl) (by rintro E' h' ⟨rfl, hx, ex_1⟩; exact j_out C E (Nat.le_of_ble_eq_true rfl) (Nat.le_of_ble_eq_true rfl) (Or.inl ⟨rfl, hx, by unfold oWhereIs; rw [if_neg (bff ex_1)] <;> rfl⟩)) ?_
  rintro r h' ⟨rfl, hh, nd_2⟩
  have hh := hh.symm
  subst hh
  show jW X G 3 1 6 5 [(0, .ref xo), (1, .int p)] [] h
  obtain ⟨j, hj, rfl⟩ := inN_of nd_2
  refine j_aload_n C (i := 0) (x := xo) 0 rfl dX3_whereIs_5 (pc' := 6) rfl ?_
  refine j_get C (ref := "MapRevisions") (CN := RX3) (T := TX3) (N := 11) (ci := 4) (index := 25) (a := xo) (kf := 2) (fs := [.ref (xa 0), .ref (xa 1), .ref (xa 2), .ref (xa 3), .ref (xa 4), .ref (xa 5), .int (nI (s 2)), .int (nI (s 4)), .int (nI (s 10)), .int (nI (s 0)), .int (nI (s 1))]) (v := .ref (xa 2)) hinX3 rfl (by decide) (by decide +kernel) rfl Q.obj rfl dX3_whereIs_6 (pc' := 9) rfl ?_
  refine j_iload_n C (i := 1) (x := nI j) 1 rfl dX3_whereIs_9 (pc' := 10) rfl ?_
  have D_10 := Q.dta (t := j) (by omega)
  refine j_callV C (As := [.int (nI j)]) (rest := []) (c_get X.2.1 C.2.2.2.2.2.2.2.2 G Q.lst D_10.1 j (th j) (by omega) D_10.2.2.1 (by omega) D_10.2.1) (cwV 1 C.2.2.2.2.1 gX3_whereIs_Jx4a65c_get_915e3 rfl rfl rfl (by decide +kernel) (by rw [hXR]; decide)) Q.lst rfl rfl rfl (Nat.le_of_ble_eq_true rfl) dX3_whereIs_10 (pc' := 13) rfl (by rw [hXR]; exact Nat.le_of_ble_eq_true rfl) (by rw [hXR]; exact Nat.le_of_ble_eq_true rfl) (fun _ _ z => z.elim) ?_
  rintro r h' ⟨rfl, hh⟩
  have hh := hh.symm
  subst hh
  show jW X G 3 1 6 13 [(0, .ref xo), (1, .int (nI j))] [.ref (th j)] h
  refine j_cast C (CN := RX1) (T := TX1) (N := 2) (ci := 2) (index := 111) (a := th j) (fs := [.int (nI (a 7 j)), .ref (va (a 8 j))]) (Q.thing (t := j) (by omega)) rfl (by decide +kernel) dX3_whereIs_13 (pc' := 16) rfl ?_
  refine j_get C (ref := "MapRevisions$Thing") (CN := RX1) (T := TX1) (N := 2) (ci := 2) (index := 138) (a := th j) (kf := 1) (fs := [.int (nI (a 7 j)), .ref (va (a 8 j))]) (v := .ref (va (a 8 j))) hinX1 rfl (by decide) (by decide +kernel) rfl (Q.thing (t := j) (by omega)) rfl dX3_whereIs_16 (pc' := 19) rfl ?_
  have B_3 := Q.last (t := j) (by omega)
  refine j_get C (ref := "MapRevisions$Version") (CN := RX2) (T := TX2) (N := 6) (ci := 3) (index := 151) (a := va (a 8 j)) (kf := 4) (fs := [cP va (a 13 (a 8 j)), .int (nI (a 12 (a 8 j))), .int (nI (a 14 (a 8 j))), .int (nI (a 15 (a 8 j))), .ref (ca (a 8 j)), .int (nI (a 17 (a 8 j)))]) (v := .ref (ca (a 8 j))) hinX2 rfl (by decide) (by decide +kernel) rfl (Q.ver (v := (a 8 j)) (by omega)) rfl dX3_whereIs_19 (pc' := 22) rfl ?_
  refine j_astore_n C (i := 2) (x := ca (a 8 j)) (l' := [(2, .ref (ca (a 8 j))), (0, .ref xo), (1, .int (nI j))]) dX3_whereIs_22 (pc' := 23) rfl (by decide) rfl ?_
  refine j_aload_n C (i := 0) (x := xo) 1 rfl dX3_whereIs_23 (pc' := 24) rfl ?_
  refine j_get C (ref := "MapRevisions") (CN := RX3) (T := TX3) (N := 11) (ci := 4) (index := 25) (a := xo) (kf := 2) (fs := [.ref (xa 0), .ref (xa 1), .ref (xa 2), .ref (xa 3), .ref (xa 4), .ref (xa 5), .int (nI (s 2)), .int (nI (s 4)), .int (nI (s 10)), .int (nI (s 0)), .int (nI (s 1))]) (v := .ref (xa 2)) hinX3 rfl (by decide) (by decide +kernel) rfl Q.obj rfl dX3_whereIs_24 (pc' := 27) rfl ?_
  refine j_iload_n C (i := 1) (x := nI j) 2 rfl dX3_whereIs_27 (pc' := 28) rfl ?_
  have D_28 := Q.dta (t := j) (by omega)
  refine j_callV C (As := [.int (nI j)]) (rest := []) (c_get X.2.1 C.2.2.2.2.2.2.2.2 G Q.lst D_28.1 j (th j) (by omega) D_28.2.2.1 (by omega) D_28.2.1) (cwV 1 C.2.2.2.2.1 gX3_whereIs_Jx4a65c_get_915e3 rfl rfl rfl (by decide +kernel) (by rw [hXR]; decide)) Q.lst rfl rfl rfl (Nat.le_of_ble_eq_true rfl) dX3_whereIs_28 (pc' := 31) rfl (by rw [hXR]; exact Nat.le_of_ble_eq_true rfl) (by rw [hXR]; exact Nat.le_of_ble_eq_true rfl) (fun _ _ z => z.elim) ?_
  rintro r h' ⟨rfl, hh⟩
  have hh := hh.symm
  subst hh
  show jW X G 3 1 6 31 [(2, .ref (ca (a 8 j))), (0, .ref xo), (1, .int (nI j))] [.ref (th j)] h
  refine j_cast C (CN := RX1) (T := TX1) (N := 2) (ci := 2) (index := 111) (a := th j) (fs := [.int (nI (a 7 j)), .ref (va (a 8 j))]) (Q.thing (t := j) (by omega)) rfl (by decide +kernel) dX3_whereIs_31 (pc' := 34) rfl ?_
  refine j_get C (ref := "MapRevisions$Thing") (CN := RX1) (T := TX1) (N := 2) (ci := 2) (index := 113) (a := th j) (kf := 0) (fs := [.int (nI (a 7 j)), .ref (va (a 8 j))]) (v := .int (nI (a 7 j))) hinX1 rfl (by decide) (by decide +kernel) rfl (Q.thing (t := j) (by omega)) rfl dX3_whereIs_34 (pc' := 37) rfl ?_
  have B_4 := IA.kind I j
  refine j_if_ne C dX3_whereIs_37 (tgt := 47) (by decide) (pc' := 40) rfl (fun c_5 => ?_) (fun c_5 => ?_)
  · have c_5 := fun zq => c_5 ((nI_eq (a := a 7 j) (b := 0) (by omega) (by omega)).mpr zq)
    have c_5 : ¬ (a 7 j) = 0 := c_5
    exact j_throwN C E (text := "the thing is no point, or is gone") (is := 160) (by decide +kernel) (by decide +kernel) (by decide +kernel) (by decide +kernel) dX3_whereIs_47 dX3_whereIs_50 dX3_whereIs_51 dX3_whereIs_53 dX3_whereIs_56 (by rw [hXR]; exact Nat.le_of_ble_eq_true rfl) (by rw [hXR]; exact Nat.le_of_ble_eq_true rfl) (Nat.le_of_ble_eq_true rfl) (Nat.le_of_ble_eq_true rfl) (Or.inr ⟨rfl, rfl, by unfold oWhereIs; rw [if_pos (show inN (nI j) (s 6) = true by rw [inN_nI (by omega)]; exact decide_eq_true hj), tn_nI (j := j) (by omega), if_neg (fun z => absurd z.1 (by omega))] <;> rfl⟩)
  · have c_5 := (nI_eq (a := a 7 j) (b := 0) (by omega) (by omega)).mp c_5
    have c_5 : (a 7 j) = 0 := c_5
    refine j_aload_n C (i := 2) (x := ca (a 8 j)) 0 rfl dX3_whereIs_40 (pc' := 41) rfl ?_
    refine j_get C (ref := "MapRevisions$Content") (CN := RX0) (T := TX0) (N := 4) (ci := 1) (index := 154) (a := ca (a 8 j)) (kf := 0) (fs := [.int (nI (a 16 (a 8 j))), .int (nI (a 18 (a 8 j) / 100)), .int (nI (a 18 (a 8 j) % 100)), .ref (ma (a 8 j))]) (v := .int (nI (a 16 (a 8 j)))) hinX0 rfl (by decide) (by decide +kernel) rfl (Q.con (v := (a 8 j)) (by omega)) rfl dX3_whereIs_41 (pc' := 44) rfl ?_
    have B_6 := IA.there I (a 8 j)
    refine j_if_ne C dX3_whereIs_44 (tgt := 57) (by decide) (pc' := 47) rfl (fun c_7 => ?_) (fun c_7 => ?_)
    · have c_7 := fun zq => c_7 ((nI_eq (a := a 16 (a 8 j)) (b := 0) (by omega) (by omega)).mpr zq)
      have c_7 : ¬ (a 16 (a 8 j)) = 0 := c_7
      refine j_bipush C (v := nI 100) rfl dX3_whereIs_57 (pc' := 59) rfl ?_
      refine j_aload_n C (i := 2) (x := ca (a 8 j)) 0 rfl dX3_whereIs_59 (pc' := 60) rfl ?_
      refine j_get C (ref := "MapRevisions$Content") (CN := RX0) (T := TX0) (N := 4) (ci := 1) (index := 163) (a := ca (a 8 j)) (kf := 1) (fs := [.int (nI (a 16 (a 8 j))), .int (nI (a 18 (a 8 j) / 100)), .int (nI (a 18 (a 8 j) % 100)), .ref (ma (a 8 j))]) (v := .int (nI (a 18 (a 8 j) / 100))) hinX0 rfl (by decide) (by decide +kernel) rfl (Q.con (v := (a 8 j)) (by omega)) rfl dX3_whereIs_60 (pc' := 63) rfl ?_
      have B_8 := IA.big I 18 (a 8 j)
      refine j_imul C (x := nI 100) (y := nI (a 18 (a 8 j) / 100)) dX3_whereIs_63 (pc' := 64) rfl ?_
      refine jt_i (pk_mul _ _) ?_
      refine j_aload_n C (i := 2) (x := ca (a 8 j)) 0 rfl dX3_whereIs_64 (pc' := 65) rfl ?_
      refine j_get C (ref := "MapRevisions$Content") (CN := RX0) (T := TX0) (N := 4) (ci := 1) (index := 166) (a := ca (a 8 j)) (kf := 2) (fs := [.int (nI (a 16 (a 8 j))), .int (nI (a 18 (a 8 j) / 100)), .int (nI (a 18 (a 8 j) % 100)), .ref (ma (a 8 j))]) (v := .int (nI (a 18 (a 8 j) % 100))) hinX0 rfl (by decide) (by decide +kernel) rfl (Q.con (v := (a 8 j)) (by omega)) rfl dX3_whereIs_65 (pc' := 68) rfl ?_
      have B_9 := IA.big I 18 (a 8 j)
      refine j_iadd C (x := nI (100 * (a 18 (a 8 j) / 100))) (y := nI (a 18 (a 8 j) % 100)) dX3_whereIs_68 (pc' := 69) rfl ?_
      refine jt_i (nI_add _ _) ?_
      exact j_iret C E dX3_whereIs_69 rfl (Nat.le_of_ble_eq_true rfl) (Nat.le_of_ble_eq_true rfl) ⟨by unfold oWhereIs; rw [if_pos (show inN (nI j) (s 6) = true by rw [inN_nI (by omega)]; exact decide_eq_true hj), tn_nI (j := j) (by omega), if_pos (show a 7 j = 0 ∧ mIs a j = true from ⟨by omega, decide_eq_true (show a 16 (a 8 j) = 1 by omega)⟩), show 100 * (a 18 (a 8 j) / 100) + a 18 (a 8 j) % 100 = a 18 (a 8 j) from by omega] <;> rfl, rfl, by unfold oWhereIs; rw [if_pos (show inN (nI j) (s 6) = true by rw [inN_nI (by omega)]; exact decide_eq_true hj), tn_nI (j := j) (by omega), if_pos (show a 7 j = 0 ∧ mIs a j = true from ⟨by omega, decide_eq_true (show a 16 (a 8 j) = 1 by omega)⟩)] <;> rfl⟩
    · have c_7 := (nI_eq (a := a 16 (a 8 j)) (b := 0) (by omega) (by omega)).mp c_7
      have c_7 : (a 16 (a 8 j)) = 0 := c_7
      exact j_throwN C E (text := "the thing is no point, or is gone") (is := 160) (by decide +kernel) (by decide +kernel) (by decide +kernel) (by decide +kernel) dX3_whereIs_47 dX3_whereIs_50 dX3_whereIs_51 dX3_whereIs_53 dX3_whereIs_56 (by rw [hXR]; exact Nat.le_of_ble_eq_true rfl) (by rw [hXR]; exact Nat.le_of_ble_eq_true rfl) (Nat.le_of_ble_eq_true rfl) (Nat.le_of_ble_eq_true rfl) (Or.inr ⟨rfl, rfl, by unfold oWhereIs; rw [if_pos (show inN (nI j) (s 6) = true by rw [inN_nI (by omega)]; exact decide_eq_true hj), tn_nI (j := j) (by omega), if_neg (fun z => absurd (of_decide_eq_true (show decide (a 16 (a 8 j) = 1) = true from z.2)) (by omega))] <;> rfl⟩)
