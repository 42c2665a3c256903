set_option maxRecDepth 100000 in
set_option maxHeartbeats 4000000 in
theorem w_hide (l : Launch) (hlt : l.stackTraces = false) (G : jG) {P : Nat → Prop} {xo oo n : Nat} {xa : Nat → Nat} {s : mS} {a : mA} {h : jH} {v : Nat → Int64} (p v0 : Int32) (hW : WW n s a) (hn : n < 512) (hE0 : cE G P xo xa s a h) (hPn : ∀ w, P w → h w ≠ none) (hoo : P oo) (ho : h oo = some (.inl (G.2.2.1.2.2.2, 1, .inr (.inl v)))) : jM l G yL_hide wsL_hide 8 136 3 18 [.ref xo, .int p, .int v0, .ref oo] h (fun r h' => oLaw G P xo xa oo h (oHide s a p v0) r h') (fun _ _ => False) := by
  obtain ⟨th, va, ca, ma, dat, cap, mod, df, vf, dr, mf, Q, hPo⟩ := id hE0
  have W := hW.1
  have J := W.J
  have I := W.I
  have h10 := J.2.2.2.2.1
  refine jM_ofH (cc := cL_hide) (maxL := 5) (ret := (some .int)) (hh := [(0, 10, 13, 19), (0, 10, 17, 13)]) hlt (by decide +kernel) rfl (Nat.le_of_ble_eq_true rfl) ?_
  intro X C E hTb hXl hXR
  show jW X G 5 0 0 0 [(0, .ref xo), (1, .int p), (2, .int v0), (3, .ref oo)] [] h
  refine j_aload_n C (i := 3) (x := oo) 3 rfl dL_hide_0 (pc' := 1) rfl ?_
  refine j_iconst C (v := nI 0) rfl dL_hide_1 (pc' := 2) rfl ?_
  refine j_aload_n C (i := 0) (x := xo) 0 rfl dL_hide_2 (pc' := 3) rfl ?_
  refine j_iload_n C (i := 1) (x := p) 1 rfl dL_hide_3 (pc' := 4) rfl ?_
  refine j_iload_n C (i := 2) (x := v0) 2 rfl dL_hide_4 (pc' := 5) rfl ?_
  refine j_callV C (As := [.int p, .int v0]) (rest := [.int (nI 0), .ref oo]) (c_hide X.2.1 C.2.2.2.2.2.2.2.2 G Q J I p v0 W.K) (cwV 2 C.2.2.2.2.1 gL_hide_X3_hide rfl rfl rfl (by decide +kernel) (by rw [hXR]; decide)) Q.obj rfl rfl rfl (Nat.le_of_ble_eq_true rfl) dL_hide_5 (pc' := 8) rfl (by rw [hXR]; exact Nat.le_of_ble_eq_true rfl) (by rw [hXR]; exact Nat.le_of_ble_eq_true rfl) ?_ ?_
  · rintro E' h' (⟨rfl, hh, ht⟩ | ⟨rfl, hh, ht⟩)
    · have hh := hh.symm
      subst hh
      refine j_catch C hTb (E := "java/lang/IndexOutOfBoundsException") [] ⟨0, 10, 13, 19⟩ [⟨0, 10, 17, 13⟩] rfl (fun z hz => absurd hz List.not_mem_nil) (by decide) (by decide) (by decide) (by decide +kernel) (by decide) ?_
      intro q
      show jW X G 5 3 18 13 [(0, .ref xo), (1, .int p), (2, .int v0), (3, .ref oo)] [.ref q] h
      refine j_astore C (i := 4) (x := q) (l' := [(4, .ref q), (0, .ref xo), (1, .int p), (2, .int v0), (3, .ref oo)]) dL_hide_13 (pc' := 15) rfl (by decide) rfl ?_
      refine j_iconst C (v := nI 1) rfl dL_hide_15 (pc' := 16) rfl ?_
      exact j_iretH C E dL_hide_16 rfl (Nat.le_of_ble_eq_true rfl) (Nat.le_of_ble_eq_true rfl) ⟨by rw [ht], ⟨v, ho, fun z => absurd (ht.symm.trans z) (by decide)⟩, hE0.same ((tf_hide p v0).resolve_left (fun z => absurd (ht.symm.trans z) (by decide))).1 ((tf_hide p v0).resolve_left (fun z => absurd (ht.symm.trans z) (by decide))).2, fun _ _ _ => rfl⟩
    · have hh := hh.symm
      subst hh
      refine j_catch C hTb (E := "java/lang/IllegalStateException") [⟨0, 10, 13, 19⟩] ⟨0, 10, 17, 13⟩ [] rfl (by intro z hz; rcases List.mem_singleton.mp hz with rfl; exact ⟨by decide, "java/lang/IndexOutOfBoundsException", by decide +kernel, by decide, by decide⟩) (by decide) (by decide) (by decide) (by decide +kernel) (by decide) ?_
      intro q
      show jW X G 5 3 18 17 [(0, .ref xo), (1, .int p), (2, .int v0), (3, .ref oo)] [.ref q] h
      refine j_astore C (i := 4) (x := q) (l' := [(4, .ref q), (0, .ref xo), (1, .int p), (2, .int v0), (3, .ref oo)]) dL_hide_17 (pc' := 19) rfl (by decide) rfl ?_
      refine j_iconst C (v := nI 2) rfl dL_hide_19 (pc' := 20) rfl ?_
      exact j_iretH C E dL_hide_20 rfl (Nat.le_of_ble_eq_true rfl) (Nat.le_of_ble_eq_true rfl) ⟨by rw [ht], ⟨v, ho, fun z => absurd (ht.symm.trans z) (by decide)⟩, hE0.same ((tf_hide p v0).resolve_left (fun z => absurd (ht.symm.trans z) (by decide))).1 ((tf_hide p v0).resolve_left (fun z => absurd (ht.symm.trans z) (by decide))).2, fun _ _ _ => rfl⟩
  · rintro r h' ⟨rfl, h25, Q', hF⟩
    have hE' := Q'.e (fun v hv => hPo v (by rw [← t10_hide (s := s) (a := a) p v0]; exact hv))
    show jW X G 5 3 18 8 [(0, .ref xo), (1, .int p), (2, .int v0), (3, .ref oo)] [.int ((oHide s a p v0).1), .int (nI 0), .ref oo] (h')
    refine j_i2l C (x := (oHide s a p v0).1) rfl dL_hide_8 (pc' := 9) rfl ?_
    refine j_last C (a := oo) (N := 1) (j := 0) (f := v) (x := ((oHide s a p v0).1).toInt64) ((hF oo hoo).trans ho) rfl (by decide) (by decide) dL_hide_9 (pc' := 10) rfl ?_
    show jW X G 5 3 18 10 [(0, .ref xo), (1, .int p), (2, .int v0), (3, .ref oo)] [] (jup (h') oo (.inl (G.2.2.1.2.2.2, 1, .inr (.inl (vp_updL v 0 (((oHide s a p v0).1).toInt64))))))
    refine j_goto C dL_hide_10 (pc' := 21) (by decide) ?_
    refine j_iconst C (v := nI 0) rfl dL_hide_21 (pc' := 22) rfl ?_
    exact j_iretH C E dL_hide_22 rfl (Nat.le_of_ble_eq_true rfl) (Nat.le_of_ble_eq_true rfl) ⟨by rw [h25], ⟨_, jup_self _ _ _, fun _ => if_pos rfl⟩, hE'.out hoo ((hF oo hoo).trans ho), fun w0 hw hne => (jup_ne hne).trans (hF w0 hw)⟩
set_option maxRecDepth 100000 in
set_option maxHeartbeats 4000000 in
theorem w_setOf (l : Launch) (hlt : l.stackTraces = false) (G : jG) {P : Nat → Prop} {xo oo n : Nat} {xa : Nat → Nat} {s : mS} {a : mA} {h : jH} {v : Nat → Int64} (p v0 : Int32) (hW : WW n s a) (hn : n < 512) (hE0 : cE G P xo xa s a h) (hPn : ∀ w, P w → h w ≠ none) (hoo : P oo) (ho : h oo = some (.inl (G.2.2.1.2.2.2, 1, .inr (.inl v)))) : jM l G yL_setOf wsL_setOf 8 136 3 18 [.ref xo, .int p, .int v0, .ref oo] h (fun r h' => oLaw G P xo xa oo h (oSetOf s a p v0) r h') (fun _ _ => False) := by
  obtain ⟨th, va, ca, ma, dat, cap, mod, df, vf, dr, mf, Q, hPo⟩ := id hE0
  have W := hW.1
  have J := W.J
  have I := W.I
  have h10 := J.2.2.2.2.1
  refine jM_ofH (cc := cL_setOf) (maxL := 5) (ret := (some .int)) (hh := [(0, 10, 13, 19), (0, 10, 17, 57)]) hlt (by decide +kernel) rfl (Nat.le_of_ble_eq_true rfl) ?_
  intro X C E hTb hXl hXR
  show jW X G 5 0 0 0 [(0, .ref xo), (1, .int p), (2, .int v0), (3, .ref oo)] [] h
  refine j_aload_n C (i := 3) (x := oo) 3 rfl dL_setOf_0 (pc' := 1) rfl ?_
  refine j_iconst C (v := nI 0) rfl dL_setOf_1 (pc' := 2) rfl ?_
  refine j_aload_n C (i := 0) (x := xo) 0 rfl dL_setOf_2 (pc' := 3) rfl ?_
  refine j_iload_n C (i := 1) (x := p) 1 rfl dL_setOf_3 (pc' := 4) rfl ?_
  refine j_iload_n C (i := 2) (x := v0) 2 rfl dL_setOf_4 (pc' := 5) rfl ?_
  refine j_callV C (As := [.int p, .int v0]) (rest := [.int (nI 0), .ref oo]) (c_setOf X.2.1 C.2.2.2.2.2.2.2.2 G Q J I p v0 W.K) (cwV 2 C.2.2.2.2.1 gL_setOf_X3_setOf rfl rfl rfl (by decide +kernel) (by rw [hXR]; decide)) Q.obj rfl rfl rfl (Nat.le_of_ble_eq_true rfl) dL_setOf_5 (pc' := 8) rfl (by rw [hXR]; exact Nat.le_of_ble_eq_true rfl) (by rw [hXR]; exact Nat.le_of_ble_eq_true rfl) ?_ ?_
  · rintro E' h' (⟨rfl, hh, ht⟩ | ⟨rfl, hh, ht⟩)
    · have hh := hh.symm
      subst hh
      refine j_catch C hTb (E := "java/lang/IndexOutOfBoundsException") [] ⟨0, 10, 13, 19⟩ [⟨0, 10, 17, 57⟩] rfl (fun z hz => absurd hz List.not_mem_nil) (by decide) (by decide) (by decide) (by decide +kernel) (by decide) ?_
      intro q
      show jW X G 5 3 18 13 [(0, .ref xo), (1, .int p), (2, .int v0), (3, .ref oo)] [.ref q] h
      refine j_astore C (i := 4) (x := q) (l' := [(4, .ref q), (0, .ref xo), (1, .int p), (2, .int v0), (3, .ref oo)]) dL_setOf_13 (pc' := 15) rfl (by decide) rfl ?_
      refine j_iconst C (v := nI 1) rfl dL_setOf_15 (pc' := 16) rfl ?_
      exact j_iretH C E dL_setOf_16 rfl (Nat.le_of_ble_eq_true rfl) (Nat.le_of_ble_eq_true rfl) ⟨by rw [ht], ⟨v, ho, fun z => absurd (ht.symm.trans z) (by decide)⟩, hE0.same (sf_setOf p v0).1 (sf_setOf p v0).2, fun _ _ _ => rfl⟩
    · have hh := hh.symm
      subst hh
      refine j_catch C hTb (E := "java/util/NoSuchElementException") [⟨0, 10, 13, 19⟩] ⟨0, 10, 17, 57⟩ [] rfl (by intro z hz; rcases List.mem_singleton.mp hz with rfl; exact ⟨by decide, "java/lang/IndexOutOfBoundsException", by decide +kernel, by decide, by decide⟩) (by decide) (by decide) (by decide) (by decide +kernel) (by decide) ?_
      intro q
      show jW X G 5 3 18 17 [(0, .ref xo), (1, .int p), (2, .int v0), (3, .ref oo)] [.ref q] h
      refine j_astore C (i := 4) (x := q) (l' := [(4, .ref q), (0, .ref xo), (1, .int p), (2, .int v0), (3, .ref oo)]) dL_setOf_17 (pc' := 19) rfl (by decide) rfl ?_
      refine j_iconst C (v := nI 2) rfl dL_setOf_19 (pc' := 20) rfl ?_
      exact j_iretH C E dL_setOf_20 rfl (Nat.le_of_ble_eq_true rfl) (Nat.le_of_ble_eq_true rfl) ⟨by rw [ht], ⟨v, ho, fun z => absurd (ht.symm.trans z) (by decide)⟩, hE0.same (sf_setOf p v0).1 (sf_setOf p v0).2, fun _ _ _ => rfl⟩
  · rintro r h' ⟨rfl, hh, h25⟩
    have hh := hh.symm
    subst hh
    show jW X G 5 3 18 8 [(0, .ref xo), (1, .int p), (2, .int v0), (3, .ref oo)] [.int ((oSetOf s a p v0).1), .int (nI 0), .ref oo] h
    refine j_i2l C (x := (oSetOf s a p v0).1) rfl dL_setOf_8 (pc' := 9) rfl ?_
    refine j_last C (a := oo) (N := 1) (j := 0) (f := v) (x := ((oSetOf s a p v0).1).toInt64) ho rfl (by decide) (by decide) dL_setOf_9 (pc' := 10) rfl ?_
    show jW X G 5 3 18 10 [(0, .ref xo), (1, .int p), (2, .int v0), (3, .ref oo)] [] (jup h oo (.inl (G.2.2.1.2.2.2, 1, .inr (.inl (vp_updL v 0 (((oSetOf s a p v0).1).toInt64))))))
    refine j_goto C dL_setOf_10 (pc' := 21) (by decide) ?_
    refine j_iconst C (v := nI 0) rfl dL_setOf_21 (pc' := 22) rfl ?_
    exact j_iretH C E dL_setOf_22 rfl (Nat.le_of_ble_eq_true rfl) (Nat.le_of_ble_eq_true rfl) ⟨by rw [h25], ⟨_, jup_self _ _ _, fun _ => if_pos rfl⟩, (hE0.same (sf_setOf p v0).1 (sf_setOf p v0).2).out hoo ho, fun w0 _ hne => jup_ne hne⟩
set_option maxRecDepth 100000 in
set_option maxHeartbeats 4000000 in
theorem w_versionAt (l : Launch) (hlt : l.stackTraces = false) (G : jG) {P : Nat → Prop} {xo oo n : Nat} {xa : Nat → Nat} {s : mS} {a : mA} {h : jH} {v : Nat → Int64} (p w : Int32) (hW : WW n s a) (hn : n < 512) (hE0 : cE G P xo xa s a h) (hPn : ∀ w, P w → h w ≠ none) (hoo : P oo) (ho : h oo = some (.inl (G.2.2.1.2.2.2, 1, .inr (.inl v)))) : jM l G yL_versionAt wsL_versionAt 8 133 2 12 [.ref xo, .int p, .int w, .ref oo] h (fun r h' => oLaw G P xo xa oo h (oVersionAt s a p w) r h') (fun _ _ => False) := by
  obtain ⟨th, va, ca, ma, dat, cap, mod, df, vf, dr, mf, Q, hPo⟩ := id hE0
  have W := hW.1
  have J := W.J
  have I := W.I
  have h10 := J.2.2.2.2.1
  refine jM_ofH (cc := cL_versionAt) (maxL := 5) (ret := (some .int)) (hh := [(0, 10, 13, 19), (0, 10, 17, 28)]) hlt (by decide +kernel) rfl (Nat.le_of_ble_eq_true rfl) ?_
  intro X C E hTb hXl hXR
  show jW X G 5 0 0 0 [(0, .ref xo), (1, .int p), (2, .int w), (3, .ref oo)] [] h
  refine j_aload_n C (i := 3) (x := oo) 3 rfl dL_versionAt_0 (pc' := 1) rfl ?_
  refine j_iconst C (v := nI 0) rfl dL_versionAt_1 (pc' := 2) rfl ?_
  refine j_aload_n C (i := 0) (x := xo) 0 rfl dL_versionAt_2 (pc' := 3) rfl ?_
  refine j_iload_n C (i := 1) (x := p) 1 rfl dL_versionAt_3 (pc' := 4) rfl ?_
  refine j_iload_n C (i := 2) (x := w) 2 rfl dL_versionAt_4 (pc' := 5) rfl ?_
  refine j_callV C (As := [.int p, .int w]) (rest := [.int (nI 0), .ref oo]) (c_versionAt X.2.1 C.2.2.2.2.2.2.2.2 G Q J I p w) (cwV 2 C.2.2.2.2.1 gL_versionAt_X3_versionAt rfl rfl rfl (by decide +kernel) (by rw [hXR]; decide)) Q.obj rfl rfl rfl (Nat.le_of_ble_eq_true rfl) dL_versionAt_5 (pc' := 8) rfl (by rw [hXR]; exact Nat.le_of_ble_eq_true rfl) (by rw [hXR]; exact Nat.le_of_ble_eq_true rfl) ?_ ?_
  · rintro E' h' (⟨rfl, hh, ht⟩ | ⟨rfl, hh, ht⟩)
    · have hh := hh.symm
      subst hh
      refine j_catch C hTb (E := "java/lang/IndexOutOfBoundsException") [] ⟨0, 10, 13, 19⟩ [⟨0, 10, 17, 28⟩] rfl (fun z hz => absurd hz List.not_mem_nil) (by decide) (by decide) (by decide) (by decide +kernel) (by decide) ?_
      intro q
      show jW X G 5 2 12 13 [(0, .ref xo), (1, .int p), (2, .int w), (3, .ref oo)] [.ref q] h
      refine j_astore C (i := 4) (x := q) (l' := [(4, .ref q), (0, .ref xo), (1, .int p), (2, .int w), (3, .ref oo)]) dL_versionAt_13 (pc' := 15) rfl (by decide) rfl ?_
      refine j_iconst C (v := nI 1) rfl dL_versionAt_15 (pc' := 16) rfl ?_
      exact j_iretH C E dL_versionAt_16 rfl (Nat.le_of_ble_eq_true rfl) (Nat.le_of_ble_eq_true rfl) ⟨by rw [ht], ⟨v, ho, fun z => absurd (ht.symm.trans z) (by decide)⟩, hE0.same (sf_versionAt p w).1 (sf_versionAt p w).2, fun _ _ _ => rfl⟩
    · have hh := hh.symm
      subst hh
      refine j_catch C hTb (E := "java/lang/IllegalArgumentException") [⟨0, 10, 13, 19⟩] ⟨0, 10, 17, 28⟩ [] rfl (by intro z hz; rcases List.mem_singleton.mp hz with rfl; exact ⟨by decide, "java/lang/IndexOutOfBoundsException", by decide +kernel, by decide, by decide⟩) (by decide) (by decide) (by decide) (by decide +kernel) (by decide) ?_
      intro q
      show jW X G 5 2 12 17 [(0, .ref xo), (1, .int p), (2, .int w), (3, .ref oo)] [.ref q] h
      refine j_astore C (i := 4) (x := q) (l' := [(4, .ref q), (0, .ref xo), (1, .int p), (2, .int w), (3, .ref oo)]) dL_versionAt_17 (pc' := 19) rfl (by decide) rfl ?_
      refine j_iconst C (v := nI 2) rfl dL_versionAt_19 (pc' := 20) rfl ?_
      exact j_iretH C E dL_versionAt_20 rfl (Nat.le_of_ble_eq_true rfl) (Nat.le_of_ble_eq_true rfl) ⟨by rw [ht], ⟨v, ho, fun z => absurd (ht.symm.trans z) (by decide)⟩, hE0.same (sf_versionAt p w).1 (sf_versionAt p w).2, fun _ _ _ => rfl⟩
  · rintro r h' ⟨rfl, hh, h25⟩
    have hh := hh.symm
    subst hh
    show jW X G 5 2 12 8 [(0, .ref xo), (1, .int p), (2, .int w), (3, .ref oo)] [.int ((oVersionAt s a p w).1), .int (nI 0), .ref oo] h
    refine j_i2l C (x := (oVersionAt s a p w).1) rfl dL_versionAt_8 (pc' := 9) rfl ?_
    refine j_last C (a := oo) (N := 1) (j := 0) (f := v) (x := ((oVersionAt s a p w).1).toInt64) ho rfl (by decide) (by decide) dL_versionAt_9 (pc' := 10) rfl ?_
    show jW X G 5 2 12 10 [(0, .ref xo), (1, .int p), (2, .int w), (3, .ref oo)] [] (jup h oo (.inl (G.2.2.1.2.2.2, 1, .inr (.inl (vp_updL v 0 (((oVersionAt s a p w).1).toInt64))))))
    refine j_goto C dL_versionAt_10 (pc' := 21) (by decide) ?_
    refine j_iconst C (v := nI 0) rfl dL_versionAt_21 (pc' := 22) rfl ?_
    exact j_iretH C E dL_versionAt_22 rfl (Nat.le_of_ble_eq_true rfl) (Nat.le_of_ble_eq_true rfl) ⟨by rw [h25], ⟨_, jup_self _ _ _, fun _ => if_pos rfl⟩, (hE0.same (sf_versionAt p w).1 (sf_versionAt p w).2).out hoo ho, fun w0 _ hne => jup_ne hne⟩
set_option maxRecDepth 100000 in
set_option maxHeartbeats 4000000 in
theorem w_inBox (l : Launch) (hlt : l.stackTraces = false) (G : jG) {P : Nat → Prop} {xo oo n : Nat} {xa : Nat → Nat} {s : mS} {a : mA} {h : jH} {v : Nat → Int64} (x y tx ty w : Int32) (hW : WW n s a) (hn : n < 512) (hE0 : cE G P xo xa s a h) (hPn : ∀ w, P w → h w ≠ none) (hoo : P oo) (ho : h oo = some (.inl (G.2.2.1.2.2.2, 1, .inr (.inl v)))) : jM l G yL_inBox wsL_inBox 8 145 3 18 [.ref xo, .int x, .int y, .int tx, .int ty, .int w, .ref oo] h (fun r h' => oLaw G P xo xa oo h (oInBox s a x y tx ty w) r h') (fun _ _ => False) := by
  obtain ⟨th, va, ca, ma, dat, cap, mod, df, vf, dr, mf, Q, hPo⟩ := id hE0
  have W := hW.1
  have J := W.J
  have I := W.I
  have h10 := J.2.2.2.2.1
  refine jM_ofH (cc := cL_inBox) (maxL := 8) (ret := (some .int)) (hh := [(0, 16, 19, 28)]) hlt (by decide +kernel) rfl (Nat.le_of_ble_eq_true rfl) ?_
  intro X C E hTb hXl hXR
  show jW X G 8 0 0 0 [(0, .ref xo), (1, .int x), (2, .int y), (3, .int tx), (4, .int ty), (5, .int w), (6, .ref oo)] [] h
  refine j_aload C (i := 6) (x := oo) 6 rfl dL_inBox_0 (pc' := 2) rfl ?_
  refine j_iconst C (v := nI 0) rfl dL_inBox_2 (pc' := 3) rfl ?_
  refine j_aload_n C (i := 0) (x := xo) 0 rfl dL_inBox_3 (pc' := 4) rfl ?_
  refine j_iload_n C (i := 1) (x := x) 1 rfl dL_inBox_4 (pc' := 5) rfl ?_
  refine j_iload_n C (i := 2) (x := y) 2 rfl dL_inBox_5 (pc' := 6) rfl ?_
  refine j_iload_n C (i := 3) (x := tx) 3 rfl dL_inBox_6 (pc' := 7) rfl ?_
  refine j_iload C (i := 4) (x := ty) 4 rfl dL_inBox_7 (pc' := 9) rfl ?_
  refine j_iload C (i := 5) (x := w) 5 rfl dL_inBox_9 (pc' := 11) rfl ?_
  refine j_callV C (As := [.int x, .int y, .int tx, .int ty, .int w]) (rest := [.int (nI 0), .ref oo]) (c_inBox X.2.1 C.2.2.2.2.2.2.2.2 G Q J I x y tx ty w) (cwV 5 C.2.2.2.2.1 gL_inBox_X3_inBox rfl rfl rfl (by decide +kernel) (by rw [hXR]; decide)) Q.obj rfl rfl rfl (Nat.le_of_ble_eq_true rfl) dL_inBox_11 (pc' := 14) rfl (by rw [hXR]; exact Nat.le_of_ble_eq_true rfl) (by rw [hXR]; exact Nat.le_of_ble_eq_true rfl) ?_ ?_
  · rintro E' h' ⟨rfl, hh, ht⟩
    have hh := hh.symm
    subst hh
    refine j_catch C hTb (E := "java/lang/IllegalArgumentException") [] ⟨0, 16, 19, 28⟩ [] rfl (fun z hz => absurd hz List.not_mem_nil) (by decide) (by decide) (by decide) (by decide +kernel) (by decide) ?_
    intro q
    show jW X G 8 3 18 19 [(0, .ref xo), (1, .int x), (2, .int y), (3, .int tx), (4, .int ty), (5, .int w), (6, .ref oo)] [.ref q] h
    refine j_astore C (i := 7) (x := q) (l' := [(7, .ref q), (0, .ref xo), (1, .int x), (2, .int y), (3, .int tx), (4, .int ty), (5, .int w), (6, .ref oo)]) dL_inBox_19 (pc' := 21) rfl (by decide) rfl ?_
    refine j_iconst C (v := nI 1) rfl dL_inBox_21 (pc' := 22) rfl ?_
    exact j_iretH C E dL_inBox_22 rfl (Nat.le_of_ble_eq_true rfl) (Nat.le_of_ble_eq_true rfl) ⟨by rw [ht], ⟨v, ho, fun z => absurd (ht.symm.trans z) (by decide)⟩, hE0.same (sf_inBox x y tx ty w).1 (sf_inBox x y tx ty w).2, fun _ _ _ => rfl⟩
  · rintro r h' ⟨⟨i1, i2, i3, i4, m, b1, b2, b3, b4, b5, b6, b7, rfl, rfl, rfl, rfl, rfl, rfl⟩, hh⟩
    have hh := hh.symm
    subst hh
    obtain ⟨hba, h25⟩ := box_ans W b1 b2 b3 b4 b5 b6 b7
    rw [← hba]
    show jW X G 8 3 18 14 [(0, .ref xo), (1, .int (nI i1)), (2, .int (nI i2)), (3, .int (nI i3)), (4, .int (nI i4)), (5, .int (nI m)), (6, .ref oo)] [.int ((oInBox s a (nI i1) (nI i2) (nI i3) (nI i4) (nI m)).1), .int (nI 0), .ref oo] h
    refine j_i2l C (x := (oInBox s a (nI i1) (nI i2) (nI i3) (nI i4) (nI m)).1) rfl dL_inBox_14 (pc' := 15) rfl ?_
    refine j_last C (a := oo) (N := 1) (j := 0) (f := v) (x := ((oInBox s a (nI i1) (nI i2) (nI i3) (nI i4) (nI m)).1).toInt64) ho rfl (by decide) (by decide) dL_inBox_15 (pc' := 16) rfl ?_
    show jW X G 8 3 18 16 [(0, .ref xo), (1, .int (nI i1)), (2, .int (nI i2)), (3, .int (nI i3)), (4, .int (nI i4)), (5, .int (nI m)), (6, .ref oo)] [] (jup h oo (.inl (G.2.2.1.2.2.2, 1, .inr (.inl (vp_updL v 0 (((oInBox s a (nI i1) (nI i2) (nI i3) (nI i4) (nI m)).1).toInt64))))))
    refine j_goto C dL_inBox_16 (pc' := 23) (by decide) ?_
    refine j_iconst C (v := nI 0) rfl dL_inBox_23 (pc' := 24) rfl ?_
    exact j_iretH C E dL_inBox_24 rfl (Nat.le_of_ble_eq_true rfl) (Nat.le_of_ble_eq_true rfl) ⟨by rw [h25], ⟨_, jup_self _ _ _, fun _ => if_pos rfl⟩, (hE0.same (sf_inBox (nI i1) (nI i2) (nI i3) (nI i4) (nI m)).1 (sf_inBox (nI i1) (nI i2) (nI i3) (nI i4) (nI m)).2).out hoo ho, fun w0 _ hne => jup_ne hne⟩
set_option maxRecDepth 100000 in
set_option maxHeartbeats 4000000 in
theorem w_pass (l : Launch) (hlt : l.stackTraces = false) (G : jG) {P : Nat → Prop} {xo oo n : Nat} {xa : Nat → Nat} {s : mS} {a : mA} {h : jH} {v : Nat → Int64} (p : Int32) (hW : WW n s a) (hn : n < 512) (hE0 : cE G P xo xa s a h) (hPn : ∀ w, P w → h w ≠ none) (hoo : P oo) (ho : h oo = some (.inl (G.2.2.1.2.2.2, 1, .inr (.inl v)))) : jM l G yL_pass wsL_pass 8 132 2 12 [.ref xo, .int p, .ref oo] h (fun r h' => oLaw G P xo xa oo h (oPass s a p) r h') (fun _ _ => False) := by
  obtain ⟨th, va, ca, ma, dat, cap, mod, df, vf, dr, mf, Q, hPo⟩ := id hE0
  have W := hW.1
  have J := W.J
  have I := W.I
  have h10 := J.2.2.2.2.1
  refine jM_ofH (cc := cL_pass) (maxL := 4) (ret := (some .int)) (hh := [(0, 9, 12, 28), (0, 9, 15, 13)]) hlt (by decide +kernel) rfl (Nat.le_of_ble_eq_true rfl) ?_
  intro X C E hTb hXl hXR
  show jW X G 4 0 0 0 [(0, .ref xo), (1, .int p), (2, .ref oo)] [] h
  refine j_aload_n C (i := 2) (x := oo) 2 rfl dL_pass_0 (pc' := 1) rfl ?_
  refine j_iconst C (v := nI 0) rfl dL_pass_1 (pc' := 2) rfl ?_
  refine j_aload_n C (i := 0) (x := xo) 0 rfl dL_pass_2 (pc' := 3) rfl ?_
  refine j_iload_n C (i := 1) (x := p) 1 rfl dL_pass_3 (pc' := 4) rfl ?_
  refine j_callV C (As := [.int p]) (rest := [.int (nI 0), .ref oo]) (c_pass X.2.1 C.2.2.2.2.2.2.2.2 G Q J I p) (cwV 1 C.2.2.2.2.1 gL_pass_X3_pass rfl rfl rfl (by decide +kernel) (by rw [hXR]; decide)) Q.obj rfl rfl rfl (Nat.le_of_ble_eq_true rfl) dL_pass_4 (pc' := 7) rfl (by rw [hXR]; exact Nat.le_of_ble_eq_true rfl) (by rw [hXR]; exact Nat.le_of_ble_eq_true rfl) ?_ ?_
  · rintro E' h' (⟨rfl, hh, ht⟩ | ⟨rfl, hh, ht⟩)
    · have hh := hh.symm
      subst hh
      refine j_catch C hTb (E := "java/lang/IllegalArgumentException") [] ⟨0, 9, 12, 28⟩ [⟨0, 9, 15, 13⟩] rfl (fun z hz => absurd hz List.not_mem_nil) (by decide) (by decide) (by decide) (by decide +kernel) (by decide) ?_
      intro q
      show jW X G 4 2 12 12 [(0, .ref xo), (1, .int p), (2, .ref oo)] [.ref q] h
      refine j_astore_n C (i := 3) (x := q) (l' := [(3, .ref q), (0, .ref xo), (1, .int p), (2, .ref oo)]) dL_pass_12 (pc' := 13) rfl (by decide) rfl ?_
      refine j_iconst C (v := nI 1) rfl dL_pass_13 (pc' := 14) rfl ?_
      exact j_iretH C E dL_pass_14 rfl (Nat.le_of_ble_eq_true rfl) (Nat.le_of_ble_eq_true rfl) ⟨by rw [ht], ⟨v, ho, fun z => absurd (ht.symm.trans z) (by decide)⟩, hE0.same ((tf_pass p).resolve_left (fun z => absurd (ht.symm.trans z) (by decide))).1 ((tf_pass p).resolve_left (fun z => absurd (ht.symm.trans z) (by decide))).2, fun _ _ _ => rfl⟩
    · have hh := hh.symm
      subst hh
      refine j_catch C hTb (E := "java/lang/IllegalStateException") [⟨0, 9, 12, 28⟩] ⟨0, 9, 15, 13⟩ [] rfl (by intro z hz; rcases List.mem_singleton.mp hz with rfl; exact ⟨by decide, "java/lang/IllegalArgumentException", by decide +kernel, by decide, by decide⟩) (by decide) (by decide) (by decide) (by decide +kernel) (by decide) ?_
      intro q
      show jW X G 4 2 12 15 [(0, .ref xo), (1, .int p), (2, .ref oo)] [.ref q] h
      refine j_astore_n C (i := 3) (x := q) (l' := [(3, .ref q), (0, .ref xo), (1, .int p), (2, .ref oo)]) dL_pass_15 (pc' := 16) rfl (by decide) rfl ?_
      refine j_iconst C (v := nI 2) rfl dL_pass_16 (pc' := 17) rfl ?_
      exact j_iretH C E dL_pass_17 rfl (Nat.le_of_ble_eq_true rfl) (Nat.le_of_ble_eq_true rfl) ⟨by rw [ht], ⟨v, ho, fun z => absurd (ht.symm.trans z) (by decide)⟩, hE0.same ((tf_pass p).resolve_left (fun z => absurd (ht.symm.trans z) (by decide))).1 ((tf_pass p).resolve_left (fun z => absurd (ht.symm.trans z) (by decide))).2, fun _ _ _ => rfl⟩
  · rintro r h' ⟨rfl, h25, Q', hF⟩
    have hE' := Q'.e (fun v hv => hPo v (by rw [← t10_pass (s := s) (a := a) p]; exact hv))
    show jW X G 4 2 12 7 [(0, .ref xo), (1, .int p), (2, .ref oo)] [.int ((oPass s a p).1), .int (nI 0), .ref oo] (h')
    refine j_i2l C (x := (oPass s a p).1) rfl dL_pass_7 (pc' := 8) rfl ?_
    refine j_last C (a := oo) (N := 1) (j := 0) (f := v) (x := ((oPass s a p).1).toInt64) ((hF oo hoo).trans ho) rfl (by decide) (by decide) dL_pass_8 (pc' := 9) rfl ?_
    show jW X G 4 2 12 9 [(0, .ref xo), (1, .int p), (2, .ref oo)] [] (jup (h') oo (.inl (G.2.2.1.2.2.2, 1, .inr (.inl (vp_updL v 0 (((oPass s a p).1).toInt64))))))
    refine j_goto C dL_pass_9 (pc' := 18) (by decide) ?_
    refine j_iconst C (v := nI 0) rfl dL_pass_18 (pc' := 19) rfl ?_
    exact j_iretH C E dL_pass_19 rfl (Nat.le_of_ble_eq_true rfl) (Nat.le_of_ble_eq_true rfl) ⟨by rw [h25], ⟨_, jup_self _ _ _, fun _ => if_pos rfl⟩, hE'.out hoo ((hF oo hoo).trans ho), fun w0 hw hne => (jup_ne hne).trans (hF w0 hw)⟩
set_option maxRecDepth 100000 in
set_option maxHeartbeats 4000000 in
theorem w_take (l : Launch) (hlt : l.stackTraces = false) (G : jG) {P : Nat → Prop} {xo oo n : Nat} {xa : Nat → Nat} {s : mS} {a : mA} {h : jH} {v : Nat → Int64} (p : Int32) (hW : WW n s a) (hn : n < 512) (hE0 : cE G P xo xa s a h) (hPn : ∀ w, P w → h w ≠ none) (hoo : P oo) (ho : h oo = some (.inl (G.2.2.1.2.2.2, 1, .inr (.inl v)))) : jM l G yL_take wsL_take 8 135 1 6 [.ref xo, .int p, .ref oo] h (fun r h' => oLaw G P xo xa oo h (oTake s a p) r h') (fun _ _ => False) := by
  obtain ⟨th, va, ca, ma, dat, cap, mod, df, vf, dr, mf, Q, hPo⟩ := id hE0
  have W := hW.1
  have J := W.J
  have I := W.I
  have h10 := J.2.2.2.2.1
  refine jM_ofH (cc := cL_take) (maxL := 4) (ret := (some .int)) (hh := [(0, 9, 12, 28)]) hlt (by decide +kernel) rfl (Nat.le_of_ble_eq_true rfl) ?_
  intro X C E hTb hXl hXR
  show jW X G 4 0 0 0 [(0, .ref xo), (1, .int p), (2, .ref oo)] [] h
  refine j_aload_n C (i := 2) (x := oo) 2 rfl dL_take_0 (pc' := 1) rfl ?_
  refine j_iconst C (v := nI 0) rfl dL_take_1 (pc' := 2) rfl ?_
  refine j_aload_n C (i := 0) (x := xo) 0 rfl dL_take_2 (pc' := 3) rfl ?_
  refine j_iload_n C (i := 1) (x := p) 1 rfl dL_take_3 (pc' := 4) rfl ?_
  refine j_callV C (As := [.int p]) (rest := [.int (nI 0), .ref oo]) (c_take X.2.1 C.2.2.2.2.2.2.2.2 G Q J I p W.T.1 (fun t ht u hu => by rw [bef_split J W.A W.K W.N ht hu]; exact Nat.le_add_right _ _) (fun t ht u => by rw [bef_cnt J W.A W.K W.N ht]; exact Nat.le_trans (cnt_le _ _) (by omega))) (cwV 1 C.2.2.2.2.1 gL_take_X3_take rfl rfl rfl (by decide +kernel) (by rw [hXR]; decide)) Q.obj rfl rfl rfl (Nat.le_of_ble_eq_true rfl) dL_take_4 (pc' := 7) rfl (by rw [hXR]; exact Nat.le_of_ble_eq_true rfl) (by rw [hXR]; exact Nat.le_of_ble_eq_true rfl) ?_ ?_
  · rintro E' h' ⟨rfl, hh, ht⟩
    have hh := hh.symm
    subst hh
    refine j_catch C hTb (E := "java/lang/IllegalArgumentException") [] ⟨0, 9, 12, 28⟩ [] rfl (fun z hz => absurd hz List.not_mem_nil) (by decide) (by decide) (by decide) (by decide +kernel) (by decide) ?_
    intro q
    show jW X G 4 1 6 12 [(0, .ref xo), (1, .int p), (2, .ref oo)] [.ref q] h
    refine j_astore_n C (i := 3) (x := q) (l' := [(3, .ref q), (0, .ref xo), (1, .int p), (2, .ref oo)]) dL_take_12 (pc' := 13) rfl (by decide) rfl ?_
    refine j_iconst C (v := nI 1) rfl dL_take_13 (pc' := 14) rfl ?_
    exact j_iretH C E dL_take_14 rfl (Nat.le_of_ble_eq_true rfl) (Nat.le_of_ble_eq_true rfl) ⟨by rw [ht], ⟨v, ho, fun z => absurd (ht.symm.trans z) (by decide)⟩, hE0.same ((tf_take p).resolve_left (fun z => absurd (ht.symm.trans z) (by decide))).1 ((tf_take p).resolve_left (fun z => absurd (ht.symm.trans z) (by decide))).2, fun _ _ _ => rfl⟩
  · rintro r h' ⟨rfl, h25, Q', hF⟩
    have hE' := Q'.e (fun v hv => hPo v (by rw [← t10_take (s := s) (a := a) p]; exact hv))
    rw [take_ans W p h25]
    show jW X G 4 1 6 7 [(0, .ref xo), (1, .int p), (2, .ref oo)] [.int ((oTake s a p).1), .int (nI 0), .ref oo] (h')
    refine j_i2l C (x := (oTake s a p).1) rfl dL_take_7 (pc' := 8) rfl ?_
    refine j_last C (a := oo) (N := 1) (j := 0) (f := v) (x := ((oTake s a p).1).toInt64) ((hF oo hoo).trans ho) rfl (by decide) (by decide) dL_take_8 (pc' := 9) rfl ?_
    show jW X G 4 1 6 9 [(0, .ref xo), (1, .int p), (2, .ref oo)] [] (jup (h') oo (.inl (G.2.2.1.2.2.2, 1, .inr (.inl (vp_updL v 0 (((oTake s a p).1).toInt64))))))
    refine j_goto C dL_take_9 (pc' := 15) (by decide) ?_
    refine j_iconst C (v := nI 0) rfl dL_take_15 (pc' := 16) rfl ?_
    exact j_iretH C E dL_take_16 rfl (Nat.le_of_ble_eq_true rfl) (Nat.le_of_ble_eq_true rfl) ⟨by rw [h25], ⟨_, jup_self _ _ _, fun _ => if_pos rfl⟩, hE'.out hoo ((hF oo hoo).trans ho), fun w0 hw hne => (jup_ne hne).trans (hF w0 hw)⟩
set_option maxRecDepth 100000 in
set_option maxHeartbeats 4000000 in
theorem w_inCopy (l : Launch) (hlt : l.stackTraces = false) (G : jG) {P : Nat → Prop} {xo oo n : Nat} {xa : Nat → Nat} {s : mS} {a : mA} {h : jH} {v : Nat → Int64} (p : Int32) (hW : WW n s a) (hn : n < 512) (hE0 : cE G P xo xa s a h) (hPn : ∀ w, P w → h w ≠ none) (hoo : P oo) (ho : h oo = some (.inl (G.2.2.1.2.2.2, 1, .inr (.inl v)))) : jM l G yL_inCopy wsL_inCopy 8 132 1 6 [.ref xo, .int p, .ref oo] h (fun r h' => oLaw G P xo xa oo h (oInCopy s a p) r h') (fun _ _ => False) := by
  obtain ⟨th, va, ca, ma, dat, cap, mod, df, vf, dr, mf, Q, hPo⟩ := id hE0
  have W := hW.1
  have J := W.J
  have I := W.I
  have h10 := J.2.2.2.2.1
  refine jM_ofH (cc := cL_inCopy) (maxL := 4) (ret := (some .int)) (hh := [(0, 9, 12, 19)]) hlt (by decide +kernel) rfl (Nat.le_of_ble_eq_true rfl) ?_
  intro X C E hTb hXl hXR
  show jW X G 4 0 0 0 [(0, .ref xo), (1, .int p), (2, .ref oo)] [] h
  refine j_aload_n C (i := 2) (x := oo) 2 rfl dL_inCopy_0 (pc' := 1) rfl ?_
  refine j_iconst C (v := nI 0) rfl dL_inCopy_1 (pc' := 2) rfl ?_
  refine j_aload_n C (i := 0) (x := xo) 0 rfl dL_inCopy_2 (pc' := 3) rfl ?_
  refine j_iload_n C (i := 1) (x := p) 1 rfl dL_inCopy_3 (pc' := 4) rfl ?_
  refine j_callV C (As := [.int p]) (rest := [.int (nI 0), .ref oo]) (c_inCopy X.2.1 C.2.2.2.2.2.2.2.2 G Q J I p) (cwV 1 C.2.2.2.2.1 gL_inCopy_X3_inCopy rfl rfl rfl (by decide +kernel) (by rw [hXR]; decide)) Q.obj rfl rfl rfl (Nat.le_of_ble_eq_true rfl) dL_inCopy_4 (pc' := 7) rfl (by rw [hXR]; exact Nat.le_of_ble_eq_true rfl) (by rw [hXR]; exact Nat.le_of_ble_eq_true rfl) ?_ ?_
  · rintro E' h' ⟨rfl, hh, ht⟩
    have hh := hh.symm
    subst hh
    refine j_catch C hTb (E := "java/lang/IndexOutOfBoundsException") [] ⟨0, 9, 12, 19⟩ [] rfl (fun z hz => absurd hz List.not_mem_nil) (by decide) (by decide) (by decide) (by decide +kernel) (by decide) ?_
    intro q
    show jW X G 4 1 6 12 [(0, .ref xo), (1, .int p), (2, .ref oo)] [.ref q] h
    refine j_astore_n C (i := 3) (x := q) (l' := [(3, .ref q), (0, .ref xo), (1, .int p), (2, .ref oo)]) dL_inCopy_12 (pc' := 13) rfl (by decide) rfl ?_
    refine j_iconst C (v := nI 1) rfl dL_inCopy_13 (pc' := 14) rfl ?_
    exact j_iretH C E dL_inCopy_14 rfl (Nat.le_of_ble_eq_true rfl) (Nat.le_of_ble_eq_true rfl) ⟨by rw [ht], ⟨v, ho, fun z => absurd (ht.symm.trans z) (by decide)⟩, hE0.same (sf_inCopy p).1 (sf_inCopy p).2, fun _ _ _ => rfl⟩
  · rintro r h' ⟨rfl, hh, h25⟩
    have hh := hh.symm
    subst hh
    show jW X G 4 1 6 7 [(0, .ref xo), (1, .int p), (2, .ref oo)] [.int ((oInCopy s a p).1), .int (nI 0), .ref oo] h
    refine j_i2l C (x := (oInCopy s a p).1) rfl dL_inCopy_7 (pc' := 8) rfl ?_
    refine j_last C (a := oo) (N := 1) (j := 0) (f := v) (x := ((oInCopy s a p).1).toInt64) ho rfl (by decide) (by decide) dL_inCopy_8 (pc' := 9) rfl ?_
    show jW X G 4 1 6 9 [(0, .ref xo), (1, .int p), (2, .ref oo)] [] (jup h oo (.inl (G.2.2.1.2.2.2, 1, .inr (.inl (vp_updL v 0 (((oInCopy s a p).1).toInt64))))))
    refine j_goto C dL_inCopy_9 (pc' := 15) (by decide) ?_
    refine j_iconst C (v := nI 0) rfl dL_inCopy_15 (pc' := 16) rfl ?_
    exact j_iretH C E dL_inCopy_16 rfl (Nat.le_of_ble_eq_true rfl) (Nat.le_of_ble_eq_true rfl) ⟨by rw [h25], ⟨_, jup_self _ _ _, fun _ => if_pos rfl⟩, (hE0.same (sf_inCopy p).1 (sf_inCopy p).2).out hoo ho, fun w0 _ hne => jup_ne hne⟩
