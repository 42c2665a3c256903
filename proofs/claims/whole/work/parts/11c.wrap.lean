set_option maxRecDepth 100000 in
set_option maxHeartbeats 4000000 in
theorem w_open (l : Launch) (hlt : l.stackTraces = false) (G : jG) {P : Nat → Prop} {xo oo n : Nat} {xa : Nat → Nat} {s : mS} {a : mA} {h : jH} {v : Nat → Int64} (hW : WW n s a) (hn : n < 512) (hE0 : cE G P xo xa s a h) (hPn : ∀ w, P w → h w ≠ none) (hoo : P oo) (ho : h oo = some (.inl (G.2.2.1.2.2.2, 1, .inr (.inl v)))) : jM l G yL_open wsL_open 7 110 1 6 [.ref xo, .ref oo] h (fun r h' => oLaw G P xo xa oo h (oOpen s a) r h') (fun _ _ => False) := by
  obtain ⟨th, va, ca, ma, dat, cap, mod, df, vf, dr, mf, Q, hPo⟩ := id hE0
  have W := hW.1
  have J := W.J
  have I := W.I
  have h10 := J.2.2.2.2.1
  refine jM_ofH (cc := cL_open) (maxL := 3) (ret := (some .int)) (hh := [(0, 8, 11, 13)]) hlt (by decide +kernel) rfl (Nat.le_of_ble_eq_true rfl) ?_
  intro X C E hTb hXl hXR
  show jW X G 3 0 0 0 [(0, .ref xo), (1, .ref oo)] [] h
  refine j_aload_n C (i := 1) (x := oo) 1 rfl dL_open_0 (pc' := 1) rfl ?_
  refine j_iconst C (v := nI 0) rfl dL_open_1 (pc' := 2) rfl ?_
  refine j_aload_n C (i := 0) (x := xo) 0 rfl dL_open_2 (pc' := 3) rfl ?_
  refine j_callV C (As := []) (rest := [.int (nI 0), .ref oo]) (c_open X.2.1 C.2.2.2.2.2.2.2.2 G Q J I) (cwV 0 C.2.2.2.2.1 gL_open_X3_open rfl rfl rfl (by decide +kernel) (by rw [hXR]; decide)) Q.obj rfl rfl rfl (Nat.le_of_ble_eq_true rfl) dL_open_3 (pc' := 6) rfl (by rw [hXR]; exact Nat.le_of_ble_eq_true rfl) (by rw [hXR]; exact Nat.le_of_ble_eq_true rfl) ?_ ?_
  · rintro E' h' ⟨rfl, hh, ht⟩
    have hh := hh.symm
    subst hh
    refine j_catch C hTb (E := "java/lang/IllegalStateException") [] ⟨0, 8, 11, 13⟩ [] rfl (fun z hz => absurd hz List.not_mem_nil) (by decide) (by decide) (by decide) (by decide +kernel) (by decide) ?_
    intro q
    show jW X G 3 1 6 11 [(0, .ref xo), (1, .ref oo)] [.ref q] h
    refine j_astore_n C (i := 2) (x := q) (l' := [(2, .ref q), (0, .ref xo), (1, .ref oo)]) dL_open_11 (pc' := 12) rfl (by decide) rfl ?_
    refine j_iconst C (v := nI 1) rfl dL_open_12 (pc' := 13) rfl ?_
    exact j_iretH C E dL_open_13 rfl (Nat.le_of_ble_eq_true rfl) (Nat.le_of_ble_eq_true rfl) ⟨by rw [ht], ⟨v, ho, fun z => absurd (ht.symm.trans z) (by decide)⟩, hE0.same ((tf_open).resolve_left (fun z => absurd (ht.symm.trans z) (by decide))).1 ((tf_open).resolve_left (fun z => absurd (ht.symm.trans z) (by decide))).2, fun _ _ _ => rfl⟩
  · rintro r h' ⟨rfl, h25, Q', hF⟩
    have hE' := Q'.e (fun v hv => hPo v (by rw [← t10_open (s := s) (a := a)]; exact hv))
    show jW X G 3 1 6 6 [(0, .ref xo), (1, .ref oo)] [.int ((oOpen s a).1), .int (nI 0), .ref oo] (h')
    refine j_i2l C (x := (oOpen s a).1) rfl dL_open_6 (pc' := 7) rfl ?_
    refine j_last C (a := oo) (N := 1) (j := 0) (f := v) (x := ((oOpen s a).1).toInt64) ((hF oo hoo).trans ho) rfl (by decide) (by decide) dL_open_7 (pc' := 8) rfl ?_
    show jW X G 3 1 6 8 [(0, .ref xo), (1, .ref oo)] [] (jup (h') oo (.inl (G.2.2.1.2.2.2, 1, .inr (.inl (vp_updL v 0 (((oOpen s a).1).toInt64))))))
    refine j_goto C dL_open_8 (pc' := 14) (by decide) ?_
    refine j_iconst C (v := nI 0) rfl dL_open_14 (pc' := 15) rfl ?_
    exact j_iretH C E dL_open_15 rfl (Nat.le_of_ble_eq_true rfl) (Nat.le_of_ble_eq_true rfl) ⟨by rw [h25], ⟨_, jup_self _ _ _, fun _ => if_pos rfl⟩, hE'.out hoo ((hF oo hoo).trans ho), fun w0 hw hne => (jup_ne hne).trans (hF w0 hw)⟩
set_option maxRecDepth 100000 in
set_option maxHeartbeats 4000000 in
theorem w_close (l : Launch) (hlt : l.stackTraces = false) (G : jG) {P : Nat → Prop} {xo oo n : Nat} {xa : Nat → Nat} {s : mS} {a : mA} {h : jH} {v : Nat → Int64} (p : Int32) (hW : WW n s a) (hn : n < 512) (hE0 : cE G P xo xa s a h) (hPn : ∀ w, P w → h w ≠ none) (hoo : P oo) (ho : h oo = some (.inl (G.2.2.1.2.2.2, 1, .inr (.inl v)))) : jM l G yL_close wsL_close 8 132 2 12 [.ref xo, .int p, .ref oo] h (fun r h' => oLaw G P xo xa oo h (oClose s a p) r h') (fun _ _ => False) := by
  obtain ⟨th, va, ca, ma, dat, cap, mod, df, vf, dr, mf, Q, hPo⟩ := id hE0
  have W := hW.1
  have J := W.J
  have I := W.I
  have h10 := J.2.2.2.2.1
  refine jM_ofH (cc := cL_close) (maxL := 4) (ret := (some .int)) (hh := [(0, 9, 12, 19), (0, 9, 15, 13)]) hlt (by decide +kernel) rfl (Nat.le_of_ble_eq_true rfl) ?_
  intro X C E hTb hXl hXR
  show jW X G 4 0 0 0 [(0, .ref xo), (1, .int p), (2, .ref oo)] [] h
  refine j_aload_n C (i := 2) (x := oo) 2 rfl dL_close_0 (pc' := 1) rfl ?_
  refine j_iconst C (v := nI 0) rfl dL_close_1 (pc' := 2) rfl ?_
  refine j_aload_n C (i := 0) (x := xo) 0 rfl dL_close_2 (pc' := 3) rfl ?_
  refine j_iload_n C (i := 1) (x := p) 1 rfl dL_close_3 (pc' := 4) rfl ?_
  refine j_callV C (As := [.int p]) (rest := [.int (nI 0), .ref oo]) (c_close X.2.1 C.2.2.2.2.2.2.2.2 G Q J I p) (cwV 1 C.2.2.2.2.1 gL_close_X3_close rfl rfl rfl (by decide +kernel) (by rw [hXR]; decide)) Q.obj rfl rfl rfl (Nat.le_of_ble_eq_true rfl) dL_close_4 (pc' := 7) rfl (by rw [hXR]; exact Nat.le_of_ble_eq_true rfl) (by rw [hXR]; exact Nat.le_of_ble_eq_true rfl) ?_ ?_
  · rintro E' h' (⟨rfl, hh, ht⟩ | ⟨rfl, hh, ht⟩)
    · have hh := hh.symm
      subst hh
      refine j_catch C hTb (E := "java/lang/IndexOutOfBoundsException") [] ⟨0, 9, 12, 19⟩ [⟨0, 9, 15, 13⟩] rfl (fun z hz => absurd hz List.not_mem_nil) (by decide) (by decide) (by decide) (by decide +kernel) (by decide) ?_
      intro q
      show jW X G 4 2 12 12 [(0, .ref xo), (1, .int p), (2, .ref oo)] [.ref q] h
      refine j_astore_n C (i := 3) (x := q) (l' := [(3, .ref q), (0, .ref xo), (1, .int p), (2, .ref oo)]) dL_close_12 (pc' := 13) rfl (by decide) rfl ?_
      refine j_iconst C (v := nI 1) rfl dL_close_13 (pc' := 14) rfl ?_
      exact j_iretH C E dL_close_14 rfl (Nat.le_of_ble_eq_true rfl) (Nat.le_of_ble_eq_true rfl) ⟨by rw [ht], ⟨v, ho, fun z => absurd (ht.symm.trans z) (by decide)⟩, hE0.same ((tf_close p).resolve_left (fun z => absurd (ht.symm.trans z) (by decide))).1 ((tf_close p).resolve_left (fun z => absurd (ht.symm.trans z) (by decide))).2, fun _ _ _ => rfl⟩
    · have hh := hh.symm
      subst hh
      refine j_catch C hTb (E := "java/lang/IllegalStateException") [⟨0, 9, 12, 19⟩] ⟨0, 9, 15, 13⟩ [] rfl (by intro z hz; rcases List.mem_singleton.mp hz with rfl; exact ⟨by decide, "java/lang/IndexOutOfBoundsException", by decide +kernel, by decide, by decide⟩) (by decide) (by decide) (by decide) (by decide +kernel) (by decide) ?_
      intro q
      show jW X G 4 2 12 15 [(0, .ref xo), (1, .int p), (2, .ref oo)] [.ref q] h
      refine j_astore_n C (i := 3) (x := q) (l' := [(3, .ref q), (0, .ref xo), (1, .int p), (2, .ref oo)]) dL_close_15 (pc' := 16) rfl (by decide) rfl ?_
      refine j_iconst C (v := nI 2) rfl dL_close_16 (pc' := 17) rfl ?_
      exact j_iretH C E dL_close_17 rfl (Nat.le_of_ble_eq_true rfl) (Nat.le_of_ble_eq_true rfl) ⟨by rw [ht], ⟨v, ho, fun z => absurd (ht.symm.trans z) (by decide)⟩, hE0.same ((tf_close p).resolve_left (fun z => absurd (ht.symm.trans z) (by decide))).1 ((tf_close p).resolve_left (fun z => absurd (ht.symm.trans z) (by decide))).2, fun _ _ _ => rfl⟩
  · rintro r h' ⟨rfl, h25, Q', hF⟩
    have hE' := Q'.e (fun v hv => hPo v (by rw [← t10_close (s := s) (a := a) p]; exact hv))
    show jW X G 4 2 12 7 [(0, .ref xo), (1, .int p), (2, .ref oo)] [.int ((oClose s a p).1), .int (nI 0), .ref oo] (h')
    refine j_i2l C (x := (oClose s a p).1) rfl dL_close_7 (pc' := 8) rfl ?_
    refine j_last C (a := oo) (N := 1) (j := 0) (f := v) (x := ((oClose s a p).1).toInt64) ((hF oo hoo).trans ho) rfl (by decide) (by decide) dL_close_8 (pc' := 9) rfl ?_
    show jW X G 4 2 12 9 [(0, .ref xo), (1, .int p), (2, .ref oo)] [] (jup (h') oo (.inl (G.2.2.1.2.2.2, 1, .inr (.inl (vp_updL v 0 (((oClose s a p).1).toInt64))))))
    refine j_goto C dL_close_9 (pc' := 18) (by decide) ?_
    refine j_iconst C (v := nI 0) rfl dL_close_18 (pc' := 19) rfl ?_
    exact j_iretH C E dL_close_19 rfl (Nat.le_of_ble_eq_true rfl) (Nat.le_of_ble_eq_true rfl) ⟨by rw [h25], ⟨_, jup_self _ _ _, fun _ => if_pos rfl⟩, hE'.out hoo ((hF oo hoo).trans ho), fun w0 hw hne => (jup_ne hne).trans (hF w0 hw)⟩
set_option maxRecDepth 100000 in
set_option maxHeartbeats 4000000 in
theorem w_refer (l : Launch) (hlt : l.stackTraces = false) (G : jG) {P : Nat → Prop} {xo oo n : Nat} {xa : Nat → Nat} {s : mS} {a : mA} {h : jH} {v : Nat → Int64} (p : Int32) (hW : WW n s a) (hn : n < 512) (hE0 : cE G P xo xa s a h) (hPn : ∀ w, P w → h w ≠ none) (hoo : P oo) (ho : h oo = some (.inl (G.2.2.1.2.2.2, 1, .inr (.inl v)))) : jM l G yL_refer wsL_refer 8 132 2 12 [.ref xo, .int p, .ref oo] h (fun r h' => oLaw G P xo xa oo h (oRefer s a p) r h') (fun _ _ => False) := by
  obtain ⟨th, va, ca, ma, dat, cap, mod, df, vf, dr, mf, Q, hPo⟩ := id hE0
  have W := hW.1
  have J := W.J
  have I := W.I
  have h10 := J.2.2.2.2.1
  refine jM_ofH (cc := cL_refer) (maxL := 4) (ret := (some .int)) (hh := [(0, 9, 12, 19), (0, 9, 15, 13)]) hlt (by decide +kernel) rfl (Nat.le_of_ble_eq_true rfl) ?_
  intro X C E hTb hXl hXR
  show jW X G 4 0 0 0 [(0, .ref xo), (1, .int p), (2, .ref oo)] [] h
  refine j_aload_n C (i := 2) (x := oo) 2 rfl dL_refer_0 (pc' := 1) rfl ?_
  refine j_iconst C (v := nI 0) rfl dL_refer_1 (pc' := 2) rfl ?_
  refine j_aload_n C (i := 0) (x := xo) 0 rfl dL_refer_2 (pc' := 3) rfl ?_
  refine j_iload_n C (i := 1) (x := p) 1 rfl dL_refer_3 (pc' := 4) rfl ?_
  refine j_callV C (As := [.int p]) (rest := [.int (nI 0), .ref oo]) (c_refer X.2.1 C.2.2.2.2.2.2.2.2 G Q J I p) (cwV 1 C.2.2.2.2.1 gL_refer_X3_refer rfl rfl rfl (by decide +kernel) (by rw [hXR]; decide)) Q.obj rfl rfl rfl (Nat.le_of_ble_eq_true rfl) dL_refer_4 (pc' := 7) rfl (by rw [hXR]; exact Nat.le_of_ble_eq_true rfl) (by rw [hXR]; exact Nat.le_of_ble_eq_true rfl) ?_ ?_
  · rintro E' h' (⟨rfl, hh, ht⟩ | ⟨rfl, hh, ht⟩)
    · have hh := hh.symm
      subst hh
      refine j_catch C hTb (E := "java/lang/IndexOutOfBoundsException") [] ⟨0, 9, 12, 19⟩ [⟨0, 9, 15, 13⟩] rfl (fun z hz => absurd hz List.not_mem_nil) (by decide) (by decide) (by decide) (by decide +kernel) (by decide) ?_
      intro q
      show jW X G 4 2 12 12 [(0, .ref xo), (1, .int p), (2, .ref oo)] [.ref q] h
      refine j_astore_n C (i := 3) (x := q) (l' := [(3, .ref q), (0, .ref xo), (1, .int p), (2, .ref oo)]) dL_refer_12 (pc' := 13) rfl (by decide) rfl ?_
      refine j_iconst C (v := nI 1) rfl dL_refer_13 (pc' := 14) rfl ?_
      exact j_iretH C E dL_refer_14 rfl (Nat.le_of_ble_eq_true rfl) (Nat.le_of_ble_eq_true rfl) ⟨by rw [ht], ⟨v, ho, fun z => absurd (ht.symm.trans z) (by decide)⟩, hE0.same ((tf_refer p).resolve_left (fun z => absurd (ht.symm.trans z) (by decide))).1 ((tf_refer p).resolve_left (fun z => absurd (ht.symm.trans z) (by decide))).2, fun _ _ _ => rfl⟩
    · have hh := hh.symm
      subst hh
      refine j_catch C hTb (E := "java/lang/IllegalStateException") [⟨0, 9, 12, 19⟩] ⟨0, 9, 15, 13⟩ [] rfl (by intro z hz; rcases List.mem_singleton.mp hz with rfl; exact ⟨by decide, "java/lang/IndexOutOfBoundsException", by decide +kernel, by decide, by decide⟩) (by decide) (by decide) (by decide) (by decide +kernel) (by decide) ?_
      intro q
      show jW X G 4 2 12 15 [(0, .ref xo), (1, .int p), (2, .ref oo)] [.ref q] h
      refine j_astore_n C (i := 3) (x := q) (l' := [(3, .ref q), (0, .ref xo), (1, .int p), (2, .ref oo)]) dL_refer_15 (pc' := 16) rfl (by decide) rfl ?_
      refine j_iconst C (v := nI 2) rfl dL_refer_16 (pc' := 17) rfl ?_
      exact j_iretH C E dL_refer_17 rfl (Nat.le_of_ble_eq_true rfl) (Nat.le_of_ble_eq_true rfl) ⟨by rw [ht], ⟨v, ho, fun z => absurd (ht.symm.trans z) (by decide)⟩, hE0.same ((tf_refer p).resolve_left (fun z => absurd (ht.symm.trans z) (by decide))).1 ((tf_refer p).resolve_left (fun z => absurd (ht.symm.trans z) (by decide))).2, fun _ _ _ => rfl⟩
  · rintro r h' ⟨rfl, h25, ⟨dr', Q'⟩, hF⟩
    have hE' := Q'.e (fun v hv => hPo v (by rw [← t10_refer (s := s) (a := a) p]; exact hv))
    show jW X G 4 2 12 7 [(0, .ref xo), (1, .int p), (2, .ref oo)] [.int ((oRefer s a p).1), .int (nI 0), .ref oo] (h')
    refine j_i2l C (x := (oRefer s a p).1) rfl dL_refer_7 (pc' := 8) rfl ?_
    refine j_last C (a := oo) (N := 1) (j := 0) (f := v) (x := ((oRefer s a p).1).toInt64) ((hF oo hoo).trans ho) rfl (by decide) (by decide) dL_refer_8 (pc' := 9) rfl ?_
    show jW X G 4 2 12 9 [(0, .ref xo), (1, .int p), (2, .ref oo)] [] (jup (h') oo (.inl (G.2.2.1.2.2.2, 1, .inr (.inl (vp_updL v 0 (((oRefer s a p).1).toInt64))))))
    refine j_goto C dL_refer_9 (pc' := 18) (by decide) ?_
    refine j_iconst C (v := nI 0) rfl dL_refer_18 (pc' := 19) rfl ?_
    exact j_iretH C E dL_refer_19 rfl (Nat.le_of_ble_eq_true rfl) (Nat.le_of_ble_eq_true rfl) ⟨by rw [h25], ⟨_, jup_self _ _ _, fun _ => if_pos rfl⟩, hE'.out hoo ((hF oo hoo).trans ho), fun w0 hw hne => (jup_ne hne).trans (hF w0 hw)⟩
set_option maxRecDepth 100000 in
set_option maxHeartbeats 4000000 in
theorem w_point (l : Launch) (hlt : l.stackTraces = false) (G : jG) {P : Nat → Prop} {xo oo n : Nat} {xa : Nat → Nat} {s : mS} {a : mA} {h : jH} {v : Nat → Int64} (p x y : Int32) (hW : WW n s a) (hn : n < 512) (hE0 : cE G P xo xa s a h) (hPn : ∀ w, P w → h w ≠ none) (hoo : P oo) (ho : h oo = some (.inl (G.2.2.1.2.2.2, 1, .inr (.inl v)))) : jM l G yL_point wsL_point 9 247 8 136 [.ref xo, .int p, .int x, .int y, .ref oo] h (fun r h' => oLaw G P xo xa oo h (oPoint s a p x y) r h') (fun _ _ => False) := by
  obtain ⟨th, va, ca, ma, dat, cap, mod, df, vf, dr, mf, Q, hPo⟩ := id hE0
  have W := hW.1
  have J := W.J
  have I := W.I
  have h10 := J.2.2.2.2.1
  refine jM_ofH (cc := cL_point) (maxL := 6) (ret := (some .int)) (hh := [(0, 12, 15, 19), (0, 12, 19, 28), (0, 12, 23, 13)]) hlt (by decide +kernel) rfl (Nat.le_of_ble_eq_true rfl) ?_
  intro X C E hTb hXl hXR
  show jW X G 6 0 0 0 [(0, .ref xo), (1, .int p), (2, .int x), (3, .int y), (4, .ref oo)] [] h
  refine j_aload C (i := 4) (x := oo) 4 rfl dL_point_0 (pc' := 2) rfl ?_
  refine j_iconst C (v := nI 0) rfl dL_point_2 (pc' := 3) rfl ?_
  refine j_aload_n C (i := 0) (x := xo) 0 rfl dL_point_3 (pc' := 4) rfl ?_
  refine j_iload_n C (i := 1) (x := p) 1 rfl dL_point_4 (pc' := 5) rfl ?_
  refine j_iload_n C (i := 2) (x := x) 2 rfl dL_point_5 (pc' := 6) rfl ?_
  refine j_iload_n C (i := 3) (x := y) 3 rfl dL_point_6 (pc' := 7) rfl ?_
  refine j_callV C (As := [.int p, .int x, .int y]) (rest := [.int (nI 0), .ref oo]) (c_point X.2.1 C.2.2.2.2.2.2.2.2 G Q J I p x y hPn hPo (fun _ => W.T.2.2.1 (s 6) (Nat.le_refl _))) (cwV 3 C.2.2.2.2.1 gL_point_X3_point rfl rfl rfl (by decide +kernel) (by rw [hXR]; decide)) Q.obj rfl rfl rfl (Nat.le_of_ble_eq_true rfl) dL_point_7 (pc' := 10) rfl (by rw [hXR]; exact Nat.le_of_ble_eq_true rfl) (by rw [hXR]; exact Nat.le_of_ble_eq_true rfl) ?_ ?_
  · rintro E' h' (⟨rfl, hh, ht⟩ | ⟨rfl, hh, ht⟩ | ⟨rfl, hh, ht⟩)
    · have hh := hh.symm
      subst hh
      refine j_catch C hTb (E := "java/lang/IndexOutOfBoundsException") [] ⟨0, 12, 15, 19⟩ [⟨0, 12, 19, 28⟩, ⟨0, 12, 23, 13⟩] rfl (fun z hz => absurd hz List.not_mem_nil) (by decide) (by decide) (by decide) (by decide +kernel) (by decide) ?_
      intro q
      show jW X G 6 8 136 15 [(0, .ref xo), (1, .int p), (2, .int x), (3, .int y), (4, .ref oo)] [.ref q] h
      refine j_astore C (i := 5) (x := q) (l' := [(5, .ref q), (0, .ref xo), (1, .int p), (2, .int x), (3, .int y), (4, .ref oo)]) dL_point_15 (pc' := 17) rfl (by decide) rfl ?_
      refine j_iconst C (v := nI 1) rfl dL_point_17 (pc' := 18) rfl ?_
      exact j_iretH C E dL_point_18 rfl (Nat.le_of_ble_eq_true rfl) (Nat.le_of_ble_eq_true rfl) ⟨by rw [ht], ⟨v, ho, fun z => absurd (ht.symm.trans z) (by decide)⟩, hE0.same ((tf_point p x y).resolve_left (fun z => absurd (ht.symm.trans z) (by decide))).1 ((tf_point p x y).resolve_left (fun z => absurd (ht.symm.trans z) (by decide))).2, fun _ _ _ => rfl⟩
    · have hh := hh.symm
      subst hh
      refine j_catch C hTb (E := "java/lang/IllegalArgumentException") [⟨0, 12, 15, 19⟩] ⟨0, 12, 19, 28⟩ [⟨0, 12, 23, 13⟩] rfl (by intro z hz; rcases List.mem_singleton.mp hz with rfl; exact ⟨by decide, "java/lang/IndexOutOfBoundsException", by decide +kernel, by decide, by decide⟩) (by decide) (by decide) (by decide) (by decide +kernel) (by decide) ?_
      intro q
      show jW X G 6 8 136 19 [(0, .ref xo), (1, .int p), (2, .int x), (3, .int y), (4, .ref oo)] [.ref q] h
      refine j_astore C (i := 5) (x := q) (l' := [(5, .ref q), (0, .ref xo), (1, .int p), (2, .int x), (3, .int y), (4, .ref oo)]) dL_point_19 (pc' := 21) rfl (by decide) rfl ?_
      refine j_iconst C (v := nI 2) rfl dL_point_21 (pc' := 22) rfl ?_
      exact j_iretH C E dL_point_22 rfl (Nat.le_of_ble_eq_true rfl) (Nat.le_of_ble_eq_true rfl) ⟨by rw [ht], ⟨v, ho, fun z => absurd (ht.symm.trans z) (by decide)⟩, hE0.same ((tf_point p x y).resolve_left (fun z => absurd (ht.symm.trans z) (by decide))).1 ((tf_point p x y).resolve_left (fun z => absurd (ht.symm.trans z) (by decide))).2, fun _ _ _ => rfl⟩
    · have hh := hh.symm
      subst hh
      refine j_catch C hTb (E := "java/lang/IllegalStateException") [⟨0, 12, 15, 19⟩, ⟨0, 12, 19, 28⟩] ⟨0, 12, 23, 13⟩ [] rfl (by intro z hz; rcases List.mem_cons.mp hz with rfl | hz; (exact ⟨by decide, "java/lang/IndexOutOfBoundsException", by decide +kernel, by decide, by decide⟩); rcases List.mem_singleton.mp hz with rfl; exact ⟨by decide, "java/lang/IllegalArgumentException", by decide +kernel, by decide, by decide⟩) (by decide) (by decide) (by decide) (by decide +kernel) (by decide) ?_
      intro q
      show jW X G 6 8 136 23 [(0, .ref xo), (1, .int p), (2, .int x), (3, .int y), (4, .ref oo)] [.ref q] h
      refine j_astore C (i := 5) (x := q) (l' := [(5, .ref q), (0, .ref xo), (1, .int p), (2, .int x), (3, .int y), (4, .ref oo)]) dL_point_23 (pc' := 25) rfl (by decide) rfl ?_
      refine j_iconst C (v := nI 3) rfl dL_point_25 (pc' := 26) rfl ?_
      exact j_iretH C E dL_point_26 rfl (Nat.le_of_ble_eq_true rfl) (Nat.le_of_ble_eq_true rfl) ⟨by rw [ht], ⟨v, ho, fun z => absurd (ht.symm.trans z) (by decide)⟩, hE0.same ((tf_point p x y).resolve_left (fun z => absurd (ht.symm.trans z) (by decide))).1 ((tf_point p x y).resolve_left (fun z => absurd (ht.symm.trans z) (by decide))).2, fun _ _ _ => rfl⟩
  · rintro r h' ⟨rfl, h25, hE', hF⟩
    show jW X G 6 8 136 10 [(0, .ref xo), (1, .int p), (2, .int x), (3, .int y), (4, .ref oo)] [.int ((oPoint s a p x y).1), .int (nI 0), .ref oo] (h')
    refine j_i2l C (x := (oPoint s a p x y).1) rfl dL_point_10 (pc' := 11) rfl ?_
    refine j_last C (a := oo) (N := 1) (j := 0) (f := v) (x := ((oPoint s a p x y).1).toInt64) ((hF oo hoo).trans ho) rfl (by decide) (by decide) dL_point_11 (pc' := 12) rfl ?_
    show jW X G 6 8 136 12 [(0, .ref xo), (1, .int p), (2, .int x), (3, .int y), (4, .ref oo)] [] (jup (h') oo (.inl (G.2.2.1.2.2.2, 1, .inr (.inl (vp_updL v 0 (((oPoint s a p x y).1).toInt64))))))
    refine j_goto C dL_point_12 (pc' := 27) (by decide) ?_
    refine j_iconst C (v := nI 0) rfl dL_point_27 (pc' := 28) rfl ?_
    exact j_iretH C E dL_point_28 rfl (Nat.le_of_ble_eq_true rfl) (Nat.le_of_ble_eq_true rfl) ⟨by rw [h25], ⟨_, jup_self _ _ _, fun _ => if_pos rfl⟩, hE'.out hoo ((hF oo hoo).trans ho), fun w0 hw hne => (jup_ne hne).trans (hF w0 hw)⟩
set_option maxRecDepth 100000 in
set_option maxHeartbeats 4000000 in
theorem w_make (l : Launch) (hlt : l.stackTraces = false) (G : jG) {P : Nat → Prop} {xo oo n : Nat} {xa : Nat → Nat} {s : mS} {a : mA} {h : jH} {v : Nat → Int64} (p w : Int32) (hW : WW n s a) (hn : n < 512) (hE0 : cE G P xo xa s a h) (hPn : ∀ w, P w → h w ≠ none) (hoo : P oo) (ho : h oo = some (.inl (G.2.2.1.2.2.2, 1, .inr (.inl v)))) : jM l G yL_make wsL_make 9 247 8 136 [.ref xo, .int p, .int w, .ref oo] h (fun r h' => oLaw G P xo xa oo h (oMake s a p w) r h') (fun _ _ => False) := by
  obtain ⟨th, va, ca, ma, dat, cap, mod, df, vf, dr, mf, Q, hPo⟩ := id hE0
  have W := hW.1
  have J := W.J
  have I := W.I
  have h10 := J.2.2.2.2.1
  refine jM_ofH (cc := cL_make) (maxL := 5) (ret := (some .int)) (hh := [(0, 10, 13, 19), (0, 10, 17, 28), (0, 10, 21, 13)]) hlt (by decide +kernel) rfl (Nat.le_of_ble_eq_true rfl) ?_
  intro X C E hTb hXl hXR
  show jW X G 5 0 0 0 [(0, .ref xo), (1, .int p), (2, .int w), (3, .ref oo)] [] h
  refine j_aload_n C (i := 3) (x := oo) 3 rfl dL_make_0 (pc' := 1) rfl ?_
  refine j_iconst C (v := nI 0) rfl dL_make_1 (pc' := 2) rfl ?_
  refine j_aload_n C (i := 0) (x := xo) 0 rfl dL_make_2 (pc' := 3) rfl ?_
  refine j_iload_n C (i := 1) (x := p) 1 rfl dL_make_3 (pc' := 4) rfl ?_
  refine j_iload_n C (i := 2) (x := w) 2 rfl dL_make_4 (pc' := 5) rfl ?_
  refine j_callV C (As := [.int p, .int w]) (rest := [.int (nI 0), .ref oo]) (c_make X.2.1 C.2.2.2.2.2.2.2.2 G Q J I p w hPn hPo (fun _ => W.T.2.2.1 (s 6) (Nat.le_refl _)) W.rowD) (cwV 2 C.2.2.2.2.1 gL_make_X3_make rfl rfl rfl (by decide +kernel) (by rw [hXR]; decide)) Q.obj rfl rfl rfl (Nat.le_of_ble_eq_true rfl) dL_make_5 (pc' := 8) rfl (by rw [hXR]; exact Nat.le_of_ble_eq_true rfl) (by rw [hXR]; exact Nat.le_of_ble_eq_true rfl) ?_ ?_
  · rintro E' h' (⟨rfl, hh, ht⟩ | ⟨rfl, hh, ht⟩ | ⟨rfl, hh, ht⟩)
    · have hh := hh.symm
      subst hh
      refine j_catch C hTb (E := "java/lang/IndexOutOfBoundsException") [] ⟨0, 10, 13, 19⟩ [⟨0, 10, 17, 28⟩, ⟨0, 10, 21, 13⟩] rfl (fun z hz => absurd hz List.not_mem_nil) (by decide) (by decide) (by decide) (by decide +kernel) (by decide) ?_
      intro q
      show jW X G 5 8 136 13 [(0, .ref xo), (1, .int p), (2, .int w), (3, .ref oo)] [.ref q] h
      refine j_astore C (i := 4) (x := q) (l' := [(4, .ref q), (0, .ref xo), (1, .int p), (2, .int w), (3, .ref oo)]) dL_make_13 (pc' := 15) rfl (by decide) rfl ?_
      refine j_iconst C (v := nI 1) rfl dL_make_15 (pc' := 16) rfl ?_
      exact j_iretH C E dL_make_16 rfl (Nat.le_of_ble_eq_true rfl) (Nat.le_of_ble_eq_true rfl) ⟨by rw [ht], ⟨v, ho, fun z => absurd (ht.symm.trans z) (by decide)⟩, hE0.same ((tf_make p w).resolve_left (fun z => absurd (ht.symm.trans z) (by decide))).1 ((tf_make p w).resolve_left (fun z => absurd (ht.symm.trans z) (by decide))).2, fun _ _ _ => rfl⟩
    · have hh := hh.symm
      subst hh
      refine j_catch C hTb (E := "java/lang/IllegalArgumentException") [⟨0, 10, 13, 19⟩] ⟨0, 10, 17, 28⟩ [⟨0, 10, 21, 13⟩] rfl (by intro z hz; rcases List.mem_singleton.mp hz with rfl; exact ⟨by decide, "java/lang/IndexOutOfBoundsException", by decide +kernel, by decide, by decide⟩) (by decide) (by decide) (by decide) (by decide +kernel) (by decide) ?_
      intro q
      show jW X G 5 8 136 17 [(0, .ref xo), (1, .int p), (2, .int w), (3, .ref oo)] [.ref q] h
      refine j_astore C (i := 4) (x := q) (l' := [(4, .ref q), (0, .ref xo), (1, .int p), (2, .int w), (3, .ref oo)]) dL_make_17 (pc' := 19) rfl (by decide) rfl ?_
      refine j_iconst C (v := nI 2) rfl dL_make_19 (pc' := 20) rfl ?_
      exact j_iretH C E dL_make_20 rfl (Nat.le_of_ble_eq_true rfl) (Nat.le_of_ble_eq_true rfl) ⟨by rw [ht], ⟨v, ho, fun z => absurd (ht.symm.trans z) (by decide)⟩, hE0.same ((tf_make p w).resolve_left (fun z => absurd (ht.symm.trans z) (by decide))).1 ((tf_make p w).resolve_left (fun z => absurd (ht.symm.trans z) (by decide))).2, fun _ _ _ => rfl⟩
    · have hh := hh.symm
      subst hh
      refine j_catch C hTb (E := "java/lang/IllegalStateException") [⟨0, 10, 13, 19⟩, ⟨0, 10, 17, 28⟩] ⟨0, 10, 21, 13⟩ [] rfl (by intro z hz; rcases List.mem_cons.mp hz with rfl | hz; (exact ⟨by decide, "java/lang/IndexOutOfBoundsException", by decide +kernel, by decide, by decide⟩); rcases List.mem_singleton.mp hz with rfl; exact ⟨by decide, "java/lang/IllegalArgumentException", by decide +kernel, by decide, by decide⟩) (by decide) (by decide) (by decide) (by decide +kernel) (by decide) ?_
      intro q
      show jW X G 5 8 136 21 [(0, .ref xo), (1, .int p), (2, .int w), (3, .ref oo)] [.ref q] h
      refine j_astore C (i := 4) (x := q) (l' := [(4, .ref q), (0, .ref xo), (1, .int p), (2, .int w), (3, .ref oo)]) dL_make_21 (pc' := 23) rfl (by decide) rfl ?_
      refine j_iconst C (v := nI 3) rfl dL_make_23 (pc' := 24) rfl ?_
      exact j_iretH C E dL_make_24 rfl (Nat.le_of_ble_eq_true rfl) (Nat.le_of_ble_eq_true rfl) ⟨by rw [ht], ⟨v, ho, fun z => absurd (ht.symm.trans z) (by decide)⟩, hE0.same ((tf_make p w).resolve_left (fun z => absurd (ht.symm.trans z) (by decide))).1 ((tf_make p w).resolve_left (fun z => absurd (ht.symm.trans z) (by decide))).2, fun _ _ _ => rfl⟩
  · rintro r h' ⟨rfl, h25, hE', hF⟩
    show jW X G 5 8 136 8 [(0, .ref xo), (1, .int p), (2, .int w), (3, .ref oo)] [.int ((oMake s a p w).1), .int (nI 0), .ref oo] (h')
    refine j_i2l C (x := (oMake s a p w).1) rfl dL_make_8 (pc' := 9) rfl ?_
    refine j_last C (a := oo) (N := 1) (j := 0) (f := v) (x := ((oMake s a p w).1).toInt64) ((hF oo hoo).trans ho) rfl (by decide) (by decide) dL_make_9 (pc' := 10) rfl ?_
    show jW X G 5 8 136 10 [(0, .ref xo), (1, .int p), (2, .int w), (3, .ref oo)] [] (jup (h') oo (.inl (G.2.2.1.2.2.2, 1, .inr (.inl (vp_updL v 0 (((oMake s a p w).1).toInt64))))))
    refine j_goto C dL_make_10 (pc' := 25) (by decide) ?_
    refine j_iconst C (v := nI 0) rfl dL_make_25 (pc' := 26) rfl ?_
    exact j_iretH C E dL_make_26 rfl (Nat.le_of_ble_eq_true rfl) (Nat.le_of_ble_eq_true rfl) ⟨by rw [h25], ⟨_, jup_self _ _ _, fun _ => if_pos rfl⟩, hE'.out hoo ((hF oo hoo).trans ho), fun w0 hw hne => (jup_ne hne).trans (hF w0 hw)⟩
set_option maxRecDepth 100000 in
set_option maxHeartbeats 4000000 in
theorem w_move (l : Launch) (hlt : l.stackTraces = false) (G : jG) {P : Nat → Prop} {xo oo n : Nat} {xa : Nat → Nat} {s : mS} {a : mA} {h : jH} {v : Nat → Int64} (p t v0 x y : Int32) (hW : WW n s a) (hn : n < 512) (hE0 : cE G P xo xa s a h) (hPn : ∀ w, P w → h w ≠ none) (hoo : P oo) (ho : h oo = some (.inl (G.2.2.1.2.2.2, 1, .inr (.inl v)))) : jM l G yL_move wsL_move 8 190 6 34 [.ref xo, .int p, .int t, .int v0, .int x, .int y, .ref oo] h (fun r h' => oLaw G P xo xa oo h (oMove s a p t v0 x y) r h') (fun _ _ => False) := by
  obtain ⟨th, va, ca, ma, dat, cap, mod, df, vf, dr, mf, Q, hPo⟩ := id hE0
  have W := hW.1
  have J := W.J
  have I := W.I
  have h10 := J.2.2.2.2.1
  refine jM_ofH (cc := cL_move) (maxL := 8) (ret := (some .int)) (hh := [(0, 16, 19, 19), (0, 16, 23, 28), (0, 16, 27, 13)]) hlt (by decide +kernel) rfl (Nat.le_of_ble_eq_true rfl) ?_
  intro X C E hTb hXl hXR
  show jW X G 8 0 0 0 [(0, .ref xo), (1, .int p), (2, .int t), (3, .int v0), (4, .int x), (5, .int y), (6, .ref oo)] [] h
  refine j_aload C (i := 6) (x := oo) 6 rfl dL_move_0 (pc' := 2) rfl ?_
  refine j_iconst C (v := nI 0) rfl dL_move_2 (pc' := 3) rfl ?_
  refine j_aload_n C (i := 0) (x := xo) 0 rfl dL_move_3 (pc' := 4) rfl ?_
  refine j_iload_n C (i := 1) (x := p) 1 rfl dL_move_4 (pc' := 5) rfl ?_
  refine j_iload_n C (i := 2) (x := t) 2 rfl dL_move_5 (pc' := 6) rfl ?_
  refine j_iload_n C (i := 3) (x := v0) 3 rfl dL_move_6 (pc' := 7) rfl ?_
  refine j_iload C (i := 4) (x := x) 4 rfl dL_move_7 (pc' := 9) rfl ?_
  refine j_iload C (i := 5) (x := y) 5 rfl dL_move_9 (pc' := 11) rfl ?_
  refine j_callV C (As := [.int p, .int t, .int v0, .int x, .int y]) (rest := [.int (nI 0), .ref oo]) (c_move X.2.1 C.2.2.2.2.2.2.2.2 G Q J I p t v0 x y hPn hPo W.K) (cwV 5 C.2.2.2.2.1 gL_move_X3_move rfl rfl rfl (by decide +kernel) (by rw [hXR]; decide)) Q.obj rfl rfl rfl (Nat.le_of_ble_eq_true rfl) dL_move_11 (pc' := 14) rfl (by rw [hXR]; exact Nat.le_of_ble_eq_true rfl) (by rw [hXR]; exact Nat.le_of_ble_eq_true rfl) ?_ ?_
  · rintro E' h' (⟨rfl, hh, ht⟩ | ⟨rfl, hh, ht⟩ | ⟨rfl, hh, ht⟩)
    · have hh := hh.symm
      subst hh
      refine j_catch C hTb (E := "java/lang/IndexOutOfBoundsException") [] ⟨0, 16, 19, 19⟩ [⟨0, 16, 23, 28⟩, ⟨0, 16, 27, 13⟩] rfl (fun z hz => absurd hz List.not_mem_nil) (by decide) (by decide) (by decide) (by decide +kernel) (by decide) ?_
      intro q
      show jW X G 8 6 34 19 [(0, .ref xo), (1, .int p), (2, .int t), (3, .int v0), (4, .int x), (5, .int y), (6, .ref oo)] [.ref q] h
      refine j_astore C (i := 7) (x := q) (l' := [(7, .ref q), (0, .ref xo), (1, .int p), (2, .int t), (3, .int v0), (4, .int x), (5, .int y), (6, .ref oo)]) dL_move_19 (pc' := 21) rfl (by decide) rfl ?_
      refine j_iconst C (v := nI 1) rfl dL_move_21 (pc' := 22) rfl ?_
      exact j_iretH C E dL_move_22 rfl (Nat.le_of_ble_eq_true rfl) (Nat.le_of_ble_eq_true rfl) ⟨by rw [ht], ⟨v, ho, fun z => absurd (ht.symm.trans z) (by decide)⟩, hE0.same ((tf_move p t v0 x y).resolve_left (fun z => absurd (ht.symm.trans z) (by decide))).1 ((tf_move p t v0 x y).resolve_left (fun z => absurd (ht.symm.trans z) (by decide))).2, fun _ _ _ => rfl⟩
    · have hh := hh.symm
      subst hh
      refine j_catch C hTb (E := "java/lang/IllegalArgumentException") [⟨0, 16, 19, 19⟩] ⟨0, 16, 23, 28⟩ [⟨0, 16, 27, 13⟩] rfl (by intro z hz; rcases List.mem_singleton.mp hz with rfl; exact ⟨by decide, "java/lang/IndexOutOfBoundsException", by decide +kernel, by decide, by decide⟩) (by decide) (by decide) (by decide) (by decide +kernel) (by decide) ?_
      intro q
      show jW X G 8 6 34 23 [(0, .ref xo), (1, .int p), (2, .int t), (3, .int v0), (4, .int x), (5, .int y), (6, .ref oo)] [.ref q] h
      refine j_astore C (i := 7) (x := q) (l' := [(7, .ref q), (0, .ref xo), (1, .int p), (2, .int t), (3, .int v0), (4, .int x), (5, .int y), (6, .ref oo)]) dL_move_23 (pc' := 25) rfl (by decide) rfl ?_
      refine j_iconst C (v := nI 2) rfl dL_move_25 (pc' := 26) rfl ?_
      exact j_iretH C E dL_move_26 rfl (Nat.le_of_ble_eq_true rfl) (Nat.le_of_ble_eq_true rfl) ⟨by rw [ht], ⟨v, ho, fun z => absurd (ht.symm.trans z) (by decide)⟩, hE0.same ((tf_move p t v0 x y).resolve_left (fun z => absurd (ht.symm.trans z) (by decide))).1 ((tf_move p t v0 x y).resolve_left (fun z => absurd (ht.symm.trans z) (by decide))).2, fun _ _ _ => rfl⟩
    · have hh := hh.symm
      subst hh
      refine j_catch C hTb (E := "java/lang/IllegalStateException") [⟨0, 16, 19, 19⟩, ⟨0, 16, 23, 28⟩] ⟨0, 16, 27, 13⟩ [] rfl (by intro z hz; rcases List.mem_cons.mp hz with rfl | hz; (exact ⟨by decide, "java/lang/IndexOutOfBoundsException", by decide +kernel, by decide, by decide⟩); rcases List.mem_singleton.mp hz with rfl; exact ⟨by decide, "java/lang/IllegalArgumentException", by decide +kernel, by decide, by decide⟩) (by decide) (by decide) (by decide) (by decide +kernel) (by decide) ?_
      intro q
      show jW X G 8 6 34 27 [(0, .ref xo), (1, .int p), (2, .int t), (3, .int v0), (4, .int x), (5, .int y), (6, .ref oo)] [.ref q] h
      refine j_astore C (i := 7) (x := q) (l' := [(7, .ref q), (0, .ref xo), (1, .int p), (2, .int t), (3, .int v0), (4, .int x), (5, .int y), (6, .ref oo)]) dL_move_27 (pc' := 29) rfl (by decide) rfl ?_
      refine j_iconst C (v := nI 3) rfl dL_move_29 (pc' := 30) rfl ?_
      exact j_iretH C E dL_move_30 rfl (Nat.le_of_ble_eq_true rfl) (Nat.le_of_ble_eq_true rfl) ⟨by rw [ht], ⟨v, ho, fun z => absurd (ht.symm.trans z) (by decide)⟩, hE0.same ((tf_move p t v0 x y).resolve_left (fun z => absurd (ht.symm.trans z) (by decide))).1 ((tf_move p t v0 x y).resolve_left (fun z => absurd (ht.symm.trans z) (by decide))).2, fun _ _ _ => rfl⟩
  · rintro r h' ⟨rfl, h25, hE', hF⟩
    show jW X G 8 6 34 14 [(0, .ref xo), (1, .int p), (2, .int t), (3, .int v0), (4, .int x), (5, .int y), (6, .ref oo)] [.int ((oMove s a p t v0 x y).1), .int (nI 0), .ref oo] (h')
    refine j_i2l C (x := (oMove s a p t v0 x y).1) rfl dL_move_14 (pc' := 15) rfl ?_
    refine j_last C (a := oo) (N := 1) (j := 0) (f := v) (x := ((oMove s a p t v0 x y).1).toInt64) ((hF oo hoo).trans ho) rfl (by decide) (by decide) dL_move_15 (pc' := 16) rfl ?_
    show jW X G 8 6 34 16 [(0, .ref xo), (1, .int p), (2, .int t), (3, .int v0), (4, .int x), (5, .int y), (6, .ref oo)] [] (jup (h') oo (.inl (G.2.2.1.2.2.2, 1, .inr (.inl (vp_updL v 0 (((oMove s a p t v0 x y).1).toInt64))))))
    refine j_goto C dL_move_16 (pc' := 31) (by decide) ?_
    refine j_iconst C (v := nI 0) rfl dL_move_31 (pc' := 32) rfl ?_
    exact j_iretH C E dL_move_32 rfl (Nat.le_of_ble_eq_true rfl) (Nat.le_of_ble_eq_true rfl) ⟨by rw [h25], ⟨_, jup_self _ _ _, fun _ => if_pos rfl⟩, hE'.out hoo ((hF oo hoo).trans ho), fun w0 hw hne => (jup_ne hne).trans (hF w0 hw)⟩
set_option maxRecDepth 100000 in
set_option maxHeartbeats 4000000 in
theorem w_change (l : Launch) (hlt : l.stackTraces = false) (G : jG) {P : Nat → Prop} {xo oo n : Nat} {xa : Nat → Nat} {s : mS} {a : mA} {h : jH} {v : Nat → Int64} (p t v0 : Int32) (hW : WW n s a) (hn : n < 512) (hE0 : cE G P xo xa s a h) (hPn : ∀ w, P w → h w ≠ none) (hoo : P oo) (ho : h oo = some (.inl (G.2.2.1.2.2.2, 1, .inr (.inl v)))) : jM l G yL_change wsL_change 8 188 6 34 [.ref xo, .int p, .int t, .int v0, .ref oo] h (fun r h' => oLaw G P xo xa oo h (oChange s a p t v0) r h') (fun _ _ => False) := by
  obtain ⟨th, va, ca, ma, dat, cap, mod, df, vf, dr, mf, Q, hPo⟩ := id hE0
  have W := hW.1
  have J := W.J
  have I := W.I
  have h10 := J.2.2.2.2.1
  refine jM_ofH (cc := cL_change) (maxL := 6) (ret := (some .int)) (hh := [(0, 12, 15, 19), (0, 12, 19, 28), (0, 12, 23, 13)]) hlt (by decide +kernel) rfl (Nat.le_of_ble_eq_true rfl) ?_
  intro X C E hTb hXl hXR
  show jW X G 6 0 0 0 [(0, .ref xo), (1, .int p), (2, .int t), (3, .int v0), (4, .ref oo)] [] h
  refine j_aload C (i := 4) (x := oo) 4 rfl dL_change_0 (pc' := 2) rfl ?_
  refine j_iconst C (v := nI 0) rfl dL_change_2 (pc' := 3) rfl ?_
  refine j_aload_n C (i := 0) (x := xo) 0 rfl dL_change_3 (pc' := 4) rfl ?_
  refine j_iload_n C (i := 1) (x := p) 1 rfl dL_change_4 (pc' := 5) rfl ?_
  refine j_iload_n C (i := 2) (x := t) 2 rfl dL_change_5 (pc' := 6) rfl ?_
  refine j_iload_n C (i := 3) (x := v0) 3 rfl dL_change_6 (pc' := 7) rfl ?_
  refine j_callV C (As := [.int p, .int t, .int v0]) (rest := [.int (nI 0), .ref oo]) (c_change X.2.1 C.2.2.2.2.2.2.2.2 G Q J I p t v0 hPn hPo W.K W.rowD W.ringD) (cwV 3 C.2.2.2.2.1 gL_change_X3_change rfl rfl rfl (by decide +kernel) (by rw [hXR]; decide)) Q.obj rfl rfl rfl (Nat.le_of_ble_eq_true rfl) dL_change_7 (pc' := 10) rfl (by rw [hXR]; exact Nat.le_of_ble_eq_true rfl) (by rw [hXR]; exact Nat.le_of_ble_eq_true rfl) ?_ ?_
  · rintro E' h' (⟨rfl, hh, ht⟩ | ⟨rfl, hh, ht⟩ | ⟨rfl, hh, ht⟩)
    · have hh := hh.symm
      subst hh
      refine j_catch C hTb (E := "java/lang/IndexOutOfBoundsException") [] ⟨0, 12, 15, 19⟩ [⟨0, 12, 19, 28⟩, ⟨0, 12, 23, 13⟩] rfl (fun z hz => absurd hz List.not_mem_nil) (by decide) (by decide) (by decide) (by decide +kernel) (by decide) ?_
      intro q
      show jW X G 6 6 34 15 [(0, .ref xo), (1, .int p), (2, .int t), (3, .int v0), (4, .ref oo)] [.ref q] h
      refine j_astore C (i := 5) (x := q) (l' := [(5, .ref q), (0, .ref xo), (1, .int p), (2, .int t), (3, .int v0), (4, .ref oo)]) dL_change_15 (pc' := 17) rfl (by decide) rfl ?_
      refine j_iconst C (v := nI 1) rfl dL_change_17 (pc' := 18) rfl ?_
      exact j_iretH C E dL_change_18 rfl (Nat.le_of_ble_eq_true rfl) (Nat.le_of_ble_eq_true rfl) ⟨by rw [ht], ⟨v, ho, fun z => absurd (ht.symm.trans z) (by decide)⟩, hE0.same ((tf_change p t v0).resolve_left (fun z => absurd (ht.symm.trans z) (by decide))).1 ((tf_change p t v0).resolve_left (fun z => absurd (ht.symm.trans z) (by decide))).2, fun _ _ _ => rfl⟩
    · have hh := hh.symm
      subst hh
      refine j_catch C hTb (E := "java/lang/IllegalArgumentException") [⟨0, 12, 15, 19⟩] ⟨0, 12, 19, 28⟩ [⟨0, 12, 23, 13⟩] rfl (by intro z hz; rcases List.mem_singleton.mp hz with rfl; exact ⟨by decide, "java/lang/IndexOutOfBoundsException", by decide +kernel, by decide, by decide⟩) (by decide) (by decide) (by decide) (by decide +kernel) (by decide) ?_
      intro q
      show jW X G 6 6 34 19 [(0, .ref xo), (1, .int p), (2, .int t), (3, .int v0), (4, .ref oo)] [.ref q] h
      refine j_astore C (i := 5) (x := q) (l' := [(5, .ref q), (0, .ref xo), (1, .int p), (2, .int t), (3, .int v0), (4, .ref oo)]) dL_change_19 (pc' := 21) rfl (by decide) rfl ?_
      refine j_iconst C (v := nI 2) rfl dL_change_21 (pc' := 22) rfl ?_
      exact j_iretH C E dL_change_22 rfl (Nat.le_of_ble_eq_true rfl) (Nat.le_of_ble_eq_true rfl) ⟨by rw [ht], ⟨v, ho, fun z => absurd (ht.symm.trans z) (by decide)⟩, hE0.same ((tf_change p t v0).resolve_left (fun z => absurd (ht.symm.trans z) (by decide))).1 ((tf_change p t v0).resolve_left (fun z => absurd (ht.symm.trans z) (by decide))).2, fun _ _ _ => rfl⟩
    · have hh := hh.symm
      subst hh
      refine j_catch C hTb (E := "java/lang/IllegalStateException") [⟨0, 12, 15, 19⟩, ⟨0, 12, 19, 28⟩] ⟨0, 12, 23, 13⟩ [] rfl (by intro z hz; rcases List.mem_cons.mp hz with rfl | hz; (exact ⟨by decide, "java/lang/IndexOutOfBoundsException", by decide +kernel, by decide, by decide⟩); rcases List.mem_singleton.mp hz with rfl; exact ⟨by decide, "java/lang/IllegalArgumentException", by decide +kernel, by decide, by decide⟩) (by decide) (by decide) (by decide) (by decide +kernel) (by decide) ?_
      intro q
      show jW X G 6 6 34 23 [(0, .ref xo), (1, .int p), (2, .int t), (3, .int v0), (4, .ref oo)] [.ref q] h
      refine j_astore C (i := 5) (x := q) (l' := [(5, .ref q), (0, .ref xo), (1, .int p), (2, .int t), (3, .int v0), (4, .ref oo)]) dL_change_23 (pc' := 25) rfl (by decide) rfl ?_
      refine j_iconst C (v := nI 3) rfl dL_change_25 (pc' := 26) rfl ?_
      exact j_iretH C E dL_change_26 rfl (Nat.le_of_ble_eq_true rfl) (Nat.le_of_ble_eq_true rfl) ⟨by rw [ht], ⟨v, ho, fun z => absurd (ht.symm.trans z) (by decide)⟩, hE0.same ((tf_change p t v0).resolve_left (fun z => absurd (ht.symm.trans z) (by decide))).1 ((tf_change p t v0).resolve_left (fun z => absurd (ht.symm.trans z) (by decide))).2, fun _ _ _ => rfl⟩
  · rintro r h' ⟨rfl, h25, hE', hF⟩
    show jW X G 6 6 34 10 [(0, .ref xo), (1, .int p), (2, .int t), (3, .int v0), (4, .ref oo)] [.int ((oChange s a p t v0).1), .int (nI 0), .ref oo] (h')
    refine j_i2l C (x := (oChange s a p t v0).1) rfl dL_change_10 (pc' := 11) rfl ?_
    refine j_last C (a := oo) (N := 1) (j := 0) (f := v) (x := ((oChange s a p t v0).1).toInt64) ((hF oo hoo).trans ho) rfl (by decide) (by decide) dL_change_11 (pc' := 12) rfl ?_
    show jW X G 6 6 34 12 [(0, .ref xo), (1, .int p), (2, .int t), (3, .int v0), (4, .ref oo)] [] (jup (h') oo (.inl (G.2.2.1.2.2.2, 1, .inr (.inl (vp_updL v 0 (((oChange s a p t v0).1).toInt64))))))
    refine j_goto C dL_change_12 (pc' := 27) (by decide) ?_
    refine j_iconst C (v := nI 0) rfl dL_change_27 (pc' := 28) rfl ?_
    exact j_iretH C E dL_change_28 rfl (Nat.le_of_ble_eq_true rfl) (Nat.le_of_ble_eq_true rfl) ⟨by rw [h25], ⟨_, jup_self _ _ _, fun _ => if_pos rfl⟩, hE'.out hoo ((hF oo hoo).trans ho), fun w0 hw hne => (jup_ne hne).trans (hF w0 hw)⟩
