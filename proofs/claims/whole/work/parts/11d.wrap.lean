set_option maxRecDepth 100000 in
set_option maxHeartbeats 4000000 in
theorem w_delete (l : Launch) (hlt : l.stackTraces = false) (G : jG) {P : Nat → Prop} {xo oo n : Nat} {xa : Nat → Nat} {s : mS} {a : mA} {h : jH} {v : Nat → Int64} (p t v0 : Int32) (hW : WW n s a) (hn : n < 512) (hE0 : cE G P xo xa s a h) (hPn : ∀ w, P w → h w ≠ none) (hoo : P oo) (ho : h oo = some (.inl (G.2.2.1.2.2.2, 1, .inr (.inl v)))) : jM l G yL_delete wsL_delete 8 188 4 24 [.ref xo, .int p, .int t, .int v0, .ref oo] h (fun r h' => oLaw G P xo xa oo h (oDelete s a p t v0) r h') (fun _ _ => False) := by
  obtain ⟨th, va, ca, ma, dat, cap, mod, df, vf, dr, mf, Q, hPo⟩ := id hE0
  have W := hW.1
  have J := W.J
  have I := W.I
  have h10 := J.2.2.2.2.1
  refine jM_ofH (cc := cL_delete) (maxL := 6) (ret := (some .int)) (hh := [(0, 12, 15, 19), (0, 12, 19, 13)]) hlt (by decide +kernel) rfl (Nat.le_of_ble_eq_true rfl) ?_
  intro X C E hTb hXl hXR
  show jW X G 6 0 0 0 [(0, .ref xo), (1, .int p), (2, .int t), (3, .int v0), (4, .ref oo)] [] h
  refine j_aload C (i := 4) (x := oo) 4 rfl dL_delete_0 (pc' := 2) rfl ?_
  refine j_iconst C (v := nI 0) rfl dL_delete_2 (pc' := 3) rfl ?_
  refine j_aload_n C (i := 0) (x := xo) 0 rfl dL_delete_3 (pc' := 4) rfl ?_
  refine j_iload_n C (i := 1) (x := p) 1 rfl dL_delete_4 (pc' := 5) rfl ?_
  refine j_iload_n C (i := 2) (x := t) 2 rfl dL_delete_5 (pc' := 6) rfl ?_
  refine j_iload_n C (i := 3) (x := v0) 3 rfl dL_delete_6 (pc' := 7) rfl ?_
  refine j_callV C (As := [.int p, .int t, .int v0]) (rest := [.int (nI 0), .ref oo]) (c_delete X.2.1 C.2.2.2.2.2.2.2.2 G Q J I p t v0 hPn hPo W.K W.gone) (cwV 3 C.2.2.2.2.1 gL_delete_X3_delete rfl rfl rfl (by decide +kernel) (by rw [hXR]; decide)) Q.obj rfl rfl rfl (Nat.le_of_ble_eq_true rfl) dL_delete_7 (pc' := 10) rfl (by rw [hXR]; exact Nat.le_of_ble_eq_true rfl) (by rw [hXR]; exact Nat.le_of_ble_eq_true rfl) ?_ ?_
  · rintro E' h' (⟨rfl, hh, ht⟩ | ⟨rfl, hh, ht⟩)
    · have hh := hh.symm
      subst hh
      refine j_catch C hTb (E := "java/lang/IndexOutOfBoundsException") [] ⟨0, 12, 15, 19⟩ [⟨0, 12, 19, 13⟩] rfl (fun z hz => absurd hz List.not_mem_nil) (by decide) (by decide) (by decide) (by decide +kernel) (by decide) ?_
      intro q
      show jW X G 6 4 24 15 [(0, .ref xo), (1, .int p), (2, .int t), (3, .int v0), (4, .ref oo)] [.ref q] h
      refine j_astore C (i := 5) (x := q) (l' := [(5, .ref q), (0, .ref xo), (1, .int p), (2, .int t), (3, .int v0), (4, .ref oo)]) dL_delete_15 (pc' := 17) rfl (by decide) rfl ?_
      refine j_iconst C (v := nI 1) rfl dL_delete_17 (pc' := 18) rfl ?_
      exact j_iretH C E dL_delete_18 rfl (Nat.le_of_ble_eq_true rfl) (Nat.le_of_ble_eq_true rfl) ⟨by rw [ht], ⟨v, ho, fun z => absurd (ht.symm.trans z) (by decide)⟩, hE0.same ((tf_delete p t v0).resolve_left (fun z => absurd (ht.symm.trans z) (by decide))).1 ((tf_delete p t v0).resolve_left (fun z => absurd (ht.symm.trans z) (by decide))).2, fun _ _ _ => rfl⟩
    · have hh := hh.symm
      subst hh
      refine j_catch C hTb (E := "java/lang/IllegalStateException") [⟨0, 12, 15, 19⟩] ⟨0, 12, 19, 13⟩ [] rfl (by intro z hz; rcases List.mem_singleton.mp hz with rfl; exact ⟨by decide, "java/lang/IndexOutOfBoundsException", by decide +kernel, by decide, by decide⟩) (by decide) (by decide) (by decide) (by decide +kernel) (by decide) ?_
      intro q
      show jW X G 6 4 24 19 [(0, .ref xo), (1, .int p), (2, .int t), (3, .int v0), (4, .ref oo)] [.ref q] h
      refine j_astore C (i := 5) (x := q) (l' := [(5, .ref q), (0, .ref xo), (1, .int p), (2, .int t), (3, .int v0), (4, .ref oo)]) dL_delete_19 (pc' := 21) rfl (by decide) rfl ?_
      refine j_iconst C (v := nI 2) rfl dL_delete_21 (pc' := 22) rfl ?_
      exact j_iretH C E dL_delete_22 rfl (Nat.le_of_ble_eq_true rfl) (Nat.le_of_ble_eq_true rfl) ⟨by rw [ht], ⟨v, ho, fun z => absurd (ht.symm.trans z) (by decide)⟩, hE0.same ((tf_delete p t v0).resolve_left (fun z => absurd (ht.symm.trans z) (by decide))).1 ((tf_delete p t v0).resolve_left (fun z => absurd (ht.symm.trans z) (by decide))).2, fun _ _ _ => rfl⟩
  · rintro r h' ⟨rfl, h25, hE', hF⟩
    show jW X G 6 4 24 10 [(0, .ref xo), (1, .int p), (2, .int t), (3, .int v0), (4, .ref oo)] [.int ((oDelete s a p t v0).1), .int (nI 0), .ref oo] (h')
    refine j_i2l C (x := (oDelete s a p t v0).1) rfl dL_delete_10 (pc' := 11) rfl ?_
    refine j_last C (a := oo) (N := 1) (j := 0) (f := v) (x := ((oDelete s a p t v0).1).toInt64) ((hF oo hoo).trans ho) rfl (by decide) (by decide) dL_delete_11 (pc' := 12) rfl ?_
    show jW X G 6 4 24 12 [(0, .ref xo), (1, .int p), (2, .int t), (3, .int v0), (4, .ref oo)] [] (jup (h') oo (.inl (G.2.2.1.2.2.2, 1, .inr (.inl (vp_updL v 0 (((oDelete s a p t v0).1).toInt64))))))
    refine j_goto C dL_delete_12 (pc' := 23) (by decide) ?_
    refine j_iconst C (v := nI 0) rfl dL_delete_23 (pc' := 24) rfl ?_
    exact j_iretH C E dL_delete_24 rfl (Nat.le_of_ble_eq_true rfl) (Nat.le_of_ble_eq_true rfl) ⟨by rw [h25], ⟨_, jup_self _ _ _, fun _ => if_pos rfl⟩, hE'.out hoo ((hF oo hoo).trans ho), fun w0 hw hne => (jup_ne hne).trans (hF w0 hw)⟩
set_option maxRecDepth 100000 in
set_option maxHeartbeats 4000000 in
theorem w_undo (l : Launch) (hlt : l.stackTraces = false) (G : jG) {P : Nat → Prop} {xo oo n : Nat} {xa : Nat → Nat} {s : mS} {a : mA} {h : jH} {v : Nat → Int64} (p q0 : Int32) (hW : WW n s a) (hn : n < 512) (hE0 : cE G P xo xa s a h) (hPn : ∀ w, P w → h w ≠ none) (hoo : P oo) (ho : h oo = some (.inl (G.2.2.1.2.2.2, 1, .inr (.inl v)))) : jM l G yL_undo wsL_undo 8 188 43 258 [.ref xo, .int p, .int q0, .ref oo] h (fun r h' => oLaw G P xo xa oo h (oUndo s a p q0) r h') (fun _ _ => False) := by
  obtain ⟨th, va, ca, ma, dat, cap, mod, df, vf, dr, mf, Q, hPo⟩ := id hE0
  have W := hW.1
  have J := W.J
  have I := W.I
  have h10 := J.2.2.2.2.1
  refine jM_ofH (cc := cL_undo) (maxL := 5) (ret := (some .int)) (hh := [(0, 10, 13, 19), (0, 10, 17, 13)]) hlt (by decide +kernel) rfl (Nat.le_of_ble_eq_true rfl) ?_
  intro X C E hTb hXl hXR
  show jW X G 5 0 0 0 [(0, .ref xo), (1, .int p), (2, .int q0), (3, .ref oo)] [] h
  refine j_aload_n C (i := 3) (x := oo) 3 rfl dL_undo_0 (pc' := 1) rfl ?_
  refine j_iconst C (v := nI 0) rfl dL_undo_1 (pc' := 2) rfl ?_
  refine j_aload_n C (i := 0) (x := xo) 0 rfl dL_undo_2 (pc' := 3) rfl ?_
  refine j_iload_n C (i := 1) (x := p) 1 rfl dL_undo_3 (pc' := 4) rfl ?_
  refine j_iload_n C (i := 2) (x := q0) 2 rfl dL_undo_4 (pc' := 5) rfl ?_
  refine j_callV C (As := [.int p, .int q0]) (rest := [.int (nI 0), .ref oo]) (c_undo X.2.1 C.2.2.2.2.2.2.2.2 G Q J I p q0 hW (by omega) hPn hPo) (cwV 2 C.2.2.2.2.1 gL_undo_X3_undo rfl rfl rfl (by decide +kernel) (by rw [hXR]; decide)) Q.obj rfl rfl rfl (Nat.le_of_ble_eq_true rfl) dL_undo_5 (pc' := 8) rfl (by rw [hXR]; exact Nat.le_of_ble_eq_true rfl) (by rw [hXR]; exact Nat.le_of_ble_eq_true rfl) ?_ ?_
  · rintro E' h' (⟨rfl, hh, ht⟩ | ⟨rfl, hh, ht⟩)
    · have hh := hh.symm
      subst hh
      refine j_catch C hTb (E := "java/lang/IndexOutOfBoundsException") [] ⟨0, 10, 13, 19⟩ [⟨0, 10, 17, 13⟩] rfl (fun z hz => absurd hz List.not_mem_nil) (by decide) (by decide) (by decide) (by decide +kernel) (by decide) ?_
      intro q
      show jW X G 5 43 258 13 [(0, .ref xo), (1, .int p), (2, .int q0), (3, .ref oo)] [.ref q] h
      refine j_astore C (i := 4) (x := q) (l' := [(4, .ref q), (0, .ref xo), (1, .int p), (2, .int q0), (3, .ref oo)]) dL_undo_13 (pc' := 15) rfl (by decide) rfl ?_
      refine j_iconst C (v := nI 1) rfl dL_undo_15 (pc' := 16) rfl ?_
      exact j_iretH C E dL_undo_16 rfl (Nat.le_of_ble_eq_true rfl) (Nat.le_of_ble_eq_true rfl) ⟨by rw [ht], ⟨v, ho, fun z => absurd (ht.symm.trans z) (by decide)⟩, hE0.same ((tf_undo p q0).resolve_left (fun z => absurd (ht.symm.trans z) (by decide))).1 ((tf_undo p q0).resolve_left (fun z => absurd (ht.symm.trans z) (by decide))).2, fun _ _ _ => rfl⟩
    · have hh := hh.symm
      subst hh
      refine j_catch C hTb (E := "java/lang/IllegalStateException") [⟨0, 10, 13, 19⟩] ⟨0, 10, 17, 13⟩ [] rfl (by intro z hz; rcases List.mem_singleton.mp hz with rfl; exact ⟨by decide, "java/lang/IndexOutOfBoundsException", by decide +kernel, by decide, by decide⟩) (by decide) (by decide) (by decide) (by decide +kernel) (by decide) ?_
      intro q
      show jW X G 5 43 258 17 [(0, .ref xo), (1, .int p), (2, .int q0), (3, .ref oo)] [.ref q] h
      refine j_astore C (i := 4) (x := q) (l' := [(4, .ref q), (0, .ref xo), (1, .int p), (2, .int q0), (3, .ref oo)]) dL_undo_17 (pc' := 19) rfl (by decide) rfl ?_
      refine j_iconst C (v := nI 2) rfl dL_undo_19 (pc' := 20) rfl ?_
      exact j_iretH C E dL_undo_20 rfl (Nat.le_of_ble_eq_true rfl) (Nat.le_of_ble_eq_true rfl) ⟨by rw [ht], ⟨v, ho, fun z => absurd (ht.symm.trans z) (by decide)⟩, hE0.same ((tf_undo p q0).resolve_left (fun z => absurd (ht.symm.trans z) (by decide))).1 ((tf_undo p q0).resolve_left (fun z => absurd (ht.symm.trans z) (by decide))).2, fun _ _ _ => rfl⟩
  · rintro r h' ⟨rfl, h25, hE', hF⟩
    show jW X G 5 43 258 8 [(0, .ref xo), (1, .int p), (2, .int q0), (3, .ref oo)] [.int ((oUndo s a p q0).1), .int (nI 0), .ref oo] (h')
    refine j_i2l C (x := (oUndo s a p q0).1) rfl dL_undo_8 (pc' := 9) rfl ?_
    refine j_last C (a := oo) (N := 1) (j := 0) (f := v) (x := ((oUndo s a p q0).1).toInt64) ((hF oo hoo).trans ho) rfl (by decide) (by decide) dL_undo_9 (pc' := 10) rfl ?_
    show jW X G 5 43 258 10 [(0, .ref xo), (1, .int p), (2, .int q0), (3, .ref oo)] [] (jup (h') oo (.inl (G.2.2.1.2.2.2, 1, .inr (.inl (vp_updL v 0 (((oUndo s a p q0).1).toInt64))))))
    refine j_goto C dL_undo_10 (pc' := 21) (by decide) ?_
    refine j_iconst C (v := nI 0) rfl dL_undo_21 (pc' := 22) rfl ?_
    exact j_iretH C E dL_undo_22 rfl (Nat.le_of_ble_eq_true rfl) (Nat.le_of_ble_eq_true rfl) ⟨by rw [h25], ⟨_, jup_self _ _ _, fun _ => if_pos rfl⟩, hE'.out hoo ((hF oo hoo).trans ho), fun w0 hw hne => (jup_ne hne).trans (hF w0 hw)⟩
set_option maxRecDepth 100000 in
set_option maxHeartbeats 4000000 in
theorem w_latest (l : Launch) (hlt : l.stackTraces = false) (G : jG) {P : Nat → Prop} {xo oo n : Nat} {xa : Nat → Nat} {s : mS} {a : mA} {h : jH} {v : Nat → Int64} (p : Int32) (hW : WW n s a) (hn : n < 512) (hE0 : cE G P xo xa s a h) (hPn : ∀ w, P w → h w ≠ none) (hoo : P oo) (ho : h oo = some (.inl (G.2.2.1.2.2.2, 1, .inr (.inl v)))) : jM l G yL_latest wsL_latest 8 132 1 6 [.ref xo, .int p, .ref oo] h (fun r h' => oLaw G P xo xa oo h (oLatest s a p) r h') (fun _ _ => False) := by
  obtain ⟨th, va, ca, ma, dat, cap, mod, df, vf, dr, mf, Q, hPo⟩ := id hE0
  have W := hW.1
  have J := W.J
  have I := W.I
  have h10 := J.2.2.2.2.1
  refine jM_ofH (cc := cL_latest) (maxL := 4) (ret := (some .int)) (hh := [(0, 9, 12, 19)]) hlt (by decide +kernel) rfl (Nat.le_of_ble_eq_true rfl) ?_
  intro X C E hTb hXl hXR
  show jW X G 4 0 0 0 [(0, .ref xo), (1, .int p), (2, .ref oo)] [] h
  refine j_aload_n C (i := 2) (x := oo) 2 rfl dL_latest_0 (pc' := 1) rfl ?_
  refine j_iconst C (v := nI 0) rfl dL_latest_1 (pc' := 2) rfl ?_
  refine j_aload_n C (i := 0) (x := xo) 0 rfl dL_latest_2 (pc' := 3) rfl ?_
  refine j_iload_n C (i := 1) (x := p) 1 rfl dL_latest_3 (pc' := 4) rfl ?_
  refine j_callV C (As := [.int p]) (rest := [.int (nI 0), .ref oo]) (c_latest X.2.1 C.2.2.2.2.2.2.2.2 G Q J I p W.K) (cwV 1 C.2.2.2.2.1 gL_latest_X3_latest rfl rfl rfl (by decide +kernel) (by rw [hXR]; decide)) Q.obj rfl rfl rfl (Nat.le_of_ble_eq_true rfl) dL_latest_4 (pc' := 7) rfl (by rw [hXR]; exact Nat.le_of_ble_eq_true rfl) (by rw [hXR]; exact Nat.le_of_ble_eq_true rfl) ?_ ?_
  · rintro E' h' ⟨rfl, hh, ht⟩
    have hh := hh.symm
    subst hh
    refine j_catch C hTb (E := "java/lang/IndexOutOfBoundsException") [] ⟨0, 9, 12, 19⟩ [] rfl (fun z hz => absurd hz List.not_mem_nil) (by decide) (by decide) (by decide) (by decide +kernel) (by decide) ?_
    intro q
    show jW X G 4 1 6 12 [(0, .ref xo), (1, .int p), (2, .ref oo)] [.ref q] h
    refine j_astore_n C (i := 3) (x := q) (l' := [(3, .ref q), (0, .ref xo), (1, .int p), (2, .ref oo)]) dL_latest_12 (pc' := 13) rfl (by decide) rfl ?_
    refine j_iconst C (v := nI 1) rfl dL_latest_13 (pc' := 14) rfl ?_
    exact j_iretH C E dL_latest_14 rfl (Nat.le_of_ble_eq_true rfl) (Nat.le_of_ble_eq_true rfl) ⟨by rw [ht], ⟨v, ho, fun z => absurd (ht.symm.trans z) (by decide)⟩, hE0.same (sf_latest p).1 (sf_latest p).2, fun _ _ _ => rfl⟩
  · rintro r h' ⟨rfl, hh, h25⟩
    have hh := hh.symm
    subst hh
    show jW X G 4 1 6 7 [(0, .ref xo), (1, .int p), (2, .ref oo)] [.int ((oLatest s a p).1), .int (nI 0), .ref oo] h
    refine j_i2l C (x := (oLatest s a p).1) rfl dL_latest_7 (pc' := 8) rfl ?_
    refine j_last C (a := oo) (N := 1) (j := 0) (f := v) (x := ((oLatest s a p).1).toInt64) ho rfl (by decide) (by decide) dL_latest_8 (pc' := 9) rfl ?_
    show jW X G 4 1 6 9 [(0, .ref xo), (1, .int p), (2, .ref oo)] [] (jup h oo (.inl (G.2.2.1.2.2.2, 1, .inr (.inl (vp_updL v 0 (((oLatest s a p).1).toInt64))))))
    refine j_goto C dL_latest_9 (pc' := 15) (by decide) ?_
    refine j_iconst C (v := nI 0) rfl dL_latest_15 (pc' := 16) rfl ?_
    exact j_iretH C E dL_latest_16 rfl (Nat.le_of_ble_eq_true rfl) (Nat.le_of_ble_eq_true rfl) ⟨by rw [h25], ⟨_, jup_self _ _ _, fun _ => if_pos rfl⟩, (hE0.same (sf_latest p).1 (sf_latest p).2).out hoo ho, fun w0 _ hne => jup_ne hne⟩
set_option maxRecDepth 100000 in
set_option maxHeartbeats 4000000 in
theorem w_isThere (l : Launch) (hlt : l.stackTraces = false) (G : jG) {P : Nat → Prop} {xo oo n : Nat} {xa : Nat → Nat} {s : mS} {a : mA} {h : jH} {v : Nat → Int64} (p : Int32) (hW : WW n s a) (hn : n < 512) (hE0 : cE G P xo xa s a h) (hPn : ∀ w, P w → h w ≠ none) (hoo : P oo) (ho : h oo = some (.inl (G.2.2.1.2.2.2, 1, .inr (.inl v)))) : jM l G yL_isThere wsL_isThere 8 132 1 6 [.ref xo, .int p, .ref oo] h (fun r h' => oLaw G P xo xa oo h (oIsThere s a p) r h') (fun _ _ => False) := by
  obtain ⟨th, va, ca, ma, dat, cap, mod, df, vf, dr, mf, Q, hPo⟩ := id hE0
  have W := hW.1
  have J := W.J
  have I := W.I
  have h10 := J.2.2.2.2.1
  refine jM_ofH (cc := cL_isThere) (maxL := 4) (ret := (some .int)) (hh := [(0, 16, 19, 19)]) hlt (by decide +kernel) rfl (Nat.le_of_ble_eq_true rfl) ?_
  intro X C E hTb hXl hXR
  show jW X G 4 0 0 0 [(0, .ref xo), (1, .int p), (2, .ref oo)] [] h
  refine j_aload_n C (i := 2) (x := oo) 2 rfl dL_isThere_0 (pc' := 1) rfl ?_
  refine j_iconst C (v := nI 0) rfl dL_isThere_1 (pc' := 2) rfl ?_
  refine j_aload_n C (i := 0) (x := xo) 0 rfl dL_isThere_2 (pc' := 3) rfl ?_
  refine j_iload_n C (i := 1) (x := p) 1 rfl dL_isThere_3 (pc' := 4) rfl ?_
  refine j_callV C (As := [.int p]) (rest := [.int (nI 0), .ref oo]) (c_isThere X.2.1 C.2.2.2.2.2.2.2.2 G Q J I p) (cwV 1 C.2.2.2.2.1 gL_isThere_X3_isThere rfl rfl rfl (by decide +kernel) (by rw [hXR]; decide)) Q.obj rfl rfl rfl (Nat.le_of_ble_eq_true rfl) dL_isThere_4 (pc' := 7) rfl (by rw [hXR]; exact Nat.le_of_ble_eq_true rfl) (by rw [hXR]; exact Nat.le_of_ble_eq_true rfl) ?_ ?_
  · rintro E' h' ⟨rfl, hh, ht⟩
    have hh := hh.symm
    subst hh
    refine j_catch C hTb (E := "java/lang/IndexOutOfBoundsException") [] ⟨0, 16, 19, 19⟩ [] rfl (fun z hz => absurd hz List.not_mem_nil) (by decide) (by decide) (by decide) (by decide +kernel) (by decide) ?_
    intro q
    show jW X G 4 1 6 19 [(0, .ref xo), (1, .int p), (2, .ref oo)] [.ref q] h
    refine j_astore_n C (i := 3) (x := q) (l' := [(3, .ref q), (0, .ref xo), (1, .int p), (2, .ref oo)]) dL_isThere_19 (pc' := 20) rfl (by decide) rfl ?_
    refine j_iconst C (v := nI 1) rfl dL_isThere_20 (pc' := 21) rfl ?_
    exact j_iretH C E dL_isThere_21 rfl (Nat.le_of_ble_eq_true rfl) (Nat.le_of_ble_eq_true rfl) ⟨by rw [ht], ⟨v, ho, fun z => absurd (ht.symm.trans z) (by decide)⟩, hE0.same (sf_isThere p).1 (sf_isThere p).2, fun _ _ _ => rfl⟩
  · rintro r h' ⟨rfl, hh, h25⟩
    have hh := hh.symm
    subst hh
    show jW X G 4 1 6 7 [(0, .ref xo), (1, .int p), (2, .ref oo)] [.int ((oIsThere s a p).1), .int (nI 0), .ref oo] h
    refine j_if_eq C dL_isThere_7 (tgt := 14) (by decide) (pc' := 10) rfl (fun c_1 => ?_) (fun c_1 => ?_)
    · refine j_lconst C (v := lN 0) rfl dL_isThere_14 (pc' := 15) rfl ?_
      refine j_last C (a := oo) (N := 1) (j := 0) (f := v) (x := lN 0) ho rfl (by decide) (by decide) dL_isThere_15 (pc' := 16) rfl ?_
      show jW X G 4 1 6 16 [(0, .ref xo), (1, .int p), (2, .ref oo)] [] (jup h oo (.inl (G.2.2.1.2.2.2, 1, .inr (.inl (vp_updL v 0 (lN 0))))))
      refine j_goto C dL_isThere_16 (pc' := 22) (by decide) ?_
      refine j_iconst C (v := nI 0) rfl dL_isThere_22 (pc' := 23) rfl ?_
      exact j_iretH C E dL_isThere_23 rfl (Nat.le_of_ble_eq_true rfl) (Nat.le_of_ble_eq_true rfl) ⟨by rw [h25], ⟨_, jup_self _ _ _, fun _ => (if_pos rfl).trans (by rw [show (oIsThere s a p).1 = nI 0 from c_1]; rfl)⟩, (hE0.same (sf_isThere p).1 (sf_isThere p).2).out hoo ho, fun w0 _ hne => jup_ne hne⟩
    · refine j_lconst C (v := lN 1) rfl dL_isThere_10 (pc' := 11) rfl ?_
      refine j_goto C dL_isThere_11 (pc' := 15) (by decide) ?_
      refine j_last C (a := oo) (N := 1) (j := 0) (f := v) (x := lN 1) ho rfl (by decide) (by decide) dL_isThere_15 (pc' := 16) rfl ?_
      show jW X G 4 1 6 16 [(0, .ref xo), (1, .int p), (2, .ref oo)] [] (jup h oo (.inl (G.2.2.1.2.2.2, 1, .inr (.inl (vp_updL v 0 (lN 1))))))
      refine j_goto C dL_isThere_16 (pc' := 22) (by decide) ?_
      refine j_iconst C (v := nI 0) rfl dL_isThere_22 (pc' := 23) rfl ?_
      exact j_iretH C E dL_isThere_23 rfl (Nat.le_of_ble_eq_true rfl) (Nat.le_of_ble_eq_true rfl) ⟨by rw [h25], ⟨_, jup_self _ _ _, fun _ => (if_pos rfl).trans (by rw [show (oIsThere s a p).1 = nI 1 from ((isThere_01 p).resolve_left c_1)]; rfl)⟩, (hE0.same (sf_isThere p).1 (sf_isThere p).2).out hoo ho, fun w0 _ hne => jup_ne hne⟩
set_option maxRecDepth 100000 in
set_option maxHeartbeats 4000000 in
theorem w_whereIs (l : Launch) (hlt : l.stackTraces = false) (G : jG) {P : Nat → Prop} {xo oo n : Nat} {xa : Nat → Nat} {s : mS} {a : mA} {h : jH} {v : Nat → Int64} (p : Int32) (hW : WW n s a) (hn : n < 512) (hE0 : cE G P xo xa s a h) (hPn : ∀ w, P w → h w ≠ none) (hoo : P oo) (ho : h oo = some (.inl (G.2.2.1.2.2.2, 1, .inr (.inl v)))) : jM l G yL_whereIs wsL_whereIs 8 133 2 12 [.ref xo, .int p, .ref oo] h (fun r h' => oLaw G P xo xa oo h (oWhereIs s a p) r h') (fun _ _ => False) := by
  obtain ⟨th, va, ca, ma, dat, cap, mod, df, vf, dr, mf, Q, hPo⟩ := id hE0
  have W := hW.1
  have J := W.J
  have I := W.I
  have h10 := J.2.2.2.2.1
  refine jM_ofH (cc := cL_whereIs) (maxL := 4) (ret := (some .int)) (hh := [(0, 9, 12, 19), (0, 9, 15, 57)]) hlt (by decide +kernel) rfl (Nat.le_of_ble_eq_true rfl) ?_
  intro X C E hTb hXl hXR
  show jW X G 4 0 0 0 [(0, .ref xo), (1, .int p), (2, .ref oo)] [] h
  refine j_aload_n C (i := 2) (x := oo) 2 rfl dL_whereIs_0 (pc' := 1) rfl ?_
  refine j_iconst C (v := nI 0) rfl dL_whereIs_1 (pc' := 2) rfl ?_
  refine j_aload_n C (i := 0) (x := xo) 0 rfl dL_whereIs_2 (pc' := 3) rfl ?_
  refine j_iload_n C (i := 1) (x := p) 1 rfl dL_whereIs_3 (pc' := 4) rfl ?_
  refine j_callV C (As := [.int p]) (rest := [.int (nI 0), .ref oo]) (c_whereIs X.2.1 C.2.2.2.2.2.2.2.2 G Q J I p) (cwV 1 C.2.2.2.2.1 gL_whereIs_X3_whereIs rfl rfl rfl (by decide +kernel) (by rw [hXR]; decide)) Q.obj rfl rfl rfl (Nat.le_of_ble_eq_true rfl) dL_whereIs_4 (pc' := 7) rfl (by rw [hXR]; exact Nat.le_of_ble_eq_true rfl) (by rw [hXR]; exact Nat.le_of_ble_eq_true rfl) ?_ ?_
  · rintro E' h' (⟨rfl, hh, ht⟩ | ⟨rfl, hh, ht⟩)
    · have hh := hh.symm
      subst hh
      refine j_catch C hTb (E := "java/lang/IndexOutOfBoundsException") [] ⟨0, 9, 12, 19⟩ [⟨0, 9, 15, 57⟩] rfl (fun z hz => absurd hz List.not_mem_nil) (by decide) (by decide) (by decide) (by decide +kernel) (by decide) ?_
      intro q
      show jW X G 4 2 12 12 [(0, .ref xo), (1, .int p), (2, .ref oo)] [.ref q] h
      refine j_astore_n C (i := 3) (x := q) (l' := [(3, .ref q), (0, .ref xo), (1, .int p), (2, .ref oo)]) dL_whereIs_12 (pc' := 13) rfl (by decide) rfl ?_
      refine j_iconst C (v := nI 1) rfl dL_whereIs_13 (pc' := 14) rfl ?_
      exact j_iretH C E dL_whereIs_14 rfl (Nat.le_of_ble_eq_true rfl) (Nat.le_of_ble_eq_true rfl) ⟨by rw [ht], ⟨v, ho, fun z => absurd (ht.symm.trans z) (by decide)⟩, hE0.same (sf_whereIs p).1 (sf_whereIs p).2, fun _ _ _ => rfl⟩
    · have hh := hh.symm
      subst hh
      refine j_catch C hTb (E := "java/util/NoSuchElementException") [⟨0, 9, 12, 19⟩] ⟨0, 9, 15, 57⟩ [] rfl (by intro z hz; rcases List.mem_singleton.mp hz with rfl; exact ⟨by decide, "java/lang/IndexOutOfBoundsException", by decide +kernel, by decide, by decide⟩) (by decide) (by decide) (by decide) (by decide +kernel) (by decide) ?_
      intro q
      show jW X G 4 2 12 15 [(0, .ref xo), (1, .int p), (2, .ref oo)] [.ref q] h
      refine j_astore_n C (i := 3) (x := q) (l' := [(3, .ref q), (0, .ref xo), (1, .int p), (2, .ref oo)]) dL_whereIs_15 (pc' := 16) rfl (by decide) rfl ?_
      refine j_iconst C (v := nI 2) rfl dL_whereIs_16 (pc' := 17) rfl ?_
      exact j_iretH C E dL_whereIs_17 rfl (Nat.le_of_ble_eq_true rfl) (Nat.le_of_ble_eq_true rfl) ⟨by rw [ht], ⟨v, ho, fun z => absurd (ht.symm.trans z) (by decide)⟩, hE0.same (sf_whereIs p).1 (sf_whereIs p).2, fun _ _ _ => rfl⟩
  · rintro r h' ⟨rfl, hh, h25⟩
    have hh := hh.symm
    subst hh
    show jW X G 4 2 12 7 [(0, .ref xo), (1, .int p), (2, .ref oo)] [.int ((oWhereIs s a p).1), .int (nI 0), .ref oo] h
    refine j_i2l C (x := (oWhereIs s a p).1) rfl dL_whereIs_7 (pc' := 8) rfl ?_
    refine j_last C (a := oo) (N := 1) (j := 0) (f := v) (x := ((oWhereIs s a p).1).toInt64) ho rfl (by decide) (by decide) dL_whereIs_8 (pc' := 9) rfl ?_
    show jW X G 4 2 12 9 [(0, .ref xo), (1, .int p), (2, .ref oo)] [] (jup h oo (.inl (G.2.2.1.2.2.2, 1, .inr (.inl (vp_updL v 0 (((oWhereIs s a p).1).toInt64))))))
    refine j_goto C dL_whereIs_9 (pc' := 18) (by decide) ?_
    refine j_iconst C (v := nI 0) rfl dL_whereIs_18 (pc' := 19) rfl ?_
    exact j_iretH C E dL_whereIs_19 rfl (Nat.le_of_ble_eq_true rfl) (Nat.le_of_ble_eq_true rfl) ⟨by rw [h25], ⟨_, jup_self _ _ _, fun _ => if_pos rfl⟩, (hE0.same (sf_whereIs p).1 (sf_whereIs p).2).out hoo ho, fun w0 _ hne => jup_ne hne⟩
set_option maxRecDepth 100000 in
set_option maxHeartbeats 4000000 in
theorem w_members (l : Launch) (hlt : l.stackTraces = false) (G : jG) {P : Nat → Prop} {xo oo n : Nat} {xa : Nat → Nat} {s : mS} {a : mA} {h : jH} {v : Nat → Int64} (p : Int32) (hW : WW n s a) (hn : n < 512) (hE0 : cE G P xo xa s a h) (hPn : ∀ w, P w → h w ≠ none) (hoo : P oo) (ho : h oo = some (.inl (G.2.2.1.2.2.2, 1, .inr (.inl v)))) : jM l G yL_members wsL_members 8 132 1 6 [.ref xo, .int p, .ref oo] h (fun r h' => oLaw G P xo xa oo h (oMembers s a p) r h') (fun _ _ => False) := by
  obtain ⟨th, va, ca, ma, dat, cap, mod, df, vf, dr, mf, Q, hPo⟩ := id hE0
  have W := hW.1
  have J := W.J
  have I := W.I
  have h10 := J.2.2.2.2.1
  refine jM_ofH (cc := cL_members) (maxL := 4) (ret := (some .int)) (hh := [(0, 9, 12, 19)]) hlt (by decide +kernel) rfl (Nat.le_of_ble_eq_true rfl) ?_
  intro X C E hTb hXl hXR
  show jW X G 4 0 0 0 [(0, .ref xo), (1, .int p), (2, .ref oo)] [] h
  refine j_aload_n C (i := 2) (x := oo) 2 rfl dL_members_0 (pc' := 1) rfl ?_
  refine j_iconst C (v := nI 0) rfl dL_members_1 (pc' := 2) rfl ?_
  refine j_aload_n C (i := 0) (x := xo) 0 rfl dL_members_2 (pc' := 3) rfl ?_
  refine j_iload_n C (i := 1) (x := p) 1 rfl dL_members_3 (pc' := 4) rfl ?_
  refine j_callV C (As := [.int p]) (rest := [.int (nI 0), .ref oo]) (c_members X.2.1 C.2.2.2.2.2.2.2.2 G Q J I p) (cwV 1 C.2.2.2.2.1 gL_members_X3_members rfl rfl rfl (by decide +kernel) (by rw [hXR]; decide)) Q.obj rfl rfl rfl (Nat.le_of_ble_eq_true rfl) dL_members_4 (pc' := 7) rfl (by rw [hXR]; exact Nat.le_of_ble_eq_true rfl) (by rw [hXR]; exact Nat.le_of_ble_eq_true rfl) ?_ ?_
  · rintro E' h' ⟨rfl, hh, ht⟩
    have hh := hh.symm
    subst hh
    refine j_catch C hTb (E := "java/lang/IndexOutOfBoundsException") [] ⟨0, 9, 12, 19⟩ [] rfl (fun z hz => absurd hz List.not_mem_nil) (by decide) (by decide) (by decide) (by decide +kernel) (by decide) ?_
    intro q
    show jW X G 4 1 6 12 [(0, .ref xo), (1, .int p), (2, .ref oo)] [.ref q] h
    refine j_astore_n C (i := 3) (x := q) (l' := [(3, .ref q), (0, .ref xo), (1, .int p), (2, .ref oo)]) dL_members_12 (pc' := 13) rfl (by decide) rfl ?_
    refine j_iconst C (v := nI 1) rfl dL_members_13 (pc' := 14) rfl ?_
    exact j_iretH C E dL_members_14 rfl (Nat.le_of_ble_eq_true rfl) (Nat.le_of_ble_eq_true rfl) ⟨by rw [ht], ⟨v, ho, fun z => absurd (ht.symm.trans z) (by decide)⟩, hE0.same (sf_members p).1 (sf_members p).2, fun _ _ _ => rfl⟩
  · rintro r h' ⟨rfl, hh, h25⟩
    have hh := hh.symm
    subst hh
    show jW X G 4 1 6 7 [(0, .ref xo), (1, .int p), (2, .ref oo)] [.int ((oMembers s a p).1), .int (nI 0), .ref oo] h
    refine j_i2l C (x := (oMembers s a p).1) rfl dL_members_7 (pc' := 8) rfl ?_
    refine j_last C (a := oo) (N := 1) (j := 0) (f := v) (x := ((oMembers s a p).1).toInt64) ho rfl (by decide) (by decide) dL_members_8 (pc' := 9) rfl ?_
    show jW X G 4 1 6 9 [(0, .ref xo), (1, .int p), (2, .ref oo)] [] (jup h oo (.inl (G.2.2.1.2.2.2, 1, .inr (.inl (vp_updL v 0 (((oMembers s a p).1).toInt64))))))
    refine j_goto C dL_members_9 (pc' := 15) (by decide) ?_
    refine j_iconst C (v := nI 0) rfl dL_members_15 (pc' := 16) rfl ?_
    exact j_iretH C E dL_members_16 rfl (Nat.le_of_ble_eq_true rfl) (Nat.le_of_ble_eq_true rfl) ⟨by rw [h25], ⟨_, jup_self _ _ _, fun _ => if_pos rfl⟩, (hE0.same (sf_members p).1 (sf_members p).2).out hoo ho, fun w0 _ hne => jup_ne hne⟩
set_option maxRecDepth 100000 in
set_option maxHeartbeats 4000000 in
theorem w_usedBy (l : Launch) (hlt : l.stackTraces = false) (G : jG) {P : Nat → Prop} {xo oo n : Nat} {xa : Nat → Nat} {s : mS} {a : mA} {h : jH} {v : Nat → Int64} (p : Int32) (hW : WW n s a) (hn : n < 512) (hE0 : cE G P xo xa s a h) (hPn : ∀ w, P w → h w ≠ none) (hoo : P oo) (ho : h oo = some (.inl (G.2.2.1.2.2.2, 1, .inr (.inl v)))) : jM l G yL_usedBy wsL_usedBy 8 132 1 6 [.ref xo, .int p, .ref oo] h (fun r h' => oLaw G P xo xa oo h (oUsedBy s a p) r h') (fun _ _ => False) := by
  obtain ⟨th, va, ca, ma, dat, cap, mod, df, vf, dr, mf, Q, hPo⟩ := id hE0
  have W := hW.1
  have J := W.J
  have I := W.I
  have h10 := J.2.2.2.2.1
  refine jM_ofH (cc := cL_usedBy) (maxL := 4) (ret := (some .int)) (hh := [(0, 9, 12, 19)]) hlt (by decide +kernel) rfl (Nat.le_of_ble_eq_true rfl) ?_
  intro X C E hTb hXl hXR
  show jW X G 4 0 0 0 [(0, .ref xo), (1, .int p), (2, .ref oo)] [] h
  refine j_aload_n C (i := 2) (x := oo) 2 rfl dL_usedBy_0 (pc' := 1) rfl ?_
  refine j_iconst C (v := nI 0) rfl dL_usedBy_1 (pc' := 2) rfl ?_
  refine j_aload_n C (i := 0) (x := xo) 0 rfl dL_usedBy_2 (pc' := 3) rfl ?_
  refine j_iload_n C (i := 1) (x := p) 1 rfl dL_usedBy_3 (pc' := 4) rfl ?_
  refine j_callV C (As := [.int p]) (rest := [.int (nI 0), .ref oo]) (c_usedBy X.2.1 C.2.2.2.2.2.2.2.2 G Q J I p W.gone) (cwV 1 C.2.2.2.2.1 gL_usedBy_X3_usedBy rfl rfl rfl (by decide +kernel) (by rw [hXR]; decide)) Q.obj rfl rfl rfl (Nat.le_of_ble_eq_true rfl) dL_usedBy_4 (pc' := 7) rfl (by rw [hXR]; exact Nat.le_of_ble_eq_true rfl) (by rw [hXR]; exact Nat.le_of_ble_eq_true rfl) ?_ ?_
  · rintro E' h' ⟨rfl, hh, ht⟩
    have hh := hh.symm
    subst hh
    refine j_catch C hTb (E := "java/lang/IndexOutOfBoundsException") [] ⟨0, 9, 12, 19⟩ [] rfl (fun z hz => absurd hz List.not_mem_nil) (by decide) (by decide) (by decide) (by decide +kernel) (by decide) ?_
    intro q
    show jW X G 4 1 6 12 [(0, .ref xo), (1, .int p), (2, .ref oo)] [.ref q] h
    refine j_astore_n C (i := 3) (x := q) (l' := [(3, .ref q), (0, .ref xo), (1, .int p), (2, .ref oo)]) dL_usedBy_12 (pc' := 13) rfl (by decide) rfl ?_
    refine j_iconst C (v := nI 1) rfl dL_usedBy_13 (pc' := 14) rfl ?_
    exact j_iretH C E dL_usedBy_14 rfl (Nat.le_of_ble_eq_true rfl) (Nat.le_of_ble_eq_true rfl) ⟨by rw [ht], ⟨v, ho, fun z => absurd (ht.symm.trans z) (by decide)⟩, hE0.same (sf_usedBy p).1 (sf_usedBy p).2, fun _ _ _ => rfl⟩
  · rintro r h' ⟨rfl, hh, h25⟩
    have hh := hh.symm
    subst hh
    show jW X G 4 1 6 7 [(0, .ref xo), (1, .int p), (2, .ref oo)] [.int ((oUsedBy s a p).1), .int (nI 0), .ref oo] h
    refine j_i2l C (x := (oUsedBy s a p).1) rfl dL_usedBy_7 (pc' := 8) rfl ?_
    refine j_last C (a := oo) (N := 1) (j := 0) (f := v) (x := ((oUsedBy s a p).1).toInt64) ho rfl (by decide) (by decide) dL_usedBy_8 (pc' := 9) rfl ?_
    show jW X G 4 1 6 9 [(0, .ref xo), (1, .int p), (2, .ref oo)] [] (jup h oo (.inl (G.2.2.1.2.2.2, 1, .inr (.inl (vp_updL v 0 (((oUsedBy s a p).1).toInt64))))))
    refine j_goto C dL_usedBy_9 (pc' := 15) (by decide) ?_
    refine j_iconst C (v := nI 0) rfl dL_usedBy_15 (pc' := 16) rfl ?_
    exact j_iretH C E dL_usedBy_16 rfl (Nat.le_of_ble_eq_true rfl) (Nat.le_of_ble_eq_true rfl) ⟨by rw [h25], ⟨_, jup_self _ _ _, fun _ => if_pos rfl⟩, (hE0.same (sf_usedBy p).1 (sf_usedBy p).2).out hoo ho, fun w0 _ hne => jup_ne hne⟩
