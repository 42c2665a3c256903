/-! The law's loop, its start and its end. -/
theorem and31 (y : Int32) : ∃ t, t < 32 ∧ y &&& 31 = nI t := by
  refine ⟨y.toBitVec.toNat % 32, Nat.mod_lt _ (by decide), ?_⟩
  apply Int32.toBitVec_inj.mp
  apply BitVec.eq_of_toNat_eq
  have h1 : (y &&& 31).toBitVec.toNat = y.toBitVec.toNat &&& 31 := by
    rw [Int32.toBitVec_and, BitVec.toNat_and]
    rfl
  have h2 : (nI (y.toBitVec.toNat % 32)).toBitVec.toNat = y.toBitVec.toNat % 32 := by
    show (BitVec.ofNat 32 (y.toBitVec.toNat % 32)).toNat = _
    rw [BitVec.toNat_ofNat]
    exact Nat.mod_eq_of_lt (by have := Nat.mod_lt y.toBitVec.toNat (show 0 < 32 by decide); omega)
  rw [h1, h2]
  exact Nat.and_two_pow_sub_one_eq_mod y.toBitVec.toNat 5
section LWST
variable {G : jG} {mo oo xo : Nat} {ad xa : Nat → Nat} {s : mS} {a : mA} {h h1 h2 h3 : jH} {c : Nat}
theorem LwI.more (I : LwI G mo oo ad xo xa c s a h) : LwI G mo oo ad xo xa (c + 1) s a h := ⟨⟨I.1.1, I.1.2.more (Nat.le_succ c)⟩, I.2⟩
set_option maxRecDepth 100000 in
set_option maxHeartbeats 4000000 in
theorem LwI.start {e0 : va_E} {th va ca ma : Nat → Nat} {cap : Nat} {mod : Int32} {df : Nat → Option Nat} {vf dr : Nat → Int32} {mf : Nat → Nat → Int32} (Q : cQ G (fun _ => False) xo xa th va ca ma G.2.2.2.1 cap mod df vf dr mf s0 a0 h1) (hm : h1 mo = none) (M : mG mo ad) (hn : ∀ i, i < 26 → mIsA i = true → jup h1 mo e0 (ad i) = none) (e2 : h2 = hM G mo ad (jup h1 mo e0) s0 a0) (ho : h2 oo = none) (e3 : h3 = jup h2 oo (.inl (G.2.2.1.2.2.2, 1, .inr (.inl (fun _ => 0))))) (hlow : ∀ q e, h3 q = some e → G.1 ≤ q) (hd : G.2.2.2.1 < G.1) : LwI G mo oo ad xo xa 0 s0 a0 h3 := by
  have om : oo ≠ mo := fun e => by rw [e, e2, hM_obj] at ho; cases ho
  have oa : ∀ i, i < 26 → mIsA i = true → oo ≠ ad i := fun i hi di e => by rw [e, e2, hM_arr M hi di] at ho; cases ho
  have c1 : h3 mo = some (.inr (5, mF ad s0)) := by rw [e3, jup_ne om.symm, e2]; exact hM_obj
  have c2 : ∀ i, i < 26 → mIsA i = true → h3 (ad i) = some (mC G a0 i) := fun i hi di => by rw [e3, jup_ne (oa i hi di).symm, e2]; exact hM_arr M hi di
  have c3 : h3 oo = some (.inl (G.2.2.1.2.2.2, 1, .inr (.inl (fun _ => 0)))) := by rw [e3, jup_self]
  have n1 : ∀ q, LwP mo oo ad q → h1 q = none := by
    intro q hq
    rcases hq with e | e | ⟨i, hi, di, e⟩
    · rw [e]; exact hm
    · rw [e]
      rw [e2, hM_off om oa, jup_ne om] at ho
      exact ho
    · rw [e]
      have := hn i hi di
      rw [jup_ne (M.2 i hi di)] at this
      exact this
  have low : ∀ q, LwP mo oo ad q → G.1 ≤ q := by
    intro q hq
    rcases hq with e | e | ⟨i, hi, di, e⟩
    · rw [e]; exact hlow _ _ c1
    · rw [e]; exact hlow _ _ c3
    · rw [e]; exact hlow _ _ (c2 i hi di)
  have off : ∀ q, ¬ LwP mo oo ad q → h3 q = h1 q := fun q hq => by
    have z1 : q ≠ mo := fun e => hq (Or.inl e)
    rw [e3, jup_ne (fun e => hq (Or.inr (Or.inl e))), e2, hM_off z1 (fun i hi di e => hq (Or.inr (Or.inr ⟨i, hi, di, e⟩))), jup_ne z1]
  obtain ⟨q1, q2, q3, q4, q5, q6, q7, q8, q9, q10, q11, q12, q13⟩ := Q
  obtain ⟨-, q14⟩ := q13
  have np : ∀ q e, h1 q = some e → ¬ LwP mo oo ad q := fun q e he hq => by rw [n1 q hq] at he; cases he
  have nx : ∀ i, i < 6 → ¬ LwP mo oo ad (xa i) := by
    intro i hi
    rcases (show i = 0 ∨ i = 1 ∨ i = 2 ∨ i = 3 ∨ i = 4 ∨ i = 5 by omega) with e | e | e | e | e | e
    · rw [e]; exact np _ _ q2
    · rw [e]; exact np _ _ q3
    · rw [e]; exact np _ _ q4
    · rw [e]; exact np _ _ q5
    · rw [e]; exact np _ _ q6.1
    · rw [e]; exact np _ _ q7.1
  have E1 : cE G (LwP mo oo ad) xo xa s0 a0 h1 := ⟨th, va, ca, ma, _, cap, mod, df, vf, dr, mf, ⟨q1, q2, q3, q4, q5, q6, q7, q8, q9, q10, q11, q12, ⟨np _ _ q1, nx, fun hq => absurd (low _ hq) (Nat.not_le.mpr hd), fun t ht => absurd ht (Nat.not_lt_zero t), fun v hv => absurd hv (Nat.not_lt_zero v)⟩, q14⟩, fun v hv => absurd hv (Nat.not_lt_zero v)⟩
  exact ⟨WW.start, E1.off off (fun q fs hq hp => np q _ hq hp), c1, c2, _, c3⟩
end LWST
section LOOP
variable {X : jX} {G : jG} {k n : Nat} {h : jH} {mo oo xo b L c : Nat} {ad xa : Nat → Nat} {s : mS} {a : mA} {xs : Nat → Int32} {l : List (Nat × Value)} {st : List Value} {cc : ByteArray} {nL pc : Nat}
theorem j_lowA (kk : (∀ q e, h q = some e → G.1 ≤ q) → jW X G nL k n pc l st h) : jW X G nL k n pc l st h := fun H locs ls hR hS hl => kk (fun q e he => (hR q e he).2) H locs ls hR hS hl
set_option maxRecDepth 100000 in
set_option maxHeartbeats 4000000 in
theorem law_case (C : jC X G cL_law 7 wsL_law RL) (hXR : X.2.2.2.1 = room_1) (M : mG mo ad) (hX : va_X b L xs X.2.2.2.2.1 X.2.2.2.2.1.heap) (hb : b < X.2.2.2.2.1.heap.size) (hA : b < G.1) (hL : L ≤ 3072) (hc : c < 512) (hj : 6 * c + 6 ≤ L) (I : LwI G mo oo ad xo xa c s a h) (hk : k + 43 ≤ 601024) (hn : n + 258 ≤ 7293034) (kk : ∀ s' a' h', LwI G mo oo ad xo xa (c + 1) s' a' h' → jW X G 7 (k + 43) (n + 258) 1590 [(0, .ref b), (1, .ref xo), (2, .ref mo), (3, .ref oo), (4, .int (nI (6 * c)))] [] h') : jW X G 7 k n 33 [(0, .ref b), (1, .ref xo), (2, .ref mo), (3, .ref oo), (4, .int (nI (6 * c)))] [] h := by
  refine j_aload_n C (i := 0) (x := b) 0 rfl dL_law_33 (pc' := 34) rfl ?_
  refine j_iload C (i := 4) (x := nI (6 * c)) 4 rfl dL_law_34 (pc' := 36) rfl ?_
  refine j_sld C hX hb hA (j := 6 * c) rfl (by omega) (by omega) dL_law_36 (pc' := 37) rfl ?_
  refine j_bipush C (v := 31) (by decide) dL_law_37 (pc' := 39) rfl ?_
  refine j_iand C dL_law_39 (pc' := 40) rfl ?_
  obtain ⟨t, ht, e⟩ := and31 (xs (6 * c))
  refine jt_i e ?_
  by_cases h24 : 24 ≤ t
  · refine j_tblOut C dL_law_40 (Or.inr (by rw [nI_toInt (by omega)]; omega)) (tgt := 1590) (by decide) ?_
    exact jW.widen (by omega) (by omega) (kk _ _ _ I.more)
  · rcases (show t = 0 ∨ t = 1 ∨ t = 2 ∨ t = 3 ∨ t = 4 ∨ t = 5 ∨ t = 6 ∨ t = 7 ∨ t = 8 ∨ t = 9 ∨ t = 10 ∨ t = 11 ∨ t = 12 ∨ t = 13 ∨ t = 14 ∨ t = 15 ∨ t = 16 ∨ t = 17 ∨ t = 18 ∨ t = 19 ∨ t = 20 ∨ t = 21 ∨ t = 22 ∨ t = 23 by omega) with rfl | rfl | rfl | rfl | rfl | rfl | rfl | rfl | rfl | rfl | rfl | rfl | rfl | rfl | rfl | rfl | rfl | rfl | rfl | rfl | rfl | rfl | rfl | rfl
    · exact j_tblIn C dL_law_40 (x := nI 0) (off := 112) (by decide) (by decide) (by decide +kernel) (tgt := 152) (by decide) (k_0 C hXR M hX hb hA hL hc hj I hk hn kk)
    · exact j_tblIn C dL_law_40 (x := nI 1) (off := 156) (by decide) (by decide) (by decide +kernel) (tgt := 196) (by decide) (k_1 C hXR M hX hb hA hL hc hj I hk hn kk)
    · exact j_tblIn C dL_law_40 (x := nI 2) (off := 212) (by decide) (by decide) (by decide +kernel) (tgt := 252) (by decide) (k_2 C hXR M hX hb hA hL hc hj I hk hn kk)
    · exact j_tblIn C dL_law_40 (x := nI 3) (off := 268) (by decide) (by decide) (by decide +kernel) (tgt := 308) (by decide) (k_3 C hXR M hX hb hA hL hc hj I hk hn kk)
    · exact j_tblIn C dL_law_40 (x := nI 4) (off := 281) (by decide) (by decide) (by decide +kernel) (tgt := 321) (by decide) (k_4 C hXR M hX hb hA hL hc hj I hk hn kk)
    · exact j_tblIn C dL_law_40 (x := nI 5) (off := 361) (by decide) (by decide) (by decide +kernel) (tgt := 401) (by decide) (k_5 C hXR M hX hb hA hL hc hj I hk hn kk)
    · exact j_tblIn C dL_law_40 (x := nI 6) (off := 429) (by decide) (by decide) (by decide +kernel) (tgt := 469) (by decide) (k_6 C hXR M hX hb hA hL hc hj I hk hn kk)
    · exact j_tblIn C dL_law_40 (x := nI 7) (off := 533) (by decide) (by decide) (by decide +kernel) (tgt := 573) (by decide) (k_7 C hXR M hX hb hA hL hc hj I hk hn kk)
    · exact j_tblIn C dL_law_40 (x := nI 8) (off := 613) (by decide) (by decide) (by decide +kernel) (tgt := 653) (by decide) (k_8 C hXR M hX hb hA hL hc hj I hk hn kk)
    · exact j_tblIn C dL_law_40 (x := nI 9) (off := 693) (by decide) (by decide) (by decide +kernel) (tgt := 733) (by decide) (k_9 C hXR M hX hb hA hL hc hj I hk hn kk)
    · exact j_tblIn C dL_law_40 (x := nI 10) (off := 761) (by decide) (by decide) (by decide +kernel) (tgt := 801) (by decide) (k_10 C hXR M hX hb hA hL hc hj I hk hn kk)
    · exact j_tblIn C dL_law_40 (x := nI 11) (off := 774) (by decide) (by decide) (by decide +kernel) (tgt := 814) (by decide) (k_11 C hXR M hX hb hA hL hc hj I hk hn kk)
    · exact j_tblIn C dL_law_40 (x := nI 12) (off := 830) (by decide) (by decide) (by decide +kernel) (tgt := 870) (by decide) (k_12 C hXR M hX hb hA hL hc hj I hk hn kk)
    · exact j_tblIn C dL_law_40 (x := nI 13) (off := 893) (by decide) (by decide) (by decide +kernel) (tgt := 933) (by decide) (k_13 C hXR M hX hb hA hL hc hj I hk hn kk)
    · exact j_tblIn C dL_law_40 (x := nI 14) (off := 949) (by decide) (by decide) (by decide +kernel) (tgt := 989) (by decide) (k_14 C hXR M hX hb hA hL hc hj I hk hn kk)
    · exact j_tblIn C dL_law_40 (x := nI 15) (off := 1005) (by decide) (by decide) (by decide +kernel) (tgt := 1045) (by decide) (k_15 C hXR M hX hb hA hL hc hj I hk hn kk)
    · exact j_tblIn C dL_law_40 (x := nI 16) (off := 1061) (by decide) (by decide) (by decide +kernel) (tgt := 1101) (by decide) (k_16 C hXR M hX hb hA hL hc hj I hk hn kk)
    · exact j_tblIn C dL_law_40 (x := nI 17) (off := 1129) (by decide) (by decide) (by decide +kernel) (tgt := 1169) (by decide) (k_17 C hXR M hX hb hA hL hc hj I hk hn kk)
    · exact j_tblIn C dL_law_40 (x := nI 18) (off := 1197) (by decide) (by decide) (by decide +kernel) (tgt := 1237) (by decide) (k_18 C hXR M hX hb hA hL hc hj I hk hn kk)
    · exact j_tblIn C dL_law_40 (x := nI 19) (off := 1265) (by decide) (by decide) (by decide +kernel) (tgt := 1305) (by decide) (k_19 C hXR M hX hb hA hL hc hj I hk hn kk)
    · exact j_tblIn C dL_law_40 (x := nI 20) (off := 1369) (by decide) (by decide) (by decide +kernel) (tgt := 1409) (by decide) (k_20 C hXR M hX hb hA hL hc hj I hk hn kk)
    · exact j_tblIn C dL_law_40 (x := nI 21) (off := 1425) (by decide) (by decide) (by decide +kernel) (tgt := 1465) (by decide) (k_21 C hXR M hX hb hA hL hc hj I hk hn kk)
    · exact j_tblIn C dL_law_40 (x := nI 22) (off := 1481) (by decide) (by decide) (by decide +kernel) (tgt := 1521) (by decide) (k_22 C hXR M hX hb hA hL hc hj I hk hn kk)
    · exact j_tblIn C dL_law_40 (x := nI 23) (off := 1537) (by decide) (by decide) (by decide +kernel) (tgt := 1577) (by decide) (k_23 C hXR M hX hb hA hL hc hj I hk hn kk)
theorem lim_gt {L c : Nat} (hL : L ≤ 3072) (hj : ¬ 6 * c + 6 ≤ L) (hc : 6 * c ≤ L) : nI L - nI 6 < nI (6 * c) := by
  by_cases h6 : 6 ≤ L
  · rw [pk_sub h6]
    exact (nI_ltI (by omega) (by omega)).mpr (by omega)
  · have c0 : c = 0 := by omega
    rw [c0]
    rcases (show L = 0 ∨ L = 1 ∨ L = 2 ∨ L = 3 ∨ L = 4 ∨ L = 5 by omega) with e | e | e | e | e | e <;> (rw [e]; decide)
theorem lim_le {L c : Nat} (hL : L ≤ 3072) (hj : 6 * c + 6 ≤ L) : ¬ nI L - nI 6 < nI (6 * c) := by
  rw [pk_sub (by omega)]
  exact fun z => absurd ((nI_ltI (by omega) (by omega)).mp z) (by omega)
set_option maxRecDepth 100000 in
set_option maxHeartbeats 4000000 in
theorem law_loop (C : jC X G cL_law 7 wsL_law RL) (hXR : X.2.2.2.1 = room_1) (M : mG mo ad) (hX : va_X b L xs X.2.2.2.2.1 X.2.2.2.2.1.heap) (hb : b < X.2.2.2.2.1.heap.size) (hA : b < G.1) (hL : L ≤ 3072) (fin : ∀ (k n : Nat) (l : List (Nat × Value)) (h : jH), k ≤ 601024 → n ≤ 7293034 → jW X G 7 k n 1596 l [] h) :
    ∀ (r c k n : Nat) (s : mS) (a : mA) (h : jH), LwI G mo oo ad xo xa c s a h → r + c = 512 → k + 43 * r ≤ 601024 → n + 258 * r ≤ 7293034 → 6 * c ≤ L → jW X G 7 k n 23 [(0, .ref b), (1, .ref xo), (2, .ref mo), (3, .ref oo), (4, .int (nI (6 * c)))] [] h := by
  intro r
  induction r with
  | zero =>
    intro c k n s a h I hr hk hn hcl
    refine j_iload C (i := 4) (x := nI (6 * c)) 4 rfl dL_law_23 (pc' := 25) rfl ?_
    refine j_aload_n C (i := 0) (x := b) 0 rfl dL_law_25 (pc' := 26) rfl ?_
    refine j_slen C hX hb hA dL_law_26 (pc' := 27) rfl ?_
    refine j_bipush C (v := nI 6) (by decide) dL_law_27 (pc' := 29) rfl ?_
    refine j_isub C dL_law_29 (pc' := 30) rfl ?_
    refine j_icmp_gt C dL_law_30 (tgt := 1596) (by decide) (pc' := 33) rfl (fun _ => ?_) (fun z => absurd (lim_gt hL (by omega) hcl) z)
    exact fin _ _ _ _ (by omega) (by omega)
  | succ r ih =>
    intro c k n s a h I hr hk hn hcl
    refine j_iload C (i := 4) (x := nI (6 * c)) 4 rfl dL_law_23 (pc' := 25) rfl ?_
    refine j_aload_n C (i := 0) (x := b) 0 rfl dL_law_25 (pc' := 26) rfl ?_
    refine j_slen C hX hb hA dL_law_26 (pc' := 27) rfl ?_
    refine j_bipush C (v := nI 6) (by decide) dL_law_27 (pc' := 29) rfl ?_
    refine j_isub C dL_law_29 (pc' := 30) rfl ?_
    by_cases hj : 6 * c + 6 ≤ L
    · refine j_icmp_gt C dL_law_30 (tgt := 1596) (by decide) (pc' := 33) rfl (fun z => absurd z (lim_le hL hj)) (fun _ => ?_)
      refine law_case C hXR M hX hb hA hL (by omega) hj I (by omega) (by omega) (fun s' a' h' I' => ?_)
      refine j_iinc C (i := 4) (q := 4) (d := 6) (x := nI (6 * c)) (v := nI (6 * (c + 1))) (l' := [(4, .int (nI (6 * (c + 1)))), (0, .ref b), (1, .ref xo), (2, .ref mo), (3, .ref oo)]) dL_law_1590 (pc' := 1593) rfl rfl (by show nI (6 * c) + nI 6 = _; rw [nI_add]; rfl) (by decide) rfl ?_
      refine j_goto C dL_law_1593 (pc' := 23) (by decide) ?_
      exact jW.locals [1, 2, 3, 4, 0] rfl (ih (c + 1) (k + 43) (n + 258) s' a' h' I' (by omega) (by omega) (by omega) (by omega))
    · refine j_icmp_gt C dL_law_30 (tgt := 1596) (by decide) (pc' := 33) rfl (fun _ => ?_) (fun z => absurd (lim_gt hL hj hcl) z)
      exact fin _ _ _ _ (by omega) (by omega)
set_option maxRecDepth 100000 in
set_option maxHeartbeats 4000000 in
theorem law_body (C : jC X G cL_law 7 wsL_law RL) (hXR : X.2.2.2.1 = room_1) (hX : va_X b L xs X.2.2.2.2.1 X.2.2.2.2.1.heap) (hb : b < X.2.2.2.2.1.heap.size) (hA : b < G.1) (hL : L ≤ 3072) (fin : ∀ (k n : Nat) (l : List (Nat × Value)) (h : jH), k ≤ 601024 → n ≤ 7293034 → jW X G 7 k n 1596 l [] h) : jW X G 7 0 0 0 [(0, .ref b)] [] (fun _ => none) := by
  refine j_new C (CN := RX3) (T := TX3) (N := 11) (ci := 4) (index := 8) (fs := [.null, .null, .null, .null, .null, .null, .int 0, .int 0, .int 0, .int 0, .int 0]) (by decide +kernel) tyX3_ok (by decide +kernel) (by decide +kernel) (by decide +kernel) rfl (fun j hj => by rcases (show j = 0 ∨ j = 1 ∨ j = 2 ∨ j = 3 ∨ j = 4 ∨ j = 5 ∨ j = 6 ∨ j = 7 ∨ j = 8 ∨ j = 9 ∨ j = 10 by omega) with rfl | rfl | rfl | rfl | rfl | rfl | rfl | rfl | rfl | rfl | rfl <;> rfl) (by rw [hXR]; exact Nat.le_of_ble_eq_true rfl) (by rw [hXR]; exact Nat.le_of_ble_eq_true rfl) dL_law_0 (pc' := 3) rfl ?_
  intro xo hx0
  refine j_dup C rfl dL_law_3 (pc' := 4) rfl ?_
  refine j_lowA (fun hl0 => ?_)
  have hxd : xo ≠ G.2.2.2.1 := by
    have z1 := hl0 xo _ (jup_self _ _ _)
    have z2 := C.dflt
    omega
  refine j_callI C (As := []) (rest := [.ref xo]) (c_X3init X.2.1 C.2.2.2.2.2.2.2.2 G (jup_self _ _ _) hxd) (cwI 0 C.2.2.2.2.1 gL_law_X3_init rfl rfl rfl (C.2.2.2.2.1 (.initialized RX3) (by decide +kernel)) (C.2.2.2.2.1 (.methodLink RL 86 yX3_init) (by decide +kernel)) (C.2.2.2.2.1 (.instanceMethod yX3_init) (by decide +kernel)) rfl (by decide +kernel) (by rw [hXR]; decide)) rfl rfl (Nat.le_of_ble_eq_true rfl) dL_law_4 (pc' := 7) rfl (by rw [hXR]; exact Nat.le_of_ble_eq_true rfl) (by rw [hXR]; exact Nat.le_of_ble_eq_true rfl) (fun _ _ z => z.elim) ?_
  rintro r h1 ⟨rfl, xa, Q, -, -⟩
  show jW X G 7 7 64 7 [(0, .ref b)] [.ref xo] h1
  refine j_astore_n C (i := 1) (x := xo) (l' := [(1, .ref xo), (0, .ref b)]) dL_law_7 (pc' := 8) rfl (by decide) rfl ?_
  refine j_new C (CN := RX4) (T := TX4) (N := 26) (ci := 5) (index := 87) (fs := [.int 0, .int 0, .int 0, .null, .int 0, .null, .int 0, .null, .null, .null, .int 0, .null, .null, .null, .null, .null, .null, .null, .null, .null, .null, .null, .null, .int 0, .null, .int 0]) (by decide +kernel) tyX4_ok (by decide +kernel) (by decide +kernel) (by decide +kernel) rfl (fun j hj => by rcases (show j = 0 ∨ j = 1 ∨ j = 2 ∨ j = 3 ∨ j = 4 ∨ j = 5 ∨ j = 6 ∨ j = 7 ∨ j = 8 ∨ j = 9 ∨ j = 10 ∨ j = 11 ∨ j = 12 ∨ j = 13 ∨ j = 14 ∨ j = 15 ∨ j = 16 ∨ j = 17 ∨ j = 18 ∨ j = 19 ∨ j = 20 ∨ j = 21 ∨ j = 22 ∨ j = 23 ∨ j = 24 ∨ j = 25 by omega) with rfl | rfl | rfl | rfl | rfl | rfl | rfl | rfl | rfl | rfl | rfl | rfl | rfl | rfl | rfl | rfl | rfl | rfl | rfl | rfl | rfl | rfl | rfl | rfl | rfl | rfl <;> rfl) (by rw [hXR]; exact Nat.le_of_ble_eq_true rfl) (by rw [hXR]; exact Nat.le_of_ble_eq_true rfl) dL_law_8 (pc' := 11) rfl ?_
  intro mo hm
  refine j_dup C rfl dL_law_11 (pc' := 12) rfl ?_
  refine j_callI C (As := []) (rest := [.ref mo]) (c_X4init X.2.1 C.2.2.2.2.2.2.2.2 G (jup_self _ _ _)) (cwI 0 C.2.2.2.2.1 gL_law_X4_init rfl rfl rfl (C.2.2.2.2.1 (.initialized RX4) (by decide +kernel)) (C.2.2.2.2.1 (.methodLink RL 89 yX4_init) (by decide +kernel)) (C.2.2.2.2.1 (.instanceMethod yX4_init) (by decide +kernel)) rfl (by decide +kernel) (by rw [hXR]; decide)) rfl rfl (Nat.le_of_ble_eq_true rfl) dL_law_12 (pc' := 15) rfl (by rw [hXR]; exact Nat.le_of_ble_eq_true rfl) (by rw [hXR]; exact Nat.le_of_ble_eq_true rfl) (fun _ _ z => z.elim) ?_
  rintro r h2 ⟨rfl, ad, M, hn2, hh2⟩
  show jW X G 7 26 21322 15 [(1, .ref xo), (0, .ref b)] [.ref mo] h2
  refine j_astore_n C (i := 2) (x := mo) (l' := [(2, .ref mo), (1, .ref xo), (0, .ref b)]) dL_law_15 (pc' := 16) rfl (by decide) rfl ?_
  refine j_iconst C (v := nI 1) rfl dL_law_16 (pc' := 17) rfl ?_
  refine j_newa_l C (N := 1) (by decide +kernel) rfl (by decide) (by rw [hXR]; exact Nat.le_of_ble_eq_true rfl) (by rw [hXR]; exact Nat.le_of_ble_eq_true rfl) dL_law_17 (pc' := 19) rfl ?_
  intro oo ho
  refine j_astore_n C (i := 3) (x := oo) (l' := [(3, .ref oo), (2, .ref mo), (1, .ref xo), (0, .ref b)]) dL_law_19 (pc' := 20) rfl (by decide) rfl ?_
  refine j_iconst C (v := nI (6 * 0)) rfl dL_law_20 (pc' := 21) rfl ?_
  refine j_istore C (i := 4) (x := nI (6 * 0)) (l' := [(4, .int (nI (6 * 0))), (3, .ref oo), (2, .ref mo), (1, .ref xo), (0, .ref b)]) dL_law_21 (pc' := 23) rfl (by decide) rfl ?_
  refine j_lowA (fun hl3 => ?_)
  exact jW.locals [4, 3, 2, 1, 0] rfl (law_loop C hXR M hX hb hA hL fin 512 0 _ _ s0 a0 _ (LwI.start Q hm M hn2 hh2 ho rfl hl3 C.dflt) rfl (by decide) (by decide) (Nat.zero_le _))
end LOOP
set_option maxRecDepth 100000 in
set_option maxHeartbeats 4000000 in
theorem whole_start {p : Program} {e : Env} {s : State} {m : MethodId} {below : List Frame} {meth : Method} {c : Code} (l : Launch) (hflags : l.flags = flags0) {b L : Nat} {xs : Nat → Int32} (hL : L ≤ 3072) (C0 : lw_At p s m meth c b L xs) : W p l e room_1 s m #[Value.ref b] below meth c s.heap [] 0 0 (lw_Z below #[Value.ref b] s) (entryFrame m ([Value.ref b] : List Value).toArray 7) := by
  obtain ⟨hx, hb, hr, hml, hown, hts, hX, hbl, hlocks, hg⟩ := C0
  obtain ⟨G, hG, hS⟩ := jS_start hts hg
  have C : jC (p, l, e, room_1, s, m, #[Value.ref b], below, meth, c, lw_Z below #[Value.ref b] s) G cL_law 7 wsL_law RL := ⟨hx, hb, hml, hown, fun w hw => hts w (wsL_law_in w hw), hlocks, Nat.le_of_eq hG, hS, st_traces hflags⟩
  rw [lg_entry_eq]
  refine law_body C rfl hX hbl (by rw [hG]; exact hbl) hL (fun k n l0 h hk hn => ?_) s.heap [] _ (fun q e he => by cases he) va_S.rf (lv_entry [.ref b] (n := 7) (Nat.le_of_ble_eq_true rfl))
  refine j_iconst C (v := 1) (by decide) dL_law_1596 (pc' := 1597) rfl ?_
  intro H locs ls hR hS1 hl
  exact va_forget (fun q hq => by have := hS1.2.2 q hq; rw [← hG]; exact this) (W.widen hk hn (lw_ret hx hb hr hlocks dL_law_1597))
