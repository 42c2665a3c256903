section CASES
variable {X : jX} {G : jG} {k n : Nat} {h : jH} {mo oo xo b L c : Nat} {ad xa : Nat → Nat} {s : mS} {a : mA} {xs : Nat → Int32}
set_option maxRecDepth 100000 in
set_option maxHeartbeats 4000000 in
theorem k_0 (C : jC X G cL_law 7 wsL_law RL) (hXR : X.2.2.2.1 = room_1) (M : mG mo ad) (hX : va_X b L xs X.2.2.2.2.1 X.2.2.2.2.1.heap) (hb : b < X.2.2.2.2.1.heap.size) (hA : b < G.1) (hL : L ≤ 3072) (hc : c < 512) (hj : 6 * c + 6 ≤ L) (I : LwI G mo oo ad xo xa c s a h) (hk : k + 43 ≤ 601024) (hn : n + 258 ≤ 7293034) (kk : ∀ s' a' h', LwI G mo oo ad xo xa (c + 1) s' a' h' → jW X G 7 (k + 43) (n + 258) 1590 [(0, .ref b), (1, .ref xo), (2, .ref mo), (3, .ref oo), (4, .int (nI (6 * c)))] [] h') : jW X G 7 k n 152 [(0, .ref b), (1, .ref xo), (2, .ref mo), (3, .ref oo), (4, .int (nI (6 * c)))] [] h := by
  refine j_aload_n C (i := 1) (x := xo) 1 rfl dL_law_152 (pc' := 153) rfl ?_
  refine j_aload_n C (i := 3) (x := oo) 3 rfl dL_law_153 (pc' := 154) rfl ?_
  have hw := I.1.opens
  obtain ⟨v, hv⟩ := I.2.2.2.2
  refine j_callSX C (As := [.ref xo, .ref oo]) (rest := []) (w_open X.2.1 C.2.2.2.2.2.2.2.2 G I.1 hc I.2.1 I.Pn (Or.inr (Or.inl rfl)) hv) (vx_cwSW 2 C.2.2.2.2.1 gL_law_L_open rfl rfl rfl (by decide +kernel) (by rw [hXR]; decide)) rfl rfl (Nat.le_of_ble_eq_true rfl) dL_law_154 (pc' := 157) rfl (by rw [hXR]; show k + 1 ≤ 601024; omega) (by rw [hXR]; show n + 6 ≤ 7293034; omega) (fun _ _ z => z.elim) ?_
  rintro r h1 ⟨rfl, ⟨v1, hv1, hz⟩, hE1, hF1⟩
  show jW X G 7 (k + 1) (n + 6) 157 [(0, .ref b), (1, .ref xo), (2, .ref mo), (3, .ref oo), (4, .int (nI (6 * c)))] [.int (nI ((oOpen s a).2.1 25))] (h1)
  refine j_istore C (i := 5) (x := nI ((oOpen s a).2.1 25)) (l' := [(5, .int (nI ((oOpen s a).2.1 25))), (0, .ref b), (1, .ref xo), (2, .ref mo), (3, .ref oo), (4, .int (nI (6 * c)))]) dL_law_157 (pc' := 159) rfl (by decide) rfl ?_
  refine j_aload_n C (i := 2) (x := mo) 3 rfl dL_law_159 (pc' := 160) rfl ?_
  refine jt_h (I.mid M hF1) ?_
  refine j_callV C (As := []) (rest := []) (m_open X.2.1 C.2.2.2.2.2.2.2.2 G M s a I.1.1.J I.1.1.I) (cwV 0 C.2.2.2.2.1 gL_law_X4_open rfl rfl rfl (by decide +kernel) (by rw [hXR]; decide)) hM_obj rfl rfl rfl (Nat.le_of_ble_eq_true rfl) dL_law_160 (pc' := 163) rfl (by rw [hXR]; show k + 1 + 0 ≤ 601024; omega) (by rw [hXR]; show n + 6 + 0 ≤ 7293034; omega) (fun _ _ z => z.elim) ?_
  rintro r h' ⟨rfl, rfl⟩
  show jW X G 7 (k + 1) (n + 6) 163 [(5, .int (nI ((oOpen s a).2.1 25))), (0, .ref b), (1, .ref xo), (2, .ref mo), (3, .ref oo), (4, .int (nI (6 * c)))] [.int ((oOpen s a).1)] (hM G mo ad h1 (oOpen s a).2.1 (oOpen s a).2.2)
  refine j_istore C (i := 6) (x := (oOpen s a).1) (l' := [(6, .int ((oOpen s a).1)), (5, .int (nI ((oOpen s a).2.1 25))), (0, .ref b), (1, .ref xo), (2, .ref mo), (3, .ref oo), (4, .int (nI (6 * c)))]) dL_law_163 (pc' := 165) rfl (by decide) rfl ?_
  refine j_aload_n C (i := 2) (x := mo) 4 rfl dL_law_165 (pc' := 166) rfl ?_
  refine j_callV C (As := []) (rest := []) (m_thrown X.2.1 C.2.2.2.2.2.2.2.2 G M (oOpen s a).2.1 (oOpen s a).2.2) (cwV 0 C.2.2.2.2.1 gL_law_X4_thrown rfl rfl rfl (by decide +kernel) (by rw [hXR]; decide)) hM_obj rfl rfl rfl (Nat.le_of_ble_eq_true rfl) dL_law_166 (pc' := 169) rfl (by rw [hXR]; show k + 1 + 0 ≤ 601024; omega) (by rw [hXR]; show n + 6 + 0 ≤ 7293034; omega) (fun _ _ z => z.elim) ?_
  rintro r h' ⟨rfl, rfl⟩
  show jW X G 7 (k + 1) (n + 6) 169 [(6, .int ((oOpen s a).1)), (5, .int (nI ((oOpen s a).2.1 25))), (0, .ref b), (1, .ref xo), (2, .ref mo), (3, .ref oo), (4, .int (nI (6 * c)))] [.int (nI ((oOpen s a).2.1 25))] (hM G mo ad h1 (oOpen s a).2.1 (oOpen s a).2.2)
  refine j_iload C (i := 5) (x := nI ((oOpen s a).2.1 25)) 1 rfl dL_law_169 (pc' := 171) rfl ?_
  refine j_icmp_eq C dL_law_171 (tgt := 176) (by decide) (pc' := 174) rfl (fun _ => ?_) (fun z => absurd rfl z)
  refine j_iload C (i := 5) (x := nI ((oOpen s a).2.1 25)) 1 rfl dL_law_176 (pc' := 178) rfl ?_
  refine j_if_ne C dL_law_178 (tgt := 193) (by decide) (pc' := 181) rfl (fun _ => ?_) (fun z0 => ?_)
  · skip
    refine j_goto C dL_law_193 (pc' := 1590) (by decide) ?_
    exact jW.locals [2, 3, 4, 5, 6] rfl (jW.widen (by omega) (by omega) (kk _ _ _ (I.next M hF1 ⟨v1, hv1⟩ hE1 hw)))
  · have z1 : (oOpen s a).2.1 25 = 0 := (nI_eq (a := (oOpen s a).2.1 25) (b := 0) (Nat.lt_of_lt_of_le (hw.1.J.1 25) (by decide)) (by decide)).mp z0
    refine j_aload_n C (i := 3) (x := oo) 5 rfl dL_law_181 (pc' := 182) rfl ?_
    refine j_iconst C (v := nI 0) rfl dL_law_182 (pc' := 183) rfl ?_
    refine j_lald C (a := oo) (N := 1) (j := 0) (f := v1) ((hM_off I.off.1 I.off.2).trans hv1) rfl (by decide) (by decide) dL_law_183 (pc' := 184) rfl ?_
    refine j_iload C (i := 6) (x := (oOpen s a).1) 0 rfl dL_law_184 (pc' := 186) rfl ?_
    refine j_i2l C (x := (oOpen s a).1) rfl dL_law_186 (pc' := 187) rfl ?_
    refine j_lcmp C dL_law_187 (pc' := 188) rfl ?_
    refine jt_i (y := 0) (by rw [hz z1]; exact lg_self _) ?_
    refine j_if_eq C dL_law_188 (tgt := 193) (by decide) (pc' := 191) rfl (fun _ => ?_) (fun z => absurd rfl z)
    refine j_goto C dL_law_193 (pc' := 1590) (by decide) ?_
    exact jW.locals [2, 3, 4, 5, 6] rfl (jW.widen (by omega) (by omega) (kk _ _ _ (I.next M hF1 ⟨v1, hv1⟩ hE1 hw)))
set_option maxRecDepth 100000 in
set_option maxHeartbeats 4000000 in
theorem k_1 (C : jC X G cL_law 7 wsL_law RL) (hXR : X.2.2.2.1 = room_1) (M : mG mo ad) (hX : va_X b L xs X.2.2.2.2.1 X.2.2.2.2.1.heap) (hb : b < X.2.2.2.2.1.heap.size) (hA : b < G.1) (hL : L ≤ 3072) (hc : c < 512) (hj : 6 * c + 6 ≤ L) (I : LwI G mo oo ad xo xa c s a h) (hk : k + 43 ≤ 601024) (hn : n + 258 ≤ 7293034) (kk : ∀ s' a' h', LwI G mo oo ad xo xa (c + 1) s' a' h' → jW X G 7 (k + 43) (n + 258) 1590 [(0, .ref b), (1, .ref xo), (2, .ref mo), (3, .ref oo), (4, .int (nI (6 * c)))] [] h') : jW X G 7 k n 196 [(0, .ref b), (1, .ref xo), (2, .ref mo), (3, .ref oo), (4, .int (nI (6 * c)))] [] h := by
  refine j_aload_n C (i := 1) (x := xo) 1 rfl dL_law_196 (pc' := 197) rfl ?_
  refine j_aload_n C (i := 0) (x := b) 0 rfl dL_law_197 (pc' := 198) rfl ?_
  refine j_iload C (i := 4) (x := nI (6 * c)) 4 rfl dL_law_198 (pc' := 200) rfl ?_
  refine j_iconst C (v := nI 1) rfl dL_law_200 (pc' := 201) rfl ?_
  refine j_iadd C dL_law_201 (pc' := 202) rfl ?_
  refine j_sld C hX hb hA (j := 6 * c + 1) (nI_add _ _) (by omega) (by omega) dL_law_202 (pc' := 203) rfl ?_
  refine j_aload_n C (i := 3) (x := oo) 3 rfl dL_law_203 (pc' := 204) rfl ?_
  have hw := I.1.close (xs (6 * c + 1))
  obtain ⟨v, hv⟩ := I.2.2.2.2
  refine j_callSX C (As := [.ref xo, .int (xs (6 * c + 1)), .ref oo]) (rest := []) (w_close X.2.1 C.2.2.2.2.2.2.2.2 G (xs (6 * c + 1)) I.1 hc I.2.1 I.Pn (Or.inr (Or.inl rfl)) hv) (vx_cwSW 3 C.2.2.2.2.1 gL_law_L_close rfl rfl rfl (by decide +kernel) (by rw [hXR]; decide)) rfl rfl (Nat.le_of_ble_eq_true rfl) dL_law_204 (pc' := 207) rfl (by rw [hXR]; show k + 2 ≤ 601024; omega) (by rw [hXR]; show n + 12 ≤ 7293034; omega) (fun _ _ z => z.elim) ?_
  rintro r h1 ⟨rfl, ⟨v1, hv1, hz⟩, hE1, hF1⟩
  show jW X G 7 (k + 2) (n + 12) 207 [(0, .ref b), (1, .ref xo), (2, .ref mo), (3, .ref oo), (4, .int (nI (6 * c)))] [.int (nI ((oClose s a (xs (6 * c + 1))).2.1 25))] (h1)
  refine j_istore C (i := 5) (x := nI ((oClose s a (xs (6 * c + 1))).2.1 25)) (l' := [(5, .int (nI ((oClose s a (xs (6 * c + 1))).2.1 25))), (0, .ref b), (1, .ref xo), (2, .ref mo), (3, .ref oo), (4, .int (nI (6 * c)))]) dL_law_207 (pc' := 209) rfl (by decide) rfl ?_
  refine j_aload_n C (i := 2) (x := mo) 3 rfl dL_law_209 (pc' := 210) rfl ?_
  refine j_aload_n C (i := 0) (x := b) 1 rfl dL_law_210 (pc' := 211) rfl ?_
  refine j_iload C (i := 4) (x := nI (6 * c)) 5 rfl dL_law_211 (pc' := 213) rfl ?_
  refine j_iconst C (v := nI 1) rfl dL_law_213 (pc' := 214) rfl ?_
  refine j_iadd C dL_law_214 (pc' := 215) rfl ?_
  refine j_sld C hX hb hA (j := 6 * c + 1) (nI_add _ _) (by omega) (by omega) dL_law_215 (pc' := 216) rfl ?_
  refine jt_h (I.mid M hF1) ?_
  refine j_callV C (As := [.int (xs (6 * c + 1))]) (rest := []) (m_close X.2.1 C.2.2.2.2.2.2.2.2 G M s a (xs (6 * c + 1)) I.1.1.J I.1.1.I) (cwV 1 C.2.2.2.2.1 gL_law_X4_close rfl rfl rfl (by decide +kernel) (by rw [hXR]; decide)) hM_obj rfl rfl rfl (Nat.le_of_ble_eq_true rfl) dL_law_216 (pc' := 219) rfl (by rw [hXR]; show k + 2 + 0 ≤ 601024; omega) (by rw [hXR]; show n + 12 + 0 ≤ 7293034; omega) (fun _ _ z => z.elim) ?_
  rintro r h' ⟨rfl, rfl⟩
  show jW X G 7 (k + 2) (n + 12) 219 [(5, .int (nI ((oClose s a (xs (6 * c + 1))).2.1 25))), (0, .ref b), (1, .ref xo), (2, .ref mo), (3, .ref oo), (4, .int (nI (6 * c)))] [.int ((oClose s a (xs (6 * c + 1))).1)] (hM G mo ad h1 (oClose s a (xs (6 * c + 1))).2.1 (oClose s a (xs (6 * c + 1))).2.2)
  refine j_istore C (i := 6) (x := (oClose s a (xs (6 * c + 1))).1) (l' := [(6, .int ((oClose s a (xs (6 * c + 1))).1)), (5, .int (nI ((oClose s a (xs (6 * c + 1))).2.1 25))), (0, .ref b), (1, .ref xo), (2, .ref mo), (3, .ref oo), (4, .int (nI (6 * c)))]) dL_law_219 (pc' := 221) rfl (by decide) rfl ?_
  refine j_aload_n C (i := 2) (x := mo) 4 rfl dL_law_221 (pc' := 222) rfl ?_
  refine j_callV C (As := []) (rest := []) (m_thrown X.2.1 C.2.2.2.2.2.2.2.2 G M (oClose s a (xs (6 * c + 1))).2.1 (oClose s a (xs (6 * c + 1))).2.2) (cwV 0 C.2.2.2.2.1 gL_law_X4_thrown rfl rfl rfl (by decide +kernel) (by rw [hXR]; decide)) hM_obj rfl rfl rfl (Nat.le_of_ble_eq_true rfl) dL_law_222 (pc' := 225) rfl (by rw [hXR]; show k + 2 + 0 ≤ 601024; omega) (by rw [hXR]; show n + 12 + 0 ≤ 7293034; omega) (fun _ _ z => z.elim) ?_
  rintro r h' ⟨rfl, rfl⟩
  show jW X G 7 (k + 2) (n + 12) 225 [(6, .int ((oClose s a (xs (6 * c + 1))).1)), (5, .int (nI ((oClose s a (xs (6 * c + 1))).2.1 25))), (0, .ref b), (1, .ref xo), (2, .ref mo), (3, .ref oo), (4, .int (nI (6 * c)))] [.int (nI ((oClose s a (xs (6 * c + 1))).2.1 25))] (hM G mo ad h1 (oClose s a (xs (6 * c + 1))).2.1 (oClose s a (xs (6 * c + 1))).2.2)
  refine j_iload C (i := 5) (x := nI ((oClose s a (xs (6 * c + 1))).2.1 25)) 1 rfl dL_law_225 (pc' := 227) rfl ?_
  refine j_icmp_eq C dL_law_227 (tgt := 232) (by decide) (pc' := 230) rfl (fun _ => ?_) (fun z => absurd rfl z)
  refine j_iload C (i := 5) (x := nI ((oClose s a (xs (6 * c + 1))).2.1 25)) 1 rfl dL_law_232 (pc' := 234) rfl ?_
  refine j_if_ne C dL_law_234 (tgt := 249) (by decide) (pc' := 237) rfl (fun _ => ?_) (fun z0 => ?_)
  · skip
    refine j_goto C dL_law_249 (pc' := 1590) (by decide) ?_
    exact jW.locals [2, 3, 4, 5, 6] rfl (jW.widen (by omega) (by omega) (kk _ _ _ (I.next M hF1 ⟨v1, hv1⟩ hE1 hw)))
  · have z1 : (oClose s a (xs (6 * c + 1))).2.1 25 = 0 := (nI_eq (a := (oClose s a (xs (6 * c + 1))).2.1 25) (b := 0) (Nat.lt_of_lt_of_le (hw.1.J.1 25) (by decide)) (by decide)).mp z0
    refine j_aload_n C (i := 3) (x := oo) 5 rfl dL_law_237 (pc' := 238) rfl ?_
    refine j_iconst C (v := nI 0) rfl dL_law_238 (pc' := 239) rfl ?_
    refine j_lald C (a := oo) (N := 1) (j := 0) (f := v1) ((hM_off I.off.1 I.off.2).trans hv1) rfl (by decide) (by decide) dL_law_239 (pc' := 240) rfl ?_
    refine j_iload C (i := 6) (x := (oClose s a (xs (6 * c + 1))).1) 0 rfl dL_law_240 (pc' := 242) rfl ?_
    refine j_i2l C (x := (oClose s a (xs (6 * c + 1))).1) rfl dL_law_242 (pc' := 243) rfl ?_
    refine j_lcmp C dL_law_243 (pc' := 244) rfl ?_
    refine jt_i (y := 0) (by rw [hz z1]; exact lg_self _) ?_
    refine j_if_eq C dL_law_244 (tgt := 249) (by decide) (pc' := 247) rfl (fun _ => ?_) (fun z => absurd rfl z)
    refine j_goto C dL_law_249 (pc' := 1590) (by decide) ?_
    exact jW.locals [2, 3, 4, 5, 6] rfl (jW.widen (by omega) (by omega) (kk _ _ _ (I.next M hF1 ⟨v1, hv1⟩ hE1 hw)))
set_option maxRecDepth 100000 in
set_option maxHeartbeats 4000000 in
theorem k_2 (C : jC X G cL_law 7 wsL_law RL) (hXR : X.2.2.2.1 = room_1) (M : mG mo ad) (hX : va_X b L xs X.2.2.2.2.1 X.2.2.2.2.1.heap) (hb : b < X.2.2.2.2.1.heap.size) (hA : b < G.1) (hL : L ≤ 3072) (hc : c < 512) (hj : 6 * c + 6 ≤ L) (I : LwI G mo oo ad xo xa c s a h) (hk : k + 43 ≤ 601024) (hn : n + 258 ≤ 7293034) (kk : ∀ s' a' h', LwI G mo oo ad xo xa (c + 1) s' a' h' → jW X G 7 (k + 43) (n + 258) 1590 [(0, .ref b), (1, .ref xo), (2, .ref mo), (3, .ref oo), (4, .int (nI (6 * c)))] [] h') : jW X G 7 k n 252 [(0, .ref b), (1, .ref xo), (2, .ref mo), (3, .ref oo), (4, .int (nI (6 * c)))] [] h := by
  refine j_aload_n C (i := 1) (x := xo) 1 rfl dL_law_252 (pc' := 253) rfl ?_
  refine j_aload_n C (i := 0) (x := b) 0 rfl dL_law_253 (pc' := 254) rfl ?_
  refine j_iload C (i := 4) (x := nI (6 * c)) 4 rfl dL_law_254 (pc' := 256) rfl ?_
  refine j_iconst C (v := nI 1) rfl dL_law_256 (pc' := 257) rfl ?_
  refine j_iadd C dL_law_257 (pc' := 258) rfl ?_
  refine j_sld C hX hb hA (j := 6 * c + 1) (nI_add _ _) (by omega) (by omega) dL_law_258 (pc' := 259) rfl ?_
  refine j_aload_n C (i := 3) (x := oo) 3 rfl dL_law_259 (pc' := 260) rfl ?_
  have hw := I.1.refer (xs (6 * c + 1))
  obtain ⟨v, hv⟩ := I.2.2.2.2
  refine j_callSX C (As := [.ref xo, .int (xs (6 * c + 1)), .ref oo]) (rest := []) (w_refer X.2.1 C.2.2.2.2.2.2.2.2 G (xs (6 * c + 1)) I.1 hc I.2.1 I.Pn (Or.inr (Or.inl rfl)) hv) (vx_cwSW 3 C.2.2.2.2.1 gL_law_L_refer rfl rfl rfl (by decide +kernel) (by rw [hXR]; decide)) rfl rfl (Nat.le_of_ble_eq_true rfl) dL_law_260 (pc' := 263) rfl (by rw [hXR]; show k + 2 ≤ 601024; omega) (by rw [hXR]; show n + 12 ≤ 7293034; omega) (fun _ _ z => z.elim) ?_
  rintro r h1 ⟨rfl, ⟨v1, hv1, hz⟩, hE1, hF1⟩
  show jW X G 7 (k + 2) (n + 12) 263 [(0, .ref b), (1, .ref xo), (2, .ref mo), (3, .ref oo), (4, .int (nI (6 * c)))] [.int (nI ((oRefer s a (xs (6 * c + 1))).2.1 25))] (h1)
  refine j_istore C (i := 5) (x := nI ((oRefer s a (xs (6 * c + 1))).2.1 25)) (l' := [(5, .int (nI ((oRefer s a (xs (6 * c + 1))).2.1 25))), (0, .ref b), (1, .ref xo), (2, .ref mo), (3, .ref oo), (4, .int (nI (6 * c)))]) dL_law_263 (pc' := 265) rfl (by decide) rfl ?_
  refine j_aload_n C (i := 2) (x := mo) 3 rfl dL_law_265 (pc' := 266) rfl ?_
  refine j_aload_n C (i := 0) (x := b) 1 rfl dL_law_266 (pc' := 267) rfl ?_
  refine j_iload C (i := 4) (x := nI (6 * c)) 5 rfl dL_law_267 (pc' := 269) rfl ?_
  refine j_iconst C (v := nI 1) rfl dL_law_269 (pc' := 270) rfl ?_
  refine j_iadd C dL_law_270 (pc' := 271) rfl ?_
  refine j_sld C hX hb hA (j := 6 * c + 1) (nI_add _ _) (by omega) (by omega) dL_law_271 (pc' := 272) rfl ?_
  refine jt_h (I.mid M hF1) ?_
  refine j_callV C (As := [.int (xs (6 * c + 1))]) (rest := []) (m_refer X.2.1 C.2.2.2.2.2.2.2.2 G M s a (xs (6 * c + 1)) I.1.1.J I.1.1.I) (cwV 1 C.2.2.2.2.1 gL_law_X4_refer rfl rfl rfl (by decide +kernel) (by rw [hXR]; decide)) hM_obj rfl rfl rfl (Nat.le_of_ble_eq_true rfl) dL_law_272 (pc' := 275) rfl (by rw [hXR]; show k + 2 + 0 ≤ 601024; omega) (by rw [hXR]; show n + 12 + 0 ≤ 7293034; omega) (fun _ _ z => z.elim) ?_
  rintro r h' ⟨rfl, rfl⟩
  show jW X G 7 (k + 2) (n + 12) 275 [(5, .int (nI ((oRefer s a (xs (6 * c + 1))).2.1 25))), (0, .ref b), (1, .ref xo), (2, .ref mo), (3, .ref oo), (4, .int (nI (6 * c)))] [.int ((oRefer s a (xs (6 * c + 1))).1)] (hM G mo ad h1 (oRefer s a (xs (6 * c + 1))).2.1 (oRefer s a (xs (6 * c + 1))).2.2)
  refine j_istore C (i := 6) (x := (oRefer s a (xs (6 * c + 1))).1) (l' := [(6, .int ((oRefer s a (xs (6 * c + 1))).1)), (5, .int (nI ((oRefer s a (xs (6 * c + 1))).2.1 25))), (0, .ref b), (1, .ref xo), (2, .ref mo), (3, .ref oo), (4, .int (nI (6 * c)))]) dL_law_275 (pc' := 277) rfl (by decide) rfl ?_
  refine j_aload_n C (i := 2) (x := mo) 4 rfl dL_law_277 (pc' := 278) rfl ?_
  refine j_callV C (As := []) (rest := []) (m_thrown X.2.1 C.2.2.2.2.2.2.2.2 G M (oRefer s a (xs (6 * c + 1))).2.1 (oRefer s a (xs (6 * c + 1))).2.2) (cwV 0 C.2.2.2.2.1 gL_law_X4_thrown rfl rfl rfl (by decide +kernel) (by rw [hXR]; decide)) hM_obj rfl rfl rfl (Nat.le_of_ble_eq_true rfl) dL_law_278 (pc' := 281) rfl (by rw [hXR]; show k + 2 + 0 ≤ 601024; omega) (by rw [hXR]; show n + 12 + 0 ≤ 7293034; omega) (fun _ _ z => z.elim) ?_
  rintro r h' ⟨rfl, rfl⟩
  show jW X G 7 (k + 2) (n + 12) 281 [(6, .int ((oRefer s a (xs (6 * c + 1))).1)), (5, .int (nI ((oRefer s a (xs (6 * c + 1))).2.1 25))), (0, .ref b), (1, .ref xo), (2, .ref mo), (3, .ref oo), (4, .int (nI (6 * c)))] [.int (nI ((oRefer s a (xs (6 * c + 1))).2.1 25))] (hM G mo ad h1 (oRefer s a (xs (6 * c + 1))).2.1 (oRefer s a (xs (6 * c + 1))).2.2)
  refine j_iload C (i := 5) (x := nI ((oRefer s a (xs (6 * c + 1))).2.1 25)) 1 rfl dL_law_281 (pc' := 283) rfl ?_
  refine j_icmp_eq C dL_law_283 (tgt := 288) (by decide) (pc' := 286) rfl (fun _ => ?_) (fun z => absurd rfl z)
  refine j_iload C (i := 5) (x := nI ((oRefer s a (xs (6 * c + 1))).2.1 25)) 1 rfl dL_law_288 (pc' := 290) rfl ?_
  refine j_if_ne C dL_law_290 (tgt := 305) (by decide) (pc' := 293) rfl (fun _ => ?_) (fun z0 => ?_)
  · skip
    refine j_goto C dL_law_305 (pc' := 1590) (by decide) ?_
    exact jW.locals [2, 3, 4, 5, 6] rfl (jW.widen (by omega) (by omega) (kk _ _ _ (I.next M hF1 ⟨v1, hv1⟩ hE1 hw)))
  · have z1 : (oRefer s a (xs (6 * c + 1))).2.1 25 = 0 := (nI_eq (a := (oRefer s a (xs (6 * c + 1))).2.1 25) (b := 0) (Nat.lt_of_lt_of_le (hw.1.J.1 25) (by decide)) (by decide)).mp z0
    refine j_aload_n C (i := 3) (x := oo) 5 rfl dL_law_293 (pc' := 294) rfl ?_
    refine j_iconst C (v := nI 0) rfl dL_law_294 (pc' := 295) rfl ?_
    refine j_lald C (a := oo) (N := 1) (j := 0) (f := v1) ((hM_off I.off.1 I.off.2).trans hv1) rfl (by decide) (by decide) dL_law_295 (pc' := 296) rfl ?_
    refine j_iload C (i := 6) (x := (oRefer s a (xs (6 * c + 1))).1) 0 rfl dL_law_296 (pc' := 298) rfl ?_
    refine j_i2l C (x := (oRefer s a (xs (6 * c + 1))).1) rfl dL_law_298 (pc' := 299) rfl ?_
    refine j_lcmp C dL_law_299 (pc' := 300) rfl ?_
    refine jt_i (y := 0) (by rw [hz z1]; exact lg_self _) ?_
    refine j_if_eq C dL_law_300 (tgt := 305) (by decide) (pc' := 303) rfl (fun _ => ?_) (fun z => absurd rfl z)
    refine j_goto C dL_law_305 (pc' := 1590) (by decide) ?_
    exact jW.locals [2, 3, 4, 5, 6] rfl (jW.widen (by omega) (by omega) (kk _ _ _ (I.next M hF1 ⟨v1, hv1⟩ hE1 hw)))
set_option maxRecDepth 100000 in
set_option maxHeartbeats 4000000 in
theorem k_3 (C : jC X G cL_law 7 wsL_law RL) (hXR : X.2.2.2.1 = room_1) (M : mG mo ad) (hX : va_X b L xs X.2.2.2.2.1 X.2.2.2.2.1.heap) (hb : b < X.2.2.2.2.1.heap.size) (hA : b < G.1) (hL : L ≤ 3072) (hc : c < 512) (hj : 6 * c + 6 ≤ L) (I : LwI G mo oo ad xo xa c s a h) (hk : k + 43 ≤ 601024) (hn : n + 258 ≤ 7293034) (kk : ∀ s' a' h', LwI G mo oo ad xo xa (c + 1) s' a' h' → jW X G 7 (k + 43) (n + 258) 1590 [(0, .ref b), (1, .ref xo), (2, .ref mo), (3, .ref oo), (4, .int (nI (6 * c)))] [] h') : jW X G 7 k n 308 [(0, .ref b), (1, .ref xo), (2, .ref mo), (3, .ref oo), (4, .int (nI (6 * c)))] [] h := by
  refine j_aload_n C (i := 1) (x := xo) 1 rfl dL_law_308 (pc' := 309) rfl ?_
  have hw := I.1.wipe
  obtain ⟨v, hv⟩ := I.2.2.2.2
  obtain ⟨th, va, ca, ma, dat, cap, mod, df, vf, dr, mf, Q, hPo⟩ := I.2.1
  refine j_callV C (As := []) (rest := []) (c_wipe X.2.1 C.2.2.2.2.2.2.2.2 G Q I.1.1.J I.1.1.I) (cwV 0 C.2.2.2.2.1 gL_law_X3_wipe rfl rfl rfl (by decide +kernel) (by rw [hXR]; decide)) Q.obj rfl rfl rfl (Nat.le_of_ble_eq_true rfl) dL_law_309 (pc' := 312) rfl (by rw [hXR]; show k + 0 ≤ 601024; omega) (by rw [hXR]; show n + 0 ≤ 7293034; omega) (fun _ _ z => z.elim) ?_
  rintro r h1 ⟨rfl, h25, Q1, hF0⟩
  have hE1 := Q1.e (P := LwP mo oo ad) (fun v hv => hPo v hv)
  have hF1 : ∀ w, LwP mo oo ad w → w ≠ oo → h1 w = h w := fun w hw _ => hF0 w hw
  have hv1 := (hF0 oo (Or.inr (Or.inl rfl))).trans hv
  show jW X G 7 (k + 0) (n + 0) 312 [(0, .ref b), (1, .ref xo), (2, .ref mo), (3, .ref oo), (4, .int (nI (6 * c)))] [.int (oWipe s a).1] h1
  refine j_aload_n C (i := 2) (x := mo) 2 rfl dL_law_312 (pc' := 313) rfl ?_
  refine jt_h (I.mid M hF1) ?_
  refine j_callV C (As := []) (rest := [.int (oWipe s a).1]) (m_wipe X.2.1 C.2.2.2.2.2.2.2.2 G M s a I.1.1.J I.1.1.I) (cwV 0 C.2.2.2.2.1 gL_law_X4_wipe rfl rfl rfl (by decide +kernel) (by rw [hXR]; decide)) hM_obj rfl rfl rfl (Nat.le_of_ble_eq_true rfl) dL_law_313 (pc' := 316) rfl (by rw [hXR]; show k + 0 + 0 ≤ 601024; omega) (by rw [hXR]; show n + 0 + 0 ≤ 7293034; omega) (fun _ _ z => z.elim) ?_
  rintro r h' ⟨rfl, rfl⟩
  show jW X G 7 (k + 0) (n + 0) 316 [(0, .ref b), (1, .ref xo), (2, .ref mo), (3, .ref oo), (4, .int (nI (6 * c)))] [.int (oWipe s a).1, .int (oWipe s a).1] (hM G mo ad h1 (oWipe s a).2.1 (oWipe s a).2.2)
  refine j_icmp_eq C dL_law_316 (tgt := 1590) (by decide) (pc' := 319) rfl (fun _ => ?_) (fun z => absurd rfl z)
  exact jW.widen (by omega) (by omega) (kk _ _ _ (I.next M hF1 ⟨_, hv1⟩ hE1 hw))
set_option maxRecDepth 100000 in
set_option maxHeartbeats 4000000 in
theorem k_4 (C : jC X G cL_law 7 wsL_law RL) (hXR : X.2.2.2.1 = room_1) (M : mG mo ad) (hX : va_X b L xs X.2.2.2.2.1 X.2.2.2.2.1.heap) (hb : b < X.2.2.2.2.1.heap.size) (hA : b < G.1) (hL : L ≤ 3072) (hc : c < 512) (hj : 6 * c + 6 ≤ L) (I : LwI G mo oo ad xo xa c s a h) (hk : k + 43 ≤ 601024) (hn : n + 258 ≤ 7293034) (kk : ∀ s' a' h', LwI G mo oo ad xo xa (c + 1) s' a' h' → jW X G 7 (k + 43) (n + 258) 1590 [(0, .ref b), (1, .ref xo), (2, .ref mo), (3, .ref oo), (4, .int (nI (6 * c)))] [] h') : jW X G 7 k n 321 [(0, .ref b), (1, .ref xo), (2, .ref mo), (3, .ref oo), (4, .int (nI (6 * c)))] [] h := by
  refine j_aload_n C (i := 1) (x := xo) 1 rfl dL_law_321 (pc' := 322) rfl ?_
  refine j_aload_n C (i := 0) (x := b) 0 rfl dL_law_322 (pc' := 323) rfl ?_
  refine j_iload C (i := 4) (x := nI (6 * c)) 4 rfl dL_law_323 (pc' := 325) rfl ?_
  refine j_iconst C (v := nI 1) rfl dL_law_325 (pc' := 326) rfl ?_
  refine j_iadd C dL_law_326 (pc' := 327) rfl ?_
  refine j_sld C hX hb hA (j := 6 * c + 1) (nI_add _ _) (by omega) (by omega) dL_law_327 (pc' := 328) rfl ?_
  refine j_aload_n C (i := 0) (x := b) 0 rfl dL_law_328 (pc' := 329) rfl ?_
  refine j_iload C (i := 4) (x := nI (6 * c)) 4 rfl dL_law_329 (pc' := 331) rfl ?_
  refine j_iconst C (v := nI 2) rfl dL_law_331 (pc' := 332) rfl ?_
  refine j_iadd C dL_law_332 (pc' := 333) rfl ?_
  refine j_sld C hX hb hA (j := 6 * c + 2) (nI_add _ _) (by omega) (by omega) dL_law_333 (pc' := 334) rfl ?_
  refine j_aload_n C (i := 0) (x := b) 0 rfl dL_law_334 (pc' := 335) rfl ?_
  refine j_iload C (i := 4) (x := nI (6 * c)) 4 rfl dL_law_335 (pc' := 337) rfl ?_
  refine j_iconst C (v := nI 3) rfl dL_law_337 (pc' := 338) rfl ?_
  refine j_iadd C dL_law_338 (pc' := 339) rfl ?_
  refine j_sld C hX hb hA (j := 6 * c + 3) (nI_add _ _) (by omega) (by omega) dL_law_339 (pc' := 340) rfl ?_
  refine j_aload_n C (i := 3) (x := oo) 3 rfl dL_law_340 (pc' := 341) rfl ?_
  have hw := I.1.point hc (xs (6 * c + 1)) (xs (6 * c + 2)) (xs (6 * c + 3))
  obtain ⟨v, hv⟩ := I.2.2.2.2
  refine j_callSX C (As := [.ref xo, .int (xs (6 * c + 1)), .int (xs (6 * c + 2)), .int (xs (6 * c + 3)), .ref oo]) (rest := []) (w_point X.2.1 C.2.2.2.2.2.2.2.2 G (xs (6 * c + 1)) (xs (6 * c + 2)) (xs (6 * c + 3)) I.1 hc I.2.1 I.Pn (Or.inr (Or.inl rfl)) hv) (vx_cwSW 5 C.2.2.2.2.1 gL_law_L_point rfl rfl rfl (by decide +kernel) (by rw [hXR]; decide)) rfl rfl (Nat.le_of_ble_eq_true rfl) dL_law_341 (pc' := 344) rfl (by rw [hXR]; show k + 8 ≤ 601024; omega) (by rw [hXR]; show n + 136 ≤ 7293034; omega) (fun _ _ z => z.elim) ?_
  rintro r h1 ⟨rfl, ⟨v1, hv1, hz⟩, hE1, hF1⟩
  show jW X G 7 (k + 8) (n + 136) 344 [(0, .ref b), (1, .ref xo), (2, .ref mo), (3, .ref oo), (4, .int (nI (6 * c)))] [.int (nI ((oPoint s a (xs (6 * c + 1)) (xs (6 * c + 2)) (xs (6 * c + 3))).2.1 25))] (h1)
  refine j_istore C (i := 5) (x := nI ((oPoint s a (xs (6 * c + 1)) (xs (6 * c + 2)) (xs (6 * c + 3))).2.1 25)) (l' := [(5, .int (nI ((oPoint s a (xs (6 * c + 1)) (xs (6 * c + 2)) (xs (6 * c + 3))).2.1 25))), (0, .ref b), (1, .ref xo), (2, .ref mo), (3, .ref oo), (4, .int (nI (6 * c)))]) dL_law_344 (pc' := 346) rfl (by decide) rfl ?_
  refine j_aload_n C (i := 2) (x := mo) 3 rfl dL_law_346 (pc' := 347) rfl ?_
  refine j_aload_n C (i := 0) (x := b) 1 rfl dL_law_347 (pc' := 348) rfl ?_
  refine j_iload C (i := 4) (x := nI (6 * c)) 5 rfl dL_law_348 (pc' := 350) rfl ?_
  refine j_iconst C (v := nI 1) rfl dL_law_350 (pc' := 351) rfl ?_
  refine j_iadd C dL_law_351 (pc' := 352) rfl ?_
  refine j_sld C hX hb hA (j := 6 * c + 1) (nI_add _ _) (by omega) (by omega) dL_law_352 (pc' := 353) rfl ?_
  refine j_aload_n C (i := 0) (x := b) 1 rfl dL_law_353 (pc' := 354) rfl ?_
  refine j_iload C (i := 4) (x := nI (6 * c)) 5 rfl dL_law_354 (pc' := 356) rfl ?_
  refine j_iconst C (v := nI 2) rfl dL_law_356 (pc' := 357) rfl ?_
  refine j_iadd C dL_law_357 (pc' := 358) rfl ?_
  refine j_sld C hX hb hA (j := 6 * c + 2) (nI_add _ _) (by omega) (by omega) dL_law_358 (pc' := 359) rfl ?_
  refine j_aload_n C (i := 0) (x := b) 1 rfl dL_law_359 (pc' := 360) rfl ?_
  refine j_iload C (i := 4) (x := nI (6 * c)) 5 rfl dL_law_360 (pc' := 362) rfl ?_
  refine j_iconst C (v := nI 3) rfl dL_law_362 (pc' := 363) rfl ?_
  refine j_iadd C dL_law_363 (pc' := 364) rfl ?_
  refine j_sld C hX hb hA (j := 6 * c + 3) (nI_add _ _) (by omega) (by omega) dL_law_364 (pc' := 365) rfl ?_
  refine jt_h (I.mid M hF1) ?_
  refine j_callV C (As := [.int (xs (6 * c + 1)), .int (xs (6 * c + 2)), .int (xs (6 * c + 3))]) (rest := []) (m_point X.2.1 C.2.2.2.2.2.2.2.2 G M s a (xs (6 * c + 1)) (xs (6 * c + 2)) (xs (6 * c + 3)) I.1.1.J I.1.1.I) (cwV 3 C.2.2.2.2.1 gL_law_X4_point rfl rfl rfl (by decide +kernel) (by rw [hXR]; decide)) hM_obj rfl rfl rfl (Nat.le_of_ble_eq_true rfl) dL_law_365 (pc' := 368) rfl (by rw [hXR]; show k + 8 + 0 ≤ 601024; omega) (by rw [hXR]; show n + 136 + 0 ≤ 7293034; omega) (fun _ _ z => z.elim) ?_
  rintro r h' ⟨rfl, rfl⟩
  show jW X G 7 (k + 8) (n + 136) 368 [(5, .int (nI ((oPoint s a (xs (6 * c + 1)) (xs (6 * c + 2)) (xs (6 * c + 3))).2.1 25))), (0, .ref b), (1, .ref xo), (2, .ref mo), (3, .ref oo), (4, .int (nI (6 * c)))] [.int ((oPoint s a (xs (6 * c + 1)) (xs (6 * c + 2)) (xs (6 * c + 3))).1)] (hM G mo ad h1 (oPoint s a (xs (6 * c + 1)) (xs (6 * c + 2)) (xs (6 * c + 3))).2.1 (oPoint s a (xs (6 * c + 1)) (xs (6 * c + 2)) (xs (6 * c + 3))).2.2)
  refine j_istore C (i := 6) (x := (oPoint s a (xs (6 * c + 1)) (xs (6 * c + 2)) (xs (6 * c + 3))).1) (l' := [(6, .int ((oPoint s a (xs (6 * c + 1)) (xs (6 * c + 2)) (xs (6 * c + 3))).1)), (5, .int (nI ((oPoint s a (xs (6 * c + 1)) (xs (6 * c + 2)) (xs (6 * c + 3))).2.1 25))), (0, .ref b), (1, .ref xo), (2, .ref mo), (3, .ref oo), (4, .int (nI (6 * c)))]) dL_law_368 (pc' := 370) rfl (by decide) rfl ?_
  refine j_aload_n C (i := 2) (x := mo) 4 rfl dL_law_370 (pc' := 371) rfl ?_
  refine j_callV C (As := []) (rest := []) (m_thrown X.2.1 C.2.2.2.2.2.2.2.2 G M (oPoint s a (xs (6 * c + 1)) (xs (6 * c + 2)) (xs (6 * c + 3))).2.1 (oPoint s a (xs (6 * c + 1)) (xs (6 * c + 2)) (xs (6 * c + 3))).2.2) (cwV 0 C.2.2.2.2.1 gL_law_X4_thrown rfl rfl rfl (by decide +kernel) (by rw [hXR]; decide)) hM_obj rfl rfl rfl (Nat.le_of_ble_eq_true rfl) dL_law_371 (pc' := 374) rfl (by rw [hXR]; show k + 8 + 0 ≤ 601024; omega) (by rw [hXR]; show n + 136 + 0 ≤ 7293034; omega) (fun _ _ z => z.elim) ?_
  rintro r h' ⟨rfl, rfl⟩
  show jW X G 7 (k + 8) (n + 136) 374 [(6, .int ((oPoint s a (xs (6 * c + 1)) (xs (6 * c + 2)) (xs (6 * c + 3))).1)), (5, .int (nI ((oPoint s a (xs (6 * c + 1)) (xs (6 * c + 2)) (xs (6 * c + 3))).2.1 25))), (0, .ref b), (1, .ref xo), (2, .ref mo), (3, .ref oo), (4, .int (nI (6 * c)))] [.int (nI ((oPoint s a (xs (6 * c + 1)) (xs (6 * c + 2)) (xs (6 * c + 3))).2.1 25))] (hM G mo ad h1 (oPoint s a (xs (6 * c + 1)) (xs (6 * c + 2)) (xs (6 * c + 3))).2.1 (oPoint s a (xs (6 * c + 1)) (xs (6 * c + 2)) (xs (6 * c + 3))).2.2)
  refine j_iload C (i := 5) (x := nI ((oPoint s a (xs (6 * c + 1)) (xs (6 * c + 2)) (xs (6 * c + 3))).2.1 25)) 1 rfl dL_law_374 (pc' := 376) rfl ?_
  refine j_icmp_eq C dL_law_376 (tgt := 381) (by decide) (pc' := 379) rfl (fun _ => ?_) (fun z => absurd rfl z)
  refine j_iload C (i := 5) (x := nI ((oPoint s a (xs (6 * c + 1)) (xs (6 * c + 2)) (xs (6 * c + 3))).2.1 25)) 1 rfl dL_law_381 (pc' := 383) rfl ?_
  refine j_if_ne C dL_law_383 (tgt := 398) (by decide) (pc' := 386) rfl (fun _ => ?_) (fun z0 => ?_)
  · skip
    refine j_goto C dL_law_398 (pc' := 1590) (by decide) ?_
    exact jW.locals [2, 3, 4, 5, 6] rfl (jW.widen (by omega) (by omega) (kk _ _ _ (I.next M hF1 ⟨v1, hv1⟩ hE1 hw)))
  · have z1 : (oPoint s a (xs (6 * c + 1)) (xs (6 * c + 2)) (xs (6 * c + 3))).2.1 25 = 0 := (nI_eq (a := (oPoint s a (xs (6 * c + 1)) (xs (6 * c + 2)) (xs (6 * c + 3))).2.1 25) (b := 0) (Nat.lt_of_lt_of_le (hw.1.J.1 25) (by decide)) (by decide)).mp z0
    refine j_aload_n C (i := 3) (x := oo) 5 rfl dL_law_386 (pc' := 387) rfl ?_
    refine j_iconst C (v := nI 0) rfl dL_law_387 (pc' := 388) rfl ?_
    refine j_lald C (a := oo) (N := 1) (j := 0) (f := v1) ((hM_off I.off.1 I.off.2).trans hv1) rfl (by decide) (by decide) dL_law_388 (pc' := 389) rfl ?_
    refine j_iload C (i := 6) (x := (oPoint s a (xs (6 * c + 1)) (xs (6 * c + 2)) (xs (6 * c + 3))).1) 0 rfl dL_law_389 (pc' := 391) rfl ?_
    refine j_i2l C (x := (oPoint s a (xs (6 * c + 1)) (xs (6 * c + 2)) (xs (6 * c + 3))).1) rfl dL_law_391 (pc' := 392) rfl ?_
    refine j_lcmp C dL_law_392 (pc' := 393) rfl ?_
    refine jt_i (y := 0) (by rw [hz z1]; exact lg_self _) ?_
    refine j_if_eq C dL_law_393 (tgt := 398) (by decide) (pc' := 396) rfl (fun _ => ?_) (fun z => absurd rfl z)
    refine j_goto C dL_law_398 (pc' := 1590) (by decide) ?_
    exact jW.locals [2, 3, 4, 5, 6] rfl (jW.widen (by omega) (by omega) (kk _ _ _ (I.next M hF1 ⟨v1, hv1⟩ hE1 hw)))
set_option maxRecDepth 100000 in
set_option maxHeartbeats 4000000 in
theorem k_5 (C : jC X G cL_law 7 wsL_law RL) (hXR : X.2.2.2.1 = room_1) (M : mG mo ad) (hX : va_X b L xs X.2.2.2.2.1 X.2.2.2.2.1.heap) (hb : b < X.2.2.2.2.1.heap.size) (hA : b < G.1) (hL : L ≤ 3072) (hc : c < 512) (hj : 6 * c + 6 ≤ L) (I : LwI G mo oo ad xo xa c s a h) (hk : k + 43 ≤ 601024) (hn : n + 258 ≤ 7293034) (kk : ∀ s' a' h', LwI G mo oo ad xo xa (c + 1) s' a' h' → jW X G 7 (k + 43) (n + 258) 1590 [(0, .ref b), (1, .ref xo), (2, .ref mo), (3, .ref oo), (4, .int (nI (6 * c)))] [] h') : jW X G 7 k n 401 [(0, .ref b), (1, .ref xo), (2, .ref mo), (3, .ref oo), (4, .int (nI (6 * c)))] [] h := by
  refine j_aload_n C (i := 1) (x := xo) 1 rfl dL_law_401 (pc' := 402) rfl ?_
  refine j_aload_n C (i := 0) (x := b) 0 rfl dL_law_402 (pc' := 403) rfl ?_
  refine j_iload C (i := 4) (x := nI (6 * c)) 4 rfl dL_law_403 (pc' := 405) rfl ?_
  refine j_iconst C (v := nI 1) rfl dL_law_405 (pc' := 406) rfl ?_
  refine j_iadd C dL_law_406 (pc' := 407) rfl ?_
  refine j_sld C hX hb hA (j := 6 * c + 1) (nI_add _ _) (by omega) (by omega) dL_law_407 (pc' := 408) rfl ?_
  refine j_aload_n C (i := 0) (x := b) 0 rfl dL_law_408 (pc' := 409) rfl ?_
  refine j_iload C (i := 4) (x := nI (6 * c)) 4 rfl dL_law_409 (pc' := 411) rfl ?_
  refine j_iconst C (v := nI 2) rfl dL_law_411 (pc' := 412) rfl ?_
  refine j_iadd C dL_law_412 (pc' := 413) rfl ?_
  refine j_sld C hX hb hA (j := 6 * c + 2) (nI_add _ _) (by omega) (by omega) dL_law_413 (pc' := 414) rfl ?_
  refine j_aload_n C (i := 3) (x := oo) 3 rfl dL_law_414 (pc' := 415) rfl ?_
  have hw := I.1.make hc (xs (6 * c + 1)) (xs (6 * c + 2))
  obtain ⟨v, hv⟩ := I.2.2.2.2
  refine j_callSX C (As := [.ref xo, .int (xs (6 * c + 1)), .int (xs (6 * c + 2)), .ref oo]) (rest := []) (w_make X.2.1 C.2.2.2.2.2.2.2.2 G (xs (6 * c + 1)) (xs (6 * c + 2)) I.1 hc I.2.1 I.Pn (Or.inr (Or.inl rfl)) hv) (vx_cwSW 4 C.2.2.2.2.1 gL_law_L_make rfl rfl rfl (by decide +kernel) (by rw [hXR]; decide)) rfl rfl (Nat.le_of_ble_eq_true rfl) dL_law_415 (pc' := 418) rfl (by rw [hXR]; show k + 8 ≤ 601024; omega) (by rw [hXR]; show n + 136 ≤ 7293034; omega) (fun _ _ z => z.elim) ?_
  rintro r h1 ⟨rfl, ⟨v1, hv1, hz⟩, hE1, hF1⟩
  show jW X G 7 (k + 8) (n + 136) 418 [(0, .ref b), (1, .ref xo), (2, .ref mo), (3, .ref oo), (4, .int (nI (6 * c)))] [.int (nI ((oMake s a (xs (6 * c + 1)) (xs (6 * c + 2))).2.1 25))] (h1)
  refine j_istore C (i := 5) (x := nI ((oMake s a (xs (6 * c + 1)) (xs (6 * c + 2))).2.1 25)) (l' := [(5, .int (nI ((oMake s a (xs (6 * c + 1)) (xs (6 * c + 2))).2.1 25))), (0, .ref b), (1, .ref xo), (2, .ref mo), (3, .ref oo), (4, .int (nI (6 * c)))]) dL_law_418 (pc' := 420) rfl (by decide) rfl ?_
  refine j_aload_n C (i := 2) (x := mo) 3 rfl dL_law_420 (pc' := 421) rfl ?_
  refine j_aload_n C (i := 0) (x := b) 1 rfl dL_law_421 (pc' := 422) rfl ?_
  refine j_iload C (i := 4) (x := nI (6 * c)) 5 rfl dL_law_422 (pc' := 424) rfl ?_
  refine j_iconst C (v := nI 1) rfl dL_law_424 (pc' := 425) rfl ?_
  refine j_iadd C dL_law_425 (pc' := 426) rfl ?_
  refine j_sld C hX hb hA (j := 6 * c + 1) (nI_add _ _) (by omega) (by omega) dL_law_426 (pc' := 427) rfl ?_
  refine j_aload_n C (i := 0) (x := b) 1 rfl dL_law_427 (pc' := 428) rfl ?_
  refine j_iload C (i := 4) (x := nI (6 * c)) 5 rfl dL_law_428 (pc' := 430) rfl ?_
  refine j_iconst C (v := nI 2) rfl dL_law_430 (pc' := 431) rfl ?_
  refine j_iadd C dL_law_431 (pc' := 432) rfl ?_
  refine j_sld C hX hb hA (j := 6 * c + 2) (nI_add _ _) (by omega) (by omega) dL_law_432 (pc' := 433) rfl ?_
  refine jt_h (I.mid M hF1) ?_
  refine j_callV C (As := [.int (xs (6 * c + 1)), .int (xs (6 * c + 2))]) (rest := []) (m_make X.2.1 C.2.2.2.2.2.2.2.2 G M s a (xs (6 * c + 1)) (xs (6 * c + 2)) I.1.1.J I.1.1.I) (cwV 2 C.2.2.2.2.1 gL_law_X4_make rfl rfl rfl (by decide +kernel) (by rw [hXR]; decide)) hM_obj rfl rfl rfl (Nat.le_of_ble_eq_true rfl) dL_law_433 (pc' := 436) rfl (by rw [hXR]; show k + 8 + 0 ≤ 601024; omega) (by rw [hXR]; show n + 136 + 0 ≤ 7293034; omega) (fun _ _ z => z.elim) ?_
  rintro r h' ⟨rfl, rfl⟩
  show jW X G 7 (k + 8) (n + 136) 436 [(5, .int (nI ((oMake s a (xs (6 * c + 1)) (xs (6 * c + 2))).2.1 25))), (0, .ref b), (1, .ref xo), (2, .ref mo), (3, .ref oo), (4, .int (nI (6 * c)))] [.int ((oMake s a (xs (6 * c + 1)) (xs (6 * c + 2))).1)] (hM G mo ad h1 (oMake s a (xs (6 * c + 1)) (xs (6 * c + 2))).2.1 (oMake s a (xs (6 * c + 1)) (xs (6 * c + 2))).2.2)
  refine j_istore C (i := 6) (x := (oMake s a (xs (6 * c + 1)) (xs (6 * c + 2))).1) (l' := [(6, .int ((oMake s a (xs (6 * c + 1)) (xs (6 * c + 2))).1)), (5, .int (nI ((oMake s a (xs (6 * c + 1)) (xs (6 * c + 2))).2.1 25))), (0, .ref b), (1, .ref xo), (2, .ref mo), (3, .ref oo), (4, .int (nI (6 * c)))]) dL_law_436 (pc' := 438) rfl (by decide) rfl ?_
  refine j_aload_n C (i := 2) (x := mo) 4 rfl dL_law_438 (pc' := 439) rfl ?_
  refine j_callV C (As := []) (rest := []) (m_thrown X.2.1 C.2.2.2.2.2.2.2.2 G M (oMake s a (xs (6 * c + 1)) (xs (6 * c + 2))).2.1 (oMake s a (xs (6 * c + 1)) (xs (6 * c + 2))).2.2) (cwV 0 C.2.2.2.2.1 gL_law_X4_thrown rfl rfl rfl (by decide +kernel) (by rw [hXR]; decide)) hM_obj rfl rfl rfl (Nat.le_of_ble_eq_true rfl) dL_law_439 (pc' := 442) rfl (by rw [hXR]; show k + 8 + 0 ≤ 601024; omega) (by rw [hXR]; show n + 136 + 0 ≤ 7293034; omega) (fun _ _ z => z.elim) ?_
  rintro r h' ⟨rfl, rfl⟩
  show jW X G 7 (k + 8) (n + 136) 442 [(6, .int ((oMake s a (xs (6 * c + 1)) (xs (6 * c + 2))).1)), (5, .int (nI ((oMake s a (xs (6 * c + 1)) (xs (6 * c + 2))).2.1 25))), (0, .ref b), (1, .ref xo), (2, .ref mo), (3, .ref oo), (4, .int (nI (6 * c)))] [.int (nI ((oMake s a (xs (6 * c + 1)) (xs (6 * c + 2))).2.1 25))] (hM G mo ad h1 (oMake s a (xs (6 * c + 1)) (xs (6 * c + 2))).2.1 (oMake s a (xs (6 * c + 1)) (xs (6 * c + 2))).2.2)
  refine j_iload C (i := 5) (x := nI ((oMake s a (xs (6 * c + 1)) (xs (6 * c + 2))).2.1 25)) 1 rfl dL_law_442 (pc' := 444) rfl ?_
  refine j_icmp_eq C dL_law_444 (tgt := 449) (by decide) (pc' := 447) rfl (fun _ => ?_) (fun z => absurd rfl z)
  refine j_iload C (i := 5) (x := nI ((oMake s a (xs (6 * c + 1)) (xs (6 * c + 2))).2.1 25)) 1 rfl dL_law_449 (pc' := 451) rfl ?_
  refine j_if_ne C dL_law_451 (tgt := 466) (by decide) (pc' := 454) rfl (fun _ => ?_) (fun z0 => ?_)
  · skip
    refine j_goto C dL_law_466 (pc' := 1590) (by decide) ?_
    exact jW.locals [2, 3, 4, 5, 6] rfl (jW.widen (by omega) (by omega) (kk _ _ _ (I.next M hF1 ⟨v1, hv1⟩ hE1 hw)))
  · have z1 : (oMake s a (xs (6 * c + 1)) (xs (6 * c + 2))).2.1 25 = 0 := (nI_eq (a := (oMake s a (xs (6 * c + 1)) (xs (6 * c + 2))).2.1 25) (b := 0) (Nat.lt_of_lt_of_le (hw.1.J.1 25) (by decide)) (by decide)).mp z0
    refine j_aload_n C (i := 3) (x := oo) 5 rfl dL_law_454 (pc' := 455) rfl ?_
    refine j_iconst C (v := nI 0) rfl dL_law_455 (pc' := 456) rfl ?_
    refine j_lald C (a := oo) (N := 1) (j := 0) (f := v1) ((hM_off I.off.1 I.off.2).trans hv1) rfl (by decide) (by decide) dL_law_456 (pc' := 457) rfl ?_
    refine j_iload C (i := 6) (x := (oMake s a (xs (6 * c + 1)) (xs (6 * c + 2))).1) 0 rfl dL_law_457 (pc' := 459) rfl ?_
    refine j_i2l C (x := (oMake s a (xs (6 * c + 1)) (xs (6 * c + 2))).1) rfl dL_law_459 (pc' := 460) rfl ?_
    refine j_lcmp C dL_law_460 (pc' := 461) rfl ?_
    refine jt_i (y := 0) (by rw [hz z1]; exact lg_self _) ?_
    refine j_if_eq C dL_law_461 (tgt := 466) (by decide) (pc' := 464) rfl (fun _ => ?_) (fun z => absurd rfl z)
    refine j_goto C dL_law_466 (pc' := 1590) (by decide) ?_
    exact jW.locals [2, 3, 4, 5, 6] rfl (jW.widen (by omega) (by omega) (kk _ _ _ (I.next M hF1 ⟨v1, hv1⟩ hE1 hw)))
set_option maxRecDepth 100000 in
set_option maxHeartbeats 4000000 in
theorem k_6 (C : jC X G cL_law 7 wsL_law RL) (hXR : X.2.2.2.1 = room_1) (M : mG mo ad) (hX : va_X b L xs X.2.2.2.2.1 X.2.2.2.2.1.heap) (hb : b < X.2.2.2.2.1.heap.size) (hA : b < G.1) (hL : L ≤ 3072) (hc : c < 512) (hj : 6 * c + 6 ≤ L) (I : LwI G mo oo ad xo xa c s a h) (hk : k + 43 ≤ 601024) (hn : n + 258 ≤ 7293034) (kk : ∀ s' a' h', LwI G mo oo ad xo xa (c + 1) s' a' h' → jW X G 7 (k + 43) (n + 258) 1590 [(0, .ref b), (1, .ref xo), (2, .ref mo), (3, .ref oo), (4, .int (nI (6 * c)))] [] h') : jW X G 7 k n 469 [(0, .ref b), (1, .ref xo), (2, .ref mo), (3, .ref oo), (4, .int (nI (6 * c)))] [] h := by
  refine j_aload_n C (i := 1) (x := xo) 1 rfl dL_law_469 (pc' := 470) rfl ?_
  refine j_aload_n C (i := 0) (x := b) 0 rfl dL_law_470 (pc' := 471) rfl ?_
  refine j_iload C (i := 4) (x := nI (6 * c)) 4 rfl dL_law_471 (pc' := 473) rfl ?_
  refine j_iconst C (v := nI 1) rfl dL_law_473 (pc' := 474) rfl ?_
  refine j_iadd C dL_law_474 (pc' := 475) rfl ?_
  refine j_sld C hX hb hA (j := 6 * c + 1) (nI_add _ _) (by omega) (by omega) dL_law_475 (pc' := 476) rfl ?_
  refine j_aload_n C (i := 0) (x := b) 0 rfl dL_law_476 (pc' := 477) rfl ?_
  refine j_iload C (i := 4) (x := nI (6 * c)) 4 rfl dL_law_477 (pc' := 479) rfl ?_
  refine j_iconst C (v := nI 2) rfl dL_law_479 (pc' := 480) rfl ?_
  refine j_iadd C dL_law_480 (pc' := 481) rfl ?_
  refine j_sld C hX hb hA (j := 6 * c + 2) (nI_add _ _) (by omega) (by omega) dL_law_481 (pc' := 482) rfl ?_
  refine j_aload_n C (i := 0) (x := b) 0 rfl dL_law_482 (pc' := 483) rfl ?_
  refine j_iload C (i := 4) (x := nI (6 * c)) 4 rfl dL_law_483 (pc' := 485) rfl ?_
  refine j_iconst C (v := nI 3) rfl dL_law_485 (pc' := 486) rfl ?_
  refine j_iadd C dL_law_486 (pc' := 487) rfl ?_
  refine j_sld C hX hb hA (j := 6 * c + 3) (nI_add _ _) (by omega) (by omega) dL_law_487 (pc' := 488) rfl ?_
  refine j_aload_n C (i := 0) (x := b) 0 rfl dL_law_488 (pc' := 489) rfl ?_
  refine j_iload C (i := 4) (x := nI (6 * c)) 4 rfl dL_law_489 (pc' := 491) rfl ?_
  refine j_iconst C (v := nI 4) rfl dL_law_491 (pc' := 492) rfl ?_
  refine j_iadd C dL_law_492 (pc' := 493) rfl ?_
  refine j_sld C hX hb hA (j := 6 * c + 4) (nI_add _ _) (by omega) (by omega) dL_law_493 (pc' := 494) rfl ?_
  refine j_aload_n C (i := 0) (x := b) 0 rfl dL_law_494 (pc' := 495) rfl ?_
  refine j_iload C (i := 4) (x := nI (6 * c)) 4 rfl dL_law_495 (pc' := 497) rfl ?_
  refine j_iconst C (v := nI 5) rfl dL_law_497 (pc' := 498) rfl ?_
  refine j_iadd C dL_law_498 (pc' := 499) rfl ?_
  refine j_sld C hX hb hA (j := 6 * c + 5) (nI_add _ _) (by omega) (by omega) dL_law_499 (pc' := 500) rfl ?_
  refine j_aload_n C (i := 3) (x := oo) 3 rfl dL_law_500 (pc' := 501) rfl ?_
  have hw := I.1.move hc (xs (6 * c + 1)) (xs (6 * c + 2)) (xs (6 * c + 3)) (xs (6 * c + 4)) (xs (6 * c + 5))
  obtain ⟨v, hv⟩ := I.2.2.2.2
  refine j_callSX C (As := [.ref xo, .int (xs (6 * c + 1)), .int (xs (6 * c + 2)), .int (xs (6 * c + 3)), .int (xs (6 * c + 4)), .int (xs (6 * c + 5)), .ref oo]) (rest := []) (w_move X.2.1 C.2.2.2.2.2.2.2.2 G (xs (6 * c + 1)) (xs (6 * c + 2)) (xs (6 * c + 3)) (xs (6 * c + 4)) (xs (6 * c + 5)) I.1 hc I.2.1 I.Pn (Or.inr (Or.inl rfl)) hv) (vx_cwSW 7 C.2.2.2.2.1 gL_law_L_move rfl rfl rfl (by decide +kernel) (by rw [hXR]; decide)) rfl rfl (Nat.le_of_ble_eq_true rfl) dL_law_501 (pc' := 504) rfl (by rw [hXR]; show k + 6 ≤ 601024; omega) (by rw [hXR]; show n + 34 ≤ 7293034; omega) (fun _ _ z => z.elim) ?_
  rintro r h1 ⟨rfl, ⟨v1, hv1, hz⟩, hE1, hF1⟩
  show jW X G 7 (k + 6) (n + 34) 504 [(0, .ref b), (1, .ref xo), (2, .ref mo), (3, .ref oo), (4, .int (nI (6 * c)))] [.int (nI ((oMove s a (xs (6 * c + 1)) (xs (6 * c + 2)) (xs (6 * c + 3)) (xs (6 * c + 4)) (xs (6 * c + 5))).2.1 25))] (h1)
  refine j_istore C (i := 5) (x := nI ((oMove s a (xs (6 * c + 1)) (xs (6 * c + 2)) (xs (6 * c + 3)) (xs (6 * c + 4)) (xs (6 * c + 5))).2.1 25)) (l' := [(5, .int (nI ((oMove s a (xs (6 * c + 1)) (xs (6 * c + 2)) (xs (6 * c + 3)) (xs (6 * c + 4)) (xs (6 * c + 5))).2.1 25))), (0, .ref b), (1, .ref xo), (2, .ref mo), (3, .ref oo), (4, .int (nI (6 * c)))]) dL_law_504 (pc' := 506) rfl (by decide) rfl ?_
  refine j_aload_n C (i := 2) (x := mo) 3 rfl dL_law_506 (pc' := 507) rfl ?_
  refine j_aload_n C (i := 0) (x := b) 1 rfl dL_law_507 (pc' := 508) rfl ?_
  refine j_iload C (i := 4) (x := nI (6 * c)) 5 rfl dL_law_508 (pc' := 510) rfl ?_
  refine j_iconst C (v := nI 1) rfl dL_law_510 (pc' := 511) rfl ?_
  refine j_iadd C dL_law_511 (pc' := 512) rfl ?_
  refine j_sld C hX hb hA (j := 6 * c + 1) (nI_add _ _) (by omega) (by omega) dL_law_512 (pc' := 513) rfl ?_
  refine j_aload_n C (i := 0) (x := b) 1 rfl dL_law_513 (pc' := 514) rfl ?_
  refine j_iload C (i := 4) (x := nI (6 * c)) 5 rfl dL_law_514 (pc' := 516) rfl ?_
  refine j_iconst C (v := nI 2) rfl dL_law_516 (pc' := 517) rfl ?_
  refine j_iadd C dL_law_517 (pc' := 518) rfl ?_
  refine j_sld C hX hb hA (j := 6 * c + 2) (nI_add _ _) (by omega) (by omega) dL_law_518 (pc' := 519) rfl ?_
  refine j_aload_n C (i := 0) (x := b) 1 rfl dL_law_519 (pc' := 520) rfl ?_
  refine j_iload C (i := 4) (x := nI (6 * c)) 5 rfl dL_law_520 (pc' := 522) rfl ?_
  refine j_iconst C (v := nI 3) rfl dL_law_522 (pc' := 523) rfl ?_
  refine j_iadd C dL_law_523 (pc' := 524) rfl ?_
  refine j_sld C hX hb hA (j := 6 * c + 3) (nI_add _ _) (by omega) (by omega) dL_law_524 (pc' := 525) rfl ?_
  refine j_aload_n C (i := 0) (x := b) 1 rfl dL_law_525 (pc' := 526) rfl ?_
  refine j_iload C (i := 4) (x := nI (6 * c)) 5 rfl dL_law_526 (pc' := 528) rfl ?_
  refine j_iconst C (v := nI 4) rfl dL_law_528 (pc' := 529) rfl ?_
  refine j_iadd C dL_law_529 (pc' := 530) rfl ?_
  refine j_sld C hX hb hA (j := 6 * c + 4) (nI_add _ _) (by omega) (by omega) dL_law_530 (pc' := 531) rfl ?_
  refine j_aload_n C (i := 0) (x := b) 1 rfl dL_law_531 (pc' := 532) rfl ?_
  refine j_iload C (i := 4) (x := nI (6 * c)) 5 rfl dL_law_532 (pc' := 534) rfl ?_
  refine j_iconst C (v := nI 5) rfl dL_law_534 (pc' := 535) rfl ?_
  refine j_iadd C dL_law_535 (pc' := 536) rfl ?_
  refine j_sld C hX hb hA (j := 6 * c + 5) (nI_add _ _) (by omega) (by omega) dL_law_536 (pc' := 537) rfl ?_
  refine jt_h (I.mid M hF1) ?_
  refine j_callV C (As := [.int (xs (6 * c + 1)), .int (xs (6 * c + 2)), .int (xs (6 * c + 3)), .int (xs (6 * c + 4)), .int (xs (6 * c + 5))]) (rest := []) (m_move X.2.1 C.2.2.2.2.2.2.2.2 G M s a (xs (6 * c + 1)) (xs (6 * c + 2)) (xs (6 * c + 3)) (xs (6 * c + 4)) (xs (6 * c + 5)) I.1.1.J I.1.1.I) (cwV 5 C.2.2.2.2.1 gL_law_X4_move rfl rfl rfl (by decide +kernel) (by rw [hXR]; decide)) hM_obj rfl rfl rfl (Nat.le_of_ble_eq_true rfl) dL_law_537 (pc' := 540) rfl (by rw [hXR]; show k + 6 + 0 ≤ 601024; omega) (by rw [hXR]; show n + 34 + 0 ≤ 7293034; omega) (fun _ _ z => z.elim) ?_
  rintro r h' ⟨rfl, rfl⟩
  show jW X G 7 (k + 6) (n + 34) 540 [(5, .int (nI ((oMove s a (xs (6 * c + 1)) (xs (6 * c + 2)) (xs (6 * c + 3)) (xs (6 * c + 4)) (xs (6 * c + 5))).2.1 25))), (0, .ref b), (1, .ref xo), (2, .ref mo), (3, .ref oo), (4, .int (nI (6 * c)))] [.int ((oMove s a (xs (6 * c + 1)) (xs (6 * c + 2)) (xs (6 * c + 3)) (xs (6 * c + 4)) (xs (6 * c + 5))).1)] (hM G mo ad h1 (oMove s a (xs (6 * c + 1)) (xs (6 * c + 2)) (xs (6 * c + 3)) (xs (6 * c + 4)) (xs (6 * c + 5))).2.1 (oMove s a (xs (6 * c + 1)) (xs (6 * c + 2)) (xs (6 * c + 3)) (xs (6 * c + 4)) (xs (6 * c + 5))).2.2)
  refine j_istore C (i := 6) (x := (oMove s a (xs (6 * c + 1)) (xs (6 * c + 2)) (xs (6 * c + 3)) (xs (6 * c + 4)) (xs (6 * c + 5))).1) (l' := [(6, .int ((oMove s a (xs (6 * c + 1)) (xs (6 * c + 2)) (xs (6 * c + 3)) (xs (6 * c + 4)) (xs (6 * c + 5))).1)), (5, .int (nI ((oMove s a (xs (6 * c + 1)) (xs (6 * c + 2)) (xs (6 * c + 3)) (xs (6 * c + 4)) (xs (6 * c + 5))).2.1 25))), (0, .ref b), (1, .ref xo), (2, .ref mo), (3, .ref oo), (4, .int (nI (6 * c)))]) dL_law_540 (pc' := 542) rfl (by decide) rfl ?_
  refine j_aload_n C (i := 2) (x := mo) 4 rfl dL_law_542 (pc' := 543) rfl ?_
  refine j_callV C (As := []) (rest := []) (m_thrown X.2.1 C.2.2.2.2.2.2.2.2 G M (oMove s a (xs (6 * c + 1)) (xs (6 * c + 2)) (xs (6 * c + 3)) (xs (6 * c + 4)) (xs (6 * c + 5))).2.1 (oMove s a (xs (6 * c + 1)) (xs (6 * c + 2)) (xs (6 * c + 3)) (xs (6 * c + 4)) (xs (6 * c + 5))).2.2) (cwV 0 C.2.2.2.2.1 gL_law_X4_thrown rfl rfl rfl (by decide +kernel) (by rw [hXR]; decide)) hM_obj rfl rfl rfl (Nat.le_of_ble_eq_true rfl) dL_law_543 (pc' := 546) rfl (by rw [hXR]; show k + 6 + 0 ≤ 601024; omega) (by rw [hXR]; show n + 34 + 0 ≤ 7293034; omega) (fun _ _ z => z.elim) ?_
  rintro r h' ⟨rfl, rfl⟩
  show jW X G 7 (k + 6) (n + 34) 546 [(6, .int ((oMove s a (xs (6 * c + 1)) (xs (6 * c + 2)) (xs (6 * c + 3)) (xs (6 * c + 4)) (xs (6 * c + 5))).1)), (5, .int (nI ((oMove s a (xs (6 * c + 1)) (xs (6 * c + 2)) (xs (6 * c + 3)) (xs (6 * c + 4)) (xs (6 * c + 5))).2.1 25))), (0, .ref b), (1, .ref xo), (2, .ref mo), (3, .ref oo), (4, .int (nI (6 * c)))] [.int (nI ((oMove s a (xs (6 * c + 1)) (xs (6 * c + 2)) (xs (6 * c + 3)) (xs (6 * c + 4)) (xs (6 * c + 5))).2.1 25))] (hM G mo ad h1 (oMove s a (xs (6 * c + 1)) (xs (6 * c + 2)) (xs (6 * c + 3)) (xs (6 * c + 4)) (xs (6 * c + 5))).2.1 (oMove s a (xs (6 * c + 1)) (xs (6 * c + 2)) (xs (6 * c + 3)) (xs (6 * c + 4)) (xs (6 * c + 5))).2.2)
  refine j_iload C (i := 5) (x := nI ((oMove s a (xs (6 * c + 1)) (xs (6 * c + 2)) (xs (6 * c + 3)) (xs (6 * c + 4)) (xs (6 * c + 5))).2.1 25)) 1 rfl dL_law_546 (pc' := 548) rfl ?_
  refine j_icmp_eq C dL_law_548 (tgt := 553) (by decide) (pc' := 551) rfl (fun _ => ?_) (fun z => absurd rfl z)
  refine j_iload C (i := 5) (x := nI ((oMove s a (xs (6 * c + 1)) (xs (6 * c + 2)) (xs (6 * c + 3)) (xs (6 * c + 4)) (xs (6 * c + 5))).2.1 25)) 1 rfl dL_law_553 (pc' := 555) rfl ?_
  refine j_if_ne C dL_law_555 (tgt := 570) (by decide) (pc' := 558) rfl (fun _ => ?_) (fun z0 => ?_)
  · skip
    refine j_goto C dL_law_570 (pc' := 1590) (by decide) ?_
    exact jW.locals [2, 3, 4, 5, 6] rfl (jW.widen (by omega) (by omega) (kk _ _ _ (I.next M hF1 ⟨v1, hv1⟩ hE1 hw)))
  · have z1 : (oMove s a (xs (6 * c + 1)) (xs (6 * c + 2)) (xs (6 * c + 3)) (xs (6 * c + 4)) (xs (6 * c + 5))).2.1 25 = 0 := (nI_eq (a := (oMove s a (xs (6 * c + 1)) (xs (6 * c + 2)) (xs (6 * c + 3)) (xs (6 * c + 4)) (xs (6 * c + 5))).2.1 25) (b := 0) (Nat.lt_of_lt_of_le (hw.1.J.1 25) (by decide)) (by decide)).mp z0
    refine j_aload_n C (i := 3) (x := oo) 5 rfl dL_law_558 (pc' := 559) rfl ?_
    refine j_iconst C (v := nI 0) rfl dL_law_559 (pc' := 560) rfl ?_
    refine j_lald C (a := oo) (N := 1) (j := 0) (f := v1) ((hM_off I.off.1 I.off.2).trans hv1) rfl (by decide) (by decide) dL_law_560 (pc' := 561) rfl ?_
    refine j_iload C (i := 6) (x := (oMove s a (xs (6 * c + 1)) (xs (6 * c + 2)) (xs (6 * c + 3)) (xs (6 * c + 4)) (xs (6 * c + 5))).1) 0 rfl dL_law_561 (pc' := 563) rfl ?_
    refine j_i2l C (x := (oMove s a (xs (6 * c + 1)) (xs (6 * c + 2)) (xs (6 * c + 3)) (xs (6 * c + 4)) (xs (6 * c + 5))).1) rfl dL_law_563 (pc' := 564) rfl ?_
    refine j_lcmp C dL_law_564 (pc' := 565) rfl ?_
    refine jt_i (y := 0) (by rw [hz z1]; exact lg_self _) ?_
    refine j_if_eq C dL_law_565 (tgt := 570) (by decide) (pc' := 568) rfl (fun _ => ?_) (fun z => absurd rfl z)
    refine j_goto C dL_law_570 (pc' := 1590) (by decide) ?_
    exact jW.locals [2, 3, 4, 5, 6] rfl (jW.widen (by omega) (by omega) (kk _ _ _ (I.next M hF1 ⟨v1, hv1⟩ hE1 hw)))
set_option maxRecDepth 100000 in
set_option maxHeartbeats 4000000 in
theorem k_7 (C : jC X G cL_law 7 wsL_law RL) (hXR : X.2.2.2.1 = room_1) (M : mG mo ad) (hX : va_X b L xs X.2.2.2.2.1 X.2.2.2.2.1.heap) (hb : b < X.2.2.2.2.1.heap.size) (hA : b < G.1) (hL : L ≤ 3072) (hc : c < 512) (hj : 6 * c + 6 ≤ L) (I : LwI G mo oo ad xo xa c s a h) (hk : k + 43 ≤ 601024) (hn : n + 258 ≤ 7293034) (kk : ∀ s' a' h', LwI G mo oo ad xo xa (c + 1) s' a' h' → jW X G 7 (k + 43) (n + 258) 1590 [(0, .ref b), (1, .ref xo), (2, .ref mo), (3, .ref oo), (4, .int (nI (6 * c)))] [] h') : jW X G 7 k n 573 [(0, .ref b), (1, .ref xo), (2, .ref mo), (3, .ref oo), (4, .int (nI (6 * c)))] [] h := by
  refine j_aload_n C (i := 1) (x := xo) 1 rfl dL_law_573 (pc' := 574) rfl ?_
  refine j_aload_n C (i := 0) (x := b) 0 rfl dL_law_574 (pc' := 575) rfl ?_
  refine j_iload C (i := 4) (x := nI (6 * c)) 4 rfl dL_law_575 (pc' := 577) rfl ?_
  refine j_iconst C (v := nI 1) rfl dL_law_577 (pc' := 578) rfl ?_
  refine j_iadd C dL_law_578 (pc' := 579) rfl ?_
  refine j_sld C hX hb hA (j := 6 * c + 1) (nI_add _ _) (by omega) (by omega) dL_law_579 (pc' := 580) rfl ?_
  refine j_aload_n C (i := 0) (x := b) 0 rfl dL_law_580 (pc' := 581) rfl ?_
  refine j_iload C (i := 4) (x := nI (6 * c)) 4 rfl dL_law_581 (pc' := 583) rfl ?_
  refine j_iconst C (v := nI 2) rfl dL_law_583 (pc' := 584) rfl ?_
  refine j_iadd C dL_law_584 (pc' := 585) rfl ?_
  refine j_sld C hX hb hA (j := 6 * c + 2) (nI_add _ _) (by omega) (by omega) dL_law_585 (pc' := 586) rfl ?_
  refine j_aload_n C (i := 0) (x := b) 0 rfl dL_law_586 (pc' := 587) rfl ?_
  refine j_iload C (i := 4) (x := nI (6 * c)) 4 rfl dL_law_587 (pc' := 589) rfl ?_
  refine j_iconst C (v := nI 3) rfl dL_law_589 (pc' := 590) rfl ?_
  refine j_iadd C dL_law_590 (pc' := 591) rfl ?_
  refine j_sld C hX hb hA (j := 6 * c + 3) (nI_add _ _) (by omega) (by omega) dL_law_591 (pc' := 592) rfl ?_
  refine j_aload_n C (i := 3) (x := oo) 3 rfl dL_law_592 (pc' := 593) rfl ?_
  have hw := I.1.change hc (xs (6 * c + 1)) (xs (6 * c + 2)) (xs (6 * c + 3))
  obtain ⟨v, hv⟩ := I.2.2.2.2
  refine j_callSX C (As := [.ref xo, .int (xs (6 * c + 1)), .int (xs (6 * c + 2)), .int (xs (6 * c + 3)), .ref oo]) (rest := []) (w_change X.2.1 C.2.2.2.2.2.2.2.2 G (xs (6 * c + 1)) (xs (6 * c + 2)) (xs (6 * c + 3)) I.1 hc I.2.1 I.Pn (Or.inr (Or.inl rfl)) hv) (vx_cwSW 5 C.2.2.2.2.1 gL_law_L_change rfl rfl rfl (by decide +kernel) (by rw [hXR]; decide)) rfl rfl (Nat.le_of_ble_eq_true rfl) dL_law_593 (pc' := 596) rfl (by rw [hXR]; show k + 6 ≤ 601024; omega) (by rw [hXR]; show n + 34 ≤ 7293034; omega) (fun _ _ z => z.elim) ?_
  rintro r h1 ⟨rfl, ⟨v1, hv1, hz⟩, hE1, hF1⟩
  show jW X G 7 (k + 6) (n + 34) 596 [(0, .ref b), (1, .ref xo), (2, .ref mo), (3, .ref oo), (4, .int (nI (6 * c)))] [.int (nI ((oChange s a (xs (6 * c + 1)) (xs (6 * c + 2)) (xs (6 * c + 3))).2.1 25))] (h1)
  refine j_istore C (i := 5) (x := nI ((oChange s a (xs (6 * c + 1)) (xs (6 * c + 2)) (xs (6 * c + 3))).2.1 25)) (l' := [(5, .int (nI ((oChange s a (xs (6 * c + 1)) (xs (6 * c + 2)) (xs (6 * c + 3))).2.1 25))), (0, .ref b), (1, .ref xo), (2, .ref mo), (3, .ref oo), (4, .int (nI (6 * c)))]) dL_law_596 (pc' := 598) rfl (by decide) rfl ?_
  refine j_aload_n C (i := 2) (x := mo) 3 rfl dL_law_598 (pc' := 599) rfl ?_
  refine j_aload_n C (i := 0) (x := b) 1 rfl dL_law_599 (pc' := 600) rfl ?_
  refine j_iload C (i := 4) (x := nI (6 * c)) 5 rfl dL_law_600 (pc' := 602) rfl ?_
  refine j_iconst C (v := nI 1) rfl dL_law_602 (pc' := 603) rfl ?_
  refine j_iadd C dL_law_603 (pc' := 604) rfl ?_
  refine j_sld C hX hb hA (j := 6 * c + 1) (nI_add _ _) (by omega) (by omega) dL_law_604 (pc' := 605) rfl ?_
  refine j_aload_n C (i := 0) (x := b) 1 rfl dL_law_605 (pc' := 606) rfl ?_
  refine j_iload C (i := 4) (x := nI (6 * c)) 5 rfl dL_law_606 (pc' := 608) rfl ?_
  refine j_iconst C (v := nI 2) rfl dL_law_608 (pc' := 609) rfl ?_
  refine j_iadd C dL_law_609 (pc' := 610) rfl ?_
  refine j_sld C hX hb hA (j := 6 * c + 2) (nI_add _ _) (by omega) (by omega) dL_law_610 (pc' := 611) rfl ?_
  refine j_aload_n C (i := 0) (x := b) 1 rfl dL_law_611 (pc' := 612) rfl ?_
  refine j_iload C (i := 4) (x := nI (6 * c)) 5 rfl dL_law_612 (pc' := 614) rfl ?_
  refine j_iconst C (v := nI 3) rfl dL_law_614 (pc' := 615) rfl ?_
  refine j_iadd C dL_law_615 (pc' := 616) rfl ?_
  refine j_sld C hX hb hA (j := 6 * c + 3) (nI_add _ _) (by omega) (by omega) dL_law_616 (pc' := 617) rfl ?_
  refine jt_h (I.mid M hF1) ?_
  refine j_callV C (As := [.int (xs (6 * c + 1)), .int (xs (6 * c + 2)), .int (xs (6 * c + 3))]) (rest := []) (m_change X.2.1 C.2.2.2.2.2.2.2.2 G M s a (xs (6 * c + 1)) (xs (6 * c + 2)) (xs (6 * c + 3)) I.1.1.J I.1.1.I) (cwV 3 C.2.2.2.2.1 gL_law_X4_change rfl rfl rfl (by decide +kernel) (by rw [hXR]; decide)) hM_obj rfl rfl rfl (Nat.le_of_ble_eq_true rfl) dL_law_617 (pc' := 620) rfl (by rw [hXR]; show k + 6 + 0 ≤ 601024; omega) (by rw [hXR]; show n + 34 + 0 ≤ 7293034; omega) (fun _ _ z => z.elim) ?_
  rintro r h' ⟨rfl, rfl⟩
  show jW X G 7 (k + 6) (n + 34) 620 [(5, .int (nI ((oChange s a (xs (6 * c + 1)) (xs (6 * c + 2)) (xs (6 * c + 3))).2.1 25))), (0, .ref b), (1, .ref xo), (2, .ref mo), (3, .ref oo), (4, .int (nI (6 * c)))] [.int ((oChange s a (xs (6 * c + 1)) (xs (6 * c + 2)) (xs (6 * c + 3))).1)] (hM G mo ad h1 (oChange s a (xs (6 * c + 1)) (xs (6 * c + 2)) (xs (6 * c + 3))).2.1 (oChange s a (xs (6 * c + 1)) (xs (6 * c + 2)) (xs (6 * c + 3))).2.2)
  refine j_istore C (i := 6) (x := (oChange s a (xs (6 * c + 1)) (xs (6 * c + 2)) (xs (6 * c + 3))).1) (l' := [(6, .int ((oChange s a (xs (6 * c + 1)) (xs (6 * c + 2)) (xs (6 * c + 3))).1)), (5, .int (nI ((oChange s a (xs (6 * c + 1)) (xs (6 * c + 2)) (xs (6 * c + 3))).2.1 25))), (0, .ref b), (1, .ref xo), (2, .ref mo), (3, .ref oo), (4, .int (nI (6 * c)))]) dL_law_620 (pc' := 622) rfl (by decide) rfl ?_
  refine j_aload_n C (i := 2) (x := mo) 4 rfl dL_law_622 (pc' := 623) rfl ?_
  refine j_callV C (As := []) (rest := []) (m_thrown X.2.1 C.2.2.2.2.2.2.2.2 G M (oChange s a (xs (6 * c + 1)) (xs (6 * c + 2)) (xs (6 * c + 3))).2.1 (oChange s a (xs (6 * c + 1)) (xs (6 * c + 2)) (xs (6 * c + 3))).2.2) (cwV 0 C.2.2.2.2.1 gL_law_X4_thrown rfl rfl rfl (by decide +kernel) (by rw [hXR]; decide)) hM_obj rfl rfl rfl (Nat.le_of_ble_eq_true rfl) dL_law_623 (pc' := 626) rfl (by rw [hXR]; show k + 6 + 0 ≤ 601024; omega) (by rw [hXR]; show n + 34 + 0 ≤ 7293034; omega) (fun _ _ z => z.elim) ?_
  rintro r h' ⟨rfl, rfl⟩
  show jW X G 7 (k + 6) (n + 34) 626 [(6, .int ((oChange s a (xs (6 * c + 1)) (xs (6 * c + 2)) (xs (6 * c + 3))).1)), (5, .int (nI ((oChange s a (xs (6 * c + 1)) (xs (6 * c + 2)) (xs (6 * c + 3))).2.1 25))), (0, .ref b), (1, .ref xo), (2, .ref mo), (3, .ref oo), (4, .int (nI (6 * c)))] [.int (nI ((oChange s a (xs (6 * c + 1)) (xs (6 * c + 2)) (xs (6 * c + 3))).2.1 25))] (hM G mo ad h1 (oChange s a (xs (6 * c + 1)) (xs (6 * c + 2)) (xs (6 * c + 3))).2.1 (oChange s a (xs (6 * c + 1)) (xs (6 * c + 2)) (xs (6 * c + 3))).2.2)
  refine j_iload C (i := 5) (x := nI ((oChange s a (xs (6 * c + 1)) (xs (6 * c + 2)) (xs (6 * c + 3))).2.1 25)) 1 rfl dL_law_626 (pc' := 628) rfl ?_
  refine j_icmp_eq C dL_law_628 (tgt := 633) (by decide) (pc' := 631) rfl (fun _ => ?_) (fun z => absurd rfl z)
  refine j_iload C (i := 5) (x := nI ((oChange s a (xs (6 * c + 1)) (xs (6 * c + 2)) (xs (6 * c + 3))).2.1 25)) 1 rfl dL_law_633 (pc' := 635) rfl ?_
  refine j_if_ne C dL_law_635 (tgt := 650) (by decide) (pc' := 638) rfl (fun _ => ?_) (fun z0 => ?_)
  · skip
    refine j_goto C dL_law_650 (pc' := 1590) (by decide) ?_
    exact jW.locals [2, 3, 4, 5, 6] rfl (jW.widen (by omega) (by omega) (kk _ _ _ (I.next M hF1 ⟨v1, hv1⟩ hE1 hw)))
  · have z1 : (oChange s a (xs (6 * c + 1)) (xs (6 * c + 2)) (xs (6 * c + 3))).2.1 25 = 0 := (nI_eq (a := (oChange s a (xs (6 * c + 1)) (xs (6 * c + 2)) (xs (6 * c + 3))).2.1 25) (b := 0) (Nat.lt_of_lt_of_le (hw.1.J.1 25) (by decide)) (by decide)).mp z0
    refine j_aload_n C (i := 3) (x := oo) 5 rfl dL_law_638 (pc' := 639) rfl ?_
    refine j_iconst C (v := nI 0) rfl dL_law_639 (pc' := 640) rfl ?_
    refine j_lald C (a := oo) (N := 1) (j := 0) (f := v1) ((hM_off I.off.1 I.off.2).trans hv1) rfl (by decide) (by decide) dL_law_640 (pc' := 641) rfl ?_
    refine j_iload C (i := 6) (x := (oChange s a (xs (6 * c + 1)) (xs (6 * c + 2)) (xs (6 * c + 3))).1) 0 rfl dL_law_641 (pc' := 643) rfl ?_
    refine j_i2l C (x := (oChange s a (xs (6 * c + 1)) (xs (6 * c + 2)) (xs (6 * c + 3))).1) rfl dL_law_643 (pc' := 644) rfl ?_
    refine j_lcmp C dL_law_644 (pc' := 645) rfl ?_
    refine jt_i (y := 0) (by rw [hz z1]; exact lg_self _) ?_
    refine j_if_eq C dL_law_645 (tgt := 650) (by decide) (pc' := 648) rfl (fun _ => ?_) (fun z => absurd rfl z)
    refine j_goto C dL_law_650 (pc' := 1590) (by decide) ?_
    exact jW.locals [2, 3, 4, 5, 6] rfl (jW.widen (by omega) (by omega) (kk _ _ _ (I.next M hF1 ⟨v1, hv1⟩ hE1 hw)))
end CASES
