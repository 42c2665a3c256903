section CASES
variable {X : jX} {G : jG} {k n : Nat} {h : jH} {mo oo xo b L c : Nat} {ad xa : Nat → Nat} {s : mS} {a : mA} {xs : Nat → Int32}
set_option maxRecDepth 100000 in
set_option maxHeartbeats 4000000 in
theorem k_16 (C : jC X G cL_law 7 wsL_law RL) (hXR : X.2.2.2.1 = room_1) (M : mG mo ad) (hX : va_X b L xs X.2.2.2.2.1 X.2.2.2.2.1.heap) (hb : b < X.2.2.2.2.1.heap.size) (hA : b < G.1) (hL : L ≤ 3072) (hc : c < 512) (hj : 6 * c + 6 ≤ L) (I : LwI G mo oo ad xo xa c s a h) (hk : k + 43 ≤ 601024) (hn : n + 258 ≤ 7293034) (kk : ∀ s' a' h', LwI G mo oo ad xo xa (c + 1) s' a' h' → jW X G 7 (k + 43) (n + 258) 1590 [(0, .ref b), (1, .ref xo), (2, .ref mo), (3, .ref oo), (4, .int (nI (6 * c)))] [] h') : jW X G 7 k n 1101 [(0, .ref b), (1, .ref xo), (2, .ref mo), (3, .ref oo), (4, .int (nI (6 * c)))] [] h := by
  refine j_aload_n C (i := 1) (x := xo) 1 rfl dL_law_1101 (pc' := 1102) rfl ?_
  refine j_aload_n C (i := 0) (x := b) 0 rfl dL_law_1102 (pc' := 1103) rfl ?_
  refine j_iload C (i := 4) (x := nI (6 * c)) 4 rfl dL_law_1103 (pc' := 1105) rfl ?_
  refine j_iconst C (v := nI 1) rfl dL_law_1105 (pc' := 1106) rfl ?_
  refine j_iadd C dL_law_1106 (pc' := 1107) rfl ?_
  refine j_sld C hX hb hA (j := 6 * c + 1) (nI_add _ _) (by omega) (by omega) dL_law_1107 (pc' := 1108) rfl ?_
  refine j_aload_n C (i := 0) (x := b) 0 rfl dL_law_1108 (pc' := 1109) rfl ?_
  refine j_iload C (i := 4) (x := nI (6 * c)) 4 rfl dL_law_1109 (pc' := 1111) rfl ?_
  refine j_iconst C (v := nI 2) rfl dL_law_1111 (pc' := 1112) rfl ?_
  refine j_iadd C dL_law_1112 (pc' := 1113) rfl ?_
  refine j_sld C hX hb hA (j := 6 * c + 2) (nI_add _ _) (by omega) (by omega) dL_law_1113 (pc' := 1114) rfl ?_
  refine j_aload_n C (i := 3) (x := oo) 3 rfl dL_law_1114 (pc' := 1115) rfl ?_
  have hw := I.1.hide (xs (6 * c + 1)) (xs (6 * c + 2))
  obtain ⟨v, hv⟩ := I.2.2.2.2
  refine j_callSX C (As := [.ref xo, .int (xs (6 * c + 1)), .int (xs (6 * c + 2)), .ref oo]) (rest := []) (w_hide X.2.1 C.2.2.2.2.2.2.2.2 G (xs (6 * c + 1)) (xs (6 * c + 2)) I.1 hc I.2.1 I.Pn (Or.inr (Or.inl rfl)) hv) (vx_cwSW 4 C.2.2.2.2.1 gL_law_L_hide rfl rfl rfl (by decide +kernel) (by rw [hXR]; decide)) rfl rfl (Nat.le_of_ble_eq_true rfl) dL_law_1115 (pc' := 1118) rfl (by rw [hXR]; show k + 3 ≤ 601024; omega) (by rw [hXR]; show n + 18 ≤ 7293034; omega) (fun _ _ z => z.elim) ?_
  rintro r h1 ⟨rfl, ⟨v1, hv1, hz⟩, hE1, hF1⟩
  show jW X G 7 (k + 3) (n + 18) 1118 [(0, .ref b), (1, .ref xo), (2, .ref mo), (3, .ref oo), (4, .int (nI (6 * c)))] [.int (nI ((oHide s a (xs (6 * c + 1)) (xs (6 * c + 2))).2.1 25))] (h1)
  refine j_istore C (i := 5) (x := nI ((oHide s a (xs (6 * c + 1)) (xs (6 * c + 2))).2.1 25)) (l' := [(5, .int (nI ((oHide s a (xs (6 * c + 1)) (xs (6 * c + 2))).2.1 25))), (0, .ref b), (1, .ref xo), (2, .ref mo), (3, .ref oo), (4, .int (nI (6 * c)))]) dL_law_1118 (pc' := 1120) rfl (by decide) rfl ?_
  refine j_aload_n C (i := 2) (x := mo) 3 rfl dL_law_1120 (pc' := 1121) rfl ?_
  refine j_aload_n C (i := 0) (x := b) 1 rfl dL_law_1121 (pc' := 1122) rfl ?_
  refine j_iload C (i := 4) (x := nI (6 * c)) 5 rfl dL_law_1122 (pc' := 1124) rfl ?_
  refine j_iconst C (v := nI 1) rfl dL_law_1124 (pc' := 1125) rfl ?_
  refine j_iadd C dL_law_1125 (pc' := 1126) rfl ?_
  refine j_sld C hX hb hA (j := 6 * c + 1) (nI_add _ _) (by omega) (by omega) dL_law_1126 (pc' := 1127) rfl ?_
  refine j_aload_n C (i := 0) (x := b) 1 rfl dL_law_1127 (pc' := 1128) rfl ?_
  refine j_iload C (i := 4) (x := nI (6 * c)) 5 rfl dL_law_1128 (pc' := 1130) rfl ?_
  refine j_iconst C (v := nI 2) rfl dL_law_1130 (pc' := 1131) rfl ?_
  refine j_iadd C dL_law_1131 (pc' := 1132) rfl ?_
  refine j_sld C hX hb hA (j := 6 * c + 2) (nI_add _ _) (by omega) (by omega) dL_law_1132 (pc' := 1133) rfl ?_
  refine jt_h (I.mid M hF1) ?_
  refine j_callV C (As := [.int (xs (6 * c + 1)), .int (xs (6 * c + 2))]) (rest := []) (m_hide X.2.1 C.2.2.2.2.2.2.2.2 G M s a (xs (6 * c + 1)) (xs (6 * c + 2)) I.1.1.J I.1.1.I I.1.1.Z0 I.1.1.K) (cwV 2 C.2.2.2.2.1 gL_law_X4_hide rfl rfl rfl (by decide +kernel) (by rw [hXR]; decide)) hM_obj rfl rfl rfl (Nat.le_of_ble_eq_true rfl) dL_law_1133 (pc' := 1136) rfl (by rw [hXR]; show k + 3 + 0 ≤ 601024; omega) (by rw [hXR]; show n + 18 + 0 ≤ 7293034; omega) (fun _ _ z => z.elim) ?_
  rintro r h' ⟨rfl, rfl⟩
  show jW X G 7 (k + 3) (n + 18) 1136 [(5, .int (nI ((oHide s a (xs (6 * c + 1)) (xs (6 * c + 2))).2.1 25))), (0, .ref b), (1, .ref xo), (2, .ref mo), (3, .ref oo), (4, .int (nI (6 * c)))] [.int ((oHide s a (xs (6 * c + 1)) (xs (6 * c + 2))).1)] (hM G mo ad h1 (oHide s a (xs (6 * c + 1)) (xs (6 * c + 2))).2.1 (oHide s a (xs (6 * c + 1)) (xs (6 * c + 2))).2.2)
  refine j_istore C (i := 6) (x := (oHide s a (xs (6 * c + 1)) (xs (6 * c + 2))).1) (l' := [(6, .int ((oHide s a (xs (6 * c + 1)) (xs (6 * c + 2))).1)), (5, .int (nI ((oHide s a (xs (6 * c + 1)) (xs (6 * c + 2))).2.1 25))), (0, .ref b), (1, .ref xo), (2, .ref mo), (3, .ref oo), (4, .int (nI (6 * c)))]) dL_law_1136 (pc' := 1138) rfl (by decide) rfl ?_
  refine j_aload_n C (i := 2) (x := mo) 4 rfl dL_law_1138 (pc' := 1139) rfl ?_
  refine j_callV C (As := []) (rest := []) (m_thrown X.2.1 C.2.2.2.2.2.2.2.2 G M (oHide s a (xs (6 * c + 1)) (xs (6 * c + 2))).2.1 (oHide s a (xs (6 * c + 1)) (xs (6 * c + 2))).2.2) (cwV 0 C.2.2.2.2.1 gL_law_X4_thrown rfl rfl rfl (by decide +kernel) (by rw [hXR]; decide)) hM_obj rfl rfl rfl (Nat.le_of_ble_eq_true rfl) dL_law_1139 (pc' := 1142) rfl (by rw [hXR]; show k + 3 + 0 ≤ 601024; omega) (by rw [hXR]; show n + 18 + 0 ≤ 7293034; omega) (fun _ _ z => z.elim) ?_
  rintro r h' ⟨rfl, rfl⟩
  show jW X G 7 (k + 3) (n + 18) 1142 [(6, .int ((oHide s a (xs (6 * c + 1)) (xs (6 * c + 2))).1)), (5, .int (nI ((oHide s a (xs (6 * c + 1)) (xs (6 * c + 2))).2.1 25))), (0, .ref b), (1, .ref xo), (2, .ref mo), (3, .ref oo), (4, .int (nI (6 * c)))] [.int (nI ((oHide s a (xs (6 * c + 1)) (xs (6 * c + 2))).2.1 25))] (hM G mo ad h1 (oHide s a (xs (6 * c + 1)) (xs (6 * c + 2))).2.1 (oHide s a (xs (6 * c + 1)) (xs (6 * c + 2))).2.2)
  refine j_iload C (i := 5) (x := nI ((oHide s a (xs (6 * c + 1)) (xs (6 * c + 2))).2.1 25)) 1 rfl dL_law_1142 (pc' := 1144) rfl ?_
  refine j_icmp_eq C dL_law_1144 (tgt := 1149) (by decide) (pc' := 1147) rfl (fun _ => ?_) (fun z => absurd rfl z)
  refine j_iload C (i := 5) (x := nI ((oHide s a (xs (6 * c + 1)) (xs (6 * c + 2))).2.1 25)) 1 rfl dL_law_1149 (pc' := 1151) rfl ?_
  refine j_if_ne C dL_law_1151 (tgt := 1166) (by decide) (pc' := 1154) rfl (fun _ => ?_) (fun z0 => ?_)
  · skip
    refine j_goto C dL_law_1166 (pc' := 1590) (by decide) ?_
    exact jW.locals [2, 3, 4, 5, 6] rfl (jW.widen (by omega) (by omega) (kk _ _ _ (I.next M hF1 ⟨v1, hv1⟩ hE1 hw)))
  · have z1 : (oHide s a (xs (6 * c + 1)) (xs (6 * c + 2))).2.1 25 = 0 := (nI_eq (a := (oHide s a (xs (6 * c + 1)) (xs (6 * c + 2))).2.1 25) (b := 0) (Nat.lt_of_lt_of_le (hw.1.J.1 25) (by decide)) (by decide)).mp z0
    refine j_aload_n C (i := 3) (x := oo) 5 rfl dL_law_1154 (pc' := 1155) rfl ?_
    refine j_iconst C (v := nI 0) rfl dL_law_1155 (pc' := 1156) rfl ?_
    refine j_lald C (a := oo) (N := 1) (j := 0) (f := v1) ((hM_off I.off.1 I.off.2).trans hv1) rfl (by decide) (by decide) dL_law_1156 (pc' := 1157) rfl ?_
    refine j_iload C (i := 6) (x := (oHide s a (xs (6 * c + 1)) (xs (6 * c + 2))).1) 0 rfl dL_law_1157 (pc' := 1159) rfl ?_
    refine j_i2l C (x := (oHide s a (xs (6 * c + 1)) (xs (6 * c + 2))).1) rfl dL_law_1159 (pc' := 1160) rfl ?_
    refine j_lcmp C dL_law_1160 (pc' := 1161) rfl ?_
    refine jt_i (y := 0) (by rw [hz z1]; exact lg_self _) ?_
    refine j_if_eq C dL_law_1161 (tgt := 1166) (by decide) (pc' := 1164) rfl (fun _ => ?_) (fun z => absurd rfl z)
    refine j_goto C dL_law_1166 (pc' := 1590) (by decide) ?_
    exact jW.locals [2, 3, 4, 5, 6] rfl (jW.widen (by omega) (by omega) (kk _ _ _ (I.next M hF1 ⟨v1, hv1⟩ hE1 hw)))
set_option maxRecDepth 100000 in
set_option maxHeartbeats 4000000 in
theorem k_17 (C : jC X G cL_law 7 wsL_law RL) (hXR : X.2.2.2.1 = room_1) (M : mG mo ad) (hX : va_X b L xs X.2.2.2.2.1 X.2.2.2.2.1.heap) (hb : b < X.2.2.2.2.1.heap.size) (hA : b < G.1) (hL : L ≤ 3072) (hc : c < 512) (hj : 6 * c + 6 ≤ L) (I : LwI G mo oo ad xo xa c s a h) (hk : k + 43 ≤ 601024) (hn : n + 258 ≤ 7293034) (kk : ∀ s' a' h', LwI G mo oo ad xo xa (c + 1) s' a' h' → jW X G 7 (k + 43) (n + 258) 1590 [(0, .ref b), (1, .ref xo), (2, .ref mo), (3, .ref oo), (4, .int (nI (6 * c)))] [] h') : jW X G 7 k n 1169 [(0, .ref b), (1, .ref xo), (2, .ref mo), (3, .ref oo), (4, .int (nI (6 * c)))] [] h := by
  refine j_aload_n C (i := 1) (x := xo) 1 rfl dL_law_1169 (pc' := 1170) rfl ?_
  refine j_aload_n C (i := 0) (x := b) 0 rfl dL_law_1170 (pc' := 1171) rfl ?_
  refine j_iload C (i := 4) (x := nI (6 * c)) 4 rfl dL_law_1171 (pc' := 1173) rfl ?_
  refine j_iconst C (v := nI 1) rfl dL_law_1173 (pc' := 1174) rfl ?_
  refine j_iadd C dL_law_1174 (pc' := 1175) rfl ?_
  refine j_sld C hX hb hA (j := 6 * c + 1) (nI_add _ _) (by omega) (by omega) dL_law_1175 (pc' := 1176) rfl ?_
  refine j_aload_n C (i := 0) (x := b) 0 rfl dL_law_1176 (pc' := 1177) rfl ?_
  refine j_iload C (i := 4) (x := nI (6 * c)) 4 rfl dL_law_1177 (pc' := 1179) rfl ?_
  refine j_iconst C (v := nI 2) rfl dL_law_1179 (pc' := 1180) rfl ?_
  refine j_iadd C dL_law_1180 (pc' := 1181) rfl ?_
  refine j_sld C hX hb hA (j := 6 * c + 2) (nI_add _ _) (by omega) (by omega) dL_law_1181 (pc' := 1182) rfl ?_
  refine j_aload_n C (i := 3) (x := oo) 3 rfl dL_law_1182 (pc' := 1183) rfl ?_
  have hw := I.1.setOf (xs (6 * c + 1)) (xs (6 * c + 2))
  obtain ⟨v, hv⟩ := I.2.2.2.2
  refine j_callSX C (As := [.ref xo, .int (xs (6 * c + 1)), .int (xs (6 * c + 2)), .ref oo]) (rest := []) (w_setOf X.2.1 C.2.2.2.2.2.2.2.2 G (xs (6 * c + 1)) (xs (6 * c + 2)) I.1 hc I.2.1 I.Pn (Or.inr (Or.inl rfl)) hv) (vx_cwSW 4 C.2.2.2.2.1 gL_law_L_setOf rfl rfl rfl (by decide +kernel) (by rw [hXR]; decide)) rfl rfl (Nat.le_of_ble_eq_true rfl) dL_law_1183 (pc' := 1186) rfl (by rw [hXR]; show k + 3 ≤ 601024; omega) (by rw [hXR]; show n + 18 ≤ 7293034; omega) (fun _ _ z => z.elim) ?_
  rintro r h1 ⟨rfl, ⟨v1, hv1, hz⟩, hE1, hF1⟩
  show jW X G 7 (k + 3) (n + 18) 1186 [(0, .ref b), (1, .ref xo), (2, .ref mo), (3, .ref oo), (4, .int (nI (6 * c)))] [.int (nI ((oSetOf s a (xs (6 * c + 1)) (xs (6 * c + 2))).2.1 25))] (h1)
  refine j_istore C (i := 5) (x := nI ((oSetOf s a (xs (6 * c + 1)) (xs (6 * c + 2))).2.1 25)) (l' := [(5, .int (nI ((oSetOf s a (xs (6 * c + 1)) (xs (6 * c + 2))).2.1 25))), (0, .ref b), (1, .ref xo), (2, .ref mo), (3, .ref oo), (4, .int (nI (6 * c)))]) dL_law_1186 (pc' := 1188) rfl (by decide) rfl ?_
  refine j_aload_n C (i := 2) (x := mo) 3 rfl dL_law_1188 (pc' := 1189) rfl ?_
  refine j_aload_n C (i := 0) (x := b) 1 rfl dL_law_1189 (pc' := 1190) rfl ?_
  refine j_iload C (i := 4) (x := nI (6 * c)) 5 rfl dL_law_1190 (pc' := 1192) rfl ?_
  refine j_iconst C (v := nI 1) rfl dL_law_1192 (pc' := 1193) rfl ?_
  refine j_iadd C dL_law_1193 (pc' := 1194) rfl ?_
  refine j_sld C hX hb hA (j := 6 * c + 1) (nI_add _ _) (by omega) (by omega) dL_law_1194 (pc' := 1195) rfl ?_
  refine j_aload_n C (i := 0) (x := b) 1 rfl dL_law_1195 (pc' := 1196) rfl ?_
  refine j_iload C (i := 4) (x := nI (6 * c)) 5 rfl dL_law_1196 (pc' := 1198) rfl ?_
  refine j_iconst C (v := nI 2) rfl dL_law_1198 (pc' := 1199) rfl ?_
  refine j_iadd C dL_law_1199 (pc' := 1200) rfl ?_
  refine j_sld C hX hb hA (j := 6 * c + 2) (nI_add _ _) (by omega) (by omega) dL_law_1200 (pc' := 1201) rfl ?_
  refine jt_h (I.mid M hF1) ?_
  refine j_callV C (As := [.int (xs (6 * c + 1)), .int (xs (6 * c + 2))]) (rest := []) (m_setOf X.2.1 C.2.2.2.2.2.2.2.2 G M s a (xs (6 * c + 1)) (xs (6 * c + 2)) I.1.1.J I.1.1.I I.1.1.Z0 I.1.1.K) (cwV 2 C.2.2.2.2.1 gL_law_X4_setOf rfl rfl rfl (by decide +kernel) (by rw [hXR]; decide)) hM_obj rfl rfl rfl (Nat.le_of_ble_eq_true rfl) dL_law_1201 (pc' := 1204) rfl (by rw [hXR]; show k + 3 + 0 ≤ 601024; omega) (by rw [hXR]; show n + 18 + 0 ≤ 7293034; omega) (fun _ _ z => z.elim) ?_
  rintro r h' ⟨rfl, rfl⟩
  show jW X G 7 (k + 3) (n + 18) 1204 [(5, .int (nI ((oSetOf s a (xs (6 * c + 1)) (xs (6 * c + 2))).2.1 25))), (0, .ref b), (1, .ref xo), (2, .ref mo), (3, .ref oo), (4, .int (nI (6 * c)))] [.int ((oSetOf s a (xs (6 * c + 1)) (xs (6 * c + 2))).1)] (hM G mo ad h1 (oSetOf s a (xs (6 * c + 1)) (xs (6 * c + 2))).2.1 (oSetOf s a (xs (6 * c + 1)) (xs (6 * c + 2))).2.2)
  refine j_istore C (i := 6) (x := (oSetOf s a (xs (6 * c + 1)) (xs (6 * c + 2))).1) (l' := [(6, .int ((oSetOf s a (xs (6 * c + 1)) (xs (6 * c + 2))).1)), (5, .int (nI ((oSetOf s a (xs (6 * c + 1)) (xs (6 * c + 2))).2.1 25))), (0, .ref b), (1, .ref xo), (2, .ref mo), (3, .ref oo), (4, .int (nI (6 * c)))]) dL_law_1204 (pc' := 1206) rfl (by decide) rfl ?_
  refine j_aload_n C (i := 2) (x := mo) 4 rfl dL_law_1206 (pc' := 1207) rfl ?_
  refine j_callV C (As := []) (rest := []) (m_thrown X.2.1 C.2.2.2.2.2.2.2.2 G M (oSetOf s a (xs (6 * c + 1)) (xs (6 * c + 2))).2.1 (oSetOf s a (xs (6 * c + 1)) (xs (6 * c + 2))).2.2) (cwV 0 C.2.2.2.2.1 gL_law_X4_thrown rfl rfl rfl (by decide +kernel) (by rw [hXR]; decide)) hM_obj rfl rfl rfl (Nat.le_of_ble_eq_true rfl) dL_law_1207 (pc' := 1210) rfl (by rw [hXR]; show k + 3 + 0 ≤ 601024; omega) (by rw [hXR]; show n + 18 + 0 ≤ 7293034; omega) (fun _ _ z => z.elim) ?_
  rintro r h' ⟨rfl, rfl⟩
  show jW X G 7 (k + 3) (n + 18) 1210 [(6, .int ((oSetOf s a (xs (6 * c + 1)) (xs (6 * c + 2))).1)), (5, .int (nI ((oSetOf s a (xs (6 * c + 1)) (xs (6 * c + 2))).2.1 25))), (0, .ref b), (1, .ref xo), (2, .ref mo), (3, .ref oo), (4, .int (nI (6 * c)))] [.int (nI ((oSetOf s a (xs (6 * c + 1)) (xs (6 * c + 2))).2.1 25))] (hM G mo ad h1 (oSetOf s a (xs (6 * c + 1)) (xs (6 * c + 2))).2.1 (oSetOf s a (xs (6 * c + 1)) (xs (6 * c + 2))).2.2)
  refine j_iload C (i := 5) (x := nI ((oSetOf s a (xs (6 * c + 1)) (xs (6 * c + 2))).2.1 25)) 1 rfl dL_law_1210 (pc' := 1212) rfl ?_
  refine j_icmp_eq C dL_law_1212 (tgt := 1217) (by decide) (pc' := 1215) rfl (fun _ => ?_) (fun z => absurd rfl z)
  refine j_iload C (i := 5) (x := nI ((oSetOf s a (xs (6 * c + 1)) (xs (6 * c + 2))).2.1 25)) 1 rfl dL_law_1217 (pc' := 1219) rfl ?_
  refine j_if_ne C dL_law_1219 (tgt := 1234) (by decide) (pc' := 1222) rfl (fun _ => ?_) (fun z0 => ?_)
  · skip
    refine j_goto C dL_law_1234 (pc' := 1590) (by decide) ?_
    exact jW.locals [2, 3, 4, 5, 6] rfl (jW.widen (by omega) (by omega) (kk _ _ _ (I.next M hF1 ⟨v1, hv1⟩ hE1 hw)))
  · have z1 : (oSetOf s a (xs (6 * c + 1)) (xs (6 * c + 2))).2.1 25 = 0 := (nI_eq (a := (oSetOf s a (xs (6 * c + 1)) (xs (6 * c + 2))).2.1 25) (b := 0) (Nat.lt_of_lt_of_le (hw.1.J.1 25) (by decide)) (by decide)).mp z0
    refine j_aload_n C (i := 3) (x := oo) 5 rfl dL_law_1222 (pc' := 1223) rfl ?_
    refine j_iconst C (v := nI 0) rfl dL_law_1223 (pc' := 1224) rfl ?_
    refine j_lald C (a := oo) (N := 1) (j := 0) (f := v1) ((hM_off I.off.1 I.off.2).trans hv1) rfl (by decide) (by decide) dL_law_1224 (pc' := 1225) rfl ?_
    refine j_iload C (i := 6) (x := (oSetOf s a (xs (6 * c + 1)) (xs (6 * c + 2))).1) 0 rfl dL_law_1225 (pc' := 1227) rfl ?_
    refine j_i2l C (x := (oSetOf s a (xs (6 * c + 1)) (xs (6 * c + 2))).1) rfl dL_law_1227 (pc' := 1228) rfl ?_
    refine j_lcmp C dL_law_1228 (pc' := 1229) rfl ?_
    refine jt_i (y := 0) (by rw [hz z1]; exact lg_self _) ?_
    refine j_if_eq C dL_law_1229 (tgt := 1234) (by decide) (pc' := 1232) rfl (fun _ => ?_) (fun z => absurd rfl z)
    refine j_goto C dL_law_1234 (pc' := 1590) (by decide) ?_
    exact jW.locals [2, 3, 4, 5, 6] rfl (jW.widen (by omega) (by omega) (kk _ _ _ (I.next M hF1 ⟨v1, hv1⟩ hE1 hw)))
set_option maxRecDepth 100000 in
set_option maxHeartbeats 4000000 in
theorem k_18 (C : jC X G cL_law 7 wsL_law RL) (hXR : X.2.2.2.1 = room_1) (M : mG mo ad) (hX : va_X b L xs X.2.2.2.2.1 X.2.2.2.2.1.heap) (hb : b < X.2.2.2.2.1.heap.size) (hA : b < G.1) (hL : L ≤ 3072) (hc : c < 512) (hj : 6 * c + 6 ≤ L) (I : LwI G mo oo ad xo xa c s a h) (hk : k + 43 ≤ 601024) (hn : n + 258 ≤ 7293034) (kk : ∀ s' a' h', LwI G mo oo ad xo xa (c + 1) s' a' h' → jW X G 7 (k + 43) (n + 258) 1590 [(0, .ref b), (1, .ref xo), (2, .ref mo), (3, .ref oo), (4, .int (nI (6 * c)))] [] h') : jW X G 7 k n 1237 [(0, .ref b), (1, .ref xo), (2, .ref mo), (3, .ref oo), (4, .int (nI (6 * c)))] [] h := by
  refine j_aload_n C (i := 1) (x := xo) 1 rfl dL_law_1237 (pc' := 1238) rfl ?_
  refine j_aload_n C (i := 0) (x := b) 0 rfl dL_law_1238 (pc' := 1239) rfl ?_
  refine j_iload C (i := 4) (x := nI (6 * c)) 4 rfl dL_law_1239 (pc' := 1241) rfl ?_
  refine j_iconst C (v := nI 1) rfl dL_law_1241 (pc' := 1242) rfl ?_
  refine j_iadd C dL_law_1242 (pc' := 1243) rfl ?_
  refine j_sld C hX hb hA (j := 6 * c + 1) (nI_add _ _) (by omega) (by omega) dL_law_1243 (pc' := 1244) rfl ?_
  refine j_aload_n C (i := 0) (x := b) 0 rfl dL_law_1244 (pc' := 1245) rfl ?_
  refine j_iload C (i := 4) (x := nI (6 * c)) 4 rfl dL_law_1245 (pc' := 1247) rfl ?_
  refine j_iconst C (v := nI 2) rfl dL_law_1247 (pc' := 1248) rfl ?_
  refine j_iadd C dL_law_1248 (pc' := 1249) rfl ?_
  refine j_sld C hX hb hA (j := 6 * c + 2) (nI_add _ _) (by omega) (by omega) dL_law_1249 (pc' := 1250) rfl ?_
  refine j_aload_n C (i := 3) (x := oo) 3 rfl dL_law_1250 (pc' := 1251) rfl ?_
  have hw := I.1.versionAt (xs (6 * c + 1)) (xs (6 * c + 2))
  obtain ⟨v, hv⟩ := I.2.2.2.2
  refine j_callSX C (As := [.ref xo, .int (xs (6 * c + 1)), .int (xs (6 * c + 2)), .ref oo]) (rest := []) (w_versionAt X.2.1 C.2.2.2.2.2.2.2.2 G (xs (6 * c + 1)) (xs (6 * c + 2)) I.1 hc I.2.1 I.Pn (Or.inr (Or.inl rfl)) hv) (vx_cwSW 4 C.2.2.2.2.1 gL_law_L_versionAt rfl rfl rfl (by decide +kernel) (by rw [hXR]; decide)) rfl rfl (Nat.le_of_ble_eq_true rfl) dL_law_1251 (pc' := 1254) rfl (by rw [hXR]; show k + 2 ≤ 601024; omega) (by rw [hXR]; show n + 12 ≤ 7293034; omega) (fun _ _ z => z.elim) ?_
  rintro r h1 ⟨rfl, ⟨v1, hv1, hz⟩, hE1, hF1⟩
  show jW X G 7 (k + 2) (n + 12) 1254 [(0, .ref b), (1, .ref xo), (2, .ref mo), (3, .ref oo), (4, .int (nI (6 * c)))] [.int (nI ((oVersionAt s a (xs (6 * c + 1)) (xs (6 * c + 2))).2.1 25))] (h1)
  refine j_istore C (i := 5) (x := nI ((oVersionAt s a (xs (6 * c + 1)) (xs (6 * c + 2))).2.1 25)) (l' := [(5, .int (nI ((oVersionAt s a (xs (6 * c + 1)) (xs (6 * c + 2))).2.1 25))), (0, .ref b), (1, .ref xo), (2, .ref mo), (3, .ref oo), (4, .int (nI (6 * c)))]) dL_law_1254 (pc' := 1256) rfl (by decide) rfl ?_
  refine j_aload_n C (i := 2) (x := mo) 3 rfl dL_law_1256 (pc' := 1257) rfl ?_
  refine j_aload_n C (i := 0) (x := b) 1 rfl dL_law_1257 (pc' := 1258) rfl ?_
  refine j_iload C (i := 4) (x := nI (6 * c)) 5 rfl dL_law_1258 (pc' := 1260) rfl ?_
  refine j_iconst C (v := nI 1) rfl dL_law_1260 (pc' := 1261) rfl ?_
  refine j_iadd C dL_law_1261 (pc' := 1262) rfl ?_
  refine j_sld C hX hb hA (j := 6 * c + 1) (nI_add _ _) (by omega) (by omega) dL_law_1262 (pc' := 1263) rfl ?_
  refine j_aload_n C (i := 0) (x := b) 1 rfl dL_law_1263 (pc' := 1264) rfl ?_
  refine j_iload C (i := 4) (x := nI (6 * c)) 5 rfl dL_law_1264 (pc' := 1266) rfl ?_
  refine j_iconst C (v := nI 2) rfl dL_law_1266 (pc' := 1267) rfl ?_
  refine j_iadd C dL_law_1267 (pc' := 1268) rfl ?_
  refine j_sld C hX hb hA (j := 6 * c + 2) (nI_add _ _) (by omega) (by omega) dL_law_1268 (pc' := 1269) rfl ?_
  refine jt_h (I.mid M hF1) ?_
  refine j_callV C (As := [.int (xs (6 * c + 1)), .int (xs (6 * c + 2))]) (rest := []) (m_versionAt X.2.1 C.2.2.2.2.2.2.2.2 G M s a (xs (6 * c + 1)) (xs (6 * c + 2)) I.1.1.J I.1.1.I I.1.1.Z0) (cwV 2 C.2.2.2.2.1 gL_law_X4_versionAt rfl rfl rfl (by decide +kernel) (by rw [hXR]; decide)) hM_obj rfl rfl rfl (Nat.le_of_ble_eq_true rfl) dL_law_1269 (pc' := 1272) rfl (by rw [hXR]; show k + 2 + 0 ≤ 601024; omega) (by rw [hXR]; show n + 12 + 0 ≤ 7293034; omega) (fun _ _ z => z.elim) ?_
  rintro r h' ⟨rfl, rfl⟩
  show jW X G 7 (k + 2) (n + 12) 1272 [(5, .int (nI ((oVersionAt s a (xs (6 * c + 1)) (xs (6 * c + 2))).2.1 25))), (0, .ref b), (1, .ref xo), (2, .ref mo), (3, .ref oo), (4, .int (nI (6 * c)))] [.int ((oVersionAt s a (xs (6 * c + 1)) (xs (6 * c + 2))).1)] (hM G mo ad h1 (oVersionAt s a (xs (6 * c + 1)) (xs (6 * c + 2))).2.1 (oVersionAt s a (xs (6 * c + 1)) (xs (6 * c + 2))).2.2)
  refine j_istore C (i := 6) (x := (oVersionAt s a (xs (6 * c + 1)) (xs (6 * c + 2))).1) (l' := [(6, .int ((oVersionAt s a (xs (6 * c + 1)) (xs (6 * c + 2))).1)), (5, .int (nI ((oVersionAt s a (xs (6 * c + 1)) (xs (6 * c + 2))).2.1 25))), (0, .ref b), (1, .ref xo), (2, .ref mo), (3, .ref oo), (4, .int (nI (6 * c)))]) dL_law_1272 (pc' := 1274) rfl (by decide) rfl ?_
  refine j_aload_n C (i := 2) (x := mo) 4 rfl dL_law_1274 (pc' := 1275) rfl ?_
  refine j_callV C (As := []) (rest := []) (m_thrown X.2.1 C.2.2.2.2.2.2.2.2 G M (oVersionAt s a (xs (6 * c + 1)) (xs (6 * c + 2))).2.1 (oVersionAt s a (xs (6 * c + 1)) (xs (6 * c + 2))).2.2) (cwV 0 C.2.2.2.2.1 gL_law_X4_thrown rfl rfl rfl (by decide +kernel) (by rw [hXR]; decide)) hM_obj rfl rfl rfl (Nat.le_of_ble_eq_true rfl) dL_law_1275 (pc' := 1278) rfl (by rw [hXR]; show k + 2 + 0 ≤ 601024; omega) (by rw [hXR]; show n + 12 + 0 ≤ 7293034; omega) (fun _ _ z => z.elim) ?_
  rintro r h' ⟨rfl, rfl⟩
  show jW X G 7 (k + 2) (n + 12) 1278 [(6, .int ((oVersionAt s a (xs (6 * c + 1)) (xs (6 * c + 2))).1)), (5, .int (nI ((oVersionAt s a (xs (6 * c + 1)) (xs (6 * c + 2))).2.1 25))), (0, .ref b), (1, .ref xo), (2, .ref mo), (3, .ref oo), (4, .int (nI (6 * c)))] [.int (nI ((oVersionAt s a (xs (6 * c + 1)) (xs (6 * c + 2))).2.1 25))] (hM G mo ad h1 (oVersionAt s a (xs (6 * c + 1)) (xs (6 * c + 2))).2.1 (oVersionAt s a (xs (6 * c + 1)) (xs (6 * c + 2))).2.2)
  refine j_iload C (i := 5) (x := nI ((oVersionAt s a (xs (6 * c + 1)) (xs (6 * c + 2))).2.1 25)) 1 rfl dL_law_1278 (pc' := 1280) rfl ?_
  refine j_icmp_eq C dL_law_1280 (tgt := 1285) (by decide) (pc' := 1283) rfl (fun _ => ?_) (fun z => absurd rfl z)
  refine j_iload C (i := 5) (x := nI ((oVersionAt s a (xs (6 * c + 1)) (xs (6 * c + 2))).2.1 25)) 1 rfl dL_law_1285 (pc' := 1287) rfl ?_
  refine j_if_ne C dL_law_1287 (tgt := 1302) (by decide) (pc' := 1290) rfl (fun _ => ?_) (fun z0 => ?_)
  · skip
    refine j_goto C dL_law_1302 (pc' := 1590) (by decide) ?_
    exact jW.locals [2, 3, 4, 5, 6] rfl (jW.widen (by omega) (by omega) (kk _ _ _ (I.next M hF1 ⟨v1, hv1⟩ hE1 hw)))
  · have z1 : (oVersionAt s a (xs (6 * c + 1)) (xs (6 * c + 2))).2.1 25 = 0 := (nI_eq (a := (oVersionAt s a (xs (6 * c + 1)) (xs (6 * c + 2))).2.1 25) (b := 0) (Nat.lt_of_lt_of_le (hw.1.J.1 25) (by decide)) (by decide)).mp z0
    refine j_aload_n C (i := 3) (x := oo) 5 rfl dL_law_1290 (pc' := 1291) rfl ?_
    refine j_iconst C (v := nI 0) rfl dL_law_1291 (pc' := 1292) rfl ?_
    refine j_lald C (a := oo) (N := 1) (j := 0) (f := v1) ((hM_off I.off.1 I.off.2).trans hv1) rfl (by decide) (by decide) dL_law_1292 (pc' := 1293) rfl ?_
    refine j_iload C (i := 6) (x := (oVersionAt s a (xs (6 * c + 1)) (xs (6 * c + 2))).1) 0 rfl dL_law_1293 (pc' := 1295) rfl ?_
    refine j_i2l C (x := (oVersionAt s a (xs (6 * c + 1)) (xs (6 * c + 2))).1) rfl dL_law_1295 (pc' := 1296) rfl ?_
    refine j_lcmp C dL_law_1296 (pc' := 1297) rfl ?_
    refine jt_i (y := 0) (by rw [hz z1]; exact lg_self _) ?_
    refine j_if_eq C dL_law_1297 (tgt := 1302) (by decide) (pc' := 1300) rfl (fun _ => ?_) (fun z => absurd rfl z)
    refine j_goto C dL_law_1302 (pc' := 1590) (by decide) ?_
    exact jW.locals [2, 3, 4, 5, 6] rfl (jW.widen (by omega) (by omega) (kk _ _ _ (I.next M hF1 ⟨v1, hv1⟩ hE1 hw)))
set_option maxRecDepth 100000 in
set_option maxHeartbeats 4000000 in
theorem k_19 (C : jC X G cL_law 7 wsL_law RL) (hXR : X.2.2.2.1 = room_1) (M : mG mo ad) (hX : va_X b L xs X.2.2.2.2.1 X.2.2.2.2.1.heap) (hb : b < X.2.2.2.2.1.heap.size) (hA : b < G.1) (hL : L ≤ 3072) (hc : c < 512) (hj : 6 * c + 6 ≤ L) (I : LwI G mo oo ad xo xa c s a h) (hk : k + 43 ≤ 601024) (hn : n + 258 ≤ 7293034) (kk : ∀ s' a' h', LwI G mo oo ad xo xa (c + 1) s' a' h' → jW X G 7 (k + 43) (n + 258) 1590 [(0, .ref b), (1, .ref xo), (2, .ref mo), (3, .ref oo), (4, .int (nI (6 * c)))] [] h') : jW X G 7 k n 1305 [(0, .ref b), (1, .ref xo), (2, .ref mo), (3, .ref oo), (4, .int (nI (6 * c)))] [] h := by
  refine j_aload_n C (i := 1) (x := xo) 1 rfl dL_law_1305 (pc' := 1306) rfl ?_
  refine j_aload_n C (i := 0) (x := b) 0 rfl dL_law_1306 (pc' := 1307) rfl ?_
  refine j_iload C (i := 4) (x := nI (6 * c)) 4 rfl dL_law_1307 (pc' := 1309) rfl ?_
  refine j_iconst C (v := nI 1) rfl dL_law_1309 (pc' := 1310) rfl ?_
  refine j_iadd C dL_law_1310 (pc' := 1311) rfl ?_
  refine j_sld C hX hb hA (j := 6 * c + 1) (nI_add _ _) (by omega) (by omega) dL_law_1311 (pc' := 1312) rfl ?_
  refine j_aload_n C (i := 0) (x := b) 0 rfl dL_law_1312 (pc' := 1313) rfl ?_
  refine j_iload C (i := 4) (x := nI (6 * c)) 4 rfl dL_law_1313 (pc' := 1315) rfl ?_
  refine j_iconst C (v := nI 2) rfl dL_law_1315 (pc' := 1316) rfl ?_
  refine j_iadd C dL_law_1316 (pc' := 1317) rfl ?_
  refine j_sld C hX hb hA (j := 6 * c + 2) (nI_add _ _) (by omega) (by omega) dL_law_1317 (pc' := 1318) rfl ?_
  refine j_aload_n C (i := 0) (x := b) 0 rfl dL_law_1318 (pc' := 1319) rfl ?_
  refine j_iload C (i := 4) (x := nI (6 * c)) 4 rfl dL_law_1319 (pc' := 1321) rfl ?_
  refine j_iconst C (v := nI 3) rfl dL_law_1321 (pc' := 1322) rfl ?_
  refine j_iadd C dL_law_1322 (pc' := 1323) rfl ?_
  refine j_sld C hX hb hA (j := 6 * c + 3) (nI_add _ _) (by omega) (by omega) dL_law_1323 (pc' := 1324) rfl ?_
  refine j_aload_n C (i := 0) (x := b) 0 rfl dL_law_1324 (pc' := 1325) rfl ?_
  refine j_iload C (i := 4) (x := nI (6 * c)) 4 rfl dL_law_1325 (pc' := 1327) rfl ?_
  refine j_iconst C (v := nI 4) rfl dL_law_1327 (pc' := 1328) rfl ?_
  refine j_iadd C dL_law_1328 (pc' := 1329) rfl ?_
  refine j_sld C hX hb hA (j := 6 * c + 4) (nI_add _ _) (by omega) (by omega) dL_law_1329 (pc' := 1330) rfl ?_
  refine j_aload_n C (i := 0) (x := b) 0 rfl dL_law_1330 (pc' := 1331) rfl ?_
  refine j_iload C (i := 4) (x := nI (6 * c)) 4 rfl dL_law_1331 (pc' := 1333) rfl ?_
  refine j_iconst C (v := nI 5) rfl dL_law_1333 (pc' := 1334) rfl ?_
  refine j_iadd C dL_law_1334 (pc' := 1335) rfl ?_
  refine j_sld C hX hb hA (j := 6 * c + 5) (nI_add _ _) (by omega) (by omega) dL_law_1335 (pc' := 1336) rfl ?_
  refine j_aload_n C (i := 3) (x := oo) 3 rfl dL_law_1336 (pc' := 1337) rfl ?_
  have hw := I.1.inBox (xs (6 * c + 1)) (xs (6 * c + 2)) (xs (6 * c + 3)) (xs (6 * c + 4)) (xs (6 * c + 5))
  obtain ⟨v, hv⟩ := I.2.2.2.2
  refine j_callSX C (As := [.ref xo, .int (xs (6 * c + 1)), .int (xs (6 * c + 2)), .int (xs (6 * c + 3)), .int (xs (6 * c + 4)), .int (xs (6 * c + 5)), .ref oo]) (rest := []) (w_inBox X.2.1 C.2.2.2.2.2.2.2.2 G (xs (6 * c + 1)) (xs (6 * c + 2)) (xs (6 * c + 3)) (xs (6 * c + 4)) (xs (6 * c + 5)) I.1 hc I.2.1 I.Pn (Or.inr (Or.inl rfl)) hv) (vx_cwSW 7 C.2.2.2.2.1 gL_law_L_inBox rfl rfl rfl (by decide +kernel) (by rw [hXR]; decide)) rfl rfl (Nat.le_of_ble_eq_true rfl) dL_law_1337 (pc' := 1340) rfl (by rw [hXR]; show k + 3 ≤ 601024; omega) (by rw [hXR]; show n + 18 ≤ 7293034; omega) (fun _ _ z => z.elim) ?_
  rintro r h1 ⟨rfl, ⟨v1, hv1, hz⟩, hE1, hF1⟩
  show jW X G 7 (k + 3) (n + 18) 1340 [(0, .ref b), (1, .ref xo), (2, .ref mo), (3, .ref oo), (4, .int (nI (6 * c)))] [.int (nI ((oInBox s a (xs (6 * c + 1)) (xs (6 * c + 2)) (xs (6 * c + 3)) (xs (6 * c + 4)) (xs (6 * c + 5))).2.1 25))] (h1)
  refine j_istore C (i := 5) (x := nI ((oInBox s a (xs (6 * c + 1)) (xs (6 * c + 2)) (xs (6 * c + 3)) (xs (6 * c + 4)) (xs (6 * c + 5))).2.1 25)) (l' := [(5, .int (nI ((oInBox s a (xs (6 * c + 1)) (xs (6 * c + 2)) (xs (6 * c + 3)) (xs (6 * c + 4)) (xs (6 * c + 5))).2.1 25))), (0, .ref b), (1, .ref xo), (2, .ref mo), (3, .ref oo), (4, .int (nI (6 * c)))]) dL_law_1340 (pc' := 1342) rfl (by decide) rfl ?_
  refine j_aload_n C (i := 2) (x := mo) 3 rfl dL_law_1342 (pc' := 1343) rfl ?_
  refine j_aload_n C (i := 0) (x := b) 1 rfl dL_law_1343 (pc' := 1344) rfl ?_
  refine j_iload C (i := 4) (x := nI (6 * c)) 5 rfl dL_law_1344 (pc' := 1346) rfl ?_
  refine j_iconst C (v := nI 1) rfl dL_law_1346 (pc' := 1347) rfl ?_
  refine j_iadd C dL_law_1347 (pc' := 1348) rfl ?_
  refine j_sld C hX hb hA (j := 6 * c + 1) (nI_add _ _) (by omega) (by omega) dL_law_1348 (pc' := 1349) rfl ?_
  refine j_aload_n C (i := 0) (x := b) 1 rfl dL_law_1349 (pc' := 1350) rfl ?_
  refine j_iload C (i := 4) (x := nI (6 * c)) 5 rfl dL_law_1350 (pc' := 1352) rfl ?_
  refine j_iconst C (v := nI 2) rfl dL_law_1352 (pc' := 1353) rfl ?_
  refine j_iadd C dL_law_1353 (pc' := 1354) rfl ?_
  refine j_sld C hX hb hA (j := 6 * c + 2) (nI_add _ _) (by omega) (by omega) dL_law_1354 (pc' := 1355) rfl ?_
  refine j_aload_n C (i := 0) (x := b) 1 rfl dL_law_1355 (pc' := 1356) rfl ?_
  refine j_iload C (i := 4) (x := nI (6 * c)) 5 rfl dL_law_1356 (pc' := 1358) rfl ?_
  refine j_iconst C (v := nI 3) rfl dL_law_1358 (pc' := 1359) rfl ?_
  refine j_iadd C dL_law_1359 (pc' := 1360) rfl ?_
  refine j_sld C hX hb hA (j := 6 * c + 3) (nI_add _ _) (by omega) (by omega) dL_law_1360 (pc' := 1361) rfl ?_
  refine j_aload_n C (i := 0) (x := b) 1 rfl dL_law_1361 (pc' := 1362) rfl ?_
  refine j_iload C (i := 4) (x := nI (6 * c)) 5 rfl dL_law_1362 (pc' := 1364) rfl ?_
  refine j_iconst C (v := nI 4) rfl dL_law_1364 (pc' := 1365) rfl ?_
  refine j_iadd C dL_law_1365 (pc' := 1366) rfl ?_
  refine j_sld C hX hb hA (j := 6 * c + 4) (nI_add _ _) (by omega) (by omega) dL_law_1366 (pc' := 1367) rfl ?_
  refine j_aload_n C (i := 0) (x := b) 1 rfl dL_law_1367 (pc' := 1368) rfl ?_
  refine j_iload C (i := 4) (x := nI (6 * c)) 5 rfl dL_law_1368 (pc' := 1370) rfl ?_
  refine j_iconst C (v := nI 5) rfl dL_law_1370 (pc' := 1371) rfl ?_
  refine j_iadd C dL_law_1371 (pc' := 1372) rfl ?_
  refine j_sld C hX hb hA (j := 6 * c + 5) (nI_add _ _) (by omega) (by omega) dL_law_1372 (pc' := 1373) rfl ?_
  refine jt_h (I.mid M hF1) ?_
  refine j_callV C (As := [.int (xs (6 * c + 1)), .int (xs (6 * c + 2)), .int (xs (6 * c + 3)), .int (xs (6 * c + 4)), .int (xs (6 * c + 5))]) (rest := []) (m_inBox X.2.1 C.2.2.2.2.2.2.2.2 G M s a (xs (6 * c + 1)) (xs (6 * c + 2)) (xs (6 * c + 3)) (xs (6 * c + 4)) (xs (6 * c + 5)) I.1.1.J I.1.1.I) (cwV 5 C.2.2.2.2.1 gL_law_X4_inBox rfl rfl rfl (by decide +kernel) (by rw [hXR]; decide)) hM_obj rfl rfl rfl (Nat.le_of_ble_eq_true rfl) dL_law_1373 (pc' := 1376) rfl (by rw [hXR]; show k + 3 + 0 ≤ 601024; omega) (by rw [hXR]; show n + 18 + 0 ≤ 7293034; omega) (fun _ _ z => z.elim) ?_
  rintro r h' ⟨rfl, rfl⟩
  show jW X G 7 (k + 3) (n + 18) 1376 [(5, .int (nI ((oInBox s a (xs (6 * c + 1)) (xs (6 * c + 2)) (xs (6 * c + 3)) (xs (6 * c + 4)) (xs (6 * c + 5))).2.1 25))), (0, .ref b), (1, .ref xo), (2, .ref mo), (3, .ref oo), (4, .int (nI (6 * c)))] [.int ((oInBox s a (xs (6 * c + 1)) (xs (6 * c + 2)) (xs (6 * c + 3)) (xs (6 * c + 4)) (xs (6 * c + 5))).1)] (hM G mo ad h1 (oInBox s a (xs (6 * c + 1)) (xs (6 * c + 2)) (xs (6 * c + 3)) (xs (6 * c + 4)) (xs (6 * c + 5))).2.1 (oInBox s a (xs (6 * c + 1)) (xs (6 * c + 2)) (xs (6 * c + 3)) (xs (6 * c + 4)) (xs (6 * c + 5))).2.2)
  refine j_istore C (i := 6) (x := (oInBox s a (xs (6 * c + 1)) (xs (6 * c + 2)) (xs (6 * c + 3)) (xs (6 * c + 4)) (xs (6 * c + 5))).1) (l' := [(6, .int ((oInBox s a (xs (6 * c + 1)) (xs (6 * c + 2)) (xs (6 * c + 3)) (xs (6 * c + 4)) (xs (6 * c + 5))).1)), (5, .int (nI ((oInBox s a (xs (6 * c + 1)) (xs (6 * c + 2)) (xs (6 * c + 3)) (xs (6 * c + 4)) (xs (6 * c + 5))).2.1 25))), (0, .ref b), (1, .ref xo), (2, .ref mo), (3, .ref oo), (4, .int (nI (6 * c)))]) dL_law_1376 (pc' := 1378) rfl (by decide) rfl ?_
  refine j_aload_n C (i := 2) (x := mo) 4 rfl dL_law_1378 (pc' := 1379) rfl ?_
  refine j_callV C (As := []) (rest := []) (m_thrown X.2.1 C.2.2.2.2.2.2.2.2 G M (oInBox s a (xs (6 * c + 1)) (xs (6 * c + 2)) (xs (6 * c + 3)) (xs (6 * c + 4)) (xs (6 * c + 5))).2.1 (oInBox s a (xs (6 * c + 1)) (xs (6 * c + 2)) (xs (6 * c + 3)) (xs (6 * c + 4)) (xs (6 * c + 5))).2.2) (cwV 0 C.2.2.2.2.1 gL_law_X4_thrown rfl rfl rfl (by decide +kernel) (by rw [hXR]; decide)) hM_obj rfl rfl rfl (Nat.le_of_ble_eq_true rfl) dL_law_1379 (pc' := 1382) rfl (by rw [hXR]; show k + 3 + 0 ≤ 601024; omega) (by rw [hXR]; show n + 18 + 0 ≤ 7293034; omega) (fun _ _ z => z.elim) ?_
  rintro r h' ⟨rfl, rfl⟩
  show jW X G 7 (k + 3) (n + 18) 1382 [(6, .int ((oInBox s a (xs (6 * c + 1)) (xs (6 * c + 2)) (xs (6 * c + 3)) (xs (6 * c + 4)) (xs (6 * c + 5))).1)), (5, .int (nI ((oInBox s a (xs (6 * c + 1)) (xs (6 * c + 2)) (xs (6 * c + 3)) (xs (6 * c + 4)) (xs (6 * c + 5))).2.1 25))), (0, .ref b), (1, .ref xo), (2, .ref mo), (3, .ref oo), (4, .int (nI (6 * c)))] [.int (nI ((oInBox s a (xs (6 * c + 1)) (xs (6 * c + 2)) (xs (6 * c + 3)) (xs (6 * c + 4)) (xs (6 * c + 5))).2.1 25))] (hM G mo ad h1 (oInBox s a (xs (6 * c + 1)) (xs (6 * c + 2)) (xs (6 * c + 3)) (xs (6 * c + 4)) (xs (6 * c + 5))).2.1 (oInBox s a (xs (6 * c + 1)) (xs (6 * c + 2)) (xs (6 * c + 3)) (xs (6 * c + 4)) (xs (6 * c + 5))).2.2)
  refine j_iload C (i := 5) (x := nI ((oInBox s a (xs (6 * c + 1)) (xs (6 * c + 2)) (xs (6 * c + 3)) (xs (6 * c + 4)) (xs (6 * c + 5))).2.1 25)) 1 rfl dL_law_1382 (pc' := 1384) rfl ?_
  refine j_icmp_eq C dL_law_1384 (tgt := 1389) (by decide) (pc' := 1387) rfl (fun _ => ?_) (fun z => absurd rfl z)
  refine j_iload C (i := 5) (x := nI ((oInBox s a (xs (6 * c + 1)) (xs (6 * c + 2)) (xs (6 * c + 3)) (xs (6 * c + 4)) (xs (6 * c + 5))).2.1 25)) 1 rfl dL_law_1389 (pc' := 1391) rfl ?_
  refine j_if_ne C dL_law_1391 (tgt := 1406) (by decide) (pc' := 1394) rfl (fun _ => ?_) (fun z0 => ?_)
  · skip
    refine j_goto C dL_law_1406 (pc' := 1590) (by decide) ?_
    exact jW.locals [2, 3, 4, 5, 6] rfl (jW.widen (by omega) (by omega) (kk _ _ _ (I.next M hF1 ⟨v1, hv1⟩ hE1 hw)))
  · have z1 : (oInBox s a (xs (6 * c + 1)) (xs (6 * c + 2)) (xs (6 * c + 3)) (xs (6 * c + 4)) (xs (6 * c + 5))).2.1 25 = 0 := (nI_eq (a := (oInBox s a (xs (6 * c + 1)) (xs (6 * c + 2)) (xs (6 * c + 3)) (xs (6 * c + 4)) (xs (6 * c + 5))).2.1 25) (b := 0) (Nat.lt_of_lt_of_le (hw.1.J.1 25) (by decide)) (by decide)).mp z0
    refine j_aload_n C (i := 3) (x := oo) 5 rfl dL_law_1394 (pc' := 1395) rfl ?_
    refine j_iconst C (v := nI 0) rfl dL_law_1395 (pc' := 1396) rfl ?_
    refine j_lald C (a := oo) (N := 1) (j := 0) (f := v1) ((hM_off I.off.1 I.off.2).trans hv1) rfl (by decide) (by decide) dL_law_1396 (pc' := 1397) rfl ?_
    refine j_iload C (i := 6) (x := (oInBox s a (xs (6 * c + 1)) (xs (6 * c + 2)) (xs (6 * c + 3)) (xs (6 * c + 4)) (xs (6 * c + 5))).1) 0 rfl dL_law_1397 (pc' := 1399) rfl ?_
    refine j_i2l C (x := (oInBox s a (xs (6 * c + 1)) (xs (6 * c + 2)) (xs (6 * c + 3)) (xs (6 * c + 4)) (xs (6 * c + 5))).1) rfl dL_law_1399 (pc' := 1400) rfl ?_
    refine j_lcmp C dL_law_1400 (pc' := 1401) rfl ?_
    refine jt_i (y := 0) (by rw [hz z1]; exact lg_self _) ?_
    refine j_if_eq C dL_law_1401 (tgt := 1406) (by decide) (pc' := 1404) rfl (fun _ => ?_) (fun z => absurd rfl z)
    refine j_goto C dL_law_1406 (pc' := 1590) (by decide) ?_
    exact jW.locals [2, 3, 4, 5, 6] rfl (jW.widen (by omega) (by omega) (kk _ _ _ (I.next M hF1 ⟨v1, hv1⟩ hE1 hw)))
set_option maxRecDepth 100000 in
set_option maxHeartbeats 4000000 in
theorem k_20 (C : jC X G cL_law 7 wsL_law RL) (hXR : X.2.2.2.1 = room_1) (M : mG mo ad) (hX : va_X b L xs X.2.2.2.2.1 X.2.2.2.2.1.heap) (hb : b < X.2.2.2.2.1.heap.size) (hA : b < G.1) (hL : L ≤ 3072) (hc : c < 512) (hj : 6 * c + 6 ≤ L) (I : LwI G mo oo ad xo xa c s a h) (hk : k + 43 ≤ 601024) (hn : n + 258 ≤ 7293034) (kk : ∀ s' a' h', LwI G mo oo ad xo xa (c + 1) s' a' h' → jW X G 7 (k + 43) (n + 258) 1590 [(0, .ref b), (1, .ref xo), (2, .ref mo), (3, .ref oo), (4, .int (nI (6 * c)))] [] h') : jW X G 7 k n 1409 [(0, .ref b), (1, .ref xo), (2, .ref mo), (3, .ref oo), (4, .int (nI (6 * c)))] [] h := by
  refine j_aload_n C (i := 1) (x := xo) 1 rfl dL_law_1409 (pc' := 1410) rfl ?_
  refine j_aload_n C (i := 0) (x := b) 0 rfl dL_law_1410 (pc' := 1411) rfl ?_
  refine j_iload C (i := 4) (x := nI (6 * c)) 4 rfl dL_law_1411 (pc' := 1413) rfl ?_
  refine j_iconst C (v := nI 1) rfl dL_law_1413 (pc' := 1414) rfl ?_
  refine j_iadd C dL_law_1414 (pc' := 1415) rfl ?_
  refine j_sld C hX hb hA (j := 6 * c + 1) (nI_add _ _) (by omega) (by omega) dL_law_1415 (pc' := 1416) rfl ?_
  refine j_aload_n C (i := 3) (x := oo) 3 rfl dL_law_1416 (pc' := 1417) rfl ?_
  have hw := I.1.pass (xs (6 * c + 1))
  obtain ⟨v, hv⟩ := I.2.2.2.2
  refine j_callSX C (As := [.ref xo, .int (xs (6 * c + 1)), .ref oo]) (rest := []) (w_pass X.2.1 C.2.2.2.2.2.2.2.2 G (xs (6 * c + 1)) I.1 hc I.2.1 I.Pn (Or.inr (Or.inl rfl)) hv) (vx_cwSW 3 C.2.2.2.2.1 gL_law_L_pass rfl rfl rfl (by decide +kernel) (by rw [hXR]; decide)) rfl rfl (Nat.le_of_ble_eq_true rfl) dL_law_1417 (pc' := 1420) rfl (by rw [hXR]; show k + 2 ≤ 601024; omega) (by rw [hXR]; show n + 12 ≤ 7293034; omega) (fun _ _ z => z.elim) ?_
  rintro r h1 ⟨rfl, ⟨v1, hv1, hz⟩, hE1, hF1⟩
  show jW X G 7 (k + 2) (n + 12) 1420 [(0, .ref b), (1, .ref xo), (2, .ref mo), (3, .ref oo), (4, .int (nI (6 * c)))] [.int (nI ((oPass s a (xs (6 * c + 1))).2.1 25))] (h1)
  refine j_istore C (i := 5) (x := nI ((oPass s a (xs (6 * c + 1))).2.1 25)) (l' := [(5, .int (nI ((oPass s a (xs (6 * c + 1))).2.1 25))), (0, .ref b), (1, .ref xo), (2, .ref mo), (3, .ref oo), (4, .int (nI (6 * c)))]) dL_law_1420 (pc' := 1422) rfl (by decide) rfl ?_
  refine j_aload_n C (i := 2) (x := mo) 3 rfl dL_law_1422 (pc' := 1423) rfl ?_
  refine j_aload_n C (i := 0) (x := b) 1 rfl dL_law_1423 (pc' := 1424) rfl ?_
  refine j_iload C (i := 4) (x := nI (6 * c)) 5 rfl dL_law_1424 (pc' := 1426) rfl ?_
  refine j_iconst C (v := nI 1) rfl dL_law_1426 (pc' := 1427) rfl ?_
  refine j_iadd C dL_law_1427 (pc' := 1428) rfl ?_
  refine j_sld C hX hb hA (j := 6 * c + 1) (nI_add _ _) (by omega) (by omega) dL_law_1428 (pc' := 1429) rfl ?_
  refine jt_h (I.mid M hF1) ?_
  refine j_callV C (As := [.int (xs (6 * c + 1))]) (rest := []) (m_pass X.2.1 C.2.2.2.2.2.2.2.2 G M s a (xs (6 * c + 1)) I.1.1.J I.1.1.I) (cwV 1 C.2.2.2.2.1 gL_law_X4_pass rfl rfl rfl (by decide +kernel) (by rw [hXR]; decide)) hM_obj rfl rfl rfl (Nat.le_of_ble_eq_true rfl) dL_law_1429 (pc' := 1432) rfl (by rw [hXR]; show k + 2 + 0 ≤ 601024; omega) (by rw [hXR]; show n + 12 + 0 ≤ 7293034; omega) (fun _ _ z => z.elim) ?_
  rintro r h' ⟨rfl, rfl⟩
  show jW X G 7 (k + 2) (n + 12) 1432 [(5, .int (nI ((oPass s a (xs (6 * c + 1))).2.1 25))), (0, .ref b), (1, .ref xo), (2, .ref mo), (3, .ref oo), (4, .int (nI (6 * c)))] [.int ((oPass s a (xs (6 * c + 1))).1)] (hM G mo ad h1 (oPass s a (xs (6 * c + 1))).2.1 (oPass s a (xs (6 * c + 1))).2.2)
  refine j_istore C (i := 6) (x := (oPass s a (xs (6 * c + 1))).1) (l' := [(6, .int ((oPass s a (xs (6 * c + 1))).1)), (5, .int (nI ((oPass s a (xs (6 * c + 1))).2.1 25))), (0, .ref b), (1, .ref xo), (2, .ref mo), (3, .ref oo), (4, .int (nI (6 * c)))]) dL_law_1432 (pc' := 1434) rfl (by decide) rfl ?_
  refine j_aload_n C (i := 2) (x := mo) 4 rfl dL_law_1434 (pc' := 1435) rfl ?_
  refine j_callV C (As := []) (rest := []) (m_thrown X.2.1 C.2.2.2.2.2.2.2.2 G M (oPass s a (xs (6 * c + 1))).2.1 (oPass s a (xs (6 * c + 1))).2.2) (cwV 0 C.2.2.2.2.1 gL_law_X4_thrown rfl rfl rfl (by decide +kernel) (by rw [hXR]; decide)) hM_obj rfl rfl rfl (Nat.le_of_ble_eq_true rfl) dL_law_1435 (pc' := 1438) rfl (by rw [hXR]; show k + 2 + 0 ≤ 601024; omega) (by rw [hXR]; show n + 12 + 0 ≤ 7293034; omega) (fun _ _ z => z.elim) ?_
  rintro r h' ⟨rfl, rfl⟩
  show jW X G 7 (k + 2) (n + 12) 1438 [(6, .int ((oPass s a (xs (6 * c + 1))).1)), (5, .int (nI ((oPass s a (xs (6 * c + 1))).2.1 25))), (0, .ref b), (1, .ref xo), (2, .ref mo), (3, .ref oo), (4, .int (nI (6 * c)))] [.int (nI ((oPass s a (xs (6 * c + 1))).2.1 25))] (hM G mo ad h1 (oPass s a (xs (6 * c + 1))).2.1 (oPass s a (xs (6 * c + 1))).2.2)
  refine j_iload C (i := 5) (x := nI ((oPass s a (xs (6 * c + 1))).2.1 25)) 1 rfl dL_law_1438 (pc' := 1440) rfl ?_
  refine j_icmp_eq C dL_law_1440 (tgt := 1445) (by decide) (pc' := 1443) rfl (fun _ => ?_) (fun z => absurd rfl z)
  refine j_iload C (i := 5) (x := nI ((oPass s a (xs (6 * c + 1))).2.1 25)) 1 rfl dL_law_1445 (pc' := 1447) rfl ?_
  refine j_if_ne C dL_law_1447 (tgt := 1462) (by decide) (pc' := 1450) rfl (fun _ => ?_) (fun z0 => ?_)
  · skip
    refine j_goto C dL_law_1462 (pc' := 1590) (by decide) ?_
    exact jW.locals [2, 3, 4, 5, 6] rfl (jW.widen (by omega) (by omega) (kk _ _ _ (I.next M hF1 ⟨v1, hv1⟩ hE1 hw)))
  · have z1 : (oPass s a (xs (6 * c + 1))).2.1 25 = 0 := (nI_eq (a := (oPass s a (xs (6 * c + 1))).2.1 25) (b := 0) (Nat.lt_of_lt_of_le (hw.1.J.1 25) (by decide)) (by decide)).mp z0
    refine j_aload_n C (i := 3) (x := oo) 5 rfl dL_law_1450 (pc' := 1451) rfl ?_
    refine j_iconst C (v := nI 0) rfl dL_law_1451 (pc' := 1452) rfl ?_
    refine j_lald C (a := oo) (N := 1) (j := 0) (f := v1) ((hM_off I.off.1 I.off.2).trans hv1) rfl (by decide) (by decide) dL_law_1452 (pc' := 1453) rfl ?_
    refine j_iload C (i := 6) (x := (oPass s a (xs (6 * c + 1))).1) 0 rfl dL_law_1453 (pc' := 1455) rfl ?_
    refine j_i2l C (x := (oPass s a (xs (6 * c + 1))).1) rfl dL_law_1455 (pc' := 1456) rfl ?_
    refine j_lcmp C dL_law_1456 (pc' := 1457) rfl ?_
    refine jt_i (y := 0) (by rw [hz z1]; exact lg_self _) ?_
    refine j_if_eq C dL_law_1457 (tgt := 1462) (by decide) (pc' := 1460) rfl (fun _ => ?_) (fun z => absurd rfl z)
    refine j_goto C dL_law_1462 (pc' := 1590) (by decide) ?_
    exact jW.locals [2, 3, 4, 5, 6] rfl (jW.widen (by omega) (by omega) (kk _ _ _ (I.next M hF1 ⟨v1, hv1⟩ hE1 hw)))
set_option maxRecDepth 100000 in
set_option maxHeartbeats 4000000 in
theorem k_21 (C : jC X G cL_law 7 wsL_law RL) (hXR : X.2.2.2.1 = room_1) (M : mG mo ad) (hX : va_X b L xs X.2.2.2.2.1 X.2.2.2.2.1.heap) (hb : b < X.2.2.2.2.1.heap.size) (hA : b < G.1) (hL : L ≤ 3072) (hc : c < 512) (hj : 6 * c + 6 ≤ L) (I : LwI G mo oo ad xo xa c s a h) (hk : k + 43 ≤ 601024) (hn : n + 258 ≤ 7293034) (kk : ∀ s' a' h', LwI G mo oo ad xo xa (c + 1) s' a' h' → jW X G 7 (k + 43) (n + 258) 1590 [(0, .ref b), (1, .ref xo), (2, .ref mo), (3, .ref oo), (4, .int (nI (6 * c)))] [] h') : jW X G 7 k n 1465 [(0, .ref b), (1, .ref xo), (2, .ref mo), (3, .ref oo), (4, .int (nI (6 * c)))] [] h := by
  refine j_aload_n C (i := 1) (x := xo) 1 rfl dL_law_1465 (pc' := 1466) rfl ?_
  refine j_aload_n C (i := 0) (x := b) 0 rfl dL_law_1466 (pc' := 1467) rfl ?_
  refine j_iload C (i := 4) (x := nI (6 * c)) 4 rfl dL_law_1467 (pc' := 1469) rfl ?_
  refine j_iconst C (v := nI 1) rfl dL_law_1469 (pc' := 1470) rfl ?_
  refine j_iadd C dL_law_1470 (pc' := 1471) rfl ?_
  refine j_sld C hX hb hA (j := 6 * c + 1) (nI_add _ _) (by omega) (by omega) dL_law_1471 (pc' := 1472) rfl ?_
  refine j_aload_n C (i := 3) (x := oo) 3 rfl dL_law_1472 (pc' := 1473) rfl ?_
  have hw := I.1.take (xs (6 * c + 1))
  obtain ⟨v, hv⟩ := I.2.2.2.2
  refine j_callSX C (As := [.ref xo, .int (xs (6 * c + 1)), .ref oo]) (rest := []) (w_take X.2.1 C.2.2.2.2.2.2.2.2 G (xs (6 * c + 1)) I.1 hc I.2.1 I.Pn (Or.inr (Or.inl rfl)) hv) (vx_cwSW 3 C.2.2.2.2.1 gL_law_L_take rfl rfl rfl (by decide +kernel) (by rw [hXR]; decide)) rfl rfl (Nat.le_of_ble_eq_true rfl) dL_law_1473 (pc' := 1476) rfl (by rw [hXR]; show k + 1 ≤ 601024; omega) (by rw [hXR]; show n + 6 ≤ 7293034; omega) (fun _ _ z => z.elim) ?_
  rintro r h1 ⟨rfl, ⟨v1, hv1, hz⟩, hE1, hF1⟩
  show jW X G 7 (k + 1) (n + 6) 1476 [(0, .ref b), (1, .ref xo), (2, .ref mo), (3, .ref oo), (4, .int (nI (6 * c)))] [.int (nI ((oTake s a (xs (6 * c + 1))).2.1 25))] (h1)
  refine j_istore C (i := 5) (x := nI ((oTake s a (xs (6 * c + 1))).2.1 25)) (l' := [(5, .int (nI ((oTake s a (xs (6 * c + 1))).2.1 25))), (0, .ref b), (1, .ref xo), (2, .ref mo), (3, .ref oo), (4, .int (nI (6 * c)))]) dL_law_1476 (pc' := 1478) rfl (by decide) rfl ?_
  refine j_aload_n C (i := 2) (x := mo) 3 rfl dL_law_1478 (pc' := 1479) rfl ?_
  refine j_aload_n C (i := 0) (x := b) 1 rfl dL_law_1479 (pc' := 1480) rfl ?_
  refine j_iload C (i := 4) (x := nI (6 * c)) 5 rfl dL_law_1480 (pc' := 1482) rfl ?_
  refine j_iconst C (v := nI 1) rfl dL_law_1482 (pc' := 1483) rfl ?_
  refine j_iadd C dL_law_1483 (pc' := 1484) rfl ?_
  refine j_sld C hX hb hA (j := 6 * c + 1) (nI_add _ _) (by omega) (by omega) dL_law_1484 (pc' := 1485) rfl ?_
  refine jt_h (I.mid M hF1) ?_
  refine j_callV C (As := [.int (xs (6 * c + 1))]) (rest := []) (m_take X.2.1 C.2.2.2.2.2.2.2.2 G M s a (xs (6 * c + 1)) I.1.1.J I.1.1.I) (cwV 1 C.2.2.2.2.1 gL_law_X4_take rfl rfl rfl (by decide +kernel) (by rw [hXR]; decide)) hM_obj rfl rfl rfl (Nat.le_of_ble_eq_true rfl) dL_law_1485 (pc' := 1488) rfl (by rw [hXR]; show k + 1 + 0 ≤ 601024; omega) (by rw [hXR]; show n + 6 + 0 ≤ 7293034; omega) (fun _ _ z => z.elim) ?_
  rintro r h' ⟨rfl, rfl⟩
  show jW X G 7 (k + 1) (n + 6) 1488 [(5, .int (nI ((oTake s a (xs (6 * c + 1))).2.1 25))), (0, .ref b), (1, .ref xo), (2, .ref mo), (3, .ref oo), (4, .int (nI (6 * c)))] [.int ((oTake s a (xs (6 * c + 1))).1)] (hM G mo ad h1 (oTake s a (xs (6 * c + 1))).2.1 (oTake s a (xs (6 * c + 1))).2.2)
  refine j_istore C (i := 6) (x := (oTake s a (xs (6 * c + 1))).1) (l' := [(6, .int ((oTake s a (xs (6 * c + 1))).1)), (5, .int (nI ((oTake s a (xs (6 * c + 1))).2.1 25))), (0, .ref b), (1, .ref xo), (2, .ref mo), (3, .ref oo), (4, .int (nI (6 * c)))]) dL_law_1488 (pc' := 1490) rfl (by decide) rfl ?_
  refine j_aload_n C (i := 2) (x := mo) 4 rfl dL_law_1490 (pc' := 1491) rfl ?_
  refine j_callV C (As := []) (rest := []) (m_thrown X.2.1 C.2.2.2.2.2.2.2.2 G M (oTake s a (xs (6 * c + 1))).2.1 (oTake s a (xs (6 * c + 1))).2.2) (cwV 0 C.2.2.2.2.1 gL_law_X4_thrown rfl rfl rfl (by decide +kernel) (by rw [hXR]; decide)) hM_obj rfl rfl rfl (Nat.le_of_ble_eq_true rfl) dL_law_1491 (pc' := 1494) rfl (by rw [hXR]; show k + 1 + 0 ≤ 601024; omega) (by rw [hXR]; show n + 6 + 0 ≤ 7293034; omega) (fun _ _ z => z.elim) ?_
  rintro r h' ⟨rfl, rfl⟩
  show jW X G 7 (k + 1) (n + 6) 1494 [(6, .int ((oTake s a (xs (6 * c + 1))).1)), (5, .int (nI ((oTake s a (xs (6 * c + 1))).2.1 25))), (0, .ref b), (1, .ref xo), (2, .ref mo), (3, .ref oo), (4, .int (nI (6 * c)))] [.int (nI ((oTake s a (xs (6 * c + 1))).2.1 25))] (hM G mo ad h1 (oTake s a (xs (6 * c + 1))).2.1 (oTake s a (xs (6 * c + 1))).2.2)
  refine j_iload C (i := 5) (x := nI ((oTake s a (xs (6 * c + 1))).2.1 25)) 1 rfl dL_law_1494 (pc' := 1496) rfl ?_
  refine j_icmp_eq C dL_law_1496 (tgt := 1501) (by decide) (pc' := 1499) rfl (fun _ => ?_) (fun z => absurd rfl z)
  refine j_iload C (i := 5) (x := nI ((oTake s a (xs (6 * c + 1))).2.1 25)) 1 rfl dL_law_1501 (pc' := 1503) rfl ?_
  refine j_if_ne C dL_law_1503 (tgt := 1518) (by decide) (pc' := 1506) rfl (fun _ => ?_) (fun z0 => ?_)
  · skip
    refine j_goto C dL_law_1518 (pc' := 1590) (by decide) ?_
    exact jW.locals [2, 3, 4, 5, 6] rfl (jW.widen (by omega) (by omega) (kk _ _ _ (I.next M hF1 ⟨v1, hv1⟩ hE1 hw)))
  · have z1 : (oTake s a (xs (6 * c + 1))).2.1 25 = 0 := (nI_eq (a := (oTake s a (xs (6 * c + 1))).2.1 25) (b := 0) (Nat.lt_of_lt_of_le (hw.1.J.1 25) (by decide)) (by decide)).mp z0
    refine j_aload_n C (i := 3) (x := oo) 5 rfl dL_law_1506 (pc' := 1507) rfl ?_
    refine j_iconst C (v := nI 0) rfl dL_law_1507 (pc' := 1508) rfl ?_
    refine j_lald C (a := oo) (N := 1) (j := 0) (f := v1) ((hM_off I.off.1 I.off.2).trans hv1) rfl (by decide) (by decide) dL_law_1508 (pc' := 1509) rfl ?_
    refine j_iload C (i := 6) (x := (oTake s a (xs (6 * c + 1))).1) 0 rfl dL_law_1509 (pc' := 1511) rfl ?_
    refine j_i2l C (x := (oTake s a (xs (6 * c + 1))).1) rfl dL_law_1511 (pc' := 1512) rfl ?_
    refine j_lcmp C dL_law_1512 (pc' := 1513) rfl ?_
    refine jt_i (y := 0) (by rw [hz z1]; exact lg_self _) ?_
    refine j_if_eq C dL_law_1513 (tgt := 1518) (by decide) (pc' := 1516) rfl (fun _ => ?_) (fun z => absurd rfl z)
    refine j_goto C dL_law_1518 (pc' := 1590) (by decide) ?_
    exact jW.locals [2, 3, 4, 5, 6] rfl (jW.widen (by omega) (by omega) (kk _ _ _ (I.next M hF1 ⟨v1, hv1⟩ hE1 hw)))
set_option maxRecDepth 100000 in
set_option maxHeartbeats 4000000 in
theorem k_22 (C : jC X G cL_law 7 wsL_law RL) (hXR : X.2.2.2.1 = room_1) (M : mG mo ad) (hX : va_X b L xs X.2.2.2.2.1 X.2.2.2.2.1.heap) (hb : b < X.2.2.2.2.1.heap.size) (hA : b < G.1) (hL : L ≤ 3072) (hc : c < 512) (hj : 6 * c + 6 ≤ L) (I : LwI G mo oo ad xo xa c s a h) (hk : k + 43 ≤ 601024) (hn : n + 258 ≤ 7293034) (kk : ∀ s' a' h', LwI G mo oo ad xo xa (c + 1) s' a' h' → jW X G 7 (k + 43) (n + 258) 1590 [(0, .ref b), (1, .ref xo), (2, .ref mo), (3, .ref oo), (4, .int (nI (6 * c)))] [] h') : jW X G 7 k n 1521 [(0, .ref b), (1, .ref xo), (2, .ref mo), (3, .ref oo), (4, .int (nI (6 * c)))] [] h := by
  refine j_aload_n C (i := 1) (x := xo) 1 rfl dL_law_1521 (pc' := 1522) rfl ?_
  refine j_aload_n C (i := 0) (x := b) 0 rfl dL_law_1522 (pc' := 1523) rfl ?_
  refine j_iload C (i := 4) (x := nI (6 * c)) 4 rfl dL_law_1523 (pc' := 1525) rfl ?_
  refine j_iconst C (v := nI 1) rfl dL_law_1525 (pc' := 1526) rfl ?_
  refine j_iadd C dL_law_1526 (pc' := 1527) rfl ?_
  refine j_sld C hX hb hA (j := 6 * c + 1) (nI_add _ _) (by omega) (by omega) dL_law_1527 (pc' := 1528) rfl ?_
  refine j_aload_n C (i := 3) (x := oo) 3 rfl dL_law_1528 (pc' := 1529) rfl ?_
  have hw := I.1.inCopy (xs (6 * c + 1))
  obtain ⟨v, hv⟩ := I.2.2.2.2
  refine j_callSX C (As := [.ref xo, .int (xs (6 * c + 1)), .ref oo]) (rest := []) (w_inCopy X.2.1 C.2.2.2.2.2.2.2.2 G (xs (6 * c + 1)) I.1 hc I.2.1 I.Pn (Or.inr (Or.inl rfl)) hv) (vx_cwSW 3 C.2.2.2.2.1 gL_law_L_inCopy rfl rfl rfl (by decide +kernel) (by rw [hXR]; decide)) rfl rfl (Nat.le_of_ble_eq_true rfl) dL_law_1529 (pc' := 1532) rfl (by rw [hXR]; show k + 1 ≤ 601024; omega) (by rw [hXR]; show n + 6 ≤ 7293034; omega) (fun _ _ z => z.elim) ?_
  rintro r h1 ⟨rfl, ⟨v1, hv1, hz⟩, hE1, hF1⟩
  show jW X G 7 (k + 1) (n + 6) 1532 [(0, .ref b), (1, .ref xo), (2, .ref mo), (3, .ref oo), (4, .int (nI (6 * c)))] [.int (nI ((oInCopy s a (xs (6 * c + 1))).2.1 25))] (h1)
  refine j_istore C (i := 5) (x := nI ((oInCopy s a (xs (6 * c + 1))).2.1 25)) (l' := [(5, .int (nI ((oInCopy s a (xs (6 * c + 1))).2.1 25))), (0, .ref b), (1, .ref xo), (2, .ref mo), (3, .ref oo), (4, .int (nI (6 * c)))]) dL_law_1532 (pc' := 1534) rfl (by decide) rfl ?_
  refine j_aload_n C (i := 2) (x := mo) 3 rfl dL_law_1534 (pc' := 1535) rfl ?_
  refine j_aload_n C (i := 0) (x := b) 1 rfl dL_law_1535 (pc' := 1536) rfl ?_
  refine j_iload C (i := 4) (x := nI (6 * c)) 5 rfl dL_law_1536 (pc' := 1538) rfl ?_
  refine j_iconst C (v := nI 1) rfl dL_law_1538 (pc' := 1539) rfl ?_
  refine j_iadd C dL_law_1539 (pc' := 1540) rfl ?_
  refine j_sld C hX hb hA (j := 6 * c + 1) (nI_add _ _) (by omega) (by omega) dL_law_1540 (pc' := 1541) rfl ?_
  refine jt_h (I.mid M hF1) ?_
  refine j_callV C (As := [.int (xs (6 * c + 1))]) (rest := []) (m_inCopy X.2.1 C.2.2.2.2.2.2.2.2 G M s a (xs (6 * c + 1)) I.1.1.J I.1.1.I I.1.1.Z0) (cwV 1 C.2.2.2.2.1 gL_law_X4_inCopy rfl rfl rfl (by decide +kernel) (by rw [hXR]; decide)) hM_obj rfl rfl rfl (Nat.le_of_ble_eq_true rfl) dL_law_1541 (pc' := 1544) rfl (by rw [hXR]; show k + 1 + 0 ≤ 601024; omega) (by rw [hXR]; show n + 6 + 0 ≤ 7293034; omega) (fun _ _ z => z.elim) ?_
  rintro r h' ⟨rfl, rfl⟩
  show jW X G 7 (k + 1) (n + 6) 1544 [(5, .int (nI ((oInCopy s a (xs (6 * c + 1))).2.1 25))), (0, .ref b), (1, .ref xo), (2, .ref mo), (3, .ref oo), (4, .int (nI (6 * c)))] [.int ((oInCopy s a (xs (6 * c + 1))).1)] (hM G mo ad h1 (oInCopy s a (xs (6 * c + 1))).2.1 (oInCopy s a (xs (6 * c + 1))).2.2)
  refine j_istore C (i := 6) (x := (oInCopy s a (xs (6 * c + 1))).1) (l' := [(6, .int ((oInCopy s a (xs (6 * c + 1))).1)), (5, .int (nI ((oInCopy s a (xs (6 * c + 1))).2.1 25))), (0, .ref b), (1, .ref xo), (2, .ref mo), (3, .ref oo), (4, .int (nI (6 * c)))]) dL_law_1544 (pc' := 1546) rfl (by decide) rfl ?_
  refine j_aload_n C (i := 2) (x := mo) 4 rfl dL_law_1546 (pc' := 1547) rfl ?_
  refine j_callV C (As := []) (rest := []) (m_thrown X.2.1 C.2.2.2.2.2.2.2.2 G M (oInCopy s a (xs (6 * c + 1))).2.1 (oInCopy s a (xs (6 * c + 1))).2.2) (cwV 0 C.2.2.2.2.1 gL_law_X4_thrown rfl rfl rfl (by decide +kernel) (by rw [hXR]; decide)) hM_obj rfl rfl rfl (Nat.le_of_ble_eq_true rfl) dL_law_1547 (pc' := 1550) rfl (by rw [hXR]; show k + 1 + 0 ≤ 601024; omega) (by rw [hXR]; show n + 6 + 0 ≤ 7293034; omega) (fun _ _ z => z.elim) ?_
  rintro r h' ⟨rfl, rfl⟩
  show jW X G 7 (k + 1) (n + 6) 1550 [(6, .int ((oInCopy s a (xs (6 * c + 1))).1)), (5, .int (nI ((oInCopy s a (xs (6 * c + 1))).2.1 25))), (0, .ref b), (1, .ref xo), (2, .ref mo), (3, .ref oo), (4, .int (nI (6 * c)))] [.int (nI ((oInCopy s a (xs (6 * c + 1))).2.1 25))] (hM G mo ad h1 (oInCopy s a (xs (6 * c + 1))).2.1 (oInCopy s a (xs (6 * c + 1))).2.2)
  refine j_iload C (i := 5) (x := nI ((oInCopy s a (xs (6 * c + 1))).2.1 25)) 1 rfl dL_law_1550 (pc' := 1552) rfl ?_
  refine j_icmp_eq C dL_law_1552 (tgt := 1557) (by decide) (pc' := 1555) rfl (fun _ => ?_) (fun z => absurd rfl z)
  refine j_iload C (i := 5) (x := nI ((oInCopy s a (xs (6 * c + 1))).2.1 25)) 1 rfl dL_law_1557 (pc' := 1559) rfl ?_
  refine j_if_ne C dL_law_1559 (tgt := 1574) (by decide) (pc' := 1562) rfl (fun _ => ?_) (fun z0 => ?_)
  · skip
    refine j_goto C dL_law_1574 (pc' := 1590) (by decide) ?_
    exact jW.locals [2, 3, 4, 5, 6] rfl (jW.widen (by omega) (by omega) (kk _ _ _ (I.next M hF1 ⟨v1, hv1⟩ hE1 hw)))
  · have z1 : (oInCopy s a (xs (6 * c + 1))).2.1 25 = 0 := (nI_eq (a := (oInCopy s a (xs (6 * c + 1))).2.1 25) (b := 0) (Nat.lt_of_lt_of_le (hw.1.J.1 25) (by decide)) (by decide)).mp z0
    refine j_aload_n C (i := 3) (x := oo) 5 rfl dL_law_1562 (pc' := 1563) rfl ?_
    refine j_iconst C (v := nI 0) rfl dL_law_1563 (pc' := 1564) rfl ?_
    refine j_lald C (a := oo) (N := 1) (j := 0) (f := v1) ((hM_off I.off.1 I.off.2).trans hv1) rfl (by decide) (by decide) dL_law_1564 (pc' := 1565) rfl ?_
    refine j_iload C (i := 6) (x := (oInCopy s a (xs (6 * c + 1))).1) 0 rfl dL_law_1565 (pc' := 1567) rfl ?_
    refine j_i2l C (x := (oInCopy s a (xs (6 * c + 1))).1) rfl dL_law_1567 (pc' := 1568) rfl ?_
    refine j_lcmp C dL_law_1568 (pc' := 1569) rfl ?_
    refine jt_i (y := 0) (by rw [hz z1]; exact lg_self _) ?_
    refine j_if_eq C dL_law_1569 (tgt := 1574) (by decide) (pc' := 1572) rfl (fun _ => ?_) (fun z => absurd rfl z)
    refine j_goto C dL_law_1574 (pc' := 1590) (by decide) ?_
    exact jW.locals [2, 3, 4, 5, 6] rfl (jW.widen (by omega) (by omega) (kk _ _ _ (I.next M hF1 ⟨v1, hv1⟩ hE1 hw)))
set_option maxRecDepth 100000 in
set_option maxHeartbeats 4000000 in
theorem k_23 (C : jC X G cL_law 7 wsL_law RL) (hXR : X.2.2.2.1 = room_1) (M : mG mo ad) (hX : va_X b L xs X.2.2.2.2.1 X.2.2.2.2.1.heap) (hb : b < X.2.2.2.2.1.heap.size) (hA : b < G.1) (hL : L ≤ 3072) (hc : c < 512) (hj : 6 * c + 6 ≤ L) (I : LwI G mo oo ad xo xa c s a h) (hk : k + 43 ≤ 601024) (hn : n + 258 ≤ 7293034) (kk : ∀ s' a' h', LwI G mo oo ad xo xa (c + 1) s' a' h' → jW X G 7 (k + 43) (n + 258) 1590 [(0, .ref b), (1, .ref xo), (2, .ref mo), (3, .ref oo), (4, .int (nI (6 * c)))] [] h') : jW X G 7 k n 1577 [(0, .ref b), (1, .ref xo), (2, .ref mo), (3, .ref oo), (4, .int (nI (6 * c)))] [] h := by
  refine j_aload_n C (i := 1) (x := xo) 1 rfl dL_law_1577 (pc' := 1578) rfl ?_
  have hw := I.1.isTrue
  obtain ⟨v, hv⟩ := I.2.2.2.2
  obtain ⟨th, va, ca, ma, dat, cap, mod, df, vf, dr, mf, Q, hPo⟩ := I.2.1
  refine j_callV C (As := []) (rest := []) (c_isTrue X.2.1 C.2.2.2.2.2.2.2.2 G Q I.1.1.J I.1.1.I) (cwV 0 C.2.2.2.2.1 gL_law_X3_isTrue rfl rfl rfl (by decide +kernel) (by rw [hXR]; decide)) Q.obj rfl rfl rfl (Nat.le_of_ble_eq_true rfl) dL_law_1578 (pc' := 1581) rfl (by rw [hXR]; show k + 0 ≤ 601024; omega) (by rw [hXR]; show n + 0 ≤ 7293034; omega) (fun _ _ z => z.elim) ?_
  rintro r h1 ⟨rfl, hh⟩
  have hh := hh.symm
  subst hh
  have hF1 : ∀ w, LwP mo oo ad w → w ≠ oo → h w = h w := fun w _ _ => rfl
  have hv1 := hv
  have hE1 : cE G (LwP mo oo ad) xo xa (oIsTrue s a).2.1 (oIsTrue s a).2.2 h := I.2.1.same (fun f h25 _ => up_n h25) (fun f _ _ _ _ _ => rfl)
  show jW X G 7 (k + 0) (n + 0) 1581 [(0, .ref b), (1, .ref xo), (2, .ref mo), (3, .ref oo), (4, .int (nI (6 * c)))] [.int (bI (allN (fun t => decide (a 15 (a 8 t) < s 1)) (s 6)))] h
  refine j_aload_n C (i := 2) (x := mo) 2 rfl dL_law_1581 (pc' := 1582) rfl ?_
  refine jt_h (I.mid M hF1) ?_
  refine j_callV C (As := []) (rest := [.int (bI (allN (fun t => decide (a 15 (a 8 t) < s 1)) (s 6)))]) (m_isTrue X.2.1 C.2.2.2.2.2.2.2.2 G M s a I.1.1.J I.1.1.I I.1.1.Z0) (cwV 0 C.2.2.2.2.1 gL_law_X4_isTrue rfl rfl rfl (by decide +kernel) (by rw [hXR]; decide)) hM_obj rfl rfl rfl (Nat.le_of_ble_eq_true rfl) dL_law_1582 (pc' := 1585) rfl (by rw [hXR]; show k + 0 + 0 ≤ 601024; omega) (by rw [hXR]; show n + 0 + 0 ≤ 7293034; omega) (fun _ _ z => z.elim) ?_
  rintro r h' ⟨rfl, rfl⟩
  show jW X G 7 (k + 0) (n + 0) 1585 [(0, .ref b), (1, .ref xo), (2, .ref mo), (3, .ref oo), (4, .int (nI (6 * c)))] [.int (oIsTrue s a).1, .int (bI (allN (fun t => decide (a 15 (a 8 t) < s 1)) (s 6)))] (hM G mo ad h (oIsTrue s a).2.1 (oIsTrue s a).2.2)
  refine j_icmp_eq C dL_law_1585 (tgt := 1590) (by decide) (pc' := 1588) rfl (fun _ => ?_) (fun z => absurd (congrArg bI (allN_ext (fun t ht => true_all I.1.1.J I.1.1.A I.1.1.K I.1.1.N ht))) z)
  exact jW.widen (by omega) (by omega) (kk _ _ _ (I.next M hF1 ⟨_, hv1⟩ hE1 hw))
end CASES
