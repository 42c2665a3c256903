set_option maxRecDepth 100000 in
set_option maxHeartbeats 4000000 in
theorem c_size (l : Launch) (hlt : l.stackTraces = false) (G : jG) {q dat : Nat} {mod : Int32} {n : Nat} {h : jH} (hq : h q = some (.inr (0, [.int mod, .ref dat, .int (nI n)])))  : jM l G yJx4a65c_size_8abf5 wsJx4a65c_size_8abf5 0 0 0 0 [.ref q] h (fun r h' => r = some (.int (nI n)) ∧ h' = h) (fun _ _ => False) := by
  refine jM_of (cc := cJx4a65c_size_8abf5) (maxL := 1) (ret := (some .int)) hlt (by decide +kernel) rfl (Nat.le_of_ble_eq_true rfl) ?_
  intro X C E hXl hXR hXn
  have hinJx4a65c : ∀ w ∈ u_ws RJx4a65c TJx4a65c 3, w ∈ wsJx4a65c_size_8abf5 := by decide +kernel
  show jW X G 1 0 0 0 [(0, .ref q)] [] h
  refine j_aload_n C (i := 0) (x := q) 0 rfl dJx4a65c_size_8abf5_0 (pc' := 1) rfl ?_
  refine j_get C (ref := "java/util/ArrayList") (CN := RJx4a65c) (T := TJx4a65c) (N := 3) (ci := 0) (index := 48) (a := q) (kf := 2) (fs := [.int mod, .ref dat, .int (nI n)]) (v := .int (nI n)) hinJx4a65c rfl (by decide) (by decide +kernel) rfl hq rfl dJx4a65c_size_8abf5_1 (pc' := 4) rfl ?_
  exact j_iret C E dJx4a65c_size_8abf5_4 rfl (Nat.le_of_ble_eq_true rfl) (Nat.le_of_ble_eq_true rfl) ⟨rfl, rfl⟩
set_option maxRecDepth 100000 in
set_option maxHeartbeats 4000000 in
theorem c_chk3 (l : Launch) (hlt : l.stackTraces = false) (G : jG) {h : jH}  (i n : Nat) (hi : i < n) (hn : n < 1048576) : jM l G yJ3_checkIndex_8e157 wsJ3_checkIndex_8e157 0 0 0 0 [.int (nI i), .int (nI n), .null] h (fun r h' => r = some (.int (nI i)) ∧ h' = h) (fun _ _ => False) := by
  refine jM_of (cc := cJ3_checkIndex_8e157) (maxL := 3) (ret := (some .int)) hlt (by decide +kernel) rfl (Nat.le_of_ble_eq_true rfl) ?_
  intro X C E hXl hXR hXn
  show jW X G 3 0 0 0 [(0, .int (nI i)), (1, .int (nI n)), (2, .null)] [] h
  refine j_iload_n C (i := 0) (x := nI i) 0 rfl dJ3_checkIndex_8e157_0 (pc' := 1) rfl ?_
  refine j_if_lt C dJ3_checkIndex_8e157_1 (tgt := 9) (by decide) (pc' := 4) rfl (fun c_1 => absurd c_1 (nI_pos (by omega))) (fun _ => ?_)
  refine j_iload_n C (i := 0) (x := nI i) 0 rfl dJ3_checkIndex_8e157_4 (pc' := 5) rfl ?_
  refine j_iload_n C (i := 1) (x := nI n) 1 rfl dJ3_checkIndex_8e157_5 (pc' := 6) rfl ?_
  refine j_icmp_lt C dJ3_checkIndex_8e157_6 (tgt := 16) (by decide) (pc' := 9) rfl (fun _ => ?_) (fun c_2 => absurd (nI_lt hi (by omega)) c_2)
  refine j_iload_n C (i := 0) (x := nI i) 0 rfl dJ3_checkIndex_8e157_16 (pc' := 17) rfl ?_
  exact j_iret C E dJ3_checkIndex_8e157_17 rfl (Nat.le_of_ble_eq_true rfl) (Nat.le_of_ble_eq_true rfl) ⟨rfl, rfl⟩
set_option maxRecDepth 100000 in
set_option maxHeartbeats 4000000 in
theorem c_chk (l : Launch) (hlt : l.stackTraces = false) (G : jG) {h : jH}  (i n : Nat) (hi : i < n) (hn : n < 1048576) : jM l G yJ15_checkIndex_7cf53 wsJ15_checkIndex_7cf53 1 22 0 0 [.int (nI i), .int (nI n)] h (fun r h' => r = some (.int (nI i)) ∧ h' = h) (fun _ _ => False) := by
  refine jM_of (cc := cJ15_checkIndex_7cf53) (maxL := 2) (ret := (some .int)) hlt (by decide +kernel) rfl (Nat.le_of_ble_eq_true rfl) ?_
  intro X C E hXl hXR hXn
  show jW X G 2 0 0 0 [(0, .int (nI i)), (1, .int (nI n))] [] h
  refine j_iload_n C (i := 0) (x := nI i) 0 rfl dJ15_checkIndex_7cf53_0 (pc' := 1) rfl ?_
  refine j_iload_n C (i := 1) (x := nI n) 1 rfl dJ15_checkIndex_7cf53_1 (pc' := 2) rfl ?_
  refine j_null C  dJ15_checkIndex_7cf53_2 (pc' := 3) rfl ?_
  refine j_callS C (As := [.int (nI i), .int (nI n), .null]) (rest := []) (c_chk3 X.2.1 C.2.2.2.2.2.2.2.2 G i n (by omega) (by omega)) (va_cwS 3 C.2.2.2.2.1 gJ15_checkIndex_7cf53_J3_checkIndex_8e157 rfl rfl rfl (by decide +kernel) (by rw [hXR]; decide)) rfl rfl (Nat.le_of_ble_eq_true rfl) dJ15_checkIndex_7cf53_3 (pc' := 6) rfl (by rw [hXR]; exact Nat.le_of_ble_eq_true rfl) (by rw [hXR]; exact Nat.le_of_ble_eq_true rfl) (fun _ _ z => z.elim) ?_
  rintro r h' ⟨rfl, hh⟩
  have hh := hh.symm
  subst hh
  show jW X G 2 0 0 6 [(0, .int (nI i)), (1, .int (nI n))] [.int (nI i)] h
  exact j_iret C E dJ15_checkIndex_7cf53_6 rfl (Nat.le_of_ble_eq_true rfl) (Nat.le_of_ble_eq_true rfl) ⟨rfl, rfl⟩
set_option maxRecDepth 100000 in
set_option maxHeartbeats 4000000 in
theorem c_elem (l : Launch) (hlt : l.stackTraces = false) (G : jG) {q dat cap : Nat} {mod : Int32} {df : Nat → Option Nat} {n : Nat} {h : jH} (hq : h q = some (.inr (0, [.int mod, .ref dat, .int (nI n)]))) (hd : h dat = some (.inl (G.2.2.1.2.2.1, cap, .inr (.inr (.inr (.inr df)))))) (i y : Nat) (hi : i < cap) (hc : cap < 1048576) (hy : df i = some y) : jM l G yJx4a65c_elementData_915e3 wsJx4a65c_elementData_915e3 0 0 0 0 [.ref q, .int (nI i)] h (fun r h' => r = some (.ref y) ∧ h' = h) (fun _ _ => False) := by
  refine jM_of (cc := cJx4a65c_elementData_915e3) (maxL := 2) (ret := (some (.object "java/lang/Object"))) hlt (by decide +kernel) rfl (Nat.le_of_ble_eq_true rfl) ?_
  intro X C E hXl hXR hXn
  have hinJx4a65c : ∀ w ∈ u_ws RJx4a65c TJx4a65c 3, w ∈ wsJx4a65c_elementData_915e3 := by decide +kernel
  show jW X G 2 0 0 0 [(0, .ref q), (1, .int (nI i))] [] h
  refine j_aload_n C (i := 0) (x := q) 0 rfl dJx4a65c_elementData_915e3_0 (pc' := 1) rfl ?_
  refine j_get C (ref := "java/util/ArrayList") (CN := RJx4a65c) (T := TJx4a65c) (N := 3) (ci := 0) (index := 9) (a := q) (kf := 1) (fs := [.int mod, .ref dat, .int (nI n)]) (v := .ref dat) hinJx4a65c rfl (by decide) (by decide +kernel) rfl hq rfl dJx4a65c_elementData_915e3_1 (pc' := 4) rfl ?_
  refine j_iload_n C (i := 1) (x := nI i) 1 rfl dJx4a65c_elementData_915e3_4 (pc' := 5) rfl ?_
  refine j_aald C (a := dat) (N := cap) (j := i) hd rfl (by omega) (by omega) dJx4a65c_elementData_915e3_5 (pc' := 6) rfl ?_
  refine jt_s (st' := [.ref y]) (by rw [hy]; rfl) ?_
  exact j_aret C E (Or.inl ⟨_, rfl⟩) (Or.inr ⟨_, rfl⟩) dJx4a65c_elementData_915e3_6 (Nat.le_of_ble_eq_true rfl) (Nat.le_of_ble_eq_true rfl) ⟨rfl, rfl⟩
set_option maxRecDepth 100000 in
set_option maxHeartbeats 4000000 in
theorem c_get (l : Launch) (hlt : l.stackTraces = false) (G : jG) {q dat cap : Nat} {mod : Int32} {df : Nat → Option Nat} {n : Nat} {h : jH} (hq : h q = some (.inr (0, [.int mod, .ref dat, .int (nI n)]))) (hd : h dat = some (.inl (G.2.2.1.2.2.1, cap, .inr (.inr (.inr (.inr df)))))) (i y : Nat) (hi : i < n) (hnc : n ≤ cap) (hc : cap < 1048576) (hy : df i = some y) : jM l G yJx4a65c_get_915e3 wsJx4a65c_get_915e3 2 43 0 0 [.ref q, .int (nI i)] h (fun r h' => r = some (.ref y) ∧ h' = h) (fun _ _ => False) := by
  refine jM_of (cc := cJx4a65c_get_915e3) (maxL := 2) (ret := (some (.object "java/lang/Object"))) hlt (by decide +kernel) rfl (Nat.le_of_ble_eq_true rfl) ?_
  intro X C E hXl hXR hXn
  have hinJx4a65c : ∀ w ∈ u_ws RJx4a65c TJx4a65c 3, w ∈ wsJx4a65c_get_915e3 := by decide +kernel
  show jW X G 2 0 0 0 [(0, .ref q), (1, .int (nI i))] [] h
  refine j_iload_n C (i := 1) (x := nI i) 1 rfl dJx4a65c_get_915e3_0 (pc' := 1) rfl ?_
  refine j_aload_n C (i := 0) (x := q) 0 rfl dJx4a65c_get_915e3_1 (pc' := 2) rfl ?_
  refine j_get C (ref := "java/util/ArrayList") (CN := RJx4a65c) (T := TJx4a65c) (N := 3) (ci := 0) (index := 48) (a := q) (kf := 2) (fs := [.int mod, .ref dat, .int (nI n)]) (v := .int (nI n)) hinJx4a65c rfl (by decide) (by decide +kernel) rfl hq rfl dJx4a65c_get_915e3_2 (pc' := 5) rfl ?_
  refine j_callS C (As := [.int (nI i), .int (nI n)]) (rest := []) (c_chk X.2.1 C.2.2.2.2.2.2.2.2 G i n (by omega) (by omega)) (va_cwS 2 C.2.2.2.2.1 gJx4a65c_get_915e3_J15_checkIndex_7cf53 rfl rfl rfl (by decide +kernel) (by rw [hXR]; decide)) rfl rfl (Nat.le_of_ble_eq_true rfl) dJx4a65c_get_915e3_5 (pc' := 8) rfl (by rw [hXR]; exact Nat.le_of_ble_eq_true rfl) (by rw [hXR]; exact Nat.le_of_ble_eq_true rfl) (fun _ _ z => z.elim) ?_
  rintro r h' ⟨rfl, hh⟩
  have hh := hh.symm
  subst hh
  show jW X G 2 0 0 8 [(0, .ref q), (1, .int (nI i))] [.int (nI i)] h
  refine j_pop C rfl dJx4a65c_get_915e3_8 (pc' := 9) rfl ?_
  refine j_aload_n C (i := 0) (x := q) 0 rfl dJx4a65c_get_915e3_9 (pc' := 10) rfl ?_
  refine j_iload_n C (i := 1) (x := nI i) 1 rfl dJx4a65c_get_915e3_10 (pc' := 11) rfl ?_
  refine j_callV C (As := [.int (nI i)]) (rest := []) (c_elem X.2.1 C.2.2.2.2.2.2.2.2 G hq hd i y (by omega) (by omega) hy) (cwV 1 C.2.2.2.2.1 gJx4a65c_get_915e3_Jx4a65c_elementData_915e3 rfl rfl rfl (by decide +kernel) (by rw [hXR]; decide)) hq rfl rfl rfl (Nat.le_of_ble_eq_true rfl) dJx4a65c_get_915e3_11 (pc' := 14) rfl (by rw [hXR]; exact Nat.le_of_ble_eq_true rfl) (by rw [hXR]; exact Nat.le_of_ble_eq_true rfl) (fun _ _ z => z.elim) ?_
  rintro r h' ⟨rfl, hh⟩
  have hh := hh.symm
  subst hh
  show jW X G 2 0 0 14 [(0, .ref q), (1, .int (nI i))] [.ref y] h
  exact j_aret C E (Or.inl ⟨_, rfl⟩) (Or.inr ⟨_, rfl⟩) dJx4a65c_get_915e3_14 (Nat.le_of_ble_eq_true rfl) (Nat.le_of_ble_eq_true rfl) ⟨rfl, rfl⟩
