/-! The reference's object as numbers: s its int fields by slot, a its arrays by slot. -/
def bI (b : Bool) : Int32 := nI b.toNat
theorem up_s {α : Type} {f : Nat → α} {k : Nat} {v : α} : va_up f k v k = v := if_pos rfl
theorem up_n {α : Type} {f : Nat → α} {k j : Nat} {v : α} (h : j ≠ k) : va_up f k v j = f j := if_neg h
def mIsA (k : Nat) : Bool := k == 3 || k == 5 || (decide (7 ≤ k) && decide (k ≤ 9)) || (decide (11 ≤ k) && decide (k ≤ 22)) || k == 24
theorem tx4_own : ∀ i, i < 26 → (TX4 i).1 = RX4 := by decide +kernel
theorem tx4_fin : ∀ i, i < 26 → mIsA i = false → (TX4 i).2.2.2 = false := by decide +kernel
theorem tx4_int : ∀ i, i < 26 → mIsA i = false → parseFieldDescriptor (TX4 i).2.2.1 = some .int := by decide +kernel
def mLen (k : Nat) : Nat := if k = 3 then 20 else if k = 5 ∨ k = 24 then 6 else if k = 20 then 8400 else if 11 ≤ k ∧ k ≤ 19 then 1400 else 40
theorem mLen_lt : ∀ i, i < 26 → mLen i < 2 ^ 31 := by decide +kernel
theorem bI_nar (b : Bool) : narrow .boolean (.int (bI b)) = .int (bI b) := by cases b <;> rfl
theorem bI_vp (b : Bool) : vp_nar .boolean (bI b) = bI b := by cases b <;> rfl
def mZ (k : Nat) : Bool := k == 3 || k == 16 || k == 17 || k == 21 || k == 22
def mV (k v : Nat) : Int32 := if k = 13 then nI v - 1 else nI v
abbrev mS : Type := Nat → Nat
abbrev mA : Type := Nat → Nat → Nat
def mF (ad : Nat → Nat) (s : mS) : List Value := (List.range 26).map (fun k => if mIsA k = true then Value.ref (ad k) else .int (nI (s k)))
def mC (G : jG) (a : mA) (k : Nat) : va_E := .inl ((if mZ k = true then G.2.2.1.2.1 else G.2.2.1.1), mLen k, .inl (fun j => mV k (a k j)))
def hM (G : jG) (mo : Nat) (ad : Nat → Nat) (h0 : jH) (s : mS) (a : mA) : jH := fun q => if q = mo then some (.inr (5, mF ad s)) else
  match (List.range 26).find? (fun k => mIsA k && (ad k == q)) with
  | some k => some (mC G a k)
  | none => h0 q
/-- the model's addresses are apart -/
def mG (mo : Nat) (ad : Nat → Nat) : Prop := (∀ i j : Nat, i < 26 → j < 26 → mIsA i = true → mIsA j = true → ad i = ad j → i = j) ∧ ∀ i : Nat, i < 26 → mIsA i = true → ad i ≠ mo
def va_up2 (a : mA) (k i v : Nat) : mA := va_up a k (va_up (a k) i v)
section MODEL
variable {G : jG} {mo : Nat} {ad : Nat → Nat} {h0 : jH} {s : mS} {a : mA}
theorem hM_obj : hM G mo ad h0 s a mo = some (.inr (5, mF ad s)) := by simp [hM]
theorem hM_find (M : mG mo ad) {k : Nat} (hk : k < 26) (hA : mIsA k = true) : (List.range 26).find? (fun i => mIsA i && (ad i == ad k)) = some k := by
  cases hf : (List.range 26).find? (fun i => mIsA i && (ad i == ad k)) with
  | none =>
    have := List.find?_eq_none.mp hf k (List.mem_range.mpr hk)
    simp [hA] at this
  | some i =>
    have h1 := List.find?_some hf
    have h2 := List.mem_range.mp (List.mem_of_find?_eq_some hf)
    simp only [Bool.and_eq_true, beq_iff_eq] at h1
    rw [M.1 i k h2 hk h1.1 hA h1.2]
theorem hM_arr (M : mG mo ad) {k : Nat} (hk : k < 26) (hA : mIsA k = true) : hM G mo ad h0 s a (ad k) = some (mC G a k) := by
  unfold hM
  rw [if_neg (M.2 k hk hA), hM_find M hk hA]
theorem hM_arrI (M : mG mo ad) {k : Nat} (hk : k < 26) (hA : mIsA k = true) (hZ : mZ k = false) : hM G mo ad h0 s a (ad k) = some (.inl (G.2.2.1.1, mLen k, .inl (fun j => mV k (a k j)))) := by
  rw [hM_arr M hk hA]; unfold mC; rw [hZ]; rfl
theorem hM_arrZ (M : mG mo ad) {k : Nat} (hk : k < 26) (hA : mIsA k = true) (hZ : mZ k = true) : hM G mo ad h0 s a (ad k) = some (.inl (G.2.2.1.2.1, mLen k, .inl (fun j => mV k (a k j)))) := by
  rw [hM_arr M hk hA]; unfold mC; rw [hZ]; rfl
theorem mF_len : (mF ad s).length = 26 := by simp [mF]
theorem mF_get {k : Nat} (hk : k < 26) : (mF ad s)[k]? = some (if mIsA k = true then Value.ref (ad k) else .int (nI (s k))) := by
  unfold mF
  rw [List.getElem?_map, List.getElem?_range hk]
  rfl
theorem mF_int {k : Nat} (hk : k < 26) (hA : mIsA k = false) : (mF ad s)[k]? = some (.int (nI (s k))) := by
  rw [mF_get hk, hA]; rfl
theorem mF_ref {k : Nat} (hk : k < 26) (hA : mIsA k = true) : (mF ad s)[k]? = some (.ref (ad k)) := by
  rw [mF_get hk, hA]; rfl
theorem mF_set {k v : Nat} (hk : k < 26) (hA : mIsA k = false) : (mF ad s).set k (.int (nI v)) = mF ad (va_up s k v) := by
  apply List.ext_getElem?
  intro i
  by_cases hi : i < 26
  · by_cases hik : k = i
    · subst hik
      rw [List.getElem?_set_self (by rw [mF_len]; exact hk), mF_int hk hA, up_s]
    · rw [List.getElem?_set_ne hik, mF_get hi, mF_get hi, up_n (fun e => hik e.symm)]
  · rw [List.getElem?_eq_none (by rw [List.length_set, mF_len]; omega), List.getElem?_eq_none (by rw [mF_len]; omega)]
theorem hM_putI {k v : Nat} (hk : k < 26) (hA : mIsA k = false) : jup (hM G mo ad h0 s a) mo (.inr (5, (mF ad s).set k (.int (nI v)))) = hM G mo ad h0 (va_up s k v) a := by
  funext q
  rw [mF_set hk hA]
  by_cases hq : q = mo
  · subst hq; rw [jup_self, hM_obj]
  · rw [jup_ne hq]; unfold hM; rw [if_neg hq, if_neg hq]
theorem hM_putA (M : mG mo ad) {k i v : Nat} {x : Int32} {cA : ClassId} (hk : k < 26) (hA : mIsA k = true) (hx : x = mV k v) (hc : cA = (if mZ k = true then G.2.2.1.2.1 else G.2.2.1.1)) : jup (hM G mo ad h0 s a) (ad k) (.inl (cA, mLen k, .inl (upd (fun j => mV k (a k j)) i x))) = hM G mo ad h0 s (va_up2 a k i v) := by
  have hu : (upd (fun j => mV k (a k j)) i x) = (fun j => mV k (va_up2 a k i v k j)) := by
    funext j
    unfold va_up2
    rw [up_s]
    by_cases hj : j = i
    · subst hj; rw [pk_us, up_s, hx]
    · rw [pk_un hj, up_n hj]
  funext q
  by_cases hq : q = ad k
  · subst hq
    rw [jup_self, hM_arr M hk hA]
    unfold mC
    rw [hu, hc]
  · rw [jup_ne hq]
    unfold hM
    by_cases hm : q = mo
    · rw [if_pos hm, if_pos hm]
    · rw [if_neg hm, if_neg hm]
      cases hf : (List.range 26).find? (fun i => mIsA i && (ad i == q)) with
      | none => rfl
      | some i2 =>
        have h1 := List.find?_some hf
        simp only [Bool.and_eq_true, beq_iff_eq] at h1
        have hne : i2 ≠ k := fun e => hq (by rw [← h1.2, e])
        show some (mC G a i2) = some (mC G (va_up2 a k i v) i2)
        unfold mC va_up2
        rw [up_n hne]
variable {X : jX} {cc : ByteArray} {nL : Nat} {Ts : List Cond} {pc pc' k n : Nat} {l : List (Nat × Value)} {st : List Value}
theorem m_get (C : jC X G cc nL Ts RX4) {f idx : Nat} (hin : ∀ w ∈ u_ws RX4 TX4 26, w ∈ Ts) (hk : f < 26) (hA : mIsA f = false) (hlink : Cond.fieldLink RX4 idx RX4 (TX4 f).2.1 (TX4 f).2.2.1 ∈ Ts) (hd : decode cc pc = .ok (.getfield idx, 3)) (hp : pc + 3 = pc') (kk : jW X G nL k n pc' l (.int (nI (s f)) :: st) (hM G mo ad h0 s a)) : jW X G nL k n pc l (.ref mo :: st) (hM G mo ad h0 s a) :=
  j_get C (CN := RX4) (N := 26) hin rfl hk hlink (tx4_own f hk) hM_obj (mF_int hk hA) hd hp kk
theorem m_geta (C : jC X G cc nL Ts RX4) {f idx : Nat} (hin : ∀ w ∈ u_ws RX4 TX4 26, w ∈ Ts) (hk : f < 26) (hA : mIsA f = true) (hlink : Cond.fieldLink RX4 idx RX4 (TX4 f).2.1 (TX4 f).2.2.1 ∈ Ts) (hd : decode cc pc = .ok (.getfield idx, 3)) (hp : pc + 3 = pc') (kk : jW X G nL k n pc' l (.ref (ad f) :: st) (hM G mo ad h0 s a)) : jW X G nL k n pc l (.ref mo :: st) (hM G mo ad h0 s a) :=
  j_get C (CN := RX4) (N := 26) hin rfl hk hlink (tx4_own f hk) hM_obj (mF_ref hk hA) hd hp kk
theorem m_put (C : jC X G cc nL Ts RX4) {f idx v : Nat} (hin : ∀ w ∈ u_ws RX4 TX4 26, w ∈ Ts) (hk : f < 26) (hA : mIsA f = false) (hlink : Cond.fieldLink RX4 idx RX4 (TX4 f).2.1 (TX4 f).2.2.1 ∈ Ts) (hd : decode cc pc = .ok (.putfield idx, 3)) (hp : pc + 3 = pc') (kk : jW X G nL k n pc' l st (hM G mo ad h0 (va_up s f v) a)) : jW X G nL k n pc l (.int (nI v) :: .ref mo :: st) (hM G mo ad h0 s a) :=
  j_put C (CN := RX4) (N := 26) (ty := .int) hin tyX4_ok nmX4 rfl hk hlink (tx4_own f hk) (tx4_fin f hk hA) (tx4_int f hk hA) rfl rfl hM_obj (by rw [mF_len]; exact hk) hd hp (jt_h (hM_putI hk hA) kk)
theorem m_ald (C : jC X G cc nL Ts RX4) (M : mG mo ad) {f j : Nat} {i : Int32} (hk : f < 26) (hA : mIsA f = true) (hZ : mZ f = false) (hi : i = nI j) (hj : j < mLen f) (hd : decode cc pc = .ok (.iaload, 1)) (hp : pc + 1 = pc') (kk : jW X G nL k n pc' l (.int (mV f (a f j)) :: st) (hM G mo ad h0 s a)) : jW X G nL k n pc l (.int i :: .ref (ad f) :: st) (hM G mo ad h0 s a) :=
  j_iald C (hM_arrI M hk hA hZ) hi hj (mLen_lt f hk) hd hp kk
theorem m_zld (C : jC X G cc nL Ts RX4) (M : mG mo ad) {f j : Nat} {i : Int32} (hk : f < 26) (hA : mIsA f = true) (hZ : mZ f = true) (hi : i = nI j) (hj : j < mLen f) (hd : decode cc pc = .ok (.baload, 1)) (hp : pc + 1 = pc') (kk : jW X G nL k n pc' l (.int (mV f (a f j)) :: st) (hM G mo ad h0 s a)) : jW X G nL k n pc l (.int i :: .ref (ad f) :: st) (hM G mo ad h0 s a) :=
  j_zald C (hM_arrZ M hk hA hZ) hi hj (mLen_lt f hk) hd hp kk
theorem m_ast (C : jC X G cc nL Ts RX4) (M : mG mo ad) {f j v : Nat} {i x : Int32} (hk : f < 26) (hA : mIsA f = true) (hZ : mZ f = false) (hi : i = nI j) (hj : j < mLen f) (hx : x = mV f v) (hd : decode cc pc = .ok (.iastore, 1)) (hp : pc + 1 = pc') (kk : jW X G nL k n pc' l st (hM G mo ad h0 s (va_up2 a f j v))) : jW X G nL k n pc l (.int x :: .int i :: .ref (ad f) :: st) (hM G mo ad h0 s a) :=
  j_iast C (hM_arrI M hk hA hZ) hi hj (mLen_lt f hk) hd hp (jt_h (hM_putA M hk hA hx (by rw [hZ]; rfl)) kk)
theorem m_zst (C : jC X G cc nL Ts RX4) (M : mG mo ad) {f j v : Nat} {i x : Int32} (hk : f < 26) (hA : mIsA f = true) (hZ : mZ f = true) (hi : i = nI j) (hj : j < mLen f) (hx : vp_nar .boolean x = mV f v) (hd : decode cc pc = .ok (.bastore, 1)) (hp : pc + 1 = pc') (kk : jW X G nL k n pc' l st (hM G mo ad h0 s (va_up2 a f j v))) : jW X G nL k n pc l (.int x :: .int i :: .ref (ad f) :: st) (hM G mo ad h0 s a) :=
  j_zast C (y := mV f v) hx (hM_arrZ M hk hA hZ) hi hj (mLen_lt f hk) hd hp (jt_h (hM_putA M hk hA rfl (by rw [hZ]; rfl)) kk)
end MODEL
/-- a number in 0 .. n - 1 -/
def inN (x : Int32) (n : Nat) : Bool := decide (0 ≤ x.toInt ∧ x.toInt < n)
theorem inN_of {x : Int32} {n : Nat} (h : inN x n = true) : ∃ j : Nat, j < n ∧ x = nI j := by
  have h := of_decide_eq_true h
  refine ⟨x.toInt.toNat, by omega, ?_⟩
  apply Int32.toInt_inj.mp
  have hb := Int32.toInt_lt x
  rw [nI_toInt (by omega)]
  omega
theorem inN_nI {j n : Nat} (hj : j < 2 ^ 31) : inN (nI j) n = decide (j < n) := by
  unfold inN
  rw [nI_toInt hj]
  by_cases h : j < n
  · rw [decide_eq_true h, decide_eq_true ⟨by omega, by omega⟩]
  · rw [decide_eq_false h, decide_eq_false (fun z => h (by omega))]
theorem in_le {x : Int32} {n : Nat} (hn : n < 2 ^ 30) : (decide ((0 : Int32) ≤ x) && decide (x ≤ nI n - 1)) = inN x n := by
  have h1 : (nI n - 1).toInt = (n : Int) - 1 := by
    have := pk_sub_toInt (a := n) (b := 1) hn (by decide)
    exact this
  unfold inN
  rw [← Bool.decide_and]
  congr 1
  rw [Int32.le_iff_toInt_le, Int32.le_iff_toInt_le, h1]
  show ((0 : Int32).toInt ≤ x.toInt ∧ _) = _
  rw [show (0 : Int32).toInt = 0 from rfl]
  apply propext
  constructor <;> rintro ⟨a, b⟩ <;> exact ⟨a, by omega⟩
