/-! Long.bitCount over numbers, byte by byte. -/
def bshr (x : Int64) (k : Nat) : Int64 := (x.toUInt64 >>> ((nI k).toInt64.toUInt64 &&& Int64.toUInt64 63)).toInt64
theorem bshr_N {n k : Nat} (hn : n < 2 ^ 64) (hk : k < 64) : bshr (lN n) k = lN (n / 2 ^ k) := wb_shr hn hk
def bc1 (x : Int64) : Int64 := x - (bshr x 1 &&& 6148914691236517205)
def bc2 (x : Int64) : Int64 := (x &&& 3689348814741910323) + (bshr x 2 &&& 3689348814741910323)
def bc3 (x : Int64) : Int64 := (x + bshr x 4) &&& 1085102592571150095
def bcS (k : Nat) (x : Int64) : Int64 := x + bshr x k
def bMk (c : Nat) : Nat → Nat
  | 0 => 0
  | k + 1 => 256 * bMk c k + c
def bS1 (k n : Nat) : Nat := n - (n / 2 &&& bMk 0x55 k)
def bS2 (k n : Nat) : Nat := (n &&& bMk 0x33 k) + (n / 4 &&& bMk 0x33 k)
def bS3 (k n : Nat) : Nat := n + n / 16 &&& bMk 0x0f k
def bF1 (b : Nat) : Nat := b - (b / 2 &&& 0x55)
def bF2 (b : Nat) : Nat := (b &&& 0x33) + (b / 4 &&& 0x33)
def bF3 (b : Nat) : Nat := b + b / 16 &&& 0x0f
theorem band_256 (a c : Nat) {b d : Nat} (hb : b < 256) (hd : d < 256) : (256 * a + b) &&& (256 * c + d) = 256 * (a &&& c) + (b &&& d) := by
  have e := Nat.div_add_mod ((256 * a + b) &&& (256 * c + d)) 256
  have h1 : ((256 * a + b) &&& (256 * c + d)) / 2 ^ 8 = (256 * a + b) / 2 ^ 8 &&& (256 * c + d) / 2 ^ 8 := Nat.and_div_two_pow
  have h2 : ((256 * a + b) &&& (256 * c + d)) % 2 ^ 8 = (256 * a + b) % 2 ^ 8 &&& (256 * c + d) % 2 ^ 8 := Nat.and_mod_two_pow
  rw [show (256 * a + b) / 2 ^ 8 = a by omega, show (256 * c + d) / 2 ^ 8 = c by omega] at h1
  rw [show (256 * a + b) % 2 ^ 8 = b by omega, show (256 * c + d) % 2 ^ 8 = d by omega] at h2
  rw [show (2 : Nat) ^ 8 = 256 from rfl] at h1 h2
  rw [h1, h2] at e
  exact e.symm
theorem bD1 : ∀ e, e < 2 → ∀ c, c < 128 → (128 * e + c) &&& 0x55 = c &&& 0x55 := by decide +kernel
theorem bD2 : ∀ e, e < 4 → ∀ c, c < 64 → (64 * e + c) &&& 0x33 = c &&& 0x33 := by decide +kernel
theorem bD3 : ∀ e, e < 5 → ∀ b, b < 69 → (b + b / 16 + 16 * e) &&& 0x0f = b + b / 16 &&& 0x0f := by decide +kernel
theorem bD4 : ∀ b, b < 256 → bF1 b < 256 ∧ bF2 (bF1 b) < 69 ∧ bF2 (bF1 b) % 16 < 5 ∧ bF3 (bF2 (bF1 b)) < 9 := by decide +kernel
theorem bD5 : ∀ b, b < 256 → bF3 (bF2 (bF1 b)) = cnt (fun i => b.testBit i) 8 := by decide +kernel
theorem bD6 : ∀ b, b < 256 → (b / 2 &&& 0x55) ≤ b := by decide +kernel
theorem bS1_s (k a : Nat) {b : Nat} (hb : b < 256) : bS1 (k + 1) (256 * a + b) = 256 * bS1 k a + bF1 b := by
  unfold bS1 bF1
  show 256 * a + b - ((256 * a + b) / 2 &&& (256 * bMk 0x55 k + 0x55)) = _
  rw [show (256 * a + b) / 2 = 256 * (a / 2) + (128 * (a % 2) + b / 2) by omega, band_256 _ _ (by omega) (by decide), bD1 _ (by omega) _ (by omega)]
  have h1 := bD6 b hb
  have h2 : (a / 2 &&& bMk 0x55 k) ≤ a / 2 := Nat.and_le_left
  omega
theorem bS2_s (k a : Nat) {b : Nat} (hb : b < 256) : bS2 (k + 1) (256 * a + b) = 256 * bS2 k a + bF2 b := by
  unfold bS2 bF2
  show ((256 * a + b) &&& (256 * bMk 0x33 k + 0x33)) + ((256 * a + b) / 4 &&& (256 * bMk 0x33 k + 0x33)) = _
  rw [show (256 * a + b) / 4 = 256 * (a / 4) + (64 * (a % 4) + b / 4) by omega, band_256 _ _ (by omega) (by decide), band_256 _ _ (by omega) (by decide), bD2 _ (by omega) _ (by omega)]
  omega
theorem bS3_s (k a : Nat) {b : Nat} (hb : b < 69) (ha : a % 16 < 5) : bS3 (k + 1) (256 * a + b) = 256 * bS3 k a + bF3 b := by
  unfold bS3 bF3
  show (256 * a + b) + (256 * a + b) / 16 &&& (256 * bMk 0x0f k + 0x0f) = _
  rw [show (256 * a + b) + (256 * a + b) / 16 = 256 * (a + a / 16) + (b + b / 16 + 16 * (a % 16)) by omega, band_256 _ _ (by omega) (by decide), bD3 _ ha _ hb]
def bY5 (a b c d e : Nat) : Nat := 256 * (256 * (256 * (256 * (256 * 0 + e) + d) + c) + b) + a
theorem bS1_5 {a b c d e : Nat} (ha : a < 256) (hb : b < 256) (hc : c < 256) (hd : d < 256) (he : e < 256) : bS1 8 (bY5 a b c d e) = bY5 (bF1 a) (bF1 b) (bF1 c) (bF1 d) (bF1 e) := by
  unfold bY5
  rw [bS1_s 7 _ ha, bS1_s 6 _ hb, bS1_s 5 _ hc, bS1_s 4 _ hd, bS1_s 3 _ he]
  rfl
theorem bS2_5 {a b c d e : Nat} (ha : a < 256) (hb : b < 256) (hc : c < 256) (hd : d < 256) (he : e < 256) : bS2 8 (bY5 a b c d e) = bY5 (bF2 a) (bF2 b) (bF2 c) (bF2 d) (bF2 e) := by
  unfold bY5
  rw [bS2_s 7 _ ha, bS2_s 6 _ hb, bS2_s 5 _ hc, bS2_s 4 _ hd, bS2_s 3 _ he]
  rfl
theorem bS3_5 {a b c d e : Nat} (ha : a < 69) (hb : b < 69) (hc : c < 69) (hd : d < 69) (he : e < 69) (hb' : b % 16 < 5) (hc' : c % 16 < 5) (hd' : d % 16 < 5) (he' : e % 16 < 5) : bS3 8 (bY5 a b c d e) = bY5 (bF3 a) (bF3 b) (bF3 c) (bF3 d) (bF3 e) := by
  unfold bY5
  rw [bS3_s 7 _ ha (by omega), bS3_s 6 _ hb (by omega), bS3_s 5 _ hc (by omega), bS3_s 4 _ hd (by omega), bS3_s 3 _ he (by omega)]
  rfl
theorem bcnt_8 (P : Nat → Bool) : ∀ m, cnt P (8 + m) = cnt P 8 + cnt (fun i => P (8 + i)) m
  | 0 => rfl
  | m + 1 => by
    show cnt P (8 + m) + (P (8 + m)).toNat = cnt P 8 + (cnt (fun i => P (8 + i)) m + (P (8 + m)).toNat)
    rw [bcnt_8 P m, Nat.add_assoc]
theorem bpop_8 (a : Nat) {b : Nat} (hb : b < 256) (m : Nat) : cnt (fun i => (256 * a + b).testBit i) (8 + m) = cnt (fun i => b.testBit i) 8 + cnt (fun i => a.testBit i) m := by
  have key : ∀ i, (256 * a + b).testBit i = if i < 8 then b.testBit i else a.testBit (i - 8) := fun i => Nat.testBit_two_pow_mul_add a (i := 8) hb i
  rw [bcnt_8]
  congr 1
  · exact cnt_congr (fun k hk => by rw [key, if_pos hk])
  · exact cnt_congr (fun k hk => by rw [key, if_neg (by omega), show 8 + k - 8 = k by omega])
theorem bpop_5 {a b c d e : Nat} (ha : a < 256) (hb : b < 256) (hc : c < 256) (hd : d < 256) (he : e < 256) : pop (bY5 a b c d e) = bF3 (bF2 (bF1 a)) + bF3 (bF2 (bF1 b)) + bF3 (bF2 (bF1 c)) + bF3 (bF2 (bF1 d)) + bF3 (bF2 (bF1 e)) := by
  unfold pop bY5
  rw [show 40 = 8 + (8 + (8 + (8 + (8 + 0)))) from rfl, bpop_8 _ ha, bpop_8 _ hb, bpop_8 _ hc, bpop_8 _ hd, bpop_8 _ he, bD5 a ha, bD5 b hb, bD5 c hc, bD5 d hd, bD5 e he]
  show _ + (_ + (_ + (_ + (_ + 0)))) = _
  omega
theorem bY5_of {n : Nat} (h : n < 2 ^ 40) : ∃ a b c d e : Nat, a < 256 ∧ b < 256 ∧ c < 256 ∧ d < 256 ∧ e < 256 ∧ n = bY5 a b c d e := by
  refine ⟨n % 256, n / 256 % 256, n / 65536 % 256, n / 16777216 % 256, n / 4294967296, by omega, by omega, by omega, by omega, by omega, ?_⟩
  unfold bY5
  omega
def bSS (k n : Nat) : Nat := n + n / 2 ^ k
theorem bc_nat {n : Nat} (h : n < 2 ^ 40) : bSS 32 (bSS 16 (bSS 8 (bS3 8 (bS2 8 (bS1 8 n))))) % 128 = pop n ∧ bS1 8 n < 2 ^ 40 ∧ bS2 8 (bS1 8 n) < 2 ^ 40 ∧ bS3 8 (bS2 8 (bS1 8 n)) < 2 ^ 40 := by
  obtain ⟨a, b, c, d, e, ha, hb, hc, hd, he, rfl⟩ := bY5_of h
  have A := bD4 a ha
  have B := bD4 b hb
  have C := bD4 c hc
  have D := bD4 d hd
  have E := bD4 e he
  rw [bpop_5 ha hb hc hd he, bS1_5 ha hb hc hd he, bS2_5 A.1 B.1 C.1 D.1 E.1, bS3_5 A.2.1 B.2.1 C.2.1 D.2.1 E.2.1 B.2.2.1 C.2.2.1 D.2.2.1 E.2.2.1]
  generalize bF3 (bF2 (bF1 a)) = a3 at A ⊢
  generalize bF3 (bF2 (bF1 b)) = b3 at B ⊢
  generalize bF3 (bF2 (bF1 c)) = c3 at C ⊢
  generalize bF3 (bF2 (bF1 d)) = bD3 at D ⊢
  generalize bF3 (bF2 (bF1 e)) = e3 at E ⊢
  generalize bF2 (bF1 a) = a2 at A ⊢
  generalize bF2 (bF1 b) = b2 at B ⊢
  generalize bF2 (bF1 c) = c2 at C ⊢
  generalize bF2 (bF1 d) = bD2 at D ⊢
  generalize bF2 (bF1 e) = e2 at E ⊢
  generalize bF1 a = a1 at A ⊢
  generalize bF1 b = b1 at B ⊢
  generalize bF1 c = c1 at C ⊢
  generalize bF1 d = bD1 at D ⊢
  generalize bF1 e = e1 at E ⊢
  unfold bY5
  refine ⟨?_, by omega, by omega, by omega⟩
  unfold bSS
  have A9 := A.2.2.2
  have B9 := B.2.2.2
  have C9 := C.2.2.2
  have D9 := D.2.2.2
  have E9 := E.2.2.2
  clear A B C D E
  rw [show (256 * (256 * (256 * (256 * (256 * 0 + e3) + bD3) + c3) + b3) + a3) / 2 ^ 8 = 256 * (256 * (256 * e3 + bD3) + c3) + b3 by omega]
  rw [show 256 * (256 * (256 * (256 * (256 * 0 + e3) + bD3) + c3) + b3) + a3 + (256 * (256 * (256 * e3 + bD3) + c3) + b3) = 65536 * (65536 * e3 + 256 * (bD3 + e3) + (c3 + bD3)) + (256 * (b3 + c3) + (a3 + b3)) by omega]
  rw [show (65536 * (65536 * e3 + 256 * (bD3 + e3) + (c3 + bD3)) + (256 * (b3 + c3) + (a3 + b3))) / 2 ^ 16 = 65536 * e3 + 256 * (bD3 + e3) + (c3 + bD3) by omega]
  rw [show (65536 * (65536 * e3 + 256 * (bD3 + e3) + (c3 + bD3)) + (256 * (b3 + c3) + (a3 + b3)) + (65536 * e3 + 256 * (bD3 + e3) + (c3 + bD3))) = 4294967296 * e3 + (65536 * (256 * (bD3 + e3) + (c3 + bD3) + e3) + (256 * (b3 + c3 + bD3 + e3) + (a3 + b3 + c3 + bD3))) by omega]
  rw [show (4294967296 * e3 + (65536 * (256 * (bD3 + e3) + (c3 + bD3) + e3) + (256 * (b3 + c3 + bD3 + e3) + (a3 + b3 + c3 + bD3)))) / 2 ^ 32 = e3 by omega]
  omega
theorem ln_sub {x y : Nat} (h : y ≤ x) (hx : x < 2 ^ 64) : lN x - lN y = lN (x - y) := by
  apply wb_inj
  rw [Int64.toBitVec_sub, wb_tb, wb_tb, wb_tb]
  apply BitVec.eq_of_toNat_eq
  rw [BitVec.toNat_sub, BitVec.toNat_ofNat, BitVec.toNat_ofNat, BitVec.toNat_ofNat, Nat.mod_eq_of_lt hx, Nat.mod_eq_of_lt (show y < 2 ^ 64 by omega), Nat.mod_eq_of_lt (show x - y < 2 ^ 64 by omega)]
  omega
theorem ln_add (x y : Nat) : lN x + lN y = lN (x + y) := by
  apply wb_inj
  rw [Int64.toBitVec_add, wb_tb, wb_tb, wb_tb]
  apply BitVec.eq_of_toNat_eq
  rw [BitVec.toNat_add, BitVec.toNat_ofNat, BitVec.toNat_ofNat, BitVec.toNat_ofNat, ← Nat.add_mod]
theorem bc1_N {n : Nat} (h : n < 2 ^ 40) : bc1 (lN n) = lN (bS1 8 n) := by
  unfold bc1
  rw [bshr_N (l40 h) (by decide), show (6148914691236517205 : Int64) = lN (bMk 0x55 8) from rfl, wb_and (by omega) (by decide)]
  exact ln_sub (Nat.le_trans Nat.and_le_left (Nat.div_le_self _ _)) (l40 h)
theorem bc2_N {n : Nat} (h : n < 2 ^ 40) : bc2 (lN n) = lN (bS2 8 n) := by
  unfold bc2
  rw [bshr_N (l40 h) (by decide), show (3689348814741910323 : Int64) = lN (bMk 0x33 8) from rfl, wb_and (l40 h) (by decide), wb_and (by omega) (by decide)]
  exact ln_add _ _
theorem bc3_N {n : Nat} (h : n < 2 ^ 40) : bc3 (lN n) = lN (bS3 8 n) := by
  unfold bc3
  rw [bshr_N (l40 h) (by decide), show (1085102592571150095 : Int64) = lN (bMk 0x0f 8) from rfl, ln_add, wb_and (by omega) (by decide)]
  rfl
theorem bcS_N {n k : Nat} (h : n < 2 ^ 64) (hk : k < 64) : bcS k (lN n) = lN (bSS k n) := by
  unfold bcS
  rw [bshr_N h hk, ln_add]
  rfl
theorem l2i_and (n : Nat) : (lN n).toInt32 &&& nI 127 = nI (n % 128) := by
  apply Int32.toBitVec_inj.mp
  apply BitVec.eq_of_toNat_eq
  rw [Int32.toBitVec_and, Int64.toBitVec_toInt32, BitVec.toNat_and, BitVec.signExtend_eq_setWidth_of_le _ (by decide), BitVec.toNat_setWidth]
  show (BitVec.ofNat 64 n).toNat % 2 ^ 32 &&& 127 = (BitVec.ofNat 32 (n % 128)).toNat
  rw [BitVec.toNat_ofNat, BitVec.toNat_ofNat, show (127 : Nat) = 2 ^ 7 - 1 from rfl, Nat.and_two_pow_sub_one_eq_mod]
  omega
theorem bc_all {n : Nat} (h : n < 2 ^ 40) : (bcS 32 (bcS 16 (bcS 8 (bc3 (bc2 (bc1 (lN n))))))).toInt32 &&& nI 127 = nI (pop n) := by
  obtain ⟨h1, h2, h3, h4⟩ := bc_nat h
  rw [bc1_N h, bc2_N h2, bc3_N h3, bcS_N (l40 h4) (by decide)]
  have h5 : bSS 8 (bS3 8 (bS2 8 (bS1 8 n))) < 2 ^ 41 := by unfold bSS; omega
  rw [bcS_N (by omega) (by decide)]
  have h6 : bSS 16 (bSS 8 (bS3 8 (bS2 8 (bS1 8 n)))) < 2 ^ 42 := by unfold bSS at h5 ⊢; omega
  rw [bcS_N (by omega) (by decide), l2i_and, h1]
