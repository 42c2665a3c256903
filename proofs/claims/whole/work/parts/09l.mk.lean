/-! The arrays behind makes, place by place; what a call of the class has to know of them. -/
section MK
variable {s s1 s' : mS} {a a1 : mA} {b i th at_ : Nat}
theorem mkA_r8 : mkA s1 a1 b i th at_ 8 = va_up (a1 8) i (s1 10) := rfl
theorem mkA_r9 : mkA s1 a1 b i th at_ 9 = va_up (a1 9) i (a1 9 i + 1) := rfl
theorem mkA_11 : mkA s1 a1 b i th at_ 11 = va_up (a1 11) (s1 10) i := rfl
theorem mkA_12 : mkA s1 a1 b i th at_ 12 = va_up (a1 12) (s1 10) (a1 9 i + 1) := rfl
theorem mkA_13 : mkA s1 a1 b i th at_ 13 = va_up (a1 13) (s1 10) (if a1 9 i = 0 then 0 else a1 8 i + 1) := rfl
theorem mkA_14 : mkA s1 a1 b i th at_ 14 = va_up (a1 14) (s1 10) b := rfl
theorem mkA_15 : mkA s1 a1 b i th at_ 15 = va_up (a1 15) (s1 10) (s1 0) := rfl
theorem mkA_16 : mkA s1 a1 b i th at_ 16 = va_up (a1 16) (s1 10) th := rfl
theorem mkA_17 : mkA s1 a1 b i th at_ 17 = va_up (a1 17) (s1 10) 0 := rfl
theorem mkA_18 : mkA s1 a1 b i th at_ 18 = va_up (a1 18) (s1 10) at_ := rfl
theorem mkA_19 : mkA s1 a1 b i th at_ 19 = va_up (a1 19) (s1 10) (if th = 0 then 0 else s1 23) := rfl
theorem mkA_20 : mkA s1 a1 b i th at_ 20 = mkM a1 (s1 10) (if th = 0 then 0 else s1 23) := rfl
theorem mkA_3 : mkA s1 a1 b i th at_ 3 = a1 3 := rfl
theorem mkA_5 : mkA s1 a1 b i th at_ 5 = a1 5 := rfl
theorem mkA_7 : mkA s1 a1 b i th at_ 7 = a1 7 := rfl
theorem mkA_cNew (e10 : s1 10 = s 10) (f10 : s' 10 = s 10 + 1) (f4 : s' 4 = s 4) (ha : ∀ f, f ≠ 24 → f ≠ 21 → f ≠ 7 → a1 f = a f) (h7 : ∀ t, t ≠ i → a1 7 t = a 7 t) (h13 : a 9 i ≠ 0 → a 8 i < s 10) : cNew s a s' (mkA s1 a1 b i th at_) i := by
  refine ⟨f10, f4, ?_, ?_, fun t ht => ⟨?_, ?_⟩, ?_, fun f v h1 h2 hv => ?_, fun k hk => ?_, ?_⟩
  · rw [mkA_3]; exact ha 3 (by decide) (by decide) (by decide)
  · rw [mkA_5]; exact ha 5 (by decide) (by decide) (by decide)
  · rw [mkA_7]; exact h7 t ht
  · rw [mkA_r8, up_n ht]; rw [ha 8 (by decide) (by decide) (by decide)]
  · rw [mkA_r8, up_s, e10]
  · have hv' : v ≠ s1 10 := by rw [e10]; exact hv
    rcases (show f = 12 ∨ f = 13 ∨ f = 14 ∨ f = 15 ∨ f = 16 ∨ f = 17 ∨ f = 18 ∨ f = 19 by omega) with rfl | rfl | rfl | rfl | rfl | rfl | rfl | rfl
    · rw [mkA_12, up_n hv', ha 12 (by decide) (by decide) (by decide)]
    · rw [mkA_13, up_n hv', ha 13 (by decide) (by decide) (by decide)]
    · rw [mkA_14, up_n hv', ha 14 (by decide) (by decide) (by decide)]
    · rw [mkA_15, up_n hv', ha 15 (by decide) (by decide) (by decide)]
    · rw [mkA_16, up_n hv', ha 16 (by decide) (by decide) (by decide)]
    · rw [mkA_17, up_n hv', ha 17 (by decide) (by decide) (by decide)]
    · rw [mkA_18, up_n hv', ha 18 (by decide) (by decide) (by decide)]
    · rw [mkA_19, up_n hv', ha 19 (by decide) (by decide) (by decide)]
  · rw [mkA_20]
    unfold mkM
    rw [if_neg (by rw [e10]; omega), ha 20 (by decide) (by decide) (by decide)]
  · rw [mkA_13, e10, up_s, ha 9 (by decide) (by decide) (by decide), ha 8 (by decide) (by decide) (by decide)]
    by_cases e : a 9 i = 0
    · rw [if_pos e]; exact Nat.zero_le _
    · rw [if_neg e]; exact h13 e
theorem mkA_cVal (e10 : s1 10 = s 10) (e0 : s1 0 = s 0) (f0 : s' 0 = s 0) (f1 : s' 1 = s 1) (f2 : s' 2 = s 2) (ha : ∀ f, f ≠ 24 → f ≠ 21 → f ≠ 7 → a1 f = a f) : cVal s a s' (mkA s1 a1 b i th at_) i b (a 9 i + 1) (if a 9 i = 0 then 0 else a 8 i + 1) := by
  refine ⟨⟨f0, f1, f2⟩, ?_, ?_, ?_, ?_, ?_⟩
  · rw [mkA_12, e10, up_s, ha 9 (by decide) (by decide) (by decide)]
  · rw [mkA_13, e10, up_s, ha 9 (by decide) (by decide) (by decide), ha 8 (by decide) (by decide) (by decide)]
  · rw [mkA_14, e10, up_s]
  · rw [mkA_15, e10, up_s, e0]
  · rw [mkA_17, e10, up_s]
theorem mkA_c16 (e10 : s1 10 = s 10) : mkA s1 a1 b i th at_ 16 (s 10) = th := by rw [mkA_16, e10, up_s]
theorem mkA_c18 (e10 : s1 10 = s 10) : mkA s1 a1 b i th at_ 18 (s 10) = at_ := by rw [mkA_18, e10, up_s]
theorem mkA_c19 (e10 : s1 10 = s 10) : mkA s1 a1 b i th at_ 19 (s 10) = if th = 0 then 0 else s1 23 := by rw [mkA_19, e10, up_s]
theorem mkA_c20 (e10 : s1 10 = s 10) {j : Nat} (hj : j < if th = 0 then 0 else s1 23) : mkA s1 a1 b i th at_ 20 (6 * s 10 + j) = a1 24 j := by
  rw [mkA_20]
  unfold mkM
  rw [e10, if_pos ⟨by omega, by omega⟩, show 6 * s 10 + j - 6 * s 10 = j by omega]
end MK
/-- why a content is refused, or 0 -/
def refF (s : mS) (a : mA) (t z : Nat) (g : Nat → Nat) (N : Nat) : Int32 :=
  if z = 0 then (if orN (fUse a (2 ^ t)) (s 6) = 0 then 0 else -5)
  else if a 7 t = 0 then 0
  else if rowOK s a (a 7 t) g N = false then -3
  else if (ldN a (s 6) (rowM g N) (s 6)).testBit t = true then -4 else 0
