theorem oUR25 {b o : Nat} : ∀ t (z : mZ3), (oUR b o t z).2.1 25 = z.2.1 25
  | 0, _ => rfl
  | t + 1, (y, s, a) => by
    show (oUR b o t (oU1 b o t (y, s, a))).2.1 25 = s 25
    rw [oUR25 t]
    unfold oU1
    split
    · split
      · exact und25
      · rfl
    · rfl
section SOFT
variable {s : mS} {a : mA}
theorem sf_latest (p : Int32) : oSoft s a (oLatest s a p) := by unfold oLatest; split <;> exact soft_k
theorem sf_isThere (p : Int32) : oSoft s a (oIsThere s a p) := by unfold oIsThere; split <;> exact soft_k
theorem sf_whereIs (p : Int32) : oSoft s a (oWhereIs s a p) := by
  unfold oWhereIs
  split
  · split <;> exact soft_k
  · exact soft_k
theorem sf_members (p : Int32) : oSoft s a (oMembers s a p) := by unfold oMembers; split <;> exact soft_k
theorem sf_usedBy (p : Int32) : oSoft s a (oUsedBy s a p) := by unfold oUsedBy; split <;> exact soft_k
theorem sf_inCopy (p : Int32) : oSoft s a (oInCopy s a p) := by unfold oInCopy; split <;> exact soft_k
theorem sf_setOf (p v : Int32) : oSoft s a (oSetOf s a p v) := by
  unfold oSetOf
  split
  · split <;> exact soft_k
  · exact soft_k
theorem sf_versionAt (p w : Int32) : oSoft s a (oVersionAt s a p w) := by
  unfold oVersionAt
  split
  · split <;> exact soft_k
  · exact soft_k
theorem sf_inBox (x y tx ty w : Int32) : oSoft s a (oInBox s a x y tx ty w) := by
  unfold oInBox
  split
  · exact ⟨fun f h25 _ => up_n h25, fun f _ _ h22 _ _ => up_n h22⟩
  · exact soft_k
theorem tf_open : (oOpen s a).2.1 25 = 0 ∨ oSoft s a (oOpen s a) := by
  unfold oOpen
  split
  · exact Or.inl rfl
  · exact Or.inr soft_k
theorem tf_close (p : Int32) : (oClose s a p).2.1 25 = 0 ∨ oSoft s a (oClose s a p) := by
  unfold oClose
  split
  · split
    · exact Or.inl rfl
    · exact Or.inr soft_k
  · exact Or.inr soft_k
theorem tf_refer (p : Int32) : (oRefer s a p).2.1 25 = 0 ∨ oSoft s a (oRefer s a p) := by
  unfold oRefer
  split
  · split
    · exact Or.inl rfl
    · exact Or.inr soft_k
  · exact Or.inr soft_k
theorem tf_pass (p : Int32) : (oPass s a p).2.1 25 = 0 ∨ oSoft s a (oPass s a p) := by
  unfold oPass
  split
  · split
    · exact Or.inl rfl
    · exact Or.inr soft_k
  · exact Or.inr soft_k
theorem tf_take (p : Int32) : (oTake s a p).2.1 25 = 0 ∨ oSoft s a (oTake s a p) := by
  unfold oTake
  split
  · exact Or.inl rfl
  · exact Or.inr soft_k
theorem tf_hide (p v : Int32) : (oHide s a p v).2.1 25 = 0 ∨ oSoft s a (oHide s a p v) := by
  unfold oHide
  split
  · split
    · exact Or.inl rfl
    · exact Or.inr soft_k
  · exact Or.inr soft_k
theorem tf_point (p x y : Int32) : (oPoint s a p x y).2.1 25 = 0 ∨ oSoft s a (oPoint s a p x y) := by
  unfold oPoint
  split
  · split
    · split
      · exact Or.inl rfl
      · exact Or.inr soft_k
    · exact Or.inr soft_k
  · exact Or.inr soft_k
theorem tf_make (p w : Int32) : (oMake s a p w).2.1 25 = 0 ∨ oSoft s a (oMake s a p w) := by
  unfold oMake
  split
  · split
    · split
      · split
        · exact Or.inl rfl
        · exact Or.inl rfl
      · exact Or.inr soft_k
    · exact Or.inr soft_k
  · exact Or.inr soft_k
theorem tf_move (p t v x y : Int32) : (oMove s a p t v x y).2.1 25 = 0 ∨ oSoft s a (oMove s a p t v x y) := by
  unfold oMove
  split
  · split
    · split
      · split
        · split
          · exact Or.inl rfl
          · exact Or.inl rfl
        · exact Or.inl rfl
      · exact Or.inr soft_k
    · exact Or.inr soft_k
  · exact Or.inr soft_k
theorem tf_change (p t v : Int32) : (oChange s a p t v).2.1 25 = 0 ∨ oSoft s a (oChange s a p t v) := by
  unfold oChange
  split
  · split
    · exact Or.inr soft_k
    · split
      · split
        · split
          · split
            · exact Or.inl rfl
            · split
              · exact Or.inl rfl
              · exact Or.inl rfl
          · exact Or.inl rfl
        · exact Or.inl rfl
      · exact Or.inr soft_k
  · exact Or.inr soft_k
theorem tf_delete (p t v : Int32) : (oDelete s a p t v).2.1 25 = 0 ∨ oSoft s a (oDelete s a p t v) := by
  unfold oDelete
  split
  · split
    · split
      · split
        · split
          · exact Or.inl rfl
          · exact Or.inl rfl
        · exact Or.inl rfl
      · exact Or.inl rfl
    · exact Or.inr soft_k
  · exact Or.inr soft_k
theorem tf_undo (p q : Int32) : (oUndo s a p q).2.1 25 = 0 ∨ oSoft s a (oUndo s a p q) := by
  unfold oUndo
  split
  · split
    · exact Or.inl (oUR25 (s 6) (0, va_up s 25 0, a))
    · exact Or.inr soft_k
  · exact Or.inr soft_k
theorem t10_open : (oOpen s a).2.1 10 = s 10 := by unfold oOpen; split <;> rfl
theorem t10_close (p : Int32) : (oClose s a p).2.1 10 = s 10 := by
  unfold oClose
  split
  · split <;> rfl
  · rfl
theorem t10_refer (p : Int32) : (oRefer s a p).2.1 10 = s 10 := by
  unfold oRefer
  split
  · split <;> rfl
  · rfl
theorem t10_pass (p : Int32) : (oPass s a p).2.1 10 = s 10 := by
  unfold oPass
  split
  · split <;> rfl
  · rfl
theorem t10_take (p : Int32) : (oTake s a p).2.1 10 = s 10 := by unfold oTake; split <;> rfl
theorem t10_hide (p v : Int32) : (oHide s a p v).2.1 10 = s 10 := by
  unfold oHide
  split
  · split <;> rfl
  · rfl
theorem isThere_01 (p : Int32) : (oIsThere s a p).1 = nI 0 ∨ (oIsThere s a p).1 = nI 1 := by
  unfold oIsThere
  split
  · show bI (mIs a (tn p)) = nI 0 ∨ bI (mIs a (tn p)) = nI 1
    cases mIs a (tn p)
    · exact Or.inl rfl
    · exact Or.inr rfl
  · exact Or.inl rfl
theorem take_ans (W : WI s a) (m : Int32) (h : (oTake s a m).2.1 25 = 0) : nI (sumN (fun t => mBef a t (oTakeN s m) - mBef a t (s 1)) (s 6)) = (oTake s a m).1 := by
  have h1 := W.T.1
  unfold oTake at h ⊢
  split at h
  · rename_i c
    rw [if_pos c, take_sum W.J W.A W.K W.N (show s 1 ≤ oTakeN s m by unfold oTakeN; split <;> omega)]
  · exact absurd (show (1 : Nat) = 0 from h) (by decide)
theorem box_ans (W : WI s a) {i1 i2 i3 i4 m : Nat} (h1 : i1 ≤ 99) (h2 : i2 ≤ 99) (h3 : i3 ≤ 99) (h4 : i4 ≤ 99) (hm : m ≤ 2) (h5 : i1 ≤ i3) (h6 : i2 ≤ i4) : (oInBox s a (nI i1) (nI i2) (nI i3) (nI i4) (nI m)).1 = nI (pop (iAns a (s 6) i1 i2 i3 i4 m)) ∧ (oInBox s a (nI i1) (nI i2) (nI i3) (nI i4) (nI m)).2.1 25 = 0 := by
  unfold oInBox
  rw [tn_nI (j := i1) (by omega), tn_nI (j := i2) (by omega), tn_nI (j := i3) (by omega), tn_nI (j := i4) (by omega), tn_nI (j := m) (by omega), if_pos ⟨inR_nI (Nat.zero_le _) h1 (by decide), inR_nI (Nat.zero_le _) h2 (by decide), inR_nI h5 h3 (by decide), inR_nI h6 h4 (by decide), inR_nI (Nat.zero_le _) hm (by decide)⟩, box_eq W hm]
  exact ⟨rfl, rfl⟩
end SOFT
