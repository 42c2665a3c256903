section CASES
variable {X : jX} {G : jG} {k n : Nat} {h : jH} {mo oo xo b L c : Nat} {ad xa : Nat → Nat} {s : mS} {a : mA} {xs : Nat → Int32}
set_option maxRecDepth 100000 in
set_option maxHeartbeats 4000000 in
theorem k_8 (C : jC X G cL_law 7 wsL_law RL) (hXR : X.2.2.2.1 = room_1) (M : mG mo ad) (hX : va_X b L xs X.2.2.2.2.1 X.2.2.2.2.1.heap) (hb : b < X.2.2.2.2.1.heap.size) (hA : b < G.1) (hL : L ≤ 3072) (hc : c < 512) (hj : 6 * c + 6 ≤ L) (I : LwI G mo oo ad xo xa c s a h) (hk : k + 43 ≤ 601024) (hn : n + 258 ≤ 7293034) (kk : ∀ s' a' h', LwI G mo oo ad xo xa (c + 1) s' a' h' → jW X G 7 (k + 43) (n + 258) 1590 [(0, .ref b), (1, .ref xo), (2, .ref mo), (3, .ref oo), (4, .int (nI (6 * c)))] [] h') : jW X G 7 k n 653 [(0, .ref b), (1, .ref xo), (2, .ref mo), (3, .ref oo), (4, .int (nI (6 * c)))] [] h := by
  refine j_aload_n C (i := 1) (x := xo) 1 rfl dL_law_653 (pc' := 654) rfl ?_
  refine j_aload_n C (i := 0) (x := b) 0 rfl dL_law_654 (pc' := 655) rfl ?_
  refine j_iload C (i := 4) (x := nI (6 * c)) 4 rfl dL_law_655 (pc' := 657) rfl ?_
  refine j_iconst C (v := nI 1) rfl dL_law_657 (pc' := 658) rfl ?_
  refine j_iadd C dL_law_658 (pc' := 659) rfl ?_
  refine j_sld C hX hb hA (j := 6 * c + 1) (nI_add _ _) (by omega) (by omega) dL_law_659 (pc' := 660) rfl ?_
  refine j_aload_n C (i := 0) (x := b) 0 rfl dL_law_660 (pc' := 661) rfl ?_
  refine j_iload C (i := 4) (x := nI (6 * c)) 4 rfl dL_law_661 (pc' := 663) rfl ?_
  refine j_iconst C (v := nI 2) rfl dL_law_663 (pc' := 664) rfl ?_
  refine j_iadd C dL_law_664 (pc' := 665) rfl ?_
  refine j_sld C hX hb hA (j := 6 * c + 2) (nI_add _ _) (by omega) (by omega) dL_law_665 (pc' := 666) rfl ?_
  refine j_aload_n C (i := 0) (x := b) 0 rfl dL_law_666 (pc' := 667) rfl ?_
  refine j_iload C (i := 4) (x := nI (6 * c)) 4 rfl dL_law_667 (pc' := 669) rfl ?_
  refine j_iconst C (v := nI 3) rfl dL_law_669 (pc' := 670) rfl ?_
  refine j_iadd C dL_law_670 (pc' := 671) rfl ?_
  refine j_sld C hX hb hA (j := 6 * c + 3) (nI_add _ _) (by omega) (by omega) dL_law_671 (pc' := 672) rfl ?_
  refine j_aload_n C (i := 3) (x := oo) 3 rfl dL_law_672 (pc' := 673) rfl ?_
  have hw := I.1.delete hc (xs (6 * c + 1)) (xs (6 * c + 2)) (xs (6 * c + 3))
  obtain ⟨v, hv⟩ := I.2.2.2.2
  refine j_callSX C (As := [.ref xo, .int (xs (6 * c + 1)), .int (xs (6 * c + 2)), .int (xs (6 * c + 3)), .ref oo]) (rest := []) (w_delete X.2.1 C.2.2.2.2.2.2.2.2 G (xs (6 * c + 1)) (xs (6 * c + 2)) (xs (6 * c + 3)) I.1 hc I.2.1 I.Pn (Or.inr (Or.inl rfl)) hv) (vx_cwSW 5 C.2.2.2.2.1 gL_law_L_delete rfl rfl rfl (by decide +kernel) (by rw [hXR]; decide)) rfl rfl (Nat.le_of_ble_eq_true rfl) dL_law_673 (pc' := 676) rfl (by rw [hXR]; show k + 4 ≤ 601024; omega) (by rw [hXR]; show n + 24 ≤ 7293034; omega) (fun _ _ z => z.elim) ?_
  rintro r h1 ⟨rfl, ⟨v1, hv1, hz⟩, hE1, hF1⟩
  show jW X G 7 (k + 4) (n + 24) 676 [(0, .ref b), (1, .ref xo), (2, .ref mo), (3, .ref oo), (4, .int (nI (6 * c)))] [.int (nI ((oDelete s a (xs (6 * c + 1)) (xs (6 * c + 2)) (xs (6 * c + 3))).2.1 25))] (h1)
  refine j_istore C (i := 5) (x := nI ((oDelete s a (xs (6 * c + 1)) (xs (6 * c + 2)) (xs (6 * c + 3))).2.1 25)) (l' := [(5, .int (nI ((oDelete s a (xs (6 * c + 1)) (xs (6 * c + 2)) (xs (6 * c + 3))).2.1 25))), (0, .ref b), (1, .ref xo), (2, .ref mo), (3, .ref oo), (4, .int (nI (6 * c)))]) dL_law_676 (pc' := 678) rfl (by decide) rfl ?_
  refine j_aload_n C (i := 2) (x := mo) 3 rfl dL_law_678 (pc' := 679) rfl ?_
  refine j_aload_n C (i := 0) (x := b) 1 rfl dL_law_679 (pc' := 680) rfl ?_
  refine j_iload C (i := 4) (x := nI (6 * c)) 5 rfl dL_law_680 (pc' := 682) rfl ?_
  refine j_iconst C (v := nI 1) rfl dL_law_682 (pc' := 683) rfl ?_
  refine j_iadd C dL_law_683 (pc' := 684) rfl ?_
  refine j_sld C hX hb hA (j := 6 * c + 1) (nI_add _ _) (by omega) (by omega) dL_law_684 (pc' := 685) rfl ?_
  refine j_aload_n C (i := 0) (x := b) 1 rfl dL_law_685 (pc' := 686) rfl ?_
  refine j_iload C (i := 4) (x := nI (6 * c)) 5 rfl dL_law_686 (pc' := 688) rfl ?_
  refine j_iconst C (v := nI 2) rfl dL_law_688 (pc' := 689) rfl ?_
  refine j_iadd C dL_law_689 (pc' := 690) rfl ?_
  refine j_sld C hX hb hA (j := 6 * c + 2) (nI_add _ _) (by omega) (by omega) dL_law_690 (pc' := 691) rfl ?_
  refine j_aload_n C (i := 0) (x := b) 1 rfl dL_law_691 (pc' := 692) rfl ?_
  refine j_iload C (i := 4) (x := nI (6 * c)) 5 rfl dL_law_692 (pc' := 694) rfl ?_
  refine j_iconst C (v := nI 3) rfl dL_law_694 (pc' := 695) rfl ?_
  refine j_iadd C dL_law_695 (pc' := 696) rfl ?_
  refine j_sld C hX hb hA (j := 6 * c + 3) (nI_add _ _) (by omega) (by omega) dL_law_696 (pc' := 697) rfl ?_
  refine jt_h (I.mid M hF1) ?_
  refine j_callV C (As := [.int (xs (6 * c + 1)), .int (xs (6 * c + 2)), .int (xs (6 * c + 3))]) (rest := []) (m_delete X.2.1 C.2.2.2.2.2.2.2.2 G M s a (xs (6 * c + 1)) (xs (6 * c + 2)) (xs (6 * c + 3)) I.1.1.J I.1.1.I) (cwV 3 C.2.2.2.2.1 gL_law_X4_delete rfl rfl rfl (by decide +kernel) (by rw [hXR]; decide)) hM_obj rfl rfl rfl (Nat.le_of_ble_eq_true rfl) dL_law_697 (pc' := 700) rfl (by rw [hXR]; show k + 4 + 0 ≤ 601024; omega) (by rw [hXR]; show n + 24 + 0 ≤ 7293034; omega) (fun _ _ z => z.elim) ?_
  rintro r h' ⟨rfl, rfl⟩
  show jW X G 7 (k + 4) (n + 24) 700 [(5, .int (nI ((oDelete s a (xs (6 * c + 1)) (xs (6 * c + 2)) (xs (6 * c + 3))).2.1 25))), (0, .ref b), (1, .ref xo), (2, .ref mo), (3, .ref oo), (4, .int (nI (6 * c)))] [.int ((oDelete s a (xs (6 * c + 1)) (xs (6 * c + 2)) (xs (6 * c + 3))).1)] (hM G mo ad h1 (oDelete s a (xs (6 * c + 1)) (xs (6 * c + 2)) (xs (6 * c + 3))).2.1 (oDelete s a (xs (6 * c + 1)) (xs (6 * c + 2)) (xs (6 * c + 3))).2.2)
  refine j_istore C (i := 6) (x := (oDelete s a (xs (6 * c + 1)) (xs (6 * c + 2)) (xs (6 * c + 3))).1) (l' := [(6, .int ((oDelete s a (xs (6 * c + 1)) (xs (6 * c + 2)) (xs (6 * c + 3))).1)), (5, .int (nI ((oDelete s a (xs (6 * c + 1)) (xs (6 * c + 2)) (xs (6 * c + 3))).2.1 25))), (0, .ref b), (1, .ref xo), (2, .ref mo), (3, .ref oo), (4, .int (nI (6 * c)))]) dL_law_700 (pc' := 702) rfl (by decide) rfl ?_
  refine j_aload_n C (i := 2) (x := mo) 4 rfl dL_law_702 (pc' := 703) rfl ?_
  refine j_callV C (As := []) (rest := []) (m_thrown X.2.1 C.2.2.2.2.2.2.2.2 G M (oDelete s a (xs (6 * c + 1)) (xs (6 * c + 2)) (xs (6 * c + 3))).2.1 (oDelete s a (xs (6 * c + 1)) (xs (6 * c + 2)) (xs (6 * c + 3))).2.2) (cwV 0 C.2.2.2.2.1 gL_law_X4_thrown rfl rfl rfl (by decide +kernel) (by rw [hXR]; decide)) hM_obj rfl rfl rfl (Nat.le_of_ble_eq_true rfl) dL_law_703 (pc' := 706) rfl (by rw [hXR]; show k + 4 + 0 ≤ 601024; omega) (by rw [hXR]; show n + 24 + 0 ≤ 7293034; omega) (fun _ _ z => z.elim) ?_
  rintro r h' ⟨rfl, rfl⟩
  show jW X G 7 (k + 4) (n + 24) 706 [(6, .int ((oDelete s a (xs (6 * c + 1)) (xs (6 * c + 2)) (xs (6 * c + 3))).1)), (5, .int (nI ((oDelete s a (xs (6 * c + 1)) (xs (6 * c + 2)) (xs (6 * c + 3))).2.1 25))), (0, .ref b), (1, .ref xo), (2, .ref mo), (3, .ref oo), (4, .int (nI (6 * c)))] [.int (nI ((oDelete s a (xs (6 * c + 1)) (xs (6 * c + 2)) (xs (6 * c + 3))).2.1 25))] (hM G mo ad h1 (oDelete s a (xs (6 * c + 1)) (xs (6 * c + 2)) (xs (6 * c + 3))).2.1 (oDelete s a (xs (6 * c + 1)) (xs (6 * c + 2)) (xs (6 * c + 3))).2.2)
  refine j_iload C (i := 5) (x := nI ((oDelete s a (xs (6 * c + 1)) (xs (6 * c + 2)) (xs (6 * c + 3))).2.1 25)) 1 rfl dL_law_706 (pc' := 708) rfl ?_
  refine j_icmp_eq C dL_law_708 (tgt := 713) (by decide) (pc' := 711) rfl (fun _ => ?_) (fun z => absurd rfl z)
  refine j_iload C (i := 5) (x := nI ((oDelete s a (xs (6 * c + 1)) (xs (6 * c + 2)) (xs (6 * c + 3))).2.1 25)) 1 rfl dL_law_713 (pc' := 715) rfl ?_
  refine j_if_ne C dL_law_715 (tgt := 730) (by decide) (pc' := 718) rfl (fun _ => ?_) (fun z0 => ?_)
  · skip
    refine j_goto C dL_law_730 (pc' := 1590) (by decide) ?_
    exact jW.locals [2, 3, 4, 5, 6] rfl (jW.widen (by omega) (by omega) (kk _ _ _ (I.next M hF1 ⟨v1, hv1⟩ hE1 hw)))
  · have z1 : (oDelete s a (xs (6 * c + 1)) (xs (6 * c + 2)) (xs (6 * c + 3))).2.1 25 = 0 := (nI_eq (a := (oDelete s a (xs (6 * c + 1)) (xs (6 * c + 2)) (xs (6 * c + 3))).2.1 25) (b := 0) (Nat.lt_of_lt_of_le (hw.1.J.1 25) (by decide)) (by decide)).mp z0
    refine j_aload_n C (i := 3) (x := oo) 5 rfl dL_law_718 (pc' := 719) rfl ?_
    refine j_iconst C (v := nI 0) rfl dL_law_719 (pc' := 720) rfl ?_
    refine j_lald C (a := oo) (N := 1) (j := 0) (f := v1) ((hM_off I.off.1 I.off.2).trans hv1) rfl (by decide) (by decide) dL_law_720 (pc' := 721) rfl ?_
    refine j_iload C (i := 6) (x := (oDelete s a (xs (6 * c + 1)) (xs (6 * c + 2)) (xs (6 * c + 3))).1) 0 rfl dL_law_721 (pc' := 723) rfl ?_
    refine j_i2l C (x := (oDelete s a (xs (6 * c + 1)) (xs (6 * c + 2)) (xs (6 * c + 3))).1) rfl dL_law_723 (pc' := 724) rfl ?_
    refine j_lcmp C dL_law_724 (pc' := 725) rfl ?_
    refine jt_i (y := 0) (by rw [hz z1]; exact lg_self _) ?_
    refine j_if_eq C dL_law_725 (tgt := 730) (by decide) (pc' := 728) rfl (fun _ => ?_) (fun z => absurd rfl z)
    refine j_goto C dL_law_730 (pc' := 1590) (by decide) ?_
    exact jW.locals [2, 3, 4, 5, 6] rfl (jW.widen (by omega) (by omega) (kk _ _ _ (I.next M hF1 ⟨v1, hv1⟩ hE1 hw)))
set_option maxRecDepth 100000 in
set_option maxHeartbeats 4000000 in
theorem k_9 (C : jC X G cL_law 7 wsL_law RL) (hXR : X.2.2.2.1 = room_1) (M : mG mo ad) (hX : va_X b L xs X.2.2.2.2.1 X.2.2.2.2.1.heap) (hb : b < X.2.2.2.2.1.heap.size) (hA : b < G.1) (hL : L ≤ 3072) (hc : c < 512) (hj : 6 * c + 6 ≤ L) (I : LwI G mo oo ad xo xa c s a h) (hk : k + 43 ≤ 601024) (hn : n + 258 ≤ 7293034) (kk : ∀ s' a' h', LwI G mo oo ad xo xa (c + 1) s' a' h' → jW X G 7 (k + 43) (n + 258) 1590 [(0, .ref b), (1, .ref xo), (2, .ref mo), (3, .ref oo), (4, .int (nI (6 * c)))] [] h') : jW X G 7 k n 733 [(0, .ref b), (1, .ref xo), (2, .ref mo), (3, .ref oo), (4, .int (nI (6 * c)))] [] h := by
  refine j_aload_n C (i := 1) (x := xo) 1 rfl dL_law_733 (pc' := 734) rfl ?_
  refine j_aload_n C (i := 0) (x := b) 0 rfl dL_law_734 (pc' := 735) rfl ?_
  refine j_iload C (i := 4) (x := nI (6 * c)) 4 rfl dL_law_735 (pc' := 737) rfl ?_
  refine j_iconst C (v := nI 1) rfl dL_law_737 (pc' := 738) rfl ?_
  refine j_iadd C dL_law_738 (pc' := 739) rfl ?_
  refine j_sld C hX hb hA (j := 6 * c + 1) (nI_add _ _) (by omega) (by omega) dL_law_739 (pc' := 740) rfl ?_
  refine j_aload_n C (i := 0) (x := b) 0 rfl dL_law_740 (pc' := 741) rfl ?_
  refine j_iload C (i := 4) (x := nI (6 * c)) 4 rfl dL_law_741 (pc' := 743) rfl ?_
  refine j_iconst C (v := nI 2) rfl dL_law_743 (pc' := 744) rfl ?_
  refine j_iadd C dL_law_744 (pc' := 745) rfl ?_
  refine j_sld C hX hb hA (j := 6 * c + 2) (nI_add _ _) (by omega) (by omega) dL_law_745 (pc' := 746) rfl ?_
  refine j_aload_n C (i := 3) (x := oo) 3 rfl dL_law_746 (pc' := 747) rfl ?_
  have hw := I.1.undo (by omega) (xs (6 * c + 1)) (xs (6 * c + 2))
  obtain ⟨v, hv⟩ := I.2.2.2.2
  refine j_callSX C (As := [.ref xo, .int (xs (6 * c + 1)), .int (xs (6 * c + 2)), .ref oo]) (rest := []) (w_undo X.2.1 C.2.2.2.2.2.2.2.2 G (xs (6 * c + 1)) (xs (6 * c + 2)) I.1 hc I.2.1 I.Pn (Or.inr (Or.inl rfl)) hv) (vx_cwSW 4 C.2.2.2.2.1 gL_law_L_undo rfl rfl rfl (by decide +kernel) (by rw [hXR]; decide)) rfl rfl (Nat.le_of_ble_eq_true rfl) dL_law_747 (pc' := 750) rfl (by rw [hXR]; show k + 43 ≤ 601024; omega) (by rw [hXR]; show n + 258 ≤ 7293034; omega) (fun _ _ z => z.elim) ?_
  rintro r h1 ⟨rfl, ⟨v1, hv1, hz⟩, hE1, hF1⟩
  show jW X G 7 (k + 43) (n + 258) 750 [(0, .ref b), (1, .ref xo), (2, .ref mo), (3, .ref oo), (4, .int (nI (6 * c)))] [.int (nI ((oUndo s a (xs (6 * c + 1)) (xs (6 * c + 2))).2.1 25))] (h1)
  refine j_istore C (i := 5) (x := nI ((oUndo s a (xs (6 * c + 1)) (xs (6 * c + 2))).2.1 25)) (l' := [(5, .int (nI ((oUndo s a (xs (6 * c + 1)) (xs (6 * c + 2))).2.1 25))), (0, .ref b), (1, .ref xo), (2, .ref mo), (3, .ref oo), (4, .int (nI (6 * c)))]) dL_law_750 (pc' := 752) rfl (by decide) rfl ?_
  refine j_aload_n C (i := 2) (x := mo) 3 rfl dL_law_752 (pc' := 753) rfl ?_
  refine j_aload_n C (i := 0) (x := b) 1 rfl dL_law_753 (pc' := 754) rfl ?_
  refine j_iload C (i := 4) (x := nI (6 * c)) 5 rfl dL_law_754 (pc' := 756) rfl ?_
  refine j_iconst C (v := nI 1) rfl dL_law_756 (pc' := 757) rfl ?_
  refine j_iadd C dL_law_757 (pc' := 758) rfl ?_
  refine j_sld C hX hb hA (j := 6 * c + 1) (nI_add _ _) (by omega) (by omega) dL_law_758 (pc' := 759) rfl ?_
  refine j_aload_n C (i := 0) (x := b) 1 rfl dL_law_759 (pc' := 760) rfl ?_
  refine j_iload C (i := 4) (x := nI (6 * c)) 5 rfl dL_law_760 (pc' := 762) rfl ?_
  refine j_iconst C (v := nI 2) rfl dL_law_762 (pc' := 763) rfl ?_
  refine j_iadd C dL_law_763 (pc' := 764) rfl ?_
  refine j_sld C hX hb hA (j := 6 * c + 2) (nI_add _ _) (by omega) (by omega) dL_law_764 (pc' := 765) rfl ?_
  refine jt_h (I.mid M hF1) ?_
  refine j_callV C (As := [.int (xs (6 * c + 1)), .int (xs (6 * c + 2))]) (rest := []) (m_undo X.2.1 C.2.2.2.2.2.2.2.2 G M s a (xs (6 * c + 1)) (xs (6 * c + 2)) I.1.1.J I.1.1.I I.1.1.Z0 I.1.1.M (by have := I.1.2.le; omega)) (cwV 2 C.2.2.2.2.1 gL_law_X4_undo rfl rfl rfl (by decide +kernel) (by rw [hXR]; decide)) hM_obj rfl rfl rfl (Nat.le_of_ble_eq_true rfl) dL_law_765 (pc' := 768) rfl (by rw [hXR]; show k + 43 + 0 ≤ 601024; omega) (by rw [hXR]; show n + 258 + 0 ≤ 7293034; omega) (fun _ _ z => z.elim) ?_
  rintro r h' ⟨rfl, rfl⟩
  show jW X G 7 (k + 43) (n + 258) 768 [(5, .int (nI ((oUndo s a (xs (6 * c + 1)) (xs (6 * c + 2))).2.1 25))), (0, .ref b), (1, .ref xo), (2, .ref mo), (3, .ref oo), (4, .int (nI (6 * c)))] [.int ((oUndo s a (xs (6 * c + 1)) (xs (6 * c + 2))).1)] (hM G mo ad h1 (oUndo s a (xs (6 * c + 1)) (xs (6 * c + 2))).2.1 (oUndo s a (xs (6 * c + 1)) (xs (6 * c + 2))).2.2)
  refine j_istore C (i := 6) (x := (oUndo s a (xs (6 * c + 1)) (xs (6 * c + 2))).1) (l' := [(6, .int ((oUndo s a (xs (6 * c + 1)) (xs (6 * c + 2))).1)), (5, .int (nI ((oUndo s a (xs (6 * c + 1)) (xs (6 * c + 2))).2.1 25))), (0, .ref b), (1, .ref xo), (2, .ref mo), (3, .ref oo), (4, .int (nI (6 * c)))]) dL_law_768 (pc' := 770) rfl (by decide) rfl ?_
  refine j_aload_n C (i := 2) (x := mo) 4 rfl dL_law_770 (pc' := 771) rfl ?_
  refine j_callV C (As := []) (rest := []) (m_thrown X.2.1 C.2.2.2.2.2.2.2.2 G M (oUndo s a (xs (6 * c + 1)) (xs (6 * c + 2))).2.1 (oUndo s a (xs (6 * c + 1)) (xs (6 * c + 2))).2.2) (cwV 0 C.2.2.2.2.1 gL_law_X4_thrown rfl rfl rfl (by decide +kernel) (by rw [hXR]; decide)) hM_obj rfl rfl rfl (Nat.le_of_ble_eq_true rfl) dL_law_771 (pc' := 774) rfl (by rw [hXR]; show k + 43 + 0 ≤ 601024; omega) (by rw [hXR]; show n + 258 + 0 ≤ 7293034; omega) (fun _ _ z => z.elim) ?_
  rintro r h' ⟨rfl, rfl⟩
  show jW X G 7 (k + 43) (n + 258) 774 [(6, .int ((oUndo s a (xs (6 * c + 1)) (xs (6 * c + 2))).1)), (5, .int (nI ((oUndo s a (xs (6 * c + 1)) (xs (6 * c + 2))).2.1 25))), (0, .ref b), (1, .ref xo), (2, .ref mo), (3, .ref oo), (4, .int (nI (6 * c)))] [.int (nI ((oUndo s a (xs (6 * c + 1)) (xs (6 * c + 2))).2.1 25))] (hM G mo ad h1 (oUndo s a (xs (6 * c + 1)) (xs (6 * c + 2))).2.1 (oUndo s a (xs (6 * c + 1)) (xs (6 * c + 2))).2.2)
  refine j_iload C (i := 5) (x := nI ((oUndo s a (xs (6 * c + 1)) (xs (6 * c + 2))).2.1 25)) 1 rfl dL_law_774 (pc' := 776) rfl ?_
  refine j_icmp_eq C dL_law_776 (tgt := 781) (by decide) (pc' := 779) rfl (fun _ => ?_) (fun z => absurd rfl z)
  refine j_iload C (i := 5) (x := nI ((oUndo s a (xs (6 * c + 1)) (xs (6 * c + 2))).2.1 25)) 1 rfl dL_law_781 (pc' := 783) rfl ?_
  refine j_if_ne C dL_law_783 (tgt := 798) (by decide) (pc' := 786) rfl (fun _ => ?_) (fun z0 => ?_)
  · skip
    refine j_goto C dL_law_798 (pc' := 1590) (by decide) ?_
    exact jW.locals [2, 3, 4, 5, 6] rfl (jW.widen (by omega) (by omega) (kk _ _ _ (I.next M hF1 ⟨v1, hv1⟩ hE1 hw)))
  · have z1 : (oUndo s a (xs (6 * c + 1)) (xs (6 * c + 2))).2.1 25 = 0 := (nI_eq (a := (oUndo s a (xs (6 * c + 1)) (xs (6 * c + 2))).2.1 25) (b := 0) (Nat.lt_of_lt_of_le (hw.1.J.1 25) (by decide)) (by decide)).mp z0
    refine j_aload_n C (i := 3) (x := oo) 5 rfl dL_law_786 (pc' := 787) rfl ?_
    refine j_iconst C (v := nI 0) rfl dL_law_787 (pc' := 788) rfl ?_
    refine j_lald C (a := oo) (N := 1) (j := 0) (f := v1) ((hM_off I.off.1 I.off.2).trans hv1) rfl (by decide) (by decide) dL_law_788 (pc' := 789) rfl ?_
    refine j_iload C (i := 6) (x := (oUndo s a (xs (6 * c + 1)) (xs (6 * c + 2))).1) 0 rfl dL_law_789 (pc' := 791) rfl ?_
    refine j_i2l C (x := (oUndo s a (xs (6 * c + 1)) (xs (6 * c + 2))).1) rfl dL_law_791 (pc' := 792) rfl ?_
    refine j_lcmp C dL_law_792 (pc' := 793) rfl ?_
    refine jt_i (y := 0) (by rw [hz z1]; exact lg_self _) ?_
    refine j_if_eq C dL_law_793 (tgt := 798) (by decide) (pc' := 796) rfl (fun _ => ?_) (fun z => absurd rfl z)
    refine j_goto C dL_law_798 (pc' := 1590) (by decide) ?_
    exact jW.locals [2, 3, 4, 5, 6] rfl (jW.widen (by omega) (by omega) (kk _ _ _ (I.next M hF1 ⟨v1, hv1⟩ hE1 hw)))
set_option maxRecDepth 100000 in
set_option maxHeartbeats 4000000 in
theorem k_10 (C : jC X G cL_law 7 wsL_law RL) (hXR : X.2.2.2.1 = room_1) (M : mG mo ad) (hX : va_X b L xs X.2.2.2.2.1 X.2.2.2.2.1.heap) (hb : b < X.2.2.2.2.1.heap.size) (hA : b < G.1) (hL : L ≤ 3072) (hc : c < 512) (hj : 6 * c + 6 ≤ L) (I : LwI G mo oo ad xo xa c s a h) (hk : k + 43 ≤ 601024) (hn : n + 258 ≤ 7293034) (kk : ∀ s' a' h', LwI G mo oo ad xo xa (c + 1) s' a' h' → jW X G 7 (k + 43) (n + 258) 1590 [(0, .ref b), (1, .ref xo), (2, .ref mo), (3, .ref oo), (4, .int (nI (6 * c)))] [] h') : jW X G 7 k n 801 [(0, .ref b), (1, .ref xo), (2, .ref mo), (3, .ref oo), (4, .int (nI (6 * c)))] [] h := by
  refine j_aload_n C (i := 1) (x := xo) 1 rfl dL_law_801 (pc' := 802) rfl ?_
  have hw := I.1.things
  obtain ⟨v, hv⟩ := I.2.2.2.2
  obtain ⟨th, va, ca, ma, dat, cap, mod, df, vf, dr, mf, Q, hPo⟩ := I.2.1
  refine j_callV C (As := []) (rest := []) (c_things X.2.1 C.2.2.2.2.2.2.2.2 G Q I.1.1.J I.1.1.I) (cwV 0 C.2.2.2.2.1 gL_law_X3_things rfl rfl rfl (by decide +kernel) (by rw [hXR]; decide)) Q.obj rfl rfl rfl (Nat.le_of_ble_eq_true rfl) dL_law_802 (pc' := 805) rfl (by rw [hXR]; show k + 0 ≤ 601024; omega) (by rw [hXR]; show n + 0 ≤ 7293034; omega) (fun _ _ z => z.elim) ?_
  rintro r h1 ⟨rfl, hh⟩
  have hh := hh.symm
  subst hh
  have hF1 : ∀ w, LwP mo oo ad w → w ≠ oo → h w = h w := fun w _ _ => rfl
  have hv1 := hv
  have hE1 : cE G (LwP mo oo ad) xo xa (oThings s a).2.1 (oThings s a).2.2 h := I.2.1.same (fun f h25 _ => up_n h25) (fun f _ _ _ _ _ => rfl)
  show jW X G 7 (k + 0) (n + 0) 805 [(0, .ref b), (1, .ref xo), (2, .ref mo), (3, .ref oo), (4, .int (nI (6 * c)))] [.int (oThings s a).1] h
  refine j_aload_n C (i := 2) (x := mo) 2 rfl dL_law_805 (pc' := 806) rfl ?_
  refine jt_h (I.mid M hF1) ?_
  refine j_callV C (As := []) (rest := [.int (oThings s a).1]) (m_things X.2.1 C.2.2.2.2.2.2.2.2 G M s a I.1.1.J I.1.1.I) (cwV 0 C.2.2.2.2.1 gL_law_X4_things rfl rfl rfl (by decide +kernel) (by rw [hXR]; decide)) hM_obj rfl rfl rfl (Nat.le_of_ble_eq_true rfl) dL_law_806 (pc' := 809) rfl (by rw [hXR]; show k + 0 + 0 ≤ 601024; omega) (by rw [hXR]; show n + 0 + 0 ≤ 7293034; omega) (fun _ _ z => z.elim) ?_
  rintro r h' ⟨rfl, rfl⟩
  show jW X G 7 (k + 0) (n + 0) 809 [(0, .ref b), (1, .ref xo), (2, .ref mo), (3, .ref oo), (4, .int (nI (6 * c)))] [.int (oThings s a).1, .int (oThings s a).1] (hM G mo ad h (oThings s a).2.1 (oThings s a).2.2)
  refine j_icmp_eq C dL_law_809 (tgt := 1590) (by decide) (pc' := 812) rfl (fun _ => ?_) (fun z => absurd rfl z)
  exact jW.widen (by omega) (by omega) (kk _ _ _ (I.next M hF1 ⟨_, hv1⟩ hE1 hw))
set_option maxRecDepth 100000 in
set_option maxHeartbeats 4000000 in
theorem k_11 (C : jC X G cL_law 7 wsL_law RL) (hXR : X.2.2.2.1 = room_1) (M : mG mo ad) (hX : va_X b L xs X.2.2.2.2.1 X.2.2.2.2.1.heap) (hb : b < X.2.2.2.2.1.heap.size) (hA : b < G.1) (hL : L ≤ 3072) (hc : c < 512) (hj : 6 * c + 6 ≤ L) (I : LwI G mo oo ad xo xa c s a h) (hk : k + 43 ≤ 601024) (hn : n + 258 ≤ 7293034) (kk : ∀ s' a' h', LwI G mo oo ad xo xa (c + 1) s' a' h' → jW X G 7 (k + 43) (n + 258) 1590 [(0, .ref b), (1, .ref xo), (2, .ref mo), (3, .ref oo), (4, .int (nI (6 * c)))] [] h') : jW X G 7 k n 814 [(0, .ref b), (1, .ref xo), (2, .ref mo), (3, .ref oo), (4, .int (nI (6 * c)))] [] h := by
  refine j_aload_n C (i := 1) (x := xo) 1 rfl dL_law_814 (pc' := 815) rfl ?_
  refine j_aload_n C (i := 0) (x := b) 0 rfl dL_law_815 (pc' := 816) rfl ?_
  refine j_iload C (i := 4) (x := nI (6 * c)) 4 rfl dL_law_816 (pc' := 818) rfl ?_
  refine j_iconst C (v := nI 1) rfl dL_law_818 (pc' := 819) rfl ?_
  refine j_iadd C dL_law_819 (pc' := 820) rfl ?_
  refine j_sld C hX hb hA (j := 6 * c + 1) (nI_add _ _) (by omega) (by omega) dL_law_820 (pc' := 821) rfl ?_
  refine j_aload_n C (i := 3) (x := oo) 3 rfl dL_law_821 (pc' := 822) rfl ?_
  have hw := I.1.latest (xs (6 * c + 1))
  obtain ⟨v, hv⟩ := I.2.2.2.2
  refine j_callSX C (As := [.ref xo, .int (xs (6 * c + 1)), .ref oo]) (rest := []) (w_latest X.2.1 C.2.2.2.2.2.2.2.2 G (xs (6 * c + 1)) I.1 hc I.2.1 I.Pn (Or.inr (Or.inl rfl)) hv) (vx_cwSW 3 C.2.2.2.2.1 gL_law_L_latest rfl rfl rfl (by decide +kernel) (by rw [hXR]; decide)) rfl rfl (Nat.le_of_ble_eq_true rfl) dL_law_822 (pc' := 825) rfl (by rw [hXR]; show k + 1 ≤ 601024; omega) (by rw [hXR]; show n + 6 ≤ 7293034; omega) (fun _ _ z => z.elim) ?_
  rintro r h1 ⟨rfl, ⟨v1, hv1, hz⟩, hE1, hF1⟩
  show jW X G 7 (k + 1) (n + 6) 825 [(0, .ref b), (1, .ref xo), (2, .ref mo), (3, .ref oo), (4, .int (nI (6 * c)))] [.int (nI ((oLatest s a (xs (6 * c + 1))).2.1 25))] (h1)
  refine j_istore C (i := 5) (x := nI ((oLatest s a (xs (6 * c + 1))).2.1 25)) (l' := [(5, .int (nI ((oLatest s a (xs (6 * c + 1))).2.1 25))), (0, .ref b), (1, .ref xo), (2, .ref mo), (3, .ref oo), (4, .int (nI (6 * c)))]) dL_law_825 (pc' := 827) rfl (by decide) rfl ?_
  refine j_aload_n C (i := 2) (x := mo) 3 rfl dL_law_827 (pc' := 828) rfl ?_
  refine j_aload_n C (i := 0) (x := b) 1 rfl dL_law_828 (pc' := 829) rfl ?_
  refine j_iload C (i := 4) (x := nI (6 * c)) 5 rfl dL_law_829 (pc' := 831) rfl ?_
  refine j_iconst C (v := nI 1) rfl dL_law_831 (pc' := 832) rfl ?_
  refine j_iadd C dL_law_832 (pc' := 833) rfl ?_
  refine j_sld C hX hb hA (j := 6 * c + 1) (nI_add _ _) (by omega) (by omega) dL_law_833 (pc' := 834) rfl ?_
  refine jt_h (I.mid M hF1) ?_
  refine j_callV C (As := [.int (xs (6 * c + 1))]) (rest := []) (m_latest X.2.1 C.2.2.2.2.2.2.2.2 G M s a (xs (6 * c + 1)) I.1.1.J I.1.1.I) (cwV 1 C.2.2.2.2.1 gL_law_X4_latest rfl rfl rfl (by decide +kernel) (by rw [hXR]; decide)) hM_obj rfl rfl rfl (Nat.le_of_ble_eq_true rfl) dL_law_834 (pc' := 837) rfl (by rw [hXR]; show k + 1 + 0 ≤ 601024; omega) (by rw [hXR]; show n + 6 + 0 ≤ 7293034; omega) (fun _ _ z => z.elim) ?_
  rintro r h' ⟨rfl, rfl⟩
  show jW X G 7 (k + 1) (n + 6) 837 [(5, .int (nI ((oLatest s a (xs (6 * c + 1))).2.1 25))), (0, .ref b), (1, .ref xo), (2, .ref mo), (3, .ref oo), (4, .int (nI (6 * c)))] [.int ((oLatest s a (xs (6 * c + 1))).1)] (hM G mo ad h1 (oLatest s a (xs (6 * c + 1))).2.1 (oLatest s a (xs (6 * c + 1))).2.2)
  refine j_istore C (i := 6) (x := (oLatest s a (xs (6 * c + 1))).1) (l' := [(6, .int ((oLatest s a (xs (6 * c + 1))).1)), (5, .int (nI ((oLatest s a (xs (6 * c + 1))).2.1 25))), (0, .ref b), (1, .ref xo), (2, .ref mo), (3, .ref oo), (4, .int (nI (6 * c)))]) dL_law_837 (pc' := 839) rfl (by decide) rfl ?_
  refine j_aload_n C (i := 2) (x := mo) 4 rfl dL_law_839 (pc' := 840) rfl ?_
  refine j_callV C (As := []) (rest := []) (m_thrown X.2.1 C.2.2.2.2.2.2.2.2 G M (oLatest s a (xs (6 * c + 1))).2.1 (oLatest s a (xs (6 * c + 1))).2.2) (cwV 0 C.2.2.2.2.1 gL_law_X4_thrown rfl rfl rfl (by decide +kernel) (by rw [hXR]; decide)) hM_obj rfl rfl rfl (Nat.le_of_ble_eq_true rfl) dL_law_840 (pc' := 843) rfl (by rw [hXR]; show k + 1 + 0 ≤ 601024; omega) (by rw [hXR]; show n + 6 + 0 ≤ 7293034; omega) (fun _ _ z => z.elim) ?_
  rintro r h' ⟨rfl, rfl⟩
  show jW X G 7 (k + 1) (n + 6) 843 [(6, .int ((oLatest s a (xs (6 * c + 1))).1)), (5, .int (nI ((oLatest s a (xs (6 * c + 1))).2.1 25))), (0, .ref b), (1, .ref xo), (2, .ref mo), (3, .ref oo), (4, .int (nI (6 * c)))] [.int (nI ((oLatest s a (xs (6 * c + 1))).2.1 25))] (hM G mo ad h1 (oLatest s a (xs (6 * c + 1))).2.1 (oLatest s a (xs (6 * c + 1))).2.2)
  refine j_iload C (i := 5) (x := nI ((oLatest s a (xs (6 * c + 1))).2.1 25)) 1 rfl dL_law_843 (pc' := 845) rfl ?_
  refine j_icmp_eq C dL_law_845 (tgt := 850) (by decide) (pc' := 848) rfl (fun _ => ?_) (fun z => absurd rfl z)
  refine j_iload C (i := 5) (x := nI ((oLatest s a (xs (6 * c + 1))).2.1 25)) 1 rfl dL_law_850 (pc' := 852) rfl ?_
  refine j_if_ne C dL_law_852 (tgt := 867) (by decide) (pc' := 855) rfl (fun _ => ?_) (fun z0 => ?_)
  · skip
    refine j_goto C dL_law_867 (pc' := 1590) (by decide) ?_
    exact jW.locals [2, 3, 4, 5, 6] rfl (jW.widen (by omega) (by omega) (kk _ _ _ (I.next M hF1 ⟨v1, hv1⟩ hE1 hw)))
  · have z1 : (oLatest s a (xs (6 * c + 1))).2.1 25 = 0 := (nI_eq (a := (oLatest s a (xs (6 * c + 1))).2.1 25) (b := 0) (Nat.lt_of_lt_of_le (hw.1.J.1 25) (by decide)) (by decide)).mp z0
    refine j_aload_n C (i := 3) (x := oo) 5 rfl dL_law_855 (pc' := 856) rfl ?_
    refine j_iconst C (v := nI 0) rfl dL_law_856 (pc' := 857) rfl ?_
    refine j_lald C (a := oo) (N := 1) (j := 0) (f := v1) ((hM_off I.off.1 I.off.2).trans hv1) rfl (by decide) (by decide) dL_law_857 (pc' := 858) rfl ?_
    refine j_iload C (i := 6) (x := (oLatest s a (xs (6 * c + 1))).1) 0 rfl dL_law_858 (pc' := 860) rfl ?_
    refine j_i2l C (x := (oLatest s a (xs (6 * c + 1))).1) rfl dL_law_860 (pc' := 861) rfl ?_
    refine j_lcmp C dL_law_861 (pc' := 862) rfl ?_
    refine jt_i (y := 0) (by rw [hz z1]; exact lg_self _) ?_
    refine j_if_eq C dL_law_862 (tgt := 867) (by decide) (pc' := 865) rfl (fun _ => ?_) (fun z => absurd rfl z)
    refine j_goto C dL_law_867 (pc' := 1590) (by decide) ?_
    exact jW.locals [2, 3, 4, 5, 6] rfl (jW.widen (by omega) (by omega) (kk _ _ _ (I.next M hF1 ⟨v1, hv1⟩ hE1 hw)))
set_option maxRecDepth 100000 in
set_option maxHeartbeats 4000000 in
theorem k_12 (C : jC X G cL_law 7 wsL_law RL) (hXR : X.2.2.2.1 = room_1) (M : mG mo ad) (hX : va_X b L xs X.2.2.2.2.1 X.2.2.2.2.1.heap) (hb : b < X.2.2.2.2.1.heap.size) (hA : b < G.1) (hL : L ≤ 3072) (hc : c < 512) (hj : 6 * c + 6 ≤ L) (I : LwI G mo oo ad xo xa c s a h) (hk : k + 43 ≤ 601024) (hn : n + 258 ≤ 7293034) (kk : ∀ s' a' h', LwI G mo oo ad xo xa (c + 1) s' a' h' → jW X G 7 (k + 43) (n + 258) 1590 [(0, .ref b), (1, .ref xo), (2, .ref mo), (3, .ref oo), (4, .int (nI (6 * c)))] [] h') : jW X G 7 k n 870 [(0, .ref b), (1, .ref xo), (2, .ref mo), (3, .ref oo), (4, .int (nI (6 * c)))] [] h := by
  refine j_aload_n C (i := 1) (x := xo) 1 rfl dL_law_870 (pc' := 871) rfl ?_
  refine j_aload_n C (i := 0) (x := b) 0 rfl dL_law_871 (pc' := 872) rfl ?_
  refine j_iload C (i := 4) (x := nI (6 * c)) 4 rfl dL_law_872 (pc' := 874) rfl ?_
  refine j_iconst C (v := nI 1) rfl dL_law_874 (pc' := 875) rfl ?_
  refine j_iadd C dL_law_875 (pc' := 876) rfl ?_
  refine j_sld C hX hb hA (j := 6 * c + 1) (nI_add _ _) (by omega) (by omega) dL_law_876 (pc' := 877) rfl ?_
  refine j_aload_n C (i := 3) (x := oo) 3 rfl dL_law_877 (pc' := 878) rfl ?_
  have hw := I.1.isThere (xs (6 * c + 1))
  obtain ⟨v, hv⟩ := I.2.2.2.2
  refine j_callSX C (As := [.ref xo, .int (xs (6 * c + 1)), .ref oo]) (rest := []) (w_isThere X.2.1 C.2.2.2.2.2.2.2.2 G (xs (6 * c + 1)) I.1 hc I.2.1 I.Pn (Or.inr (Or.inl rfl)) hv) (vx_cwSW 3 C.2.2.2.2.1 gL_law_L_isThere rfl rfl rfl (by decide +kernel) (by rw [hXR]; decide)) rfl rfl (Nat.le_of_ble_eq_true rfl) dL_law_878 (pc' := 881) rfl (by rw [hXR]; show k + 1 ≤ 601024; omega) (by rw [hXR]; show n + 6 ≤ 7293034; omega) (fun _ _ z => z.elim) ?_
  rintro r h1 ⟨rfl, ⟨v1, hv1, hz⟩, hE1, hF1⟩
  show jW X G 7 (k + 1) (n + 6) 881 [(0, .ref b), (1, .ref xo), (2, .ref mo), (3, .ref oo), (4, .int (nI (6 * c)))] [.int (nI ((oIsThere s a (xs (6 * c + 1))).2.1 25))] (h1)
  refine j_istore C (i := 5) (x := nI ((oIsThere s a (xs (6 * c + 1))).2.1 25)) (l' := [(5, .int (nI ((oIsThere s a (xs (6 * c + 1))).2.1 25))), (0, .ref b), (1, .ref xo), (2, .ref mo), (3, .ref oo), (4, .int (nI (6 * c)))]) dL_law_881 (pc' := 883) rfl (by decide) rfl ?_
  refine j_aload_n C (i := 2) (x := mo) 3 rfl dL_law_883 (pc' := 884) rfl ?_
  refine j_aload_n C (i := 0) (x := b) 1 rfl dL_law_884 (pc' := 885) rfl ?_
  refine j_iload C (i := 4) (x := nI (6 * c)) 5 rfl dL_law_885 (pc' := 887) rfl ?_
  refine j_iconst C (v := nI 1) rfl dL_law_887 (pc' := 888) rfl ?_
  refine j_iadd C dL_law_888 (pc' := 889) rfl ?_
  refine j_sld C hX hb hA (j := 6 * c + 1) (nI_add _ _) (by omega) (by omega) dL_law_889 (pc' := 890) rfl ?_
  refine jt_h (I.mid M hF1) ?_
  refine j_callV C (As := [.int (xs (6 * c + 1))]) (rest := []) (m_isThere X.2.1 C.2.2.2.2.2.2.2.2 G M s a (xs (6 * c + 1)) I.1.1.J I.1.1.I) (cwV 1 C.2.2.2.2.1 gL_law_X4_isThere rfl rfl rfl (by decide +kernel) (by rw [hXR]; decide)) hM_obj rfl rfl rfl (Nat.le_of_ble_eq_true rfl) dL_law_890 (pc' := 893) rfl (by rw [hXR]; show k + 1 + 0 ≤ 601024; omega) (by rw [hXR]; show n + 6 + 0 ≤ 7293034; omega) (fun _ _ z => z.elim) ?_
  rintro r h' ⟨rfl, rfl⟩
  show jW X G 7 (k + 1) (n + 6) 893 [(5, .int (nI ((oIsThere s a (xs (6 * c + 1))).2.1 25))), (0, .ref b), (1, .ref xo), (2, .ref mo), (3, .ref oo), (4, .int (nI (6 * c)))] [.int ((oIsThere s a (xs (6 * c + 1))).1)] (hM G mo ad h1 (oIsThere s a (xs (6 * c + 1))).2.1 (oIsThere s a (xs (6 * c + 1))).2.2)
  refine j_istore C (i := 6) (x := (oIsThere s a (xs (6 * c + 1))).1) (l' := [(6, .int ((oIsThere s a (xs (6 * c + 1))).1)), (5, .int (nI ((oIsThere s a (xs (6 * c + 1))).2.1 25))), (0, .ref b), (1, .ref xo), (2, .ref mo), (3, .ref oo), (4, .int (nI (6 * c)))]) dL_law_893 (pc' := 895) rfl (by decide) rfl ?_
  refine j_aload_n C (i := 2) (x := mo) 4 rfl dL_law_895 (pc' := 896) rfl ?_
  refine j_callV C (As := []) (rest := []) (m_thrown X.2.1 C.2.2.2.2.2.2.2.2 G M (oIsThere s a (xs (6 * c + 1))).2.1 (oIsThere s a (xs (6 * c + 1))).2.2) (cwV 0 C.2.2.2.2.1 gL_law_X4_thrown rfl rfl rfl (by decide +kernel) (by rw [hXR]; decide)) hM_obj rfl rfl rfl (Nat.le_of_ble_eq_true rfl) dL_law_896 (pc' := 899) rfl (by rw [hXR]; show k + 1 + 0 ≤ 601024; omega) (by rw [hXR]; show n + 6 + 0 ≤ 7293034; omega) (fun _ _ z => z.elim) ?_
  rintro r h' ⟨rfl, rfl⟩
  show jW X G 7 (k + 1) (n + 6) 899 [(6, .int ((oIsThere s a (xs (6 * c + 1))).1)), (5, .int (nI ((oIsThere s a (xs (6 * c + 1))).2.1 25))), (0, .ref b), (1, .ref xo), (2, .ref mo), (3, .ref oo), (4, .int (nI (6 * c)))] [.int (nI ((oIsThere s a (xs (6 * c + 1))).2.1 25))] (hM G mo ad h1 (oIsThere s a (xs (6 * c + 1))).2.1 (oIsThere s a (xs (6 * c + 1))).2.2)
  refine j_iload C (i := 5) (x := nI ((oIsThere s a (xs (6 * c + 1))).2.1 25)) 1 rfl dL_law_899 (pc' := 901) rfl ?_
  refine j_icmp_eq C dL_law_901 (tgt := 906) (by decide) (pc' := 904) rfl (fun _ => ?_) (fun z => absurd rfl z)
  refine j_iload C (i := 5) (x := nI ((oIsThere s a (xs (6 * c + 1))).2.1 25)) 1 rfl dL_law_906 (pc' := 908) rfl ?_
  refine j_if_ne C dL_law_908 (tgt := 930) (by decide) (pc' := 911) rfl (fun _ => ?_) (fun z0 => ?_)
  · skip
    refine j_goto C dL_law_930 (pc' := 1590) (by decide) ?_
    exact jW.locals [2, 3, 4, 5, 6] rfl (jW.widen (by omega) (by omega) (kk _ _ _ (I.next M hF1 ⟨v1, hv1⟩ hE1 hw)))
  · have z1 : (oIsThere s a (xs (6 * c + 1))).2.1 25 = 0 := (nI_eq (a := (oIsThere s a (xs (6 * c + 1))).2.1 25) (b := 0) (Nat.lt_of_lt_of_le (hw.1.J.1 25) (by decide)) (by decide)).mp z0
    refine j_aload_n C (i := 3) (x := oo) 5 rfl dL_law_911 (pc' := 912) rfl ?_
    refine j_iconst C (v := nI 0) rfl dL_law_912 (pc' := 913) rfl ?_
    refine j_lald C (a := oo) (N := 1) (j := 0) (f := v1) ((hM_off I.off.1 I.off.2).trans hv1) rfl (by decide) (by decide) dL_law_913 (pc' := 914) rfl ?_
    refine j_iload C (i := 6) (x := (oIsThere s a (xs (6 * c + 1))).1) 0 rfl dL_law_914 (pc' := 916) rfl ?_
    refine j_if_eq C dL_law_916 (tgt := 923) (by decide) (pc' := 919) rfl (fun y0 => ?_) (fun y0 => ?_)
    · refine j_lconst C (v := 0) rfl dL_law_923 (pc' := 924) rfl ?_
      refine j_lcmp C dL_law_924 (pc' := 925) rfl ?_
      refine jt_i (y := 0) (by rw [hz z1, y0]; decide) ?_
      refine j_if_eq C dL_law_925 (tgt := 930) (by decide) (pc' := 928) rfl (fun _ => ?_) (fun z => absurd rfl z)
      refine j_goto C dL_law_930 (pc' := 1590) (by decide) ?_
      exact jW.locals [2, 3, 4, 5, 6] rfl (jW.widen (by omega) (by omega) (kk _ _ _ (I.next M hF1 ⟨v1, hv1⟩ hE1 hw)))
    · refine j_lconst C (v := 1) rfl dL_law_919 (pc' := 920) rfl ?_
      refine j_goto C dL_law_920 (pc' := 924) (by decide) ?_
      refine j_lcmp C dL_law_924 (pc' := 925) rfl ?_
      refine jt_i (y := 0) (by rw [hz z1, (isThere_01 _).resolve_left y0]; decide) ?_
      refine j_if_eq C dL_law_925 (tgt := 930) (by decide) (pc' := 928) rfl (fun _ => ?_) (fun z => absurd rfl z)
      refine j_goto C dL_law_930 (pc' := 1590) (by decide) ?_
      exact jW.locals [2, 3, 4, 5, 6] rfl (jW.widen (by omega) (by omega) (kk _ _ _ (I.next M hF1 ⟨v1, hv1⟩ hE1 hw)))
set_option maxRecDepth 100000 in
set_option maxHeartbeats 4000000 in
theorem k_13 (C : jC X G cL_law 7 wsL_law RL) (hXR : X.2.2.2.1 = room_1) (M : mG mo ad) (hX : va_X b L xs X.2.2.2.2.1 X.2.2.2.2.1.heap) (hb : b < X.2.2.2.2.1.heap.size) (hA : b < G.1) (hL : L ≤ 3072) (hc : c < 512) (hj : 6 * c + 6 ≤ L) (I : LwI G mo oo ad xo xa c s a h) (hk : k + 43 ≤ 601024) (hn : n + 258 ≤ 7293034) (kk : ∀ s' a' h', LwI G mo oo ad xo xa (c + 1) s' a' h' → jW X G 7 (k + 43) (n + 258) 1590 [(0, .ref b), (1, .ref xo), (2, .ref mo), (3, .ref oo), (4, .int (nI (6 * c)))] [] h') : jW X G 7 k n 933 [(0, .ref b), (1, .ref xo), (2, .ref mo), (3, .ref oo), (4, .int (nI (6 * c)))] [] h := by
  refine j_aload_n C (i := 1) (x := xo) 1 rfl dL_law_933 (pc' := 934) rfl ?_
  refine j_aload_n C (i := 0) (x := b) 0 rfl dL_law_934 (pc' := 935) rfl ?_
  refine j_iload C (i := 4) (x := nI (6 * c)) 4 rfl dL_law_935 (pc' := 937) rfl ?_
  refine j_iconst C (v := nI 1) rfl dL_law_937 (pc' := 938) rfl ?_
  refine j_iadd C dL_law_938 (pc' := 939) rfl ?_
  refine j_sld C hX hb hA (j := 6 * c + 1) (nI_add _ _) (by omega) (by omega) dL_law_939 (pc' := 940) rfl ?_
  refine j_aload_n C (i := 3) (x := oo) 3 rfl dL_law_940 (pc' := 941) rfl ?_
  have hw := I.1.whereIs (xs (6 * c + 1))
  obtain ⟨v, hv⟩ := I.2.2.2.2
  refine j_callSX C (As := [.ref xo, .int (xs (6 * c + 1)), .ref oo]) (rest := []) (w_whereIs X.2.1 C.2.2.2.2.2.2.2.2 G (xs (6 * c + 1)) I.1 hc I.2.1 I.Pn (Or.inr (Or.inl rfl)) hv) (vx_cwSW 3 C.2.2.2.2.1 gL_law_L_whereIs rfl rfl rfl (by decide +kernel) (by rw [hXR]; decide)) rfl rfl (Nat.le_of_ble_eq_true rfl) dL_law_941 (pc' := 944) rfl (by rw [hXR]; show k + 2 ≤ 601024; omega) (by rw [hXR]; show n + 12 ≤ 7293034; omega) (fun _ _ z => z.elim) ?_
  rintro r h1 ⟨rfl, ⟨v1, hv1, hz⟩, hE1, hF1⟩
  show jW X G 7 (k + 2) (n + 12) 944 [(0, .ref b), (1, .ref xo), (2, .ref mo), (3, .ref oo), (4, .int (nI (6 * c)))] [.int (nI ((oWhereIs s a (xs (6 * c + 1))).2.1 25))] (h1)
  refine j_istore C (i := 5) (x := nI ((oWhereIs s a (xs (6 * c + 1))).2.1 25)) (l' := [(5, .int (nI ((oWhereIs s a (xs (6 * c + 1))).2.1 25))), (0, .ref b), (1, .ref xo), (2, .ref mo), (3, .ref oo), (4, .int (nI (6 * c)))]) dL_law_944 (pc' := 946) rfl (by decide) rfl ?_
  refine j_aload_n C (i := 2) (x := mo) 3 rfl dL_law_946 (pc' := 947) rfl ?_
  refine j_aload_n C (i := 0) (x := b) 1 rfl dL_law_947 (pc' := 948) rfl ?_
  refine j_iload C (i := 4) (x := nI (6 * c)) 5 rfl dL_law_948 (pc' := 950) rfl ?_
  refine j_iconst C (v := nI 1) rfl dL_law_950 (pc' := 951) rfl ?_
  refine j_iadd C dL_law_951 (pc' := 952) rfl ?_
  refine j_sld C hX hb hA (j := 6 * c + 1) (nI_add _ _) (by omega) (by omega) dL_law_952 (pc' := 953) rfl ?_
  refine jt_h (I.mid M hF1) ?_
  refine j_callV C (As := [.int (xs (6 * c + 1))]) (rest := []) (m_whereIs X.2.1 C.2.2.2.2.2.2.2.2 G M s a (xs (6 * c + 1)) I.1.1.J I.1.1.I) (cwV 1 C.2.2.2.2.1 gL_law_X4_whereIs rfl rfl rfl (by decide +kernel) (by rw [hXR]; decide)) hM_obj rfl rfl rfl (Nat.le_of_ble_eq_true rfl) dL_law_953 (pc' := 956) rfl (by rw [hXR]; show k + 2 + 0 ≤ 601024; omega) (by rw [hXR]; show n + 12 + 0 ≤ 7293034; omega) (fun _ _ z => z.elim) ?_
  rintro r h' ⟨rfl, rfl⟩
  show jW X G 7 (k + 2) (n + 12) 956 [(5, .int (nI ((oWhereIs s a (xs (6 * c + 1))).2.1 25))), (0, .ref b), (1, .ref xo), (2, .ref mo), (3, .ref oo), (4, .int (nI (6 * c)))] [.int ((oWhereIs s a (xs (6 * c + 1))).1)] (hM G mo ad h1 (oWhereIs s a (xs (6 * c + 1))).2.1 (oWhereIs s a (xs (6 * c + 1))).2.2)
  refine j_istore C (i := 6) (x := (oWhereIs s a (xs (6 * c + 1))).1) (l' := [(6, .int ((oWhereIs s a (xs (6 * c + 1))).1)), (5, .int (nI ((oWhereIs s a (xs (6 * c + 1))).2.1 25))), (0, .ref b), (1, .ref xo), (2, .ref mo), (3, .ref oo), (4, .int (nI (6 * c)))]) dL_law_956 (pc' := 958) rfl (by decide) rfl ?_
  refine j_aload_n C (i := 2) (x := mo) 4 rfl dL_law_958 (pc' := 959) rfl ?_
  refine j_callV C (As := []) (rest := []) (m_thrown X.2.1 C.2.2.2.2.2.2.2.2 G M (oWhereIs s a (xs (6 * c + 1))).2.1 (oWhereIs s a (xs (6 * c + 1))).2.2) (cwV 0 C.2.2.2.2.1 gL_law_X4_thrown rfl rfl rfl (by decide +kernel) (by rw [hXR]; decide)) hM_obj rfl rfl rfl (Nat.le_of_ble_eq_true rfl) dL_law_959 (pc' := 962) rfl (by rw [hXR]; show k + 2 + 0 ≤ 601024; omega) (by rw [hXR]; show n + 12 + 0 ≤ 7293034; omega) (fun _ _ z => z.elim) ?_
  rintro r h' ⟨rfl, rfl⟩
  show jW X G 7 (k + 2) (n + 12) 962 [(6, .int ((oWhereIs s a (xs (6 * c + 1))).1)), (5, .int (nI ((oWhereIs s a (xs (6 * c + 1))).2.1 25))), (0, .ref b), (1, .ref xo), (2, .ref mo), (3, .ref oo), (4, .int (nI (6 * c)))] [.int (nI ((oWhereIs s a (xs (6 * c + 1))).2.1 25))] (hM G mo ad h1 (oWhereIs s a (xs (6 * c + 1))).2.1 (oWhereIs s a (xs (6 * c + 1))).2.2)
  refine j_iload C (i := 5) (x := nI ((oWhereIs s a (xs (6 * c + 1))).2.1 25)) 1 rfl dL_law_962 (pc' := 964) rfl ?_
  refine j_icmp_eq C dL_law_964 (tgt := 969) (by decide) (pc' := 967) rfl (fun _ => ?_) (fun z => absurd rfl z)
  refine j_iload C (i := 5) (x := nI ((oWhereIs s a (xs (6 * c + 1))).2.1 25)) 1 rfl dL_law_969 (pc' := 971) rfl ?_
  refine j_if_ne C dL_law_971 (tgt := 986) (by decide) (pc' := 974) rfl (fun _ => ?_) (fun z0 => ?_)
  · skip
    refine j_goto C dL_law_986 (pc' := 1590) (by decide) ?_
    exact jW.locals [2, 3, 4, 5, 6] rfl (jW.widen (by omega) (by omega) (kk _ _ _ (I.next M hF1 ⟨v1, hv1⟩ hE1 hw)))
  · have z1 : (oWhereIs s a (xs (6 * c + 1))).2.1 25 = 0 := (nI_eq (a := (oWhereIs s a (xs (6 * c + 1))).2.1 25) (b := 0) (Nat.lt_of_lt_of_le (hw.1.J.1 25) (by decide)) (by decide)).mp z0
    refine j_aload_n C (i := 3) (x := oo) 5 rfl dL_law_974 (pc' := 975) rfl ?_
    refine j_iconst C (v := nI 0) rfl dL_law_975 (pc' := 976) rfl ?_
    refine j_lald C (a := oo) (N := 1) (j := 0) (f := v1) ((hM_off I.off.1 I.off.2).trans hv1) rfl (by decide) (by decide) dL_law_976 (pc' := 977) rfl ?_
    refine j_iload C (i := 6) (x := (oWhereIs s a (xs (6 * c + 1))).1) 0 rfl dL_law_977 (pc' := 979) rfl ?_
    refine j_i2l C (x := (oWhereIs s a (xs (6 * c + 1))).1) rfl dL_law_979 (pc' := 980) rfl ?_
    refine j_lcmp C dL_law_980 (pc' := 981) rfl ?_
    refine jt_i (y := 0) (by rw [hz z1]; exact lg_self _) ?_
    refine j_if_eq C dL_law_981 (tgt := 986) (by decide) (pc' := 984) rfl (fun _ => ?_) (fun z => absurd rfl z)
    refine j_goto C dL_law_986 (pc' := 1590) (by decide) ?_
    exact jW.locals [2, 3, 4, 5, 6] rfl (jW.widen (by omega) (by omega) (kk _ _ _ (I.next M hF1 ⟨v1, hv1⟩ hE1 hw)))
set_option maxRecDepth 100000 in
set_option maxHeartbeats 4000000 in
theorem k_14 (C : jC X G cL_law 7 wsL_law RL) (hXR : X.2.2.2.1 = room_1) (M : mG mo ad) (hX : va_X b L xs X.2.2.2.2.1 X.2.2.2.2.1.heap) (hb : b < X.2.2.2.2.1.heap.size) (hA : b < G.1) (hL : L ≤ 3072) (hc : c < 512) (hj : 6 * c + 6 ≤ L) (I : LwI G mo oo ad xo xa c s a h) (hk : k + 43 ≤ 601024) (hn : n + 258 ≤ 7293034) (kk : ∀ s' a' h', LwI G mo oo ad xo xa (c + 1) s' a' h' → jW X G 7 (k + 43) (n + 258) 1590 [(0, .ref b), (1, .ref xo), (2, .ref mo), (3, .ref oo), (4, .int (nI (6 * c)))] [] h') : jW X G 7 k n 989 [(0, .ref b), (1, .ref xo), (2, .ref mo), (3, .ref oo), (4, .int (nI (6 * c)))] [] h := by
  refine j_aload_n C (i := 1) (x := xo) 1 rfl dL_law_989 (pc' := 990) rfl ?_
  refine j_aload_n C (i := 0) (x := b) 0 rfl dL_law_990 (pc' := 991) rfl ?_
  refine j_iload C (i := 4) (x := nI (6 * c)) 4 rfl dL_law_991 (pc' := 993) rfl ?_
  refine j_iconst C (v := nI 1) rfl dL_law_993 (pc' := 994) rfl ?_
  refine j_iadd C dL_law_994 (pc' := 995) rfl ?_
  refine j_sld C hX hb hA (j := 6 * c + 1) (nI_add _ _) (by omega) (by omega) dL_law_995 (pc' := 996) rfl ?_
  refine j_aload_n C (i := 3) (x := oo) 3 rfl dL_law_996 (pc' := 997) rfl ?_
  have hw := I.1.members (xs (6 * c + 1))
  obtain ⟨v, hv⟩ := I.2.2.2.2
  refine j_callSX C (As := [.ref xo, .int (xs (6 * c + 1)), .ref oo]) (rest := []) (w_members X.2.1 C.2.2.2.2.2.2.2.2 G (xs (6 * c + 1)) I.1 hc I.2.1 I.Pn (Or.inr (Or.inl rfl)) hv) (vx_cwSW 3 C.2.2.2.2.1 gL_law_L_members rfl rfl rfl (by decide +kernel) (by rw [hXR]; decide)) rfl rfl (Nat.le_of_ble_eq_true rfl) dL_law_997 (pc' := 1000) rfl (by rw [hXR]; show k + 1 ≤ 601024; omega) (by rw [hXR]; show n + 6 ≤ 7293034; omega) (fun _ _ z => z.elim) ?_
  rintro r h1 ⟨rfl, ⟨v1, hv1, hz⟩, hE1, hF1⟩
  show jW X G 7 (k + 1) (n + 6) 1000 [(0, .ref b), (1, .ref xo), (2, .ref mo), (3, .ref oo), (4, .int (nI (6 * c)))] [.int (nI ((oMembers s a (xs (6 * c + 1))).2.1 25))] (h1)
  refine j_istore C (i := 5) (x := nI ((oMembers s a (xs (6 * c + 1))).2.1 25)) (l' := [(5, .int (nI ((oMembers s a (xs (6 * c + 1))).2.1 25))), (0, .ref b), (1, .ref xo), (2, .ref mo), (3, .ref oo), (4, .int (nI (6 * c)))]) dL_law_1000 (pc' := 1002) rfl (by decide) rfl ?_
  refine j_aload_n C (i := 2) (x := mo) 3 rfl dL_law_1002 (pc' := 1003) rfl ?_
  refine j_aload_n C (i := 0) (x := b) 1 rfl dL_law_1003 (pc' := 1004) rfl ?_
  refine j_iload C (i := 4) (x := nI (6 * c)) 5 rfl dL_law_1004 (pc' := 1006) rfl ?_
  refine j_iconst C (v := nI 1) rfl dL_law_1006 (pc' := 1007) rfl ?_
  refine j_iadd C dL_law_1007 (pc' := 1008) rfl ?_
  refine j_sld C hX hb hA (j := 6 * c + 1) (nI_add _ _) (by omega) (by omega) dL_law_1008 (pc' := 1009) rfl ?_
  refine jt_h (I.mid M hF1) ?_
  refine j_callV C (As := [.int (xs (6 * c + 1))]) (rest := []) (m_members X.2.1 C.2.2.2.2.2.2.2.2 G M s a (xs (6 * c + 1)) I.1.1.J I.1.1.I) (cwV 1 C.2.2.2.2.1 gL_law_X4_members rfl rfl rfl (by decide +kernel) (by rw [hXR]; decide)) hM_obj rfl rfl rfl (Nat.le_of_ble_eq_true rfl) dL_law_1009 (pc' := 1012) rfl (by rw [hXR]; show k + 1 + 0 ≤ 601024; omega) (by rw [hXR]; show n + 6 + 0 ≤ 7293034; omega) (fun _ _ z => z.elim) ?_
  rintro r h' ⟨rfl, rfl⟩
  show jW X G 7 (k + 1) (n + 6) 1012 [(5, .int (nI ((oMembers s a (xs (6 * c + 1))).2.1 25))), (0, .ref b), (1, .ref xo), (2, .ref mo), (3, .ref oo), (4, .int (nI (6 * c)))] [.int ((oMembers s a (xs (6 * c + 1))).1)] (hM G mo ad h1 (oMembers s a (xs (6 * c + 1))).2.1 (oMembers s a (xs (6 * c + 1))).2.2)
  refine j_istore C (i := 6) (x := (oMembers s a (xs (6 * c + 1))).1) (l' := [(6, .int ((oMembers s a (xs (6 * c + 1))).1)), (5, .int (nI ((oMembers s a (xs (6 * c + 1))).2.1 25))), (0, .ref b), (1, .ref xo), (2, .ref mo), (3, .ref oo), (4, .int (nI (6 * c)))]) dL_law_1012 (pc' := 1014) rfl (by decide) rfl ?_
  refine j_aload_n C (i := 2) (x := mo) 4 rfl dL_law_1014 (pc' := 1015) rfl ?_
  refine j_callV C (As := []) (rest := []) (m_thrown X.2.1 C.2.2.2.2.2.2.2.2 G M (oMembers s a (xs (6 * c + 1))).2.1 (oMembers s a (xs (6 * c + 1))).2.2) (cwV 0 C.2.2.2.2.1 gL_law_X4_thrown rfl rfl rfl (by decide +kernel) (by rw [hXR]; decide)) hM_obj rfl rfl rfl (Nat.le_of_ble_eq_true rfl) dL_law_1015 (pc' := 1018) rfl (by rw [hXR]; show k + 1 + 0 ≤ 601024; omega) (by rw [hXR]; show n + 6 + 0 ≤ 7293034; omega) (fun _ _ z => z.elim) ?_
  rintro r h' ⟨rfl, rfl⟩
  show jW X G 7 (k + 1) (n + 6) 1018 [(6, .int ((oMembers s a (xs (6 * c + 1))).1)), (5, .int (nI ((oMembers s a (xs (6 * c + 1))).2.1 25))), (0, .ref b), (1, .ref xo), (2, .ref mo), (3, .ref oo), (4, .int (nI (6 * c)))] [.int (nI ((oMembers s a (xs (6 * c + 1))).2.1 25))] (hM G mo ad h1 (oMembers s a (xs (6 * c + 1))).2.1 (oMembers s a (xs (6 * c + 1))).2.2)
  refine j_iload C (i := 5) (x := nI ((oMembers s a (xs (6 * c + 1))).2.1 25)) 1 rfl dL_law_1018 (pc' := 1020) rfl ?_
  refine j_icmp_eq C dL_law_1020 (tgt := 1025) (by decide) (pc' := 1023) rfl (fun _ => ?_) (fun z => absurd rfl z)
  refine j_iload C (i := 5) (x := nI ((oMembers s a (xs (6 * c + 1))).2.1 25)) 1 rfl dL_law_1025 (pc' := 1027) rfl ?_
  refine j_if_ne C dL_law_1027 (tgt := 1042) (by decide) (pc' := 1030) rfl (fun _ => ?_) (fun z0 => ?_)
  · skip
    refine j_goto C dL_law_1042 (pc' := 1590) (by decide) ?_
    exact jW.locals [2, 3, 4, 5, 6] rfl (jW.widen (by omega) (by omega) (kk _ _ _ (I.next M hF1 ⟨v1, hv1⟩ hE1 hw)))
  · have z1 : (oMembers s a (xs (6 * c + 1))).2.1 25 = 0 := (nI_eq (a := (oMembers s a (xs (6 * c + 1))).2.1 25) (b := 0) (Nat.lt_of_lt_of_le (hw.1.J.1 25) (by decide)) (by decide)).mp z0
    refine j_aload_n C (i := 3) (x := oo) 5 rfl dL_law_1030 (pc' := 1031) rfl ?_
    refine j_iconst C (v := nI 0) rfl dL_law_1031 (pc' := 1032) rfl ?_
    refine j_lald C (a := oo) (N := 1) (j := 0) (f := v1) ((hM_off I.off.1 I.off.2).trans hv1) rfl (by decide) (by decide) dL_law_1032 (pc' := 1033) rfl ?_
    refine j_iload C (i := 6) (x := (oMembers s a (xs (6 * c + 1))).1) 0 rfl dL_law_1033 (pc' := 1035) rfl ?_
    refine j_i2l C (x := (oMembers s a (xs (6 * c + 1))).1) rfl dL_law_1035 (pc' := 1036) rfl ?_
    refine j_lcmp C dL_law_1036 (pc' := 1037) rfl ?_
    refine jt_i (y := 0) (by rw [hz z1]; exact lg_self _) ?_
    refine j_if_eq C dL_law_1037 (tgt := 1042) (by decide) (pc' := 1040) rfl (fun _ => ?_) (fun z => absurd rfl z)
    refine j_goto C dL_law_1042 (pc' := 1590) (by decide) ?_
    exact jW.locals [2, 3, 4, 5, 6] rfl (jW.widen (by omega) (by omega) (kk _ _ _ (I.next M hF1 ⟨v1, hv1⟩ hE1 hw)))
set_option maxRecDepth 100000 in
set_option maxHeartbeats 4000000 in
theorem k_15 (C : jC X G cL_law 7 wsL_law RL) (hXR : X.2.2.2.1 = room_1) (M : mG mo ad) (hX : va_X b L xs X.2.2.2.2.1 X.2.2.2.2.1.heap) (hb : b < X.2.2.2.2.1.heap.size) (hA : b < G.1) (hL : L ≤ 3072) (hc : c < 512) (hj : 6 * c + 6 ≤ L) (I : LwI G mo oo ad xo xa c s a h) (hk : k + 43 ≤ 601024) (hn : n + 258 ≤ 7293034) (kk : ∀ s' a' h', LwI G mo oo ad xo xa (c + 1) s' a' h' → jW X G 7 (k + 43) (n + 258) 1590 [(0, .ref b), (1, .ref xo), (2, .ref mo), (3, .ref oo), (4, .int (nI (6 * c)))] [] h') : jW X G 7 k n 1045 [(0, .ref b), (1, .ref xo), (2, .ref mo), (3, .ref oo), (4, .int (nI (6 * c)))] [] h := by
  refine j_aload_n C (i := 1) (x := xo) 1 rfl dL_law_1045 (pc' := 1046) rfl ?_
  refine j_aload_n C (i := 0) (x := b) 0 rfl dL_law_1046 (pc' := 1047) rfl ?_
  refine j_iload C (i := 4) (x := nI (6 * c)) 4 rfl dL_law_1047 (pc' := 1049) rfl ?_
  refine j_iconst C (v := nI 1) rfl dL_law_1049 (pc' := 1050) rfl ?_
  refine j_iadd C dL_law_1050 (pc' := 1051) rfl ?_
  refine j_sld C hX hb hA (j := 6 * c + 1) (nI_add _ _) (by omega) (by omega) dL_law_1051 (pc' := 1052) rfl ?_
  refine j_aload_n C (i := 3) (x := oo) 3 rfl dL_law_1052 (pc' := 1053) rfl ?_
  have hw := I.1.usedBy (xs (6 * c + 1))
  obtain ⟨v, hv⟩ := I.2.2.2.2
  refine j_callSX C (As := [.ref xo, .int (xs (6 * c + 1)), .ref oo]) (rest := []) (w_usedBy X.2.1 C.2.2.2.2.2.2.2.2 G (xs (6 * c + 1)) I.1 hc I.2.1 I.Pn (Or.inr (Or.inl rfl)) hv) (vx_cwSW 3 C.2.2.2.2.1 gL_law_L_usedBy rfl rfl rfl (by decide +kernel) (by rw [hXR]; decide)) rfl rfl (Nat.le_of_ble_eq_true rfl) dL_law_1053 (pc' := 1056) rfl (by rw [hXR]; show k + 1 ≤ 601024; omega) (by rw [hXR]; show n + 6 ≤ 7293034; omega) (fun _ _ z => z.elim) ?_
  rintro r h1 ⟨rfl, ⟨v1, hv1, hz⟩, hE1, hF1⟩
  show jW X G 7 (k + 1) (n + 6) 1056 [(0, .ref b), (1, .ref xo), (2, .ref mo), (3, .ref oo), (4, .int (nI (6 * c)))] [.int (nI ((oUsedBy s a (xs (6 * c + 1))).2.1 25))] (h1)
  refine j_istore C (i := 5) (x := nI ((oUsedBy s a (xs (6 * c + 1))).2.1 25)) (l' := [(5, .int (nI ((oUsedBy s a (xs (6 * c + 1))).2.1 25))), (0, .ref b), (1, .ref xo), (2, .ref mo), (3, .ref oo), (4, .int (nI (6 * c)))]) dL_law_1056 (pc' := 1058) rfl (by decide) rfl ?_
  refine j_aload_n C (i := 2) (x := mo) 3 rfl dL_law_1058 (pc' := 1059) rfl ?_
  refine j_aload_n C (i := 0) (x := b) 1 rfl dL_law_1059 (pc' := 1060) rfl ?_
  refine j_iload C (i := 4) (x := nI (6 * c)) 5 rfl dL_law_1060 (pc' := 1062) rfl ?_
  refine j_iconst C (v := nI 1) rfl dL_law_1062 (pc' := 1063) rfl ?_
  refine j_iadd C dL_law_1063 (pc' := 1064) rfl ?_
  refine j_sld C hX hb hA (j := 6 * c + 1) (nI_add _ _) (by omega) (by omega) dL_law_1064 (pc' := 1065) rfl ?_
  refine jt_h (I.mid M hF1) ?_
  refine j_callV C (As := [.int (xs (6 * c + 1))]) (rest := []) (m_usedBy X.2.1 C.2.2.2.2.2.2.2.2 G M s a (xs (6 * c + 1)) I.1.1.J I.1.1.I) (cwV 1 C.2.2.2.2.1 gL_law_X4_usedBy rfl rfl rfl (by decide +kernel) (by rw [hXR]; decide)) hM_obj rfl rfl rfl (Nat.le_of_ble_eq_true rfl) dL_law_1065 (pc' := 1068) rfl (by rw [hXR]; show k + 1 + 0 ≤ 601024; omega) (by rw [hXR]; show n + 6 + 0 ≤ 7293034; omega) (fun _ _ z => z.elim) ?_
  rintro r h' ⟨rfl, rfl⟩
  show jW X G 7 (k + 1) (n + 6) 1068 [(5, .int (nI ((oUsedBy s a (xs (6 * c + 1))).2.1 25))), (0, .ref b), (1, .ref xo), (2, .ref mo), (3, .ref oo), (4, .int (nI (6 * c)))] [.int ((oUsedBy s a (xs (6 * c + 1))).1)] (hM G mo ad h1 (oUsedBy s a (xs (6 * c + 1))).2.1 (oUsedBy s a (xs (6 * c + 1))).2.2)
  refine j_istore C (i := 6) (x := (oUsedBy s a (xs (6 * c + 1))).1) (l' := [(6, .int ((oUsedBy s a (xs (6 * c + 1))).1)), (5, .int (nI ((oUsedBy s a (xs (6 * c + 1))).2.1 25))), (0, .ref b), (1, .ref xo), (2, .ref mo), (3, .ref oo), (4, .int (nI (6 * c)))]) dL_law_1068 (pc' := 1070) rfl (by decide) rfl ?_
  refine j_aload_n C (i := 2) (x := mo) 4 rfl dL_law_1070 (pc' := 1071) rfl ?_
  refine j_callV C (As := []) (rest := []) (m_thrown X.2.1 C.2.2.2.2.2.2.2.2 G M (oUsedBy s a (xs (6 * c + 1))).2.1 (oUsedBy s a (xs (6 * c + 1))).2.2) (cwV 0 C.2.2.2.2.1 gL_law_X4_thrown rfl rfl rfl (by decide +kernel) (by rw [hXR]; decide)) hM_obj rfl rfl rfl (Nat.le_of_ble_eq_true rfl) dL_law_1071 (pc' := 1074) rfl (by rw [hXR]; show k + 1 + 0 ≤ 601024; omega) (by rw [hXR]; show n + 6 + 0 ≤ 7293034; omega) (fun _ _ z => z.elim) ?_
  rintro r h' ⟨rfl, rfl⟩
  show jW X G 7 (k + 1) (n + 6) 1074 [(6, .int ((oUsedBy s a (xs (6 * c + 1))).1)), (5, .int (nI ((oUsedBy s a (xs (6 * c + 1))).2.1 25))), (0, .ref b), (1, .ref xo), (2, .ref mo), (3, .ref oo), (4, .int (nI (6 * c)))] [.int (nI ((oUsedBy s a (xs (6 * c + 1))).2.1 25))] (hM G mo ad h1 (oUsedBy s a (xs (6 * c + 1))).2.1 (oUsedBy s a (xs (6 * c + 1))).2.2)
  refine j_iload C (i := 5) (x := nI ((oUsedBy s a (xs (6 * c + 1))).2.1 25)) 1 rfl dL_law_1074 (pc' := 1076) rfl ?_
  refine j_icmp_eq C dL_law_1076 (tgt := 1081) (by decide) (pc' := 1079) rfl (fun _ => ?_) (fun z => absurd rfl z)
  refine j_iload C (i := 5) (x := nI ((oUsedBy s a (xs (6 * c + 1))).2.1 25)) 1 rfl dL_law_1081 (pc' := 1083) rfl ?_
  refine j_if_ne C dL_law_1083 (tgt := 1098) (by decide) (pc' := 1086) rfl (fun _ => ?_) (fun z0 => ?_)
  · skip
    refine j_goto C dL_law_1098 (pc' := 1590) (by decide) ?_
    exact jW.locals [2, 3, 4, 5, 6] rfl (jW.widen (by omega) (by omega) (kk _ _ _ (I.next M hF1 ⟨v1, hv1⟩ hE1 hw)))
  · have z1 : (oUsedBy s a (xs (6 * c + 1))).2.1 25 = 0 := (nI_eq (a := (oUsedBy s a (xs (6 * c + 1))).2.1 25) (b := 0) (Nat.lt_of_lt_of_le (hw.1.J.1 25) (by decide)) (by decide)).mp z0
    refine j_aload_n C (i := 3) (x := oo) 5 rfl dL_law_1086 (pc' := 1087) rfl ?_
    refine j_iconst C (v := nI 0) rfl dL_law_1087 (pc' := 1088) rfl ?_
    refine j_lald C (a := oo) (N := 1) (j := 0) (f := v1) ((hM_off I.off.1 I.off.2).trans hv1) rfl (by decide) (by decide) dL_law_1088 (pc' := 1089) rfl ?_
    refine j_iload C (i := 6) (x := (oUsedBy s a (xs (6 * c + 1))).1) 0 rfl dL_law_1089 (pc' := 1091) rfl ?_
    refine j_i2l C (x := (oUsedBy s a (xs (6 * c + 1))).1) rfl dL_law_1091 (pc' := 1092) rfl ?_
    refine j_lcmp C dL_law_1092 (pc' := 1093) rfl ?_
    refine jt_i (y := 0) (by rw [hz z1]; exact lg_self _) ?_
    refine j_if_eq C dL_law_1093 (tgt := 1098) (by decide) (pc' := 1096) rfl (fun _ => ?_) (fun z => absurd rfl z)
    refine j_goto C dL_law_1098 (pc' := 1590) (by decide) ?_
    exact jW.locals [2, 3, 4, 5, 6] rfl (jW.widen (by omega) (by omega) (kk _ _ _ (I.next M hF1 ⟨v1, hv1⟩ hE1 hw)))
end CASES
