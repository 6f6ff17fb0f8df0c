section L27
variable {g : hcG} {S : hcS} {I : hcI} {R : hcR} {z b i kc ks : Nat} {Q : hcQ}
theorem lc_15 (hrel : REL S I R b z) (hi : i + 6 ≤ g.2.2.1 7) (hL : g.2.2.1 7 < 2 ^ 31) (next : ∀ (S' : hcS) (I' : hcI) (R' : hcR) (z' : Nat), REL S' I' R' b z' → V g mL_law 114 kc ks S' I' R' z' 1459 (LL g b i) [] Q) : V g mL_law 114 (kc + 3) (ks + 200) S I R z 655 (LL g b i) [] Q := by
  have hrel' := hrel
  obtain ⟨N, Ni, im, so, si, ce, ho, hA, hB, hl, tl, tp, wt, te, hX, hM⟩ := hrel'
  have mn := hX.1.2.mn
  have s0 := hX.1.1.1.1
  have sm := hM.1.1
  unfold LL at next ⊢
  refine V.less (kc' := kc) (ks' := ks) ?_ (by omega) (by omega)
  refine v_aload_n (q := 656) dL_law_655 (kk := ?_)
  refine v_aload_n (q := 657) dL_law_656 (kk := ?_)
  refine v_iload_n (q := 658) dL_law_657 (kk := ?_)
  refine v_iconst (v := 1) (q := 659) dL_law_658 (kk := ?_)
  refine v_iadd (q := 660) dL_law_659 (kk := ?_)
  refine v_scld (q := 661) (i + 1) (nI_add i 1) (by omega) hL dL_law_660 (kk := ?_)
  refine v_aload_n (q := 662) dL_law_661 (kk := ?_)
  refine v_iload_n (q := 663) dL_law_662 (kk := ?_)
  refine v_iconst (v := 2) (q := 664) dL_law_663 (kk := ?_)
  refine v_iadd (q := 665) dL_law_664 (kk := ?_)
  refine v_scld (q := 666) (i + 2) (nI_add i 2) (by omega) hL dL_law_665 (kk := ?_)
  refine v_cV2 (N := mX6_behind) (q := 669) lL_77 iX6_behind kX6_behind s0 dL_law_666 (x_behind hX.1.1 hX.1.2 (fun I1 R1 f1 r1 => ?_))
  have X1 := hX.t f1 r1
  have M1 := hM.x (fun y a c => f1 y (by omega) (by unfold stk; omega)) (fun _ _ _ => rfl) (r1 _ (by omega))
  refine v_aload_n (q := 670) dL_law_669 (kk := ?_)
  refine v_aload_n (q := 671) dL_law_670 (kk := ?_)
  refine v_iload_n (q := 672) dL_law_671 (kk := ?_)
  refine v_iconst (v := 1) (q := 673) dL_law_672 (kk := ?_)
  refine v_iadd (q := 674) dL_law_673 (kk := ?_)
  refine v_scld (q := 675) (i + 1) (nI_add i 1) (by omega) hL dL_law_674 (kk := ?_)
  refine v_aload_n (q := 676) dL_law_675 (kk := ?_)
  refine v_iload_n (q := 677) dL_law_676 (kk := ?_)
  refine v_iconst (v := 2) (q := 678) dL_law_677 (kk := ?_)
  refine v_iadd (q := 679) dL_law_678 (kk := ?_)
  refine v_scld (q := 680) (i + 2) (nI_add i 2) (by omega) hL dL_law_679 (kk := ?_)
  refine v_cV2 (N := mX7_behind) (q := 683) lL_80 iX7_behind kX7_behind sm dL_law_680 (m_behind M1.1 M1.2.1 mn (fun I2 f2 n2 => ?_))
  have M2 := M1.n f2 n2
  have X2 := X1.mo (fun y hy => f2 y (by omega) (by omega) (by omega) (by omega))
  refine v_icmp_eqT 1459 dL_law_683 (rfl) (kt := ?_)
  exact next _ _ _ _ ⟨_, _, _, _, _, _, _, _, _, _, _, _, _, _, X2, M2⟩
theorem lc_16 (hrel : REL S I R b z) (hi : i + 6 ≤ g.2.2.1 7) (hL : g.2.2.1 7 < 2 ^ 31) (next : ∀ (S' : hcS) (I' : hcI) (R' : hcR) (z' : Nat), REL S' I' R' b z' → V g mL_law 114 kc ks S' I' R' z' 1459 (LL g b i) [] Q) : V g mL_law 114 (kc + 3) (ks + 200) S I R z 688 (LL g b i) [] Q := by
  have hrel' := hrel
  obtain ⟨N, Ni, im, so, si, ce, ho, hA, hB, hl, tl, tp, wt, te, hX, hM⟩ := hrel'
  have mn := hX.1.2.mn
  have s0 := hX.1.1.1.1
  have sm := hM.1.1
  unfold LL at next ⊢
  refine V.less (kc' := kc) (ks' := ks) ?_ (by omega) (by omega)
  refine v_aload_n (q := 689) dL_law_688 (kk := ?_)
  refine v_cV0 (N := mX6_first) (q := 692) lL_81 iX6_first kX6_first s0 dL_law_689 (x_first hX.1.1 hX.1.2 (fun I1 R1 f1 r1 => ?_))
  have X1 := hX.t f1 r1
  have M1 := hM.x (fun y a c => f1 y (by omega) (by unfold stk; omega)) (fun _ _ _ => rfl) (r1 _ (by omega))
  refine v_aload_n (q := 693) dL_law_692 (kk := ?_)
  refine v_cV0 (N := mX7_first) (q := 696) lL_84 iX7_first kX7_first sm dL_law_693 (m_first M1.1 M1.2.1 mn (fun I2 f2 n2 => ?_))
  have M2 := M1.n f2 n2
  have X2 := X1.mo (fun y hy => f2 y (by omega) (by omega) (by omega) (by omega))
  refine v_icmp_eqT 1459 dL_law_696 (rfl) (kt := ?_)
  exact next _ _ _ _ ⟨_, _, _, _, _, _, _, _, _, _, _, _, _, _, X2, M2⟩
theorem lc_17 (hrel : REL S I R b z) (hi : i + 6 ≤ g.2.2.1 7) (hL : g.2.2.1 7 < 2 ^ 31) (next : ∀ (S' : hcS) (I' : hcI) (R' : hcR) (z' : Nat), REL S' I' R' b z' → V g mL_law 114 kc ks S' I' R' z' 1459 (LL g b i) [] Q) : V g mL_law 114 (kc + 3) (ks + 200) S I R z 701 (LL g b i) [] Q := by
  have hrel' := hrel
  obtain ⟨N, Ni, im, so, si, ce, ho, hA, hB, hl, tl, tp, wt, te, hX, hM⟩ := hrel'
  have mn := hX.1.2.mn
  have s0 := hX.1.1.1.1
  have sm := hM.1.1
  unfold LL at next ⊢
  refine V.less (kc' := kc) (ks' := ks) ?_ (by omega) (by omega)
  refine v_aload_n (q := 702) dL_law_701 (kk := ?_)
  refine v_aload_n (q := 703) dL_law_702 (kk := ?_)
  refine v_iload_n (q := 704) dL_law_703 (kk := ?_)
  refine v_iconst (v := 1) (q := 705) dL_law_704 (kk := ?_)
  refine v_iadd (q := 706) dL_law_705 (kk := ?_)
  refine v_scld (q := 707) (i + 1) (nI_add i 1) (by omega) hL dL_law_706 (kk := ?_)
  refine v_cV1 (N := mX6_rest) (q := 710) lL_85 iX6_rest kX6_rest s0 dL_law_707 (x_rest hX.1.1 hX.1.2 (fun I1 R1 f1 r1 => ?_))
  have X1 := hX.t f1 r1
  have M1 := hM.x (fun y a c => f1 y (by omega) (by unfold stk; omega)) (fun _ _ _ => rfl) (r1 _ (by omega))
  refine v_aload_n (q := 711) dL_law_710 (kk := ?_)
  refine v_aload_n (q := 712) dL_law_711 (kk := ?_)
  refine v_iload_n (q := 713) dL_law_712 (kk := ?_)
  refine v_iconst (v := 1) (q := 714) dL_law_713 (kk := ?_)
  refine v_iadd (q := 715) dL_law_714 (kk := ?_)
  refine v_scld (q := 716) (i + 1) (nI_add i 1) (by omega) hL dL_law_715 (kk := ?_)
  refine v_cV1 (N := mX7_rest) (q := 719) lL_88 iX7_rest kX7_rest sm dL_law_716 (m_rest M1.1 M1.2.1 mn (fun I2 f2 n2 => ?_))
  have M2 := M1.n f2 n2
  have X2 := X1.mo (fun y hy => f2 y (by omega) (by omega) (by omega) (by omega))
  refine v_icmp_eqT 1459 dL_law_719 (rfl) (kt := ?_)
  exact next _ _ _ _ ⟨_, _, _, _, _, _, _, _, _, _, _, _, _, _, X2, M2⟩
theorem lc_18 (hrel : REL S I R b z) (hi : i + 6 ≤ g.2.2.1 7) (hL : g.2.2.1 7 < 2 ^ 31) (next : ∀ (S' : hcS) (I' : hcI) (R' : hcR) (z' : Nat), REL S' I' R' b z' → V g mL_law 114 kc ks S' I' R' z' 1459 (LL g b i) [] Q) : V g mL_law 114 (kc + 3) (ks + 200) S I R z 724 (LL g b i) [] Q := by
  have hrel' := hrel
  obtain ⟨N, Ni, im, so, si, ce, ho, hA, hB, hl, tl, tp, wt, te, hX, hM⟩ := hrel'
  have mn := hX.1.2.mn
  have s0 := hX.1.1.1.1
  have sm := hM.1.1
  unfold LL at next ⊢
  refine V.less (kc' := kc) (ks' := ks) ?_ (by omega) (by omega)
  refine v_aload_n (q := 725) dL_law_724 (kk := ?_)
  refine v_aload_n (q := 726) dL_law_725 (kk := ?_)
  refine v_iload_n (q := 727) dL_law_726 (kk := ?_)
  refine v_iconst (v := 1) (q := 728) dL_law_727 (kk := ?_)
  refine v_iadd (q := 729) dL_law_728 (kk := ?_)
  refine v_scld (q := 730) (i + 1) (nI_add i 1) (by omega) hL dL_law_729 (kk := ?_)
  refine v_cV1 (N := mX6_change) (q := 733) lL_89 iX6_change kX6_change s0 dL_law_730 (x_change hX.1.1 hX.1.2 (fun I1 R1 f1 r1 => ?_))
  have X1 := hX.t f1 r1
  have M1 := hM.x (fun y a c => f1 y (by omega) (by unfold stk; omega)) (fun _ _ _ => rfl) (r1 _ (by omega))
  refine v_aload_n (q := 734) dL_law_733 (kk := ?_)
  refine v_aload_n (q := 735) dL_law_734 (kk := ?_)
  refine v_iload_n (q := 736) dL_law_735 (kk := ?_)
  refine v_iconst (v := 1) (q := 737) dL_law_736 (kk := ?_)
  refine v_iadd (q := 738) dL_law_737 (kk := ?_)
  refine v_scld (q := 739) (i + 1) (nI_add i 1) (by omega) hL dL_law_738 (kk := ?_)
  refine v_cV1 (N := mX7_change) (q := 742) lL_92 iX7_change kX7_change sm dL_law_739 (m_change M1.1 M1.2.1 mn (fun I2 f2 n2 => ?_))
  have M2 := M1.n f2 n2
  have X2 := X1.mo (fun y hy => f2 y (by omega) (by omega) (by omega) (by omega))
  refine v_icmp_eqT 1459 dL_law_742 (rfl) (kt := ?_)
  exact next _ _ _ _ ⟨_, _, _, _, _, _, _, _, _, _, _, _, _, _, X2, M2⟩
theorem lc_19 (hrel : REL S I R b z) (hi : i + 6 ≤ g.2.2.1 7) (hL : g.2.2.1 7 < 2 ^ 31) (next : ∀ (S' : hcS) (I' : hcI) (R' : hcR) (z' : Nat), REL S' I' R' b z' → V g mL_law 114 kc ks S' I' R' z' 1459 (LL g b i) [] Q) : V g mL_law 114 (kc + 3) (ks + 200) S I R z 747 (LL g b i) [] Q := by
  have hrel' := hrel
  obtain ⟨N, Ni, im, so, si, ce, ho, hA, hB, hl, tl, tp, wt, te, hX, hM⟩ := hrel'
  have mn := hX.1.2.mn
  have s0 := hX.1.1.1.1
  have sm := hM.1.1
  unfold LL at next ⊢
  refine V.less (kc' := kc) (ks' := ks) ?_ (by omega) (by omega)
  refine v_aload_n (q := 748) dL_law_747 (kk := ?_)
  refine v_aload_n (q := 749) dL_law_748 (kk := ?_)
  refine v_iload_n (q := 750) dL_law_749 (kk := ?_)
  refine v_iconst (v := 1) (q := 751) dL_law_750 (kk := ?_)
  refine v_iadd (q := 752) dL_law_751 (kk := ?_)
  refine v_scld (q := 753) (i + 1) (nI_add i 1) (by omega) hL dL_law_752 (kk := ?_)
  refine v_cV1 (N := mX6_sweet) (q := 756) lL_93 iX6_sweet kX6_sweet s0 dL_law_753 (x_sweet hX.1.1 hX.1.2 (fun I1 R1 f1 r1 => ?_))
  have X1 := hX.t f1 r1
  have M1 := hM.x (fun y a c => f1 y (by omega) (by unfold stk; omega)) (fun _ _ _ => rfl) (r1 _ (by omega))
  refine v_aload_n (q := 757) dL_law_756 (kk := ?_)
  refine v_aload_n (q := 758) dL_law_757 (kk := ?_)
  refine v_iload_n (q := 759) dL_law_758 (kk := ?_)
  refine v_iconst (v := 1) (q := 760) dL_law_759 (kk := ?_)
  refine v_iadd (q := 761) dL_law_760 (kk := ?_)
  refine v_scld (q := 762) (i + 1) (nI_add i 1) (by omega) hL dL_law_761 (kk := ?_)
  refine v_cV1 (N := mX7_sweet) (q := 765) lL_96 iX7_sweet kX7_sweet sm dL_law_762 (m_sweet M1.1 M1.2.1 mn (fun I2 f2 n2 => ?_))
  have M2 := M1.n f2 n2
  have X2 := X1.mo (fun y hy => f2 y (by omega) (by omega) (by omega) (by omega))
  refine v_icmp_eqT 1459 dL_law_765 (rfl) (kt := ?_)
  exact next _ _ _ _ ⟨_, _, _, _, _, _, _, _, _, _, _, _, _, _, X2, M2⟩
theorem lc_20 (hrel : REL S I R b z) (hi : i + 6 ≤ g.2.2.1 7) (hL : g.2.2.1 7 < 2 ^ 31) (next : ∀ (S' : hcS) (I' : hcI) (R' : hcR) (z' : Nat), REL S' I' R' b z' → V g mL_law 114 kc ks S' I' R' z' 1459 (LL g b i) [] Q) : V g mL_law 114 (kc + 3) (ks + 200) S I R z 770 (LL g b i) [] Q := by
  have hrel' := hrel
  obtain ⟨N, Ni, im, so, si, ce, ho, hA, hB, hl, tl, tp, wt, te, hX, hM⟩ := hrel'
  have mn := hX.1.2.mn
  have s0 := hX.1.1.1.1
  have sm := hM.1.1
  unfold LL at next ⊢
  refine V.less (kc' := kc) (ks' := ks) ?_ (by omega) (by omega)
  refine v_aload_n (q := 771) dL_law_770 (kk := ?_)
  refine v_aload_n (q := 772) dL_law_771 (kk := ?_)
  refine v_iload_n (q := 773) dL_law_772 (kk := ?_)
  refine v_iconst (v := 1) (q := 774) dL_law_773 (kk := ?_)
  refine v_iadd (q := 775) dL_law_774 (kk := ?_)
  refine v_scld (q := 776) (i + 1) (nI_add i 1) (by omega) hL dL_law_775 (kk := ?_)
  refine v_aload_n (q := 777) dL_law_776 (kk := ?_)
  refine v_iload_n (q := 778) dL_law_777 (kk := ?_)
  refine v_iconst (v := 2) (q := 779) dL_law_778 (kk := ?_)
  refine v_iadd (q := 780) dL_law_779 (kk := ?_)
  refine v_scld (q := 781) (i + 2) (nI_add i 2) (by omega) hL dL_law_780 (kk := ?_)
  refine v_aload_n (q := 782) dL_law_781 (kk := ?_)
  refine v_iload_n (q := 783) dL_law_782 (kk := ?_)
  refine v_iconst (v := 3) (q := 784) dL_law_783 (kk := ?_)
  refine v_iadd (q := 785) dL_law_784 (kk := ?_)
  refine v_scld (q := 786) (i + 3) (nI_add i 3) (by omega) hL dL_law_785 (kk := ?_)
  refine v_cV3 (N := mX6_setOff) (q := 789) lL_97 iX6_setOff kX6_setOff s0 dL_law_786 (x_setOff hX.1.1 hX.1.2 (fun I1 R1 f1 r1 => ?_))
  have X1 := hX.t f1 r1
  have M1 := hM.x (fun y a c => f1 y (by omega) (by unfold stk; omega)) (fun _ _ _ => rfl) (r1 _ (by omega))
  refine v_aload_n (q := 790) dL_law_789 (kk := ?_)
  refine v_aload_n (q := 791) dL_law_790 (kk := ?_)
  refine v_iload_n (q := 792) dL_law_791 (kk := ?_)
  refine v_iconst (v := 1) (q := 793) dL_law_792 (kk := ?_)
  refine v_iadd (q := 794) dL_law_793 (kk := ?_)
  refine v_scld (q := 795) (i + 1) (nI_add i 1) (by omega) hL dL_law_794 (kk := ?_)
  refine v_aload_n (q := 796) dL_law_795 (kk := ?_)
  refine v_iload_n (q := 797) dL_law_796 (kk := ?_)
  refine v_iconst (v := 2) (q := 798) dL_law_797 (kk := ?_)
  refine v_iadd (q := 799) dL_law_798 (kk := ?_)
  refine v_scld (q := 800) (i + 2) (nI_add i 2) (by omega) hL dL_law_799 (kk := ?_)
  refine v_aload_n (q := 801) dL_law_800 (kk := ?_)
  refine v_iload_n (q := 802) dL_law_801 (kk := ?_)
  refine v_iconst (v := 3) (q := 803) dL_law_802 (kk := ?_)
  refine v_iadd (q := 804) dL_law_803 (kk := ?_)
  refine v_scld (q := 805) (i + 3) (nI_add i 3) (by omega) hL dL_law_804 (kk := ?_)
  refine v_cV3 (N := mX7_setOff) (q := 808) lL_100 iX7_setOff kX7_setOff sm dL_law_805 (m_setOff M1.1 M1.2.1 mn (fun I2 f2 n2 => ?_))
  have M2 := M1.n f2 n2
  have X2 := X1.mo (fun y hy => f2 y (by omega) (by omega) (by omega) (by omega))
  refine v_icmp_eqT 1459 dL_law_808 (rfl) (kt := ?_)
  exact next _ _ _ _ ⟨_, _, _, _, _, _, _, _, _, _, _, _, _, _, X2, M2⟩
theorem lc_21 (hrel : REL S I R b z) (hi : i + 6 ≤ g.2.2.1 7) (hL : g.2.2.1 7 < 2 ^ 31) (next : ∀ (S' : hcS) (I' : hcI) (R' : hcR) (z' : Nat), REL S' I' R' b z' → V g mL_law 114 kc ks S' I' R' z' 1459 (LL g b i) [] Q) : V g mL_law 114 (kc + 3) (ks + 200) S I R z 813 (LL g b i) [] Q := by
  have hrel' := hrel
  obtain ⟨N, Ni, im, so, si, ce, ho, hA, hB, hl, tl, tp, wt, te, hX, hM⟩ := hrel'
  have mn := hX.1.2.mn
  have s0 := hX.1.1.1.1
  have sm := hM.1.1
  unfold LL at next ⊢
  refine V.less (kc' := kc) (ks' := ks) ?_ (by omega) (by omega)
  refine v_aload_n (q := 814) dL_law_813 (kk := ?_)
  refine v_cV0 (N := mX6_loudest) (q := 817) lL_101 iX6_loudest kX6_loudest s0 dL_law_814 (x_loudest hX.1.1 hX.1.2 ?_)
  have M1 := hM
  refine v_aload_n (q := 818) dL_law_817 (kk := ?_)
  refine v_cV0 (N := mX7_loudest) (q := 821) lL_104 iX7_loudest kX7_loudest sm dL_law_818 (m_loudest M1.1 M1.2.1 mn ?_)
  refine v_icmp_eqT 1459 dL_law_821 (rfl) (kt := ?_)
  exact next S I R z hrel
theorem lc_22 (hrel : REL S I R b z) (hi : i + 6 ≤ g.2.2.1 7) (hL : g.2.2.1 7 < 2 ^ 31) (next : ∀ (S' : hcS) (I' : hcI) (R' : hcR) (z' : Nat), REL S' I' R' b z' → V g mL_law 114 kc ks S' I' R' z' 1459 (LL g b i) [] Q) : V g mL_law 114 (kc + 3) (ks + 200) S I R z 826 (LL g b i) [] Q := by
  have hrel' := hrel
  obtain ⟨N, Ni, im, so, si, ce, ho, hA, hB, hl, tl, tp, wt, te, hX, hM⟩ := hrel'
  have mn := hX.1.2.mn
  have s0 := hX.1.1.1.1
  have sm := hM.1.1
  unfold LL at next ⊢
  refine V.less (kc' := kc) (ks' := ks) ?_ (by omega) (by omega)
  refine v_aload_n (q := 827) dL_law_826 (kk := ?_)
  refine v_aload_n (q := 828) dL_law_827 (kk := ?_)
  refine v_iload_n (q := 829) dL_law_828 (kk := ?_)
  refine v_iconst (v := 1) (q := 830) dL_law_829 (kk := ?_)
  refine v_iadd (q := 831) dL_law_830 (kk := ?_)
  refine v_scld (q := 832) (i + 1) (nI_add i 1) (by omega) hL dL_law_831 (kk := ?_)
  refine v_aload_n (q := 833) dL_law_832 (kk := ?_)
  refine v_iload_n (q := 834) dL_law_833 (kk := ?_)
  refine v_iconst (v := 2) (q := 835) dL_law_834 (kk := ?_)
  refine v_iadd (q := 836) dL_law_835 (kk := ?_)
  refine v_scld (q := 837) (i + 2) (nI_add i 2) (by omega) hL dL_law_836 (kk := ?_)
  refine v_aload_n (q := 838) dL_law_837 (kk := ?_)
  refine v_iload_n (q := 839) dL_law_838 (kk := ?_)
  refine v_iconst (v := 3) (q := 840) dL_law_839 (kk := ?_)
  refine v_iadd (q := 841) dL_law_840 (kk := ?_)
  refine v_scld (q := 842) (i + 3) (nI_add i 3) (by omega) hL dL_law_841 (kk := ?_)
  refine v_cV3 (N := mX6_toldBy) (q := 845) lL_105 iX6_toldBy kX6_toldBy s0 dL_law_842 (x_toldBy hX.1.1 hX.1.2 hX.2.1.1 hX.2.1.2 (fun I1 R1 f1 r1 => ?_))
  have X1 := hX.t f1 r1
  have M1 := hM.x (fun y a c => f1 y (by omega) (by unfold stk; omega)) (fun _ _ _ => rfl) (r1 _ (by omega))
  refine v_aload_n (q := 846) dL_law_845 (kk := ?_)
  refine v_aload_n (q := 847) dL_law_846 (kk := ?_)
  refine v_iload_n (q := 848) dL_law_847 (kk := ?_)
  refine v_iconst (v := 1) (q := 849) dL_law_848 (kk := ?_)
  refine v_iadd (q := 850) dL_law_849 (kk := ?_)
  refine v_scld (q := 851) (i + 1) (nI_add i 1) (by omega) hL dL_law_850 (kk := ?_)
  refine v_aload_n (q := 852) dL_law_851 (kk := ?_)
  refine v_iload_n (q := 853) dL_law_852 (kk := ?_)
  refine v_iconst (v := 2) (q := 854) dL_law_853 (kk := ?_)
  refine v_iadd (q := 855) dL_law_854 (kk := ?_)
  refine v_scld (q := 856) (i + 2) (nI_add i 2) (by omega) hL dL_law_855 (kk := ?_)
  refine v_aload_n (q := 857) dL_law_856 (kk := ?_)
  refine v_iload_n (q := 858) dL_law_857 (kk := ?_)
  refine v_iconst (v := 3) (q := 859) dL_law_858 (kk := ?_)
  refine v_iadd (q := 860) dL_law_859 (kk := ?_)
  refine v_scld (q := 861) (i + 3) (nI_add i 3) (by omega) hL dL_law_860 (kk := ?_)
  refine v_cV3 (N := mX7_toldBy) (q := 864) lL_108 iX7_toldBy kX7_toldBy sm dL_law_861 (m_toldBy M1.1 M1.2.1 mn hX.2.1.1 M1.2.2.1 (fun I2 f2 n2 => ?_))
  have M2 := M1.n f2 n2
  have X2 := X1.mo (fun y hy => f2 y (by omega) (by omega) (by omega) (by omega))
  refine v_icmp_eqT 1459 dL_law_864 (rfl) (kt := ?_)
  exact next _ _ _ _ ⟨_, _, _, _, _, _, _, _, _, _, _, _, _, _, X2, M2⟩
theorem lc_23 (hrel : REL S I R b z) (hi : i + 6 ≤ g.2.2.1 7) (hL : g.2.2.1 7 < 2 ^ 31) (next : ∀ (S' : hcS) (I' : hcI) (R' : hcR) (z' : Nat), REL S' I' R' b z' → V g mL_law 114 kc ks S' I' R' z' 1459 (LL g b i) [] Q) : V g mL_law 114 (kc + 3) (ks + 200) S I R z 869 (LL g b i) [] Q := by
  have hrel' := hrel
  obtain ⟨N, Ni, im, so, si, ce, ho, hA, hB, hl, tl, tp, wt, te, hX, hM⟩ := hrel'
  have mn := hX.1.2.mn
  have s0 := hX.1.1.1.1
  have sm := hM.1.1
  unfold LL at next ⊢
  refine V.less (kc' := kc) (ks' := ks) ?_ (by omega) (by omega)
  refine v_aload_n (q := 870) dL_law_869 (kk := ?_)
  refine v_aload_n (q := 871) dL_law_870 (kk := ?_)
  refine v_iload_n (q := 872) dL_law_871 (kk := ?_)
  refine v_iconst (v := 1) (q := 873) dL_law_872 (kk := ?_)
  refine v_iadd (q := 874) dL_law_873 (kk := ?_)
  refine v_scld (q := 875) (i + 1) (nI_add i 1) (by omega) hL dL_law_874 (kk := ?_)
  refine v_cV1 (N := mX6_fine) (q := 878) lL_109 iX6_fine kX6_fine s0 dL_law_875 (x_fine hX.1.1 hX.1.2 (fun I1 f1 => ?_))
  have X1 := hX.s f1
  have M1 := hM.x (fun y a c => f1 y (by unfold stk; omega)) (fun _ _ _ => rfl) rfl
  refine v_aload_n (q := 879) dL_law_878 (kk := ?_)
  refine v_aload_n (q := 880) dL_law_879 (kk := ?_)
  refine v_iload_n (q := 881) dL_law_880 (kk := ?_)
  refine v_iconst (v := 1) (q := 882) dL_law_881 (kk := ?_)
  refine v_iadd (q := 883) dL_law_882 (kk := ?_)
  refine v_scld (q := 884) (i + 1) (nI_add i 1) (by omega) hL dL_law_883 (kk := ?_)
  refine v_cV1 (N := mX7_fine) (q := 887) lL_112 iX7_fine kX7_fine sm dL_law_884 (m_fine M1.1 M1.2.1 mn (fun I2 f2 => ?_))
  have M2 := M1.n (fun y _ _ a c => f2 y a c) ((f2 _ (by omega) (by omega)).trans M1.2.1)
  have X2 := X1.mo (fun y hy => f2 y (by omega) (by omega))
  refine v_icmp_eqT 1459 dL_law_887 (rfl) (kt := ?_)
  exact next _ _ _ _ ⟨_, _, _, _, _, _, _, _, _, _, _, _, _, _, X2, M2⟩
theorem lc_24 (hrel : REL S I R b z) (hi : i + 6 ≤ g.2.2.1 7) (hL : g.2.2.1 7 < 2 ^ 31) (next : ∀ (S' : hcS) (I' : hcI) (R' : hcR) (z' : Nat), REL S' I' R' b z' → V g mL_law 114 kc ks S' I' R' z' 1459 (LL g b i) [] Q) : V g mL_law 114 (kc + 3) (ks + 200) S I R z 892 (LL g b i) [] Q := by
  have hrel' := hrel
  obtain ⟨N, Ni, im, so, si, ce, ho, hA, hB, hl, tl, tp, wt, te, hX, hM⟩ := hrel'
  have mn := hX.1.2.mn
  have s0 := hX.1.1.1.1
  have sm := hM.1.1
  unfold LL at next ⊢
  refine V.less (kc' := kc) (ks' := ks) ?_ (by omega) (by omega)
  refine v_aload_n (q := 893) dL_law_892 (kk := ?_)
  refine v_aload_n (q := 894) dL_law_893 (kk := ?_)
  refine v_iload_n (q := 895) dL_law_894 (kk := ?_)
  refine v_iconst (v := 1) (q := 896) dL_law_895 (kk := ?_)
  refine v_iadd (q := 897) dL_law_896 (kk := ?_)
  refine v_scld (q := 898) (i + 1) (nI_add i 1) (by omega) hL dL_law_897 (kk := ?_)
  refine v_aload_n (q := 899) dL_law_898 (kk := ?_)
  refine v_iload_n (q := 900) dL_law_899 (kk := ?_)
  refine v_iconst (v := 2) (q := 901) dL_law_900 (kk := ?_)
  refine v_iadd (q := 902) dL_law_901 (kk := ?_)
  refine v_scld (q := 903) (i + 2) (nI_add i 2) (by omega) hL dL_law_902 (kk := ?_)
  refine v_aload_n (q := 904) dL_law_903 (kk := ?_)
  refine v_iload_n (q := 905) dL_law_904 (kk := ?_)
  refine v_iconst (v := 3) (q := 906) dL_law_905 (kk := ?_)
  refine v_iadd (q := 907) dL_law_906 (kk := ?_)
  refine v_scld (q := 908) (i + 3) (nI_add i 3) (by omega) hL dL_law_907 (kk := ?_)
  refine v_cV3 (N := mX6_feed) (q := 911) lL_113 iX6_feed kX6_feed s0 dL_law_908 (x_feed hX.1.1 hX.2.2.2.2.1.1 hX.2.2.2.2.1.2.1 hX.2.2.2.2.1.2.2 (fun e1 => ?_) (fun e1 I1 f1 b1 t1 => ?_))
  · skip
    refine v_aload_n (q := 912) dL_law_911 (kk := ?_)
    refine v_aload_n (q := 913) dL_law_912 (kk := ?_)
    refine v_iload_n (q := 914) dL_law_913 (kk := ?_)
    refine v_iconst (v := 1) (q := 915) dL_law_914 (kk := ?_)
    refine v_iadd (q := 916) dL_law_915 (kk := ?_)
    refine v_scld (q := 917) (i + 1) (nI_add i 1) (by omega) hL dL_law_916 (kk := ?_)
    refine v_aload_n (q := 918) dL_law_917 (kk := ?_)
    refine v_iload_n (q := 919) dL_law_918 (kk := ?_)
    refine v_iconst (v := 2) (q := 920) dL_law_919 (kk := ?_)
    refine v_iadd (q := 921) dL_law_920 (kk := ?_)
    refine v_scld (q := 922) (i + 2) (nI_add i 2) (by omega) hL dL_law_921 (kk := ?_)
    refine v_aload_n (q := 923) dL_law_922 (kk := ?_)
    refine v_iload_n (q := 924) dL_law_923 (kk := ?_)
    refine v_iconst (v := 3) (q := 925) dL_law_924 (kk := ?_)
    refine v_iadd (q := 926) dL_law_925 (kk := ?_)
    refine v_scld (q := 927) (i + 3) (nI_add i 3) (by omega) hL dL_law_926 (kk := ?_)
    refine v_cV3 (N := mX7_feed) (q := 930) lL_116 iX7_feed kX7_feed sm dL_law_927 (m_feed hM.1 hM.2.2.2.2.2.1.1 hX.2.2.2.2.1.2.1 hM.2.2.2.2.2.1.2 (fun e2 => ?_) (fun e2 => by omega))
    refine v_icmp_eqT 1459 dL_law_930 (rfl) (kt := ?_)
    exact next S I R z hrel
  · skip
    have X1 := hX.bb (R' := R) (tl' := tl + 12) (wt' := wt) (te' := te) (fun y a1 _ a3 _ _ => f1 y a1 a3) (fun _ _ => rfl) (by rw [b1, upd_ne (by omega)]) ⟨by rw [b1, upd_at], by omega, t1⟩ ⟨by rw [b1, upd_ne (by omega)]; exact hX.2.2.2.2.2.1.1, hX.2.2.2.2.2.1.2.1, fun j hj => by rw [f1 _ (by omega) (by omega)]; exact hX.2.2.2.2.2.1.2.2 j hj⟩
    have M1 := hM.x (fun y a c => f1 y (by omega) (by omega)) (fun _ _ _ => rfl) (rfl : R (b + 81) = R (b + 81))
    refine v_aload_n (q := 912) dL_law_911 (kk := ?_)
    refine v_aload_n (q := 913) dL_law_912 (kk := ?_)
    refine v_iload_n (q := 914) dL_law_913 (kk := ?_)
    refine v_iconst (v := 1) (q := 915) dL_law_914 (kk := ?_)
    refine v_iadd (q := 916) dL_law_915 (kk := ?_)
    refine v_scld (q := 917) (i + 1) (nI_add i 1) (by omega) hL dL_law_916 (kk := ?_)
    refine v_aload_n (q := 918) dL_law_917 (kk := ?_)
    refine v_iload_n (q := 919) dL_law_918 (kk := ?_)
    refine v_iconst (v := 2) (q := 920) dL_law_919 (kk := ?_)
    refine v_iadd (q := 921) dL_law_920 (kk := ?_)
    refine v_scld (q := 922) (i + 2) (nI_add i 2) (by omega) hL dL_law_921 (kk := ?_)
    refine v_aload_n (q := 923) dL_law_922 (kk := ?_)
    refine v_iload_n (q := 924) dL_law_923 (kk := ?_)
    refine v_iconst (v := 3) (q := 925) dL_law_924 (kk := ?_)
    refine v_iadd (q := 926) dL_law_925 (kk := ?_)
    refine v_scld (q := 927) (i + 3) (nI_add i 3) (by omega) hL dL_law_926 (kk := ?_)
    refine v_cV3 (N := mX7_feed) (q := 930) lL_116 iX7_feed kX7_feed sm dL_law_927 (m_feed M1.1 M1.2.2.2.2.2.1.1 hX.2.2.2.2.1.2.1 M1.2.2.2.2.2.1.2 (fun e2 => by omega) (fun e2 I2 f2 b2 t2 => ?_))
    have M2 := M1.bb (tl' := tl + 12) (wt' := wt) (te' := te) (fun y a1 _ _ a4 _ _ _ => f2 y a1 a4) (by rw [b2, upd_ne (by omega)]) ((f2 _ (by omega) (by omega)).trans M1.2.1) ⟨by rw [b2, upd_at], t2⟩ ⟨by rw [b2, upd_ne (by omega)]; exact M1.2.2.2.2.2.2.1.1, (f2 _ (by omega) (by omega)).trans M1.2.2.2.2.2.2.1.2⟩
    have X2 := X1.mo (fun y hy => f2 y (by omega) (by omega))
    refine v_icmp_eqT 1459 dL_law_930 (rfl) (kt := ?_)
    exact next _ _ _ _ ⟨_, _, _, _, _, _, _, _, _, _, _, _, _, _, X2, M2⟩
theorem lc_25 (hrel : REL S I R b z) (hi : i + 6 ≤ g.2.2.1 7) (hL : g.2.2.1 7 < 2 ^ 31) (next : ∀ (S' : hcS) (I' : hcI) (R' : hcR) (z' : Nat), REL S' I' R' b z' → V g mL_law 114 kc ks S' I' R' z' 1459 (LL g b i) [] Q) : V g mL_law 114 (kc + 3) (ks + 200) S I R z 935 (LL g b i) [] Q := by
  have hrel' := hrel
  obtain ⟨N, Ni, im, so, si, ce, ho, hA, hB, hl, tl, tp, wt, te, hX, hM⟩ := hrel'
  have mn := hX.1.2.mn
  have s0 := hX.1.1.1.1
  have sm := hM.1.1
  unfold LL at next ⊢
  refine V.less (kc' := kc) (ks' := ks) ?_ (by omega) (by omega)
  refine v_aload_n (q := 936) dL_law_935 (kk := ?_)
  refine v_aload_n (q := 937) dL_law_936 (kk := ?_)
  refine v_iload_n (q := 938) dL_law_937 (kk := ?_)
  refine v_iconst (v := 1) (q := 939) dL_law_938 (kk := ?_)
  refine v_iadd (q := 940) dL_law_939 (kk := ?_)
  refine v_scld (q := 941) (i + 1) (nI_add i 1) (by omega) hL dL_law_940 (kk := ?_)
  refine v_cV1 (N := mX6_trim) (q := 944) lL_117 iX6_trim kX6_trim s0 dL_law_941 (x_trim hX.1.1 hX.2.2.2.2.1.1 (fun e1 => ?_) (fun e1 => ?_))
  · skip
    refine v_aload_n (q := 945) dL_law_944 (kk := ?_)
    refine v_aload_n (q := 946) dL_law_945 (kk := ?_)
    refine v_iload_n (q := 947) dL_law_946 (kk := ?_)
    refine v_iconst (v := 1) (q := 948) dL_law_947 (kk := ?_)
    refine v_iadd (q := 949) dL_law_948 (kk := ?_)
    refine v_scld (q := 950) (i + 1) (nI_add i 1) (by omega) hL dL_law_949 (kk := ?_)
    refine v_cV1 (N := mX7_trim) (q := 953) lL_120 iX7_trim kX7_trim sm dL_law_950 (m_trim hM.1 hM.2.2.2.2.2.1.1 (fun e2 => ?_) (fun e2 => absurd e2 e1))
    refine v_icmp_eqT 1459 dL_law_953 (rfl) (kt := ?_)
    exact next S I R z hrel
  · skip
    obtain ⟨n', hn', en⟩ := nI_of (x := (nI (g.2.2.1 (8 + (i + 1))))) (Int32.not_lt.mpr e1.1)
    have hle : n' ≤ tl := by
      have := e1.2
      rw [en] at this
      exact (nI_leI hn' (by have := hX.2.2.2.2.1.2.1; omega)).mp this
    have X1 := hX.bb (I' := hc_u I b 9 (nI (g.2.2.1 (8 + (i + 1))))) (R' := R) (tl' := n') (tp' := tp) (wt' := wt) (te' := te) (fun y a1 _ _ _ _ => hc_u_ne a1) (fun _ _ => rfl) (uu_ne (by omega)) ⟨uu_at.trans en, by have := hX.2.2.2.2.1.2.1; omega, fun j hj => by obtain ⟨t, q1, q2, q3⟩ := hX.2.2.2.2.1.2.2 j (by omega); exact ⟨t, q1, q2, by rw [hc_u_ne (by omega)]; exact q3⟩⟩ ⟨(uu_ne (by omega)).trans hX.2.2.2.2.2.1.1, hX.2.2.2.2.2.1.2.1, fun j hj => by rw [hc_u_ne (by omega)]; exact hX.2.2.2.2.2.1.2.2 j hj⟩
    have M1 := hM.x (I' := hc_u I b 9 (nI (g.2.2.1 (8 + (i + 1))))) (fun y a c => hc_u_ne (by omega)) (fun _ _ _ => rfl) (rfl : R (b + 81) = R (b + 81))
    refine v_aload_n (q := 945) dL_law_944 (kk := ?_)
    refine v_aload_n (q := 946) dL_law_945 (kk := ?_)
    refine v_iload_n (q := 947) dL_law_946 (kk := ?_)
    refine v_iconst (v := 1) (q := 948) dL_law_947 (kk := ?_)
    refine v_iadd (q := 949) dL_law_948 (kk := ?_)
    refine v_scld (q := 950) (i + 1) (nI_add i 1) (by omega) hL dL_law_949 (kk := ?_)
    refine v_cV1 (N := mX7_trim) (q := 953) lL_120 iX7_trim kX7_trim sm dL_law_950 (m_trim M1.1 M1.2.2.2.2.2.1.1 (fun e2 => absurd e1 e2) (fun e2 => ?_))
    have M2 := M1.bb (I' := hc_u (hc_u I b 9 (nI (g.2.2.1 (8 + (i + 1))))) (b + 81) 6 (nI (g.2.2.1 (8 + (i + 1))))) (tl' := n') (tp' := tp) (wt' := wt) (te' := te) (fun y a1 _ _ _ _ _ _ => hc_u_ne a1) (uu_ne (by omega)) ((hc_u_ne (by omega)).trans M1.2.1) ⟨uu_at.trans en, (hc_u_ne (by omega)).trans M1.2.2.2.2.2.1.2⟩ ⟨(uu_ne (by omega)).trans M1.2.2.2.2.2.2.1.1, (hc_u_ne (by omega)).trans M1.2.2.2.2.2.2.1.2⟩
    have X2 := X1.mo (I' := hc_u (hc_u I b 9 (nI (g.2.2.1 (8 + (i + 1))))) (b + 81) 6 (nI (g.2.2.1 (8 + (i + 1))))) (fun y hy => hc_u_ne (by omega))
    refine v_icmp_eqT 1459 dL_law_953 (rfl) (kt := ?_)
    exact next _ _ _ _ ⟨_, _, _, _, _, _, _, _, _, _, _, _, _, _, X2, M2⟩
theorem lc_26 (hrel : REL S I R b z) (hi : i + 6 ≤ g.2.2.1 7) (hL : g.2.2.1 7 < 2 ^ 31) (next : ∀ (S' : hcS) (I' : hcI) (R' : hcR) (z' : Nat), REL S' I' R' b z' → V g mL_law 114 kc ks S' I' R' z' 1459 (LL g b i) [] Q) : V g mL_law 114 (kc + 3) (ks + 200) S I R z 958 (LL g b i) [] Q := by
  have hrel' := hrel
  obtain ⟨N, Ni, im, so, si, ce, ho, hA, hB, hl, tl, tp, wt, te, hX, hM⟩ := hrel'
  have mn := hX.1.2.mn
  have s0 := hX.1.1.1.1
  have sm := hM.1.1
  unfold LL at next ⊢
  refine v_aload_n (q := 959) dL_law_958 (kk := ?_)
  have htb := hX.2.2.2.2.1.2.2.tb
  have hz := hX.2.2.2.2.2.2.2.1
  refine v_cV0B (N := mX6_text) (q := 962) lL_121 iX6_text kX6_text s0 dL_law_959 (x_text (tp := tp) hX.1.1 hX.1.2 hX.2.2.2.2.2.2.1 hX.2.2.2.2.2.2.2 hX.2.2.2.2.1.1 hX.2.2.2.2.1.2.1 hX.2.2.2.2.1.2.2 (fun q I1 R1 e1 f1 n1 k9 => ?_) (fun key C A' S1 I1 R1 e1 e14 f1 t1 n1 k9 => ?_) (fun key C A' S1 I1 R1 e1 e14 f1 t1 n1 k9 => ?_))
  · skip
    have X1 := hX.tx f1 (Or.inl rfl) hX.2.2.2.2.2.2.1 n1 k9
    have M1 := hM.x (fun y a c => f1.2.1 y (by omega) (by omega) (by omega) (by omega) (by omega) (by omega)) (fun y a c => f1.1 y (by omega)) (f1.2.2.2.1 _ (by omega) (by omega) (by omega))
    have sm := M1.1.1
    refine v_aload_n (q := 963) dL_law_962 (kk := ?_)
    refine v_cV0 (N := mX7_text) (q := 966) lL_124 iX7_text kX7_text sm dL_law_963 (m_text M1.1 M1.2.2.2.2.2.2.2 M1.2.1 mn M1.2.2.2.2.2.1.2 M1.2.2.2.2.2.1.1 hX.2.2.2.2.1.2.1 htb (fun q' I2 e2 f2 n2 k6 => ?_) (fun key' C' A'' I2 e2 f14 f2 n2 k6 => by rw [e1] at e2; cases e2) (fun key' C' A'' I2 e2 f14 f2 n2 k6 => by rw [e1] at e2; cases e2))
    obtain rfl : q = q' := Sum.inl.inj (e1.symm.trans e2)
    have M2 := M1.tx f2 n2 k6
    have X2 := X1.mo (fun y hy => f2.1 y (by omega) (by omega) (by omega) (by omega) (by omega))
    refine v_icmp_eqT 1459 dL_law_966 (rfl) (kt := ?_)
    exact next _ _ _ _ ⟨_, _, _, _, _, _, _, _, _, _, _, _, _, _, X2, M2⟩
  · skip
    have X1 := hX.tx f1 (Or.inr rfl) t1 n1 k9
    have M1 := hM.x (fun y a c => f1.2.1 y (by omega) (by omega) (by omega) (by omega) (by omega) (by omega)) (fun y a c => f1.1 y (by omega)) (f1.2.2.2.1 _ (by omega) (by omega) (by omega))
    have sm := M1.1.1
    refine v_aload_n (q := 963) dL_law_962 (kk := ?_)
    refine v_cV0 (N := mX7_text) (q := 966) lL_124 iX7_text kX7_text sm dL_law_963 (m_text M1.1 M1.2.2.2.2.2.2.2 M1.2.1 mn M1.2.2.2.2.2.1.2 M1.2.2.2.2.2.1.1 hX.2.2.2.2.1.2.1 htb (fun q' I2 e2 f2 n2 k6 => by rw [e1] at e2; cases e2) (fun key' C' A'' I2 e2 f14 f2 n2 k6 => ?_) (fun key' C' A'' I2 e2 f14 f2 n2 k6 => by omega))
    have M2 := M1.tx f2 n2 k6
    have X2 := X1.mo (fun y hy => f2.1 y (by omega) (by omega) (by omega) (by omega) (by omega))
    refine v_icmp_eqT 1459 dL_law_966 (rfl) (kt := ?_)
    exact next _ _ _ _ ⟨_, _, _, _, _, _, _, _, _, _, _, _, _, _, X2, M2⟩
  · skip
    have X1 := hX.tx f1 (Or.inr rfl) t1 n1 k9
    have M1 := hM.x (fun y a c => f1.2.1 y (by omega) (by omega) (by omega) (by omega) (by omega) (by omega)) (fun y a c => f1.1 y (by omega)) (f1.2.2.2.1 _ (by omega) (by omega) (by omega))
    have sm := M1.1.1
    refine v_aload_n (q := 963) dL_law_962 (kk := ?_)
    refine v_cV0 (N := mX7_text) (q := 966) lL_124 iX7_text kX7_text sm dL_law_963 (m_text M1.1 M1.2.2.2.2.2.2.2 M1.2.1 mn M1.2.2.2.2.2.1.2 M1.2.2.2.2.2.1.1 hX.2.2.2.2.1.2.1 htb (fun q' I2 e2 f2 n2 k6 => by rw [e1] at e2; cases e2) (fun key' C' A'' I2 e2 f14 f2 n2 k6 => by omega) (fun key' C' A'' I2 e2 f14 f2 n2 k6 => ?_))
    have e3 := Sum.inr.inj (e1.symm.trans e2)
    cases e3
    have M2 := M1.tx f2 n2 k6
    have X2 := X1.mo (fun y hy => f2.1 y (by omega) (by omega) (by omega) (by omega) (by omega))
    refine v_icmp_eqT 1459 dL_law_966 (rfl) (kt := ?_)
    exact next _ _ _ _ ⟨_, _, _, _, _, _, _, _, _, _, _, _, _, _, X2, M2⟩
theorem lc_27 (hrel : REL S I R b z) (hi : i + 6 ≤ g.2.2.1 7) (hL : g.2.2.1 7 < 2 ^ 31) (next : ∀ (S' : hcS) (I' : hcI) (R' : hcR) (z' : Nat), REL S' I' R' b z' → V g mL_law 114 kc ks S' I' R' z' 1459 (LL g b i) [] Q) : V g mL_law 114 (kc + 3) (ks + 200) S I R z 971 (LL g b i) [] Q := by
  have hrel' := hrel
  obtain ⟨N, Ni, im, so, si, ce, ho, hA, hB, hl, tl, tp, wt, te, hX, hM⟩ := hrel'
  have mn := hX.1.2.mn
  have s0 := hX.1.1.1.1
  have sm := hM.1.1
  unfold LL at next ⊢
  refine V.less (kc' := kc) (ks' := ks) ?_ (by omega) (by omega)
  refine v_aload_n (q := 972) dL_law_971 (kk := ?_)
  refine v_aload_n (q := 973) dL_law_972 (kk := ?_)
  refine v_iload_n (q := 974) dL_law_973 (kk := ?_)
  refine v_iconst (v := 1) (q := 975) dL_law_974 (kk := ?_)
  refine v_iadd (q := 976) dL_law_975 (kk := ?_)
  refine v_scld (q := 977) (i + 1) (nI_add i 1) (by omega) hL dL_law_976 (kk := ?_)
  refine v_aload_n (q := 978) dL_law_977 (kk := ?_)
  refine v_iload_n (q := 979) dL_law_978 (kk := ?_)
  refine v_iconst (v := 2) (q := 980) dL_law_979 (kk := ?_)
  refine v_iadd (q := 981) dL_law_980 (kk := ?_)
  refine v_scld (q := 982) (i + 2) (nI_add i 2) (by omega) hL dL_law_981 (kk := ?_)
  refine v_cV2 (N := mX6_textTold) (q := 985) lL_125 iX6_textTold kX6_textTold s0 dL_law_982 (x_textTold hX.1.1 hX.1.2 ?_)
  have M1 := hM
  refine v_aload_n (q := 986) dL_law_985 (kk := ?_)
  refine v_aload_n (q := 987) dL_law_986 (kk := ?_)
  refine v_iload_n (q := 988) dL_law_987 (kk := ?_)
  refine v_iconst (v := 1) (q := 989) dL_law_988 (kk := ?_)
  refine v_iadd (q := 990) dL_law_989 (kk := ?_)
  refine v_scld (q := 991) (i + 1) (nI_add i 1) (by omega) hL dL_law_990 (kk := ?_)
  refine v_aload_n (q := 992) dL_law_991 (kk := ?_)
  refine v_iload_n (q := 993) dL_law_992 (kk := ?_)
  refine v_iconst (v := 2) (q := 994) dL_law_993 (kk := ?_)
  refine v_iadd (q := 995) dL_law_994 (kk := ?_)
  refine v_scld (q := 996) (i + 2) (nI_add i 2) (by omega) hL dL_law_995 (kk := ?_)
  refine v_cV2 (N := mX7_textTold) (q := 999) lL_128 iX7_textTold kX7_textTold sm dL_law_996 (m_textTold M1.1 M1.2.1 mn ?_)
  refine v_icmp_eqT 1459 dL_law_999 (rfl) (kt := ?_)
  exact next S I R z hrel
theorem lc_28 (hrel : REL S I R b z) (hi : i + 6 ≤ g.2.2.1 7) (hL : g.2.2.1 7 < 2 ^ 31) (next : ∀ (S' : hcS) (I' : hcI) (R' : hcR) (z' : Nat), REL S' I' R' b z' → V g mL_law 114 kc ks S' I' R' z' 1459 (LL g b i) [] Q) : V g mL_law 114 (kc + 3) (ks + 200) S I R z 1004 (LL g b i) [] Q := by
  have hrel' := hrel
  obtain ⟨N, Ni, im, so, si, ce, ho, hA, hB, hl, tl, tp, wt, te, hX, hM⟩ := hrel'
  have mn := hX.1.2.mn
  have s0 := hX.1.1.1.1
  have sm := hM.1.1
  unfold LL at next ⊢
  refine V.less (kc' := kc) (ks' := ks) ?_ (by omega) (by omega)
  refine v_aload_n (q := 1005) dL_law_1004 (kk := ?_)
  refine v_aload_n (q := 1006) dL_law_1005 (kk := ?_)
  refine v_iload_n (q := 1007) dL_law_1006 (kk := ?_)
  refine v_iconst (v := 1) (q := 1008) dL_law_1007 (kk := ?_)
  refine v_iadd (q := 1009) dL_law_1008 (kk := ?_)
  refine v_scld (q := 1010) (i + 1) (nI_add i 1) (by omega) hL dL_law_1009 (kk := ?_)
  refine v_cV1 (N := mX6_why) (q := 1013) lL_129 iX6_why kX6_why s0 dL_law_1010 (x_why hX.1.1 hX.1.2 ?_)
  have M1 := hM
  refine v_aload_n (q := 1014) dL_law_1013 (kk := ?_)
  refine v_aload_n (q := 1015) dL_law_1014 (kk := ?_)
  refine v_iload_n (q := 1016) dL_law_1015 (kk := ?_)
  refine v_iconst (v := 1) (q := 1017) dL_law_1016 (kk := ?_)
  refine v_iadd (q := 1018) dL_law_1017 (kk := ?_)
  refine v_scld (q := 1019) (i + 1) (nI_add i 1) (by omega) hL dL_law_1018 (kk := ?_)
  refine v_cV1 (N := mX7_why) (q := 1022) lL_132 iX7_why kX7_why sm dL_law_1019 (m_why M1.1 M1.2.1 mn ?_)
  refine v_icmp_eqT 1459 dL_law_1022 (rfl) (kt := ?_)
  exact next S I R z hrel
theorem lc_29 (hrel : REL S I R b z) (hi : i + 6 ≤ g.2.2.1 7) (hL : g.2.2.1 7 < 2 ^ 31) (next : ∀ (S' : hcS) (I' : hcI) (R' : hcR) (z' : Nat), REL S' I' R' b z' → V g mL_law 114 kc ks S' I' R' z' 1459 (LL g b i) [] Q) : V g mL_law 114 (kc + 3) (ks + 200) S I R z 1027 (LL g b i) [] Q := by
  have hrel' := hrel
  obtain ⟨N, Ni, im, so, si, ce, ho, hA, hB, hl, tl, tp, wt, te, hX, hM⟩ := hrel'
  have mn := hX.1.2.mn
  have s0 := hX.1.1.1.1
  have sm := hM.1.1
  unfold LL at next ⊢
  refine V.less (kc' := kc) (ks' := ks) ?_ (by omega) (by omega)
  refine v_aload_n (q := 1028) dL_law_1027 (kk := ?_)
  refine v_aload_n (q := 1029) dL_law_1028 (kk := ?_)
  refine v_iload_n (q := 1030) dL_law_1029 (kk := ?_)
  refine v_iconst (v := 1) (q := 1031) dL_law_1030 (kk := ?_)
  refine v_iadd (q := 1032) dL_law_1031 (kk := ?_)
  refine v_scld (q := 1033) (i + 1) (nI_add i 1) (by omega) hL dL_law_1032 (kk := ?_)
  refine v_aload_n (q := 1034) dL_law_1033 (kk := ?_)
  refine v_iload_n (q := 1035) dL_law_1034 (kk := ?_)
  refine v_iconst (v := 2) (q := 1036) dL_law_1035 (kk := ?_)
  refine v_iadd (q := 1037) dL_law_1036 (kk := ?_)
  refine v_scld (q := 1038) (i + 2) (nI_add i 2) (by omega) hL dL_law_1037 (kk := ?_)
  refine v_aload_n (q := 1039) dL_law_1038 (kk := ?_)
  refine v_iload_n (q := 1040) dL_law_1039 (kk := ?_)
  refine v_iconst (v := 3) (q := 1041) dL_law_1040 (kk := ?_)
  refine v_iadd (q := 1042) dL_law_1041 (kk := ?_)
  refine v_scld (q := 1043) (i + 3) (nI_add i 3) (by omega) hL dL_law_1042 (kk := ?_)
  refine v_cV3 (N := mX6_sheet) (q := 1046) lL_133 iX6_sheet kX6_sheet s0 dL_law_1043 (x_sheet hX.1.1 hX.2.1.2 (fun I1 f1 s1 => ?_))
  have X1 := hX.sh f1 s1 (SW.sheet hX.2.1.1)
  have M1 := hM.x (fun y a c => f1 y (by omega)) (fun _ _ _ => rfl) rfl
  refine v_aload_n (q := 1047) dL_law_1046 (kk := ?_)
  refine v_aload_n (q := 1048) dL_law_1047 (kk := ?_)
  refine v_iload_n (q := 1049) dL_law_1048 (kk := ?_)
  refine v_iconst (v := 1) (q := 1050) dL_law_1049 (kk := ?_)
  refine v_iadd (q := 1051) dL_law_1050 (kk := ?_)
  refine v_scld (q := 1052) (i + 1) (nI_add i 1) (by omega) hL dL_law_1051 (kk := ?_)
  refine v_aload_n (q := 1053) dL_law_1052 (kk := ?_)
  refine v_iload_n (q := 1054) dL_law_1053 (kk := ?_)
  refine v_iconst (v := 2) (q := 1055) dL_law_1054 (kk := ?_)
  refine v_iadd (q := 1056) dL_law_1055 (kk := ?_)
  refine v_scld (q := 1057) (i + 2) (nI_add i 2) (by omega) hL dL_law_1056 (kk := ?_)
  refine v_aload_n (q := 1058) dL_law_1057 (kk := ?_)
  refine v_iload_n (q := 1059) dL_law_1058 (kk := ?_)
  refine v_iconst (v := 3) (q := 1060) dL_law_1059 (kk := ?_)
  refine v_iadd (q := 1061) dL_law_1060 (kk := ?_)
  refine v_scld (q := 1062) (i + 3) (nI_add i 3) (by omega) hL dL_law_1061 (kk := ?_)
  refine v_cV3 (N := mX7_sheet) (q := 1065) lL_136 iX7_sheet kX7_sheet sm dL_law_1062 (m_sheet M1.1 M1.2.2.1 (fun I2 f2 s2 => ?_))
  have M2 := M1.sh f2 s2
  have X2 := X1.mo (fun y hy => f2 y (by omega) (by omega) (by omega) (by omega))
  refine v_icmp_eqT 1459 dL_law_1065 (rfl) (kt := ?_)
  exact next _ _ _ _ ⟨_, _, _, _, _, _, _, _, _, _, _, _, _, _, X2, M2⟩
end L27
