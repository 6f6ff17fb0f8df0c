section T15
variable {g : hcG} {S : hcS} {I : hcI} {R : hcR} {z : Nat} {Q : hcQ} {b m np nb nt sec wt tl : Nat} {N : hN} {tp : Nat → Int32}
theorem w_11 {w : Int32} (h : ¬ (0 ≤ w ∧ w < 11)) : w.toInt < 0 ∨ 10 < w.toInt := by
  by_cases h0 : 0 ≤ w
  · right
    have : ¬ w.toInt < 11 := fun h' => h ⟨h0, Int32.lt_iff_toInt_lt.mpr h'⟩
    omega
  · left
    have := Int32.lt_iff_toInt_lt.mp (Int32.not_le.mp h0)
    simpa using this
theorem spCount_out {wt tl : Nat} {w : Int32} (h : ¬ (0 ≤ w ∧ w < 11)) : spCount N wt tl w = -1000000001 := by
  unfold spCount
  rw [if_neg (fun e => h (by rw [e]; decide)), if_neg (fun e => h (by rw [e]; decide)), if_neg (fun e => h (by rw [e]; decide)), if_neg (fun e => h (by rw [e]; decide)), if_neg (fun e => h (by rw [e]; decide)), if_neg (fun e => h (by rw [e]; decide)), if_neg (fun e => h (by rw [e]; decide)), if_neg (fun e => h (by rw [e]; decide)), if_neg (fun e => h (by rw [e]; decide)), if_neg (fun e => h (by rw [e]; decide)), if_neg (fun e => h (by rw [e]; decide))]
theorem x_count {w : Int32} (hx : XSk S R b) (hn : XN S I R b N) (h9 : I b 9 = nI tl) (h10 : I b 10 = nI wt) (hQ : Q (some (.int (spCount N wt tl w))) S I R z) : Cl g mX6_count 1 0 0 S I R z [.ref b, .int w] Q := by
  obtain ⟨⟨s0, r0, -⟩, ⟨hk1, -⟩, -⟩ := hx
  obtain ⟨np, nb, nt, sec, hw, hd⟩ := id hn
  obtain ⟨e1, e2, e3, e4⟩ := hw.e
  have sh := hk1.1
  refine Cl.go [some (.ref b), some (.int w)] ?_
  refine v_iload_n (q := 1) dX6_count_0 (kk := ?_)
  by_cases c : 0 ≤ w ∧ w < 11
  · obtain ⟨k, rfl, hk⟩ := nI_of6 (n := 11) rfl (by omega) c
    have : k = 0 ∨ k = 1 ∨ k = 2 ∨ k = 3 ∨ k = 4 ∨ k = 5 ∨ k = 6 ∨ k = 7 ∨ k = 8 ∨ k = 9 ∨ k = 10 := by omega
    rcases this with rfl | rfl | rfl | rfl | rfl | rfl | rfl | rfl | rfl | rfl | rfl
    · have e : spCount N wt tl (nI 0) = N 1 := by unfold spCount; rfl
      rw [e] at hQ
      refine v_tsIn 60 dX6_count_1 (by decide) (by decide) (by rfl) (kt := ?_)
      refine v_aload_n (q := 61) dX6_count_60 (kk := ?_)
      refine v_getR (q := 64) fX6_12 (by assumption) (by assumption) (hd := dX6_count_61) (kk := ?_)
      refine v_getI (q := 67) fX6_61 (by assumption) (hd := dX6_count_64) (kk := ?_)
      rw [hd.1.1]
      refine v_iret dX6_count_67 (hQ := ?_)
      exact hQ
    · have e : spCount N wt tl (nI 1) = N 2 := by unfold spCount; rfl
      rw [e] at hQ
      refine v_tsIn 68 dX6_count_1 (by decide) (by decide) (by rfl) (kt := ?_)
      refine v_aload_n (q := 69) dX6_count_68 (kk := ?_)
      refine v_getR (q := 72) fX6_12 (by assumption) (by assumption) (hd := dX6_count_69) (kk := ?_)
      refine v_getI (q := 75) fX6_144 (by assumption) (hd := dX6_count_72) (kk := ?_)
      rw [hd.1.2.1]
      refine v_iret dX6_count_75 (hQ := ?_)
      exact hQ
    · have e : spCount N wt tl (nI 2) = N 3 := by unfold spCount; rfl
      rw [e] at hQ
      refine v_tsIn 76 dX6_count_1 (by decide) (by decide) (by rfl) (kt := ?_)
      refine v_aload_n (q := 77) dX6_count_76 (kk := ?_)
      refine v_getR (q := 80) fX6_12 (by assumption) (by assumption) (hd := dX6_count_77) (kk := ?_)
      refine v_getI (q := 83) fX6_286 (by assumption) (hd := dX6_count_80) (kk := ?_)
      rw [hd.1.2.2.2.2.2.1]
      refine v_iret dX6_count_83 (hQ := ?_)
      exact hQ
    · have e : spCount N wt tl (nI 3) = sumC N np := by unfold spCount; rw [e1]; rfl
      rw [e] at hQ
      refine v_tsIn 84 dX6_count_1 (by decide) (by decide) (by rfl) (kt := ?_)
      refine v_aload_n (q := 85) dX6_count_84 (kk := ?_)
      refine v_getR (q := 88) fX6_12 (by assumption) (by assumption) (hd := dX6_count_85) (kk := ?_)
      refine v_cV0 (N := mX0_allCoughs) (q := 91) lX6_163 iX0_allCoughs kX0_allCoughs (by assumption) dX6_count_88 (s_allCoughs hk1 hd hw.1 ?_)
      refine v_iret dX6_count_91 (hQ := ?_)
      exact hQ
    · have e : spCount N wt tl (nI 4) = N 4 := by unfold spCount; rfl
      rw [e] at hQ
      refine v_tsIn 92 dX6_count_1 (by decide) (by decide) (by rfl) (kt := ?_)
      refine v_aload_n (q := 93) dX6_count_92 (kk := ?_)
      refine v_getR (q := 96) fX6_12 (by assumption) (by assumption) (hd := dX6_count_93) (kk := ?_)
      refine v_getI (q := 99) fX6_166 (by assumption) (hd := dX6_count_96) (kk := ?_)
      rw [hd.1.2.2.2.2.2.2.1]
      refine v_iret dX6_count_99 (hQ := ?_)
      exact hQ
    · have e : spCount N wt tl (nI 5) = N 6 := by unfold spCount; rfl
      rw [e] at hQ
      refine v_tsIn 100 dX6_count_1 (by decide) (by decide) (by rfl) (kt := ?_)
      refine v_aload_n (q := 101) dX6_count_100 (kk := ?_)
      refine v_getR (q := 104) fX6_12 (by assumption) (by assumption) (hd := dX6_count_101) (kk := ?_)
      refine v_getI (q := 107) fX6_138 (by assumption) (hd := dX6_count_104) (kk := ?_)
      rw [hd.1.2.2.2.1]
      refine v_iret dX6_count_107 (hQ := ?_)
      exact hQ
    · have e : spCount N wt tl (nI 6) = N 7 := by unfold spCount; rfl
      rw [e] at hQ
      refine v_tsIn 108 dX6_count_1 (by decide) (by decide) (by rfl) (kt := ?_)
      refine v_aload_n (q := 109) dX6_count_108 (kk := ?_)
      refine v_getR (q := 112) fX6_12 (by assumption) (by assumption) (hd := dX6_count_109) (kk := ?_)
      refine v_getI (q := 115) fX6_141 (by assumption) (hd := dX6_count_112) (kk := ?_)
      rw [hd.1.2.2.2.2.1]
      refine v_iret dX6_count_115 (hQ := ?_)
      exact hQ
    · have e : spCount N wt tl (nI 7) = N 8 := by unfold spCount; rfl
      rw [e] at hQ
      refine v_tsIn 116 dX6_count_1 (by decide) (by decide) (by rfl) (kt := ?_)
      refine v_aload_n (q := 117) dX6_count_116 (kk := ?_)
      refine v_getR (q := 120) fX6_12 (by assumption) (by assumption) (hd := dX6_count_117) (kk := ?_)
      refine v_getI (q := 123) fX6_208 (by assumption) (hd := dX6_count_120) (kk := ?_)
      rw [hd.1.2.2.1]
      refine v_iret dX6_count_123 (hQ := ?_)
      exact hQ
    · have e : spCount N wt tl (nI 8) = nI wt := by unfold spCount; rfl
      rw [e] at hQ
      refine v_tsIn 124 dX6_count_1 (by decide) (by decide) (by rfl) (kt := ?_)
      refine v_aload_n (q := 125) dX6_count_124 (kk := ?_)
      refine v_getI (q := 128) fX6_276 (by assumption) (hd := dX6_count_125) (kk := ?_)
      rw [h10]
      refine v_iret dX6_count_128 (hQ := ?_)
      exact hQ
    · have e : spCount N wt tl (nI 9) = nI tl := by unfold spCount; rfl
      rw [e] at hQ
      refine v_tsIn 129 dX6_count_1 (by decide) (by decide) (by rfl) (kt := ?_)
      refine v_aload_n (q := 130) dX6_count_129 (kk := ?_)
      refine v_getI (q := 133) fX6_194 (by assumption) (hd := dX6_count_130) (kk := ?_)
      rw [h9]
      refine v_iret dX6_count_133 (hQ := ?_)
      exact hQ
    · have e : spCount N wt tl (nI 10) = N 0 := by unfold spCount; rfl
      rw [e] at hQ
      refine v_tsIn 134 dX6_count_1 (by decide) (by decide) (by rfl) (kt := ?_)
      refine v_aload_n (q := 135) dX6_count_134 (kk := ?_)
      refine v_getR (q := 138) fX6_12 (by assumption) (by assumption) (hd := dX6_count_135) (kk := ?_)
      refine v_getI (q := 141) fX6_135 (by assumption) (hd := dX6_count_138) (kk := ?_)
      rw [hd.1.2.2.2.2.2.2.2.2]
      refine v_iret dX6_count_141 (hQ := ?_)
      exact hQ
  · rw [spCount_out c] at hQ
    refine v_tsOut 142 dX6_count_1 (w_11 c) (kt := ?_)
    refine v_ldc (q := 144) cX6_55 dX6_count_142 (kk := ?_)
    refine v_iret dX6_count_144 (hQ := ?_)
    exact hQ
theorem m_count {w : Int32} (hm : MG S R m) (hN : I (m + 1) = N) (hn : MN N) (h6 : I m 6 = nI tl) (h32 : I m 32 = nI wt) (hQ : Q (some (.int (spCount N wt tl w))) S I R z) : Cl g mX7_count 2 0 0 S I R z [.ref m, .int w] Q := by
  have s0 := hm.s0
  have sn := hm.s_now
  have rn := hm.r_now
  obtain ⟨np, nb, nt, sec, hw⟩ := hn
  obtain ⟨e1, e2, e3, e4⟩ := hw.e
  refine Cl.go [some (.ref m), some (.int w)] ?_
  refine v_iload_n (q := 1) dX7_count_0 (kk := ?_)
  by_cases c : 0 ≤ w ∧ w < 11
  · obtain ⟨k, rfl, hk⟩ := nI_of6 (n := 11) rfl (by omega) c
    have : k = 0 ∨ k = 1 ∨ k = 2 ∨ k = 3 ∨ k = 4 ∨ k = 5 ∨ k = 6 ∨ k = 7 ∨ k = 8 ∨ k = 9 ∨ k = 10 := by omega
    rcases this with rfl | rfl | rfl | rfl | rfl | rfl | rfl | rfl | rfl | rfl | rfl
    · have e : spCount N wt tl (nI 0) = N 1 := by unfold spCount; rfl
      rw [e] at hQ
      refine v_tsIn 60 dX7_count_1 (by decide) (by decide) (by rfl) (kt := ?_)
      refine v_aload_n (q := 61) dX7_count_60 (kk := ?_)
      refine v_getR (q := 64) fX7_9 (by assumption) (by assumption) (hd := dX7_count_61) (kk := ?_)
      refine v_iconst (v := 1) (q := 65) dX7_count_64 (kk := ?_)
      refine v_ialdE (q := 66) (1) (by rfl) (by assumption) (by omega) (by omega) (hd := dX7_count_65) (kk := ?_)
      rw [hN]
      refine v_iret dX7_count_66 (hQ := ?_)
      exact hQ
    · have e : spCount N wt tl (nI 1) = N 2 := by unfold spCount; rfl
      rw [e] at hQ
      refine v_tsIn 67 dX7_count_1 (by decide) (by decide) (by rfl) (kt := ?_)
      refine v_aload_n (q := 68) dX7_count_67 (kk := ?_)
      refine v_getR (q := 71) fX7_9 (by assumption) (by assumption) (hd := dX7_count_68) (kk := ?_)
      refine v_iconst (v := 2) (q := 72) dX7_count_71 (kk := ?_)
      refine v_ialdE (q := 73) (2) (by rfl) (by assumption) (by omega) (by omega) (hd := dX7_count_72) (kk := ?_)
      rw [hN]
      refine v_iret dX7_count_73 (hQ := ?_)
      exact hQ
    · have e : spCount N wt tl (nI 2) = N 3 := by unfold spCount; rfl
      rw [e] at hQ
      refine v_tsIn 74 dX7_count_1 (by decide) (by decide) (by rfl) (kt := ?_)
      refine v_aload_n (q := 75) dX7_count_74 (kk := ?_)
      refine v_getR (q := 78) fX7_9 (by assumption) (by assumption) (hd := dX7_count_75) (kk := ?_)
      refine v_iconst (v := 3) (q := 79) dX7_count_78 (kk := ?_)
      refine v_ialdE (q := 80) (3) (by rfl) (by assumption) (by omega) (by omega) (hd := dX7_count_79) (kk := ?_)
      rw [hN]
      refine v_iret dX7_count_80 (hQ := ?_)
      exact hQ
    · have e : spCount N wt tl (nI 3) = sumC N np := by unfold spCount; rw [e1]; rfl
      rw [e] at hQ
      refine v_tsIn 81 dX7_count_1 (by decide) (by decide) (by rfl) (kt := ?_)
      refine v_aload_n (q := 82) dX7_count_81 (kk := ?_)
      refine v_cV0 (N := mX7_coughsAll) (q := 85) lX7_159 iX7_coughsAll kX7_coughsAll (by assumption) dX7_count_82 (s_coughsAll hm hN hw.1.1.1 hw.1.1.2 ?_)
      refine v_iret dX7_count_85 (hQ := ?_)
      exact hQ
    · have e : spCount N wt tl (nI 4) = N 4 := by unfold spCount; rfl
      rw [e] at hQ
      refine v_tsIn 86 dX7_count_1 (by decide) (by decide) (by rfl) (kt := ?_)
      refine v_aload_n (q := 87) dX7_count_86 (kk := ?_)
      refine v_getR (q := 90) fX7_9 (by assumption) (by assumption) (hd := dX7_count_87) (kk := ?_)
      refine v_iconst (v := 4) (q := 91) dX7_count_90 (kk := ?_)
      refine v_ialdE (q := 92) (4) (by rfl) (by assumption) (by omega) (by omega) (hd := dX7_count_91) (kk := ?_)
      rw [hN]
      refine v_iret dX7_count_92 (hQ := ?_)
      exact hQ
    · have e : spCount N wt tl (nI 5) = N 6 := by unfold spCount; rfl
      rw [e] at hQ
      refine v_tsIn 93 dX7_count_1 (by decide) (by decide) (by rfl) (kt := ?_)
      refine v_aload_n (q := 94) dX7_count_93 (kk := ?_)
      refine v_getR (q := 97) fX7_9 (by assumption) (by assumption) (hd := dX7_count_94) (kk := ?_)
      refine v_bipush (v := 6) (q := 99) dX7_count_97 (kk := ?_)
      refine v_ialdE (q := 100) (6) (by rfl) (by assumption) (by omega) (by omega) (hd := dX7_count_99) (kk := ?_)
      rw [hN]
      refine v_iret dX7_count_100 (hQ := ?_)
      exact hQ
    · have e : spCount N wt tl (nI 6) = N 7 := by unfold spCount; rfl
      rw [e] at hQ
      refine v_tsIn 101 dX7_count_1 (by decide) (by decide) (by rfl) (kt := ?_)
      refine v_aload_n (q := 102) dX7_count_101 (kk := ?_)
      refine v_getR (q := 105) fX7_9 (by assumption) (by assumption) (hd := dX7_count_102) (kk := ?_)
      refine v_bipush (v := 7) (q := 107) dX7_count_105 (kk := ?_)
      refine v_ialdE (q := 108) (7) (by rfl) (by assumption) (by omega) (by omega) (hd := dX7_count_107) (kk := ?_)
      rw [hN]
      refine v_iret dX7_count_108 (hQ := ?_)
      exact hQ
    · have e : spCount N wt tl (nI 7) = N 8 := by unfold spCount; rfl
      rw [e] at hQ
      refine v_tsIn 109 dX7_count_1 (by decide) (by decide) (by rfl) (kt := ?_)
      refine v_aload_n (q := 110) dX7_count_109 (kk := ?_)
      refine v_getR (q := 113) fX7_9 (by assumption) (by assumption) (hd := dX7_count_110) (kk := ?_)
      refine v_bipush (v := 8) (q := 115) dX7_count_113 (kk := ?_)
      refine v_ialdE (q := 116) (8) (by rfl) (by assumption) (by omega) (by omega) (hd := dX7_count_115) (kk := ?_)
      rw [hN]
      refine v_iret dX7_count_116 (hQ := ?_)
      exact hQ
    · have e : spCount N wt tl (nI 8) = nI wt := by unfold spCount; rfl
      rw [e] at hQ
      refine v_tsIn 117 dX7_count_1 (by decide) (by decide) (by rfl) (kt := ?_)
      refine v_aload_n (q := 118) dX7_count_117 (kk := ?_)
      refine v_getI (q := 121) fX7_256 (by assumption) (hd := dX7_count_118) (kk := ?_)
      rw [h32]
      refine v_iret dX7_count_121 (hQ := ?_)
      exact hQ
    · have e : spCount N wt tl (nI 9) = nI tl := by unfold spCount; rfl
      rw [e] at hQ
      refine v_tsIn 122 dX7_count_1 (by decide) (by decide) (by rfl) (kt := ?_)
      refine v_aload_n (q := 123) dX7_count_122 (kk := ?_)
      refine v_getI (q := 126) fX7_181 (by assumption) (hd := dX7_count_123) (kk := ?_)
      rw [h6]
      refine v_iret dX7_count_126 (hQ := ?_)
      exact hQ
    · have e : spCount N wt tl (nI 10) = N 0 := by unfold spCount; rfl
      rw [e] at hQ
      refine v_tsIn 127 dX7_count_1 (by decide) (by decide) (by rfl) (kt := ?_)
      refine v_aload_n (q := 128) dX7_count_127 (kk := ?_)
      refine v_getR (q := 131) fX7_9 (by assumption) (by assumption) (hd := dX7_count_128) (kk := ?_)
      refine v_iconst (v := 0) (q := 132) dX7_count_131 (kk := ?_)
      refine v_ialdE (q := 133) (0) (by rfl) (by assumption) (by omega) (by omega) (hd := dX7_count_132) (kk := ?_)
      rw [hN]
      refine v_iret dX7_count_133 (hQ := ?_)
      exact hQ
  · rw [spCount_out c] at hQ
    refine v_tsOut 134 dX7_count_1 (w_11 c) (kt := ?_)
    refine v_ldc (q := 136) cX7_92 dX7_count_134 (kk := ?_)
    refine v_iret dX7_count_136 (hQ := ?_)
    exact hQ
theorem m_textTold {t w : Int32} (hm : MG S R m) (hN : I (m + 1) = N) (hn : MN N) (hQ : Q (some (.int (spTextTold N t w))) S I R z) : Cl g mX7_textTold 1 0 0 S I R z [.ref m, .int t, .int w] Q := by
  have s0 := hm.s0
  have sn := hm.s_now
  have rn := hm.r_now
  obtain ⟨np, nb, nt, sec, hw⟩ := hn
  obtain ⟨e1, e2, e3, e4⟩ := hw.e
  have hnt := hw.1.2.2.1.2
  have h8 := hw.1.2.2.1.1
  refine Cl.go [some (.ref m), some (.int t), some (.int w)] ?_
  have bad : ¬ ((0 ≤ t ∧ t < nI nt) ∧ (0 ≤ w ∧ w ≤ 1)) → V g mX7_textTold 1 0 0 S I R z 26 [some (.ref m), some (.int t), some (.int w)] [] Q := by
    intro c
    have e : spTextTold N t w = -1000000001 := by unfold spTextTold; rw [e3, if_neg c]
    rw [e] at hQ
    refine v_ldc (q := 28) cX7_92 dX7_textTold_26 (kk := ?_)
    refine v_iret dX7_textTold_28 (hQ := ?_)
    exact hQ
  refine v_iload_n (q := 1) dX7_textTold_0 (kk := ?_)
  refine v_iconst (v := 0) (q := 2) dX7_textTold_1 (kk := ?_)
  refine v_aload_n (q := 3) dX7_textTold_2 (kk := ?_)
  refine v_getR (q := 6) fX7_9 (by assumption) (by assumption) (hd := dX7_textTold_3) (kk := ?_)
  refine v_bipush (v := 8) (q := 8) dX7_textTold_6 (kk := ?_)
  refine v_ialdE (q := 9) (8) (by rfl) (by assumption) (by omega) (by omega) (hd := dX7_textTold_8) (kk := ?_)
  rw [hN, h8]
  refine v_iconst (v := 1) (q := 10) dX7_textTold_9 (kk := ?_)
  refine v_isub (q := 11) dX7_textTold_10 (kk := ?_)
  refine v_cS3 (N := mX7_in) (q := 14) lX7_76 sX7_in kX7_in dX7_textTold_11 (s_in0 nt (nI nt) rfl rfl (by omega) ?_)
  refine v_if_eqB 26 (q := 17) dX7_textTold_14 (kt := fun c1 => ?_) (kf := fun c1 => ?_)
  · exact bad (fun h => c1 h.1)
  · refine v_iload_n (q := 18) dX7_textTold_17 (kk := ?_)
    refine v_iconst (v := 0) (q := 19) dX7_textTold_18 (kk := ?_)
    refine v_iconst (v := 1) (q := 20) dX7_textTold_19 (kk := ?_)
    refine v_cS3 (N := mX7_in) (q := 23) lX7_76 sX7_in kX7_in dX7_textTold_20 (s_in ?_)
    refine v_if_neB 29 (q := 26) dX7_textTold_23 (kt := fun c2 => ?_) (kf := fun c2 => ?_)
    · obtain ⟨j, rfl, hj⟩ := nI_of6 (n := nt) rfl (by omega) c1
      have e : spTextTold N (nI j) w = if w = 0 then N (93 + 2 * j) / 1000 else N (94 + 2 * j) := by unfold spTextTold; rw [e3, if_pos ⟨c1, c2⟩, nI_clamp (by omega)]
      rw [e] at hQ
      have ix : (93 : Int32) + 2 * nI j = nI (93 + 2 * j) := by rw [show (2 : Int32) = nI 2 from rfl, pk_mul, show (93 : Int32) = nI 93 from rfl, nI_add]
      refine v_iload_n (q := 30) dX7_textTold_29 (kk := ?_)
      refine v_if_ne 51 (q := 33) dX7_textTold_30 (kt := fun c3 => ?_) (kf := fun c3 => ?_)
      · rw [if_neg c3] at hQ
        refine v_aload_n (q := 52) dX7_textTold_51 (kk := ?_)
        refine v_getR (q := 55) fX7_9 (by assumption) (by assumption) (hd := dX7_textTold_52) (kk := ?_)
        refine v_bipush (v := 93) (q := 57) dX7_textTold_55 (kk := ?_)
        refine v_iconst (v := 2) (q := 58) dX7_textTold_57 (kk := ?_)
        refine v_iload_n (q := 59) dX7_textTold_58 (kk := ?_)
        refine v_imul (q := 60) dX7_textTold_59 (kk := ?_)
        refine v_iadd (q := 61) dX7_textTold_60 (kk := ?_)
        rw [ix]
        refine v_iconst (v := 1) (q := 62) dX7_textTold_61 (kk := ?_)
        refine v_iadd (q := 63) dX7_textTold_62 (kk := ?_)
        rw [nI_1, show 93 + 2 * j + 1 = 94 + 2 * j by omega]
        refine v_ialdE (q := 64) (94 + 2 * j) (by rfl) (by assumption) (by omega) (by omega) (hd := dX7_textTold_63) (kk := ?_)
        rw [hN]
        refine v_iret dX7_textTold_64 (hQ := ?_)
        exact hQ
      · rw [if_pos c3] at hQ
        refine v_aload_n (q := 34) dX7_textTold_33 (kk := ?_)
        refine v_getR (q := 37) fX7_9 (by assumption) (by assumption) (hd := dX7_textTold_34) (kk := ?_)
        refine v_bipush (v := 93) (q := 39) dX7_textTold_37 (kk := ?_)
        refine v_iconst (v := 2) (q := 40) dX7_textTold_39 (kk := ?_)
        refine v_iload_n (q := 41) dX7_textTold_40 (kk := ?_)
        refine v_imul (q := 42) dX7_textTold_41 (kk := ?_)
        refine v_iadd (q := 43) dX7_textTold_42 (kk := ?_)
        refine v_ialdE (q := 44) (93 + 2 * j) ix (by assumption) (by omega) (by omega) (hd := dX7_textTold_43) (kk := ?_)
        rw [hN]
        refine v_sipush (v := 1000) (q := 47) dX7_textTold_44 (kk := ?_)
        refine v_idiv (q := 48) dX7_textTold_47 (by decide) (kk := ?_)
        refine v_goto 64 dX7_textTold_48 (kt := ?_)
        refine v_iret dX7_textTold_64 (hQ := ?_)
        exact hQ
    · exact bad (fun h => c2 h.2)
end T15
