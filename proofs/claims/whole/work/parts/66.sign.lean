/-- the reference's code of a sign, 0 where it is none -/
def sgF (t : Nat) : Int32 := if t = 124 then -1 else if t = 38 then -2 else if t = 60 then -3 else if t = 61 then -4 else if t = 62 then -5 else if t = 43 then -6 else if t = 45 then -7 else if t = 42 then -8 else if t = 47 then -9 else 0
def rkF (s : Int32) : Int32 := if s = -1 then 1 else if s = -2 then 2 else if -5 ≤ s then 3 else if -7 ≤ s then 4 else if -9 ≤ s then 5 else 6
/-- the class's level of a sign -/
def lvH (t : Nat) : Int32 := if sgF t = 0 then -1 else rkF (sgF t) - 1
def tgC (t : Nat) : Nat := if t = 124 then 100 else if t = 38 then 102 else if t = 60 ∨ t = 61 ∨ t = 62 then 104 else if t = 43 ∨ t = 45 then 106 else if t = 42 ∨ t = 47 then 108 else 110
theorem ls_lv : ∀ t, t < 256 → (19 : Int) + Op.lookupswitch.offset [(38, 83), (42, 89), (43, 87), (45, 87), (47, 89), (60, 85), (61, 85), (62, 85), (124, 81)] 91 (sb t).toInt = (tgC t : Int) := by decide +kernel
theorem tg_lv : ∀ t, t < 256 → (tgC t = 100 ∧ lvH t = 0) ∨ (tgC t = 102 ∧ lvH t = 1) ∨ (tgC t = 104 ∧ lvH t = 2) ∨ (tgC t = 106 ∧ lvH t = 3) ∨ (tgC t = 108 ∧ lvH t = 4) ∨ (tgC t = 110 ∧ lvH t = -1) := by decide +kernel
def tgM (t : Nat) : Nat := if t = 124 then 96 else if t = 38 then 98 else if t = 60 then 101 else if t = 61 then 104 else if t = 62 then 107 else if t = 43 then 110 else if t = 45 then 113 else if t = 42 then 116 else if t = 47 then 119 else 122
theorem ls_sg : ∀ t, t < 256 → (14 : Int) + Op.lookupswitch.offset [(38, 84), (42, 102), (43, 96), (45, 99), (47, 105), (60, 87), (61, 90), (62, 93), (124, 82)] 108 (nI t).toInt = (tgM t : Int) := by decide +kernel
theorem tg_sg : ∀ t, t < 256 → (tgM t = 96 ∧ sgF t = -1) ∨ (tgM t = 98 ∧ sgF t = -2) ∨ (tgM t = 101 ∧ sgF t = -3) ∨ (tgM t = 104 ∧ sgF t = -4) ∨ (tgM t = 107 ∧ sgF t = -5) ∨ (tgM t = 110 ∧ sgF t = -6) ∨ (tgM t = 113 ∧ sgF t = -7) ∨ (tgM t = 116 ∧ sgF t = -8) ∨ (tgM t = 119 ∧ sgF t = -9) ∨ (tgM t = 122 ∧ sgF t = 0) := by decide +kernel
section L6
variable {g : hcG} {S : hcS} {I : hcI} {R : hcR} {z : Nat} {Q : hcQ} {m r c cd tl : Nat} {tp : Nat → Int32}
theorem s_levelAtHand {s q : Nat} (hr : RE S I R r c cd tl tp) (hs : s < 5) (h6 : I r 6 = nI s) (h4 : I r 4 = nI q) (hq : s = 2 → q < tl) (hQ : Q (some (.int (if s = 2 then lvH (tbF tp q) else -1))) S I R z) : Cl g mX2_levelAtHand 0 0 0 S I R z [.ref r] Q := by
  obtain ⟨⟨s0, r1, scd, r2, sc, n1, n2, n3⟩, h3, htl, hb, hc⟩ := hr
  refine Cl.go [some (.ref r)] ?_
  refine v_aload_n (q := 1) dX2_levelAtHand_0 (kk := ?_)
  refine v_getI (q := 4) fX2_32 (by assumption) (hd := dX2_levelAtHand_1) (kk := ?_)
  rw [h6]
  refine v_iconst (v := 2) (q := 5) dX2_levelAtHand_4 (kk := ?_)
  by_cases c1 : s = 2
  · have hq' := hq c1
    obtain ⟨b1, b2⟩ := hb q hq'
    rw [if_pos c1] at hQ
    refine v_icmp_eqT 10 dX2_levelAtHand_5 (by rw [c1]; rfl) (kt := ?_)
    refine v_aload_n (q := 11) dX2_levelAtHand_10 (kk := ?_)
    refine v_getR (q := 14) fX2_15 (by assumption) (by assumption) (hd := dX2_levelAtHand_11) (kk := ?_)
    refine v_aload_n (q := 15) dX2_levelAtHand_14 (kk := ?_)
    refine v_getI (q := 18) fX2_71 (by assumption) (hd := dX2_levelAtHand_15) (kk := ?_)
    rw [h4]
    refine v_baldN (q := 19) sc (show q < 96 by omega) (by omega) dX2_levelAtHand_18 (kk := ?_)
    rw [hc q hq']
    refine v_ls (tgC (tbF tp q)) dX2_levelAtHand_19 rfl (ls_lv _ b2) (kt := ?_)
    rcases tg_lv _ b2 with ⟨e1, e2⟩ | ⟨e1, e2⟩ | ⟨e1, e2⟩ | ⟨e1, e2⟩ | ⟨e1, e2⟩ | ⟨e1, e2⟩
    · rw [e1]
      rw [e2] at hQ
      refine v_iconst (v := 0) (q := 101) dX2_levelAtHand_100 (kk := ?_)
      refine v_iret dX2_levelAtHand_101 (hQ := ?_)
      exact hQ
    · rw [e1]
      rw [e2] at hQ
      refine v_iconst (v := 1) (q := 103) dX2_levelAtHand_102 (kk := ?_)
      refine v_iret dX2_levelAtHand_103 (hQ := ?_)
      exact hQ
    · rw [e1]
      rw [e2] at hQ
      refine v_iconst (v := 2) (q := 105) dX2_levelAtHand_104 (kk := ?_)
      refine v_iret dX2_levelAtHand_105 (hQ := ?_)
      exact hQ
    · rw [e1]
      rw [e2] at hQ
      refine v_iconst (v := 3) (q := 107) dX2_levelAtHand_106 (kk := ?_)
      refine v_iret dX2_levelAtHand_107 (hQ := ?_)
      exact hQ
    · rw [e1]
      rw [e2] at hQ
      refine v_iconst (v := 4) (q := 109) dX2_levelAtHand_108 (kk := ?_)
      refine v_iret dX2_levelAtHand_109 (hQ := ?_)
      exact hQ
    · rw [e1]
      rw [e2] at hQ
      refine v_iconst (v := (-1)) (q := 111) dX2_levelAtHand_110 (kk := ?_)
      refine v_iret dX2_levelAtHand_111 (hQ := ?_)
      exact hQ
  · rw [if_neg c1] at hQ
    refine v_icmp_eqF (q := 8) (t := 10) dX2_levelAtHand_5 (fun h => c1 ((nI_eq (b := 2) (by omega) (by omega)).mp h)) (kf := ?_)
    refine v_iconst (v := (-1)) (q := 9) dX2_levelAtHand_8 (kk := ?_)
    refine v_iret dX2_levelAtHand_9 (hQ := ?_)
    exact hQ
theorem s_signHere {k t : Nat} (hm : MG S R m) (hk : k < 5) (h9 : I m 9 = nI k) (ht : k = 3 → t < 256 ∧ I m 10 = nI t) (hQ : Q (some (.int (if k = 3 then sgF t else 0))) S I R z) : Cl g mX7_signHere 0 0 0 S I R z [.ref m] Q := by
  have s0 := hm.s0
  refine Cl.go [some (.ref m)] ?_
  refine v_aload_n (q := 1) dX7_signHere_0 (kk := ?_)
  refine v_getI (q := 4) fX7_194 (by assumption) (hd := dX7_signHere_1) (kk := ?_)
  rw [h9]
  refine v_iconst (v := 3) (q := 5) dX7_signHere_4 (kk := ?_)
  by_cases c1 : k = 3
  · obtain ⟨b2, h10⟩ := ht c1
    rw [if_pos c1] at hQ
    refine v_icmp_eqT 10 dX7_signHere_5 (by rw [c1]; rfl) (kt := ?_)
    refine v_aload_n (q := 11) dX7_signHere_10 (kk := ?_)
    refine v_getI (q := 14) fX7_200 (by assumption) (hd := dX7_signHere_11) (kk := ?_)
    rw [h10]
    refine v_ls (tgM t) dX7_signHere_14 rfl (ls_sg _ b2) (kt := ?_)
    rcases tg_sg _ b2 with ⟨e1, e2⟩ | ⟨e1, e2⟩ | ⟨e1, e2⟩ | ⟨e1, e2⟩ | ⟨e1, e2⟩ | ⟨e1, e2⟩ | ⟨e1, e2⟩ | ⟨e1, e2⟩ | ⟨e1, e2⟩ | ⟨e1, e2⟩
    · rw [e1]
      rw [e2] at hQ
      refine v_iconst (v := (-1)) (q := 97) dX7_signHere_96 (kk := ?_)
      refine v_iret dX7_signHere_97 (hQ := ?_)
      exact hQ
    · rw [e1]
      rw [e2] at hQ
      refine v_bipush (v := (-2)) (q := 100) dX7_signHere_98 (kk := ?_)
      refine v_iret dX7_signHere_100 (hQ := ?_)
      exact hQ
    · rw [e1]
      rw [e2] at hQ
      refine v_bipush (v := (-3)) (q := 103) dX7_signHere_101 (kk := ?_)
      refine v_iret dX7_signHere_103 (hQ := ?_)
      exact hQ
    · rw [e1]
      rw [e2] at hQ
      refine v_bipush (v := (-4)) (q := 106) dX7_signHere_104 (kk := ?_)
      refine v_iret dX7_signHere_106 (hQ := ?_)
      exact hQ
    · rw [e1]
      rw [e2] at hQ
      refine v_bipush (v := (-5)) (q := 109) dX7_signHere_107 (kk := ?_)
      refine v_iret dX7_signHere_109 (hQ := ?_)
      exact hQ
    · rw [e1]
      rw [e2] at hQ
      refine v_bipush (v := (-6)) (q := 112) dX7_signHere_110 (kk := ?_)
      refine v_iret dX7_signHere_112 (hQ := ?_)
      exact hQ
    · rw [e1]
      rw [e2] at hQ
      refine v_bipush (v := (-7)) (q := 115) dX7_signHere_113 (kk := ?_)
      refine v_iret dX7_signHere_115 (hQ := ?_)
      exact hQ
    · rw [e1]
      rw [e2] at hQ
      refine v_bipush (v := (-8)) (q := 118) dX7_signHere_116 (kk := ?_)
      refine v_iret dX7_signHere_118 (hQ := ?_)
      exact hQ
    · rw [e1]
      rw [e2] at hQ
      refine v_bipush (v := (-9)) (q := 121) dX7_signHere_119 (kk := ?_)
      refine v_iret dX7_signHere_121 (hQ := ?_)
      exact hQ
    · rw [e1]
      rw [e2] at hQ
      refine v_iconst (v := 0) (q := 123) dX7_signHere_122 (kk := ?_)
      refine v_iret dX7_signHere_123 (hQ := ?_)
      exact hQ
  · rw [if_neg c1] at hQ
    refine v_icmp_eqF (q := 8) (t := 10) dX7_signHere_5 (fun h => c1 ((nI_eq (b := 3) (by omega) (by omega)).mp h)) (kf := ?_)
    refine v_iconst (v := 0) (q := 9) dX7_signHere_8 (kk := ?_)
    refine v_iret dX7_signHere_9 (hQ := ?_)
    exact hQ
theorem s_rank {s : Int32} (hQ : Q (some (.int (rkF s))) S I R z) : Cl g mX7_rank 0 0 0 S I R z [.int s] Q := by
  unfold rkF at hQ
  refine Cl.go [some (.int s)] ?_
  refine v_iload_n (q := 1) dX7_rank_0 (kk := ?_)
  refine v_iconst (v := (-1)) (q := 2) dX7_rank_1 (kk := ?_)
  refine v_icmp_ne 9 (q := 5) dX7_rank_2 (kt := fun c1 => ?_) (kf := fun c1 => ?_)
  · rw [if_neg c1] at hQ
    refine v_iload_n (q := 10) dX7_rank_9 (kk := ?_)
    refine v_bipush (v := (-2)) (q := 12) dX7_rank_10 (kk := ?_)
    refine v_icmp_ne 19 (q := 15) dX7_rank_12 (kt := fun c2 => ?_) (kf := fun c2 => ?_)
    · rw [if_neg c2] at hQ
      refine v_iload_n (q := 20) dX7_rank_19 (kk := ?_)
      refine v_bipush (v := (-5)) (q := 22) dX7_rank_20 (kk := ?_)
      refine v_icmp_lt 29 (q := 25) dX7_rank_22 (kt := fun c3 => ?_) (kf := fun c3 => ?_)
      · rw [if_neg (Int32.not_le.mpr c3)] at hQ
        refine v_iload_n (q := 30) dX7_rank_29 (kk := ?_)
        refine v_bipush (v := (-7)) (q := 32) dX7_rank_30 (kk := ?_)
        refine v_icmp_lt 39 (q := 35) dX7_rank_32 (kt := fun c4 => ?_) (kf := fun c4 => ?_)
        · rw [if_neg (Int32.not_le.mpr c4)] at hQ
          refine v_iload_n (q := 40) dX7_rank_39 (kk := ?_)
          refine v_bipush (v := (-9)) (q := 42) dX7_rank_40 (kk := ?_)
          refine v_icmp_lt 49 (q := 45) dX7_rank_42 (kt := fun c5 => ?_) (kf := fun c5 => ?_)
          · rw [if_neg (Int32.not_le.mpr c5)] at hQ
            refine v_bipush (v := 6) (q := 51) dX7_rank_49 (kk := ?_)
            refine v_iret dX7_rank_51 (hQ := ?_)
            exact hQ
          · rw [if_pos (Int32.not_lt.mp c5)] at hQ
            refine v_iconst (v := 5) (q := 46) dX7_rank_45 (kk := ?_)
            refine v_goto 51 dX7_rank_46 (kt := ?_)
            refine v_iret dX7_rank_51 (hQ := ?_)
            exact hQ
        · rw [if_pos (Int32.not_lt.mp c4)] at hQ
          refine v_iconst (v := 4) (q := 36) dX7_rank_35 (kk := ?_)
          refine v_goto 51 dX7_rank_36 (kt := ?_)
          refine v_iret dX7_rank_51 (hQ := ?_)
          exact hQ
      · rw [if_pos (Int32.not_lt.mp c3)] at hQ
        refine v_iconst (v := 3) (q := 26) dX7_rank_25 (kk := ?_)
        refine v_goto 51 dX7_rank_26 (kt := ?_)
        refine v_iret dX7_rank_51 (hQ := ?_)
        exact hQ
    · rw [if_pos c2] at hQ
      refine v_iconst (v := 2) (q := 16) dX7_rank_15 (kk := ?_)
      refine v_goto 51 dX7_rank_16 (kt := ?_)
      refine v_iret dX7_rank_51 (hQ := ?_)
      exact hQ
  · rw [if_pos c1] at hQ
    refine v_iconst (v := 1) (q := 6) dX7_rank_5 (kk := ?_)
    refine v_goto 51 dX7_rank_6 (kt := ?_)
    refine v_iret dX7_rank_51 (hQ := ?_)
    exact hQ
end L6
