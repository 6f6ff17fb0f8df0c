def RM (r : Nat) (I I' : hcI) : Prop := (∀ y, y ≠ r → I' y = I y) ∧ ∀ k, ¬ (4 ≤ k ∧ k ≤ 6) → I' r k = I r k
theorem RM.rfl {r : Nat} {I : hcI} : RM r I I := ⟨fun _ _ => Eq.refl _, fun _ _ => Eq.refl _⟩
theorem RM.u {r k : Nat} {I I' : hcI} {v : Int32} (h : RM r I I') (hk : 4 ≤ k ∧ k ≤ 6) : RM r I (hc_u I' r k v) := ⟨fun y hy => (hc_u_ne hy).trans (h.1 y hy), fun j hj => by rw [hc_u_at, upd_ne (by omega)]; exact h.2 j hj⟩
theorem RM.trans {r : Nat} {I I' I'' : hcI} (h : RM r I I') (h' : RM r I' I'') : RM r I I'' := ⟨fun y hy => (h'.1 y hy).trans (h.1 y hy), fun k hk => (h'.2 k hk).trans (h.2 k hk)⟩
theorem sb_let : ∀ t, t < 256 → ((97 : Int32) ≤ sb t ∧ sb t ≤ 122 ↔ bLt t = true) := by decide +kernel
theorem sb_fig : ∀ t, t < 256 → ((48 : Int32) ≤ sb t ∧ sb t ≤ 57 ↔ bFg t = true) := by decide +kernel
theorem sb_32 : ∀ t, t < 256 → (sb t = 32 ↔ t = 32) := by decide +kernel
/-- the class's sort of a place -/
def stF (tp : Nat → Int32) (tl k : Nat) : Nat := if tl ≤ k then 3 else if bLt (tbF tp k) = true then 0 else if bFg (tbF tp k) = true then 1 else 2
/-- the kind, as the class finds it: w, whether a word is right ahead -/
def lxC (tp : Nat → Int32) (tl p : Nat) (w : Bool) : Nat := if lxQ tp tl p = tl then 3 else if bLt (tbF tp (lxQ tp tl p)) = true then (if w = true ∧ lxQ tp tl p = p then 4 else 0) else if bFg (tbF tp (lxQ tp tl p)) = true then (if (w = true ∧ lxQ tp tl p = p) ∨ 4 < lxR tp tl p - lxQ tp tl p then 4 else 1) else 2
section L3
variable {g : hcG} {S : hcS} {I : hcI} {R : hcR} {z : Nat} {Q : hcQ} {r c tl : Nat} {tp : Nat → Int32}
theorem s_sortAt {k : Nat} (s0 : S r = some (2, 0)) (r2 : R r 2 = some c) (sc : S c = some (8, 96)) (h3 : I r 3 = nI tl) (htl : tl ≤ 96) (hb : TBt tp tl) (hc : ∀ j, j < tl → I c j = sb (tbF tp j)) (hk : k ≤ 96) (hQ : Q (some (.int (nI (stF tp tl k)))) S I R z) : Cl g mX2_sortAt 0 0 0 S I R z [.ref r, .int (nI k)] Q := by
  refine Cl.go [some (.ref r), some (.int (nI k)), none] ?_
  unfold stF at hQ
  refine v_iload_n (q := 1) dX2_sortAt_0 (kk := ?_)
  refine v_aload_n (q := 2) dX2_sortAt_1 (kk := ?_)
  refine v_getI (q := 5) fX2_25 (by assumption) (hd := dX2_sortAt_2) (kk := ?_)
  rw [h3]
  by_cases c1 : k < tl
  · obtain ⟨e1, e2⟩ := hb k c1
    have h1 := sb_let _ e2
    have h2 := sb_fig _ e2
    rw [if_neg (by omega)] at hQ
    refine v_icmp_ltT 10 dX2_sortAt_5 (nI_lt c1 (by omega)) (kt := ?_)
    refine v_aload_n (q := 11) dX2_sortAt_10 (kk := ?_)
    refine v_getR (q := 14) fX2_15 (by assumption) (by assumption) (hd := dX2_sortAt_11) (kk := ?_)
    refine v_iload_n (q := 15) dX2_sortAt_14 (kk := ?_)
    refine v_baldN (q := 16) sc (show k < 96 by omega) (by omega) dX2_sortAt_15 (kk := ?_)
    rw [hc k c1]
    have fig : ¬ bLt (tbF tp k) = true → V g mX2_sortAt 0 0 0 S I R z 31 [some (.ref r), some (.int (nI k)), some (.int (sb (tbF tp k)))] [] Q := by
      intro cl
      rw [if_neg cl] at hQ
      have oth : ¬ bFg (tbF tp k) = true → V g mX2_sortAt 0 0 0 S I R z 47 [some (.ref r), some (.int (nI k)), some (.int (sb (tbF tp k)))] [] Q := by
        intro cf
        rw [if_neg cf] at hQ
        refine v_iconst (v := 2) (q := 48) dX2_sortAt_47 (kk := ?_)
        refine v_iret dX2_sortAt_48 (hQ := ?_)
        exact hQ
      refine v_iload_n (q := 32) dX2_sortAt_31 (kk := ?_)
      refine v_bipush (v := 48) (q := 34) dX2_sortAt_32 (kk := ?_)
      refine v_icmp_lt 47 (q := 37) dX2_sortAt_34 (kt := fun d1 => ?_) (kf := fun d1 => ?_)
      · exact oth (fun h => absurd (h2.mpr h).1 (Int32.not_le.mpr d1))
      · refine v_iload_n (q := 38) dX2_sortAt_37 (kk := ?_)
        refine v_bipush (v := 57) (q := 40) dX2_sortAt_38 (kk := ?_)
        refine v_icmp_gt 47 (q := 43) dX2_sortAt_40 (kt := fun d2 => ?_) (kf := fun d2 => ?_)
        · exact oth (fun h => absurd (h2.mpr h).2 (Int32.not_le.mpr d2))
        · rw [if_pos (h2.mp ⟨Int32.not_lt.mp d1, Int32.not_lt.mp d2⟩)] at hQ
          refine v_iconst (v := 1) (q := 44) dX2_sortAt_43 (kk := ?_)
          refine v_goto 48 dX2_sortAt_44 (kt := ?_)
          refine v_iret dX2_sortAt_48 (hQ := ?_)
          exact hQ
    refine v_istore2 (q := 17) dX2_sortAt_16 (kk := ?_)
    refine v_iload_n (q := 18) dX2_sortAt_17 (kk := ?_)
    refine v_bipush (v := 97) (q := 20) dX2_sortAt_18 (kk := ?_)
    refine v_icmp_lt 31 (q := 23) dX2_sortAt_20 (kt := fun d1 => ?_) (kf := fun d1 => ?_)
    · exact fig (fun h => absurd (h1.mpr h).1 (Int32.not_le.mpr d1))
    · refine v_iload_n (q := 24) dX2_sortAt_23 (kk := ?_)
      refine v_bipush (v := 122) (q := 26) dX2_sortAt_24 (kk := ?_)
      refine v_icmp_gt 31 (q := 29) dX2_sortAt_26 (kt := fun d2 => ?_) (kf := fun d2 => ?_)
      · exact fig (fun h => absurd (h1.mpr h).2 (Int32.not_le.mpr d2))
      · rw [if_pos (h1.mp ⟨Int32.not_lt.mp d1, Int32.not_lt.mp d2⟩)] at hQ
        refine v_iconst (v := 0) (q := 30) dX2_sortAt_29 (kk := ?_)
        refine v_iret dX2_sortAt_30 (hQ := ?_)
        exact hQ
  · rw [if_pos (by omega)] at hQ
    refine v_icmp_ltF (q := 8) (t := 10) dX2_sortAt_5 (fun h => c1 ((nI_ltI (by omega) (by omega)).mp h)) (kf := ?_)
    refine v_iconst (v := 3) (q := 9) dX2_sortAt_8 (kk := ?_)
    refine v_iret dX2_sortAt_9 (hQ := ?_)
    exact hQ
theorem goOn_skip {x1 x2 : Int32} (s0 : S r = some (2, 0)) (r2 : R r 2 = some c) (hcr : c ≠ r) (sc : S c = some (8, 96)) (h3 : I r 3 = nI tl) (htl : tl ≤ 96) (hb : TBt tp tl) (hc : ∀ j, j < tl → I c j = sb (tbF tp j)) (n : Nat) : ∀ (i : Nat) (I1 : hcI), i + n = tl → RM r I I1 → I1 r 4 = nI i → (∀ I2 : hcI, RM r I I2 → I2 r 4 = nI (scn (fun j => decide (tbF tp j = 32)) n i) → V g mX2_goOn 1 0 0 S I2 R z 72 [some (.ref r), some (.int x1), some (.int x2), none] [] Q) → V g mX2_goOn 1 0 0 S I1 R z 34 [some (.ref r), some (.int x1), some (.int x2), none] [] Q := by
  induction n with
  | zero =>
    intro i I1 hi hG h4 hQ
    have e3 : I1 r 3 = nI tl := (hG.2 3 (by omega)).trans h3
    refine v_aload_n (q := 35) dX2_goOn_34 (kk := ?_)
    refine v_getI (q := 38) fX2_71 (by assumption) (hd := dX2_goOn_35) (kk := ?_)
    rw [h4]
    refine v_aload_n (q := 39) dX2_goOn_38 (kk := ?_)
    refine v_getI (q := 42) fX2_25 (by assumption) (hd := dX2_goOn_39) (kk := ?_)
    rw [e3]
    refine v_icmp_geT 72 dX2_goOn_42 (nI_le (by omega) (by omega)) (kt := ?_)
    exact hQ I1 hG h4
  | succ n ih =>
    intro i I1 hi hG h4 hQ
    have e3 : I1 r 3 = nI tl := (hG.2 3 (by omega)).trans h3
    have ec : I1 c i = sb (tbF tp i) := by rw [hG.1 c hcr]; exact hc i (by omega)
    obtain ⟨b1, b2⟩ := hb i (by omega)
    have h32 := sb_32 _ b2
    simp only [scn] at hQ
    refine v_aload_n (q := 35) dX2_goOn_34 (kk := ?_)
    refine v_getI (q := 38) fX2_71 (by assumption) (hd := dX2_goOn_35) (kk := ?_)
    rw [h4]
    refine v_aload_n (q := 39) dX2_goOn_38 (kk := ?_)
    refine v_getI (q := 42) fX2_25 (by assumption) (hd := dX2_goOn_39) (kk := ?_)
    rw [e3]
    refine v_icmp_geF (q := 45) (t := 72) dX2_goOn_42 (fun h => by have := (nI_leI (by omega) (by omega)).mp h; omega) (kf := ?_)
    refine v_aload_n (q := 46) dX2_goOn_45 (kk := ?_)
    refine v_getR (q := 49) fX2_15 (by assumption) (by assumption) (hd := dX2_goOn_46) (kk := ?_)
    refine v_aload_n (q := 50) dX2_goOn_49 (kk := ?_)
    refine v_getI (q := 53) fX2_71 (by assumption) (hd := dX2_goOn_50) (kk := ?_)
    rw [h4]
    refine v_baldN (q := 54) sc (show i < 96 by omega) (by omega) dX2_goOn_53 (kk := ?_)
    rw [ec]
    refine v_bipush (v := 32) (q := 56) dX2_goOn_54 (kk := ?_)
    by_cases cc : tbF tp i = 32
    · rw [if_pos (decide_eq_true cc)] at hQ
      refine v_icmp_neF (q := 59) (t := 72) dX2_goOn_56 (h32.mpr cc) (kf := ?_)
      refine v_aload_n (q := 60) dX2_goOn_59 (kk := ?_)
      refine v_dup (q := 61) dX2_goOn_60 (kk := ?_)
      refine v_getI (q := 64) fX2_71 (by assumption) (hd := dX2_goOn_61) (kk := ?_)
      rw [h4]
      refine v_iconst (v := 1) (q := 65) dX2_goOn_64 (kk := ?_)
      refine v_iadd (q := 66) dX2_goOn_65 (kk := ?_)
      rw [nI_1]
      refine v_putI (q := 69) fX2_71 (by assumption) (hd := dX2_goOn_66) (kk := ?_)
      refine v_goto 34 dX2_goOn_69 (kt := ?_)
      exact ih (i + 1) _ (by omega) (hG.u (by omega)) (by rw [hc_u_at, upd_at]) hQ
    · rw [if_neg (by simpa using cc)] at hQ
      refine v_icmp_neT 72 dX2_goOn_56 (fun h => cc (h32.mp h)) (kt := ?_)
      exact hQ I1 hG h4
theorem goOn_word {x1 x2 : Int32} {s q : Nat} (hs : s < 2) (s0 : S r = some (2, 0)) (r2 : R r 2 = some c) (hcr : c ≠ r) (sc : S c = some (8, 96)) (h3 : I r 3 = nI tl) (htl : tl ≤ 96) (hb : TBt tp tl) (hc : ∀ j, j < tl → I c j = sb (tbF tp j)) (n : Nat) : ∀ (i : Nat) (I1 : hcI), i + n = tl → RM r I I1 → I1 r 4 = nI q → I1 r 5 = nI i → I1 r 6 = nI s → (∀ I2 : hcI, RM r I I2 → I2 r 4 = nI q → I2 r 5 = nI (scn (fun j => decide (stF tp tl j = s)) n i) → I2 r 6 = nI s → V g mX2_goOn 1 0 0 S I2 R z 160 [some (.ref r), some (.int x1), some (.int x2), none] [] Q) → V g mX2_goOn 1 0 0 S I1 R z 121 [some (.ref r), some (.int x1), some (.int x2), none] [] Q := by
  induction n with
  | zero =>
    intro i I1 hi hG h4 h5 h6 hQ
    have e3 : I1 r 3 = nI tl := (hG.2 3 (by omega)).trans h3
    refine v_aload_n (q := 122) dX2_goOn_121 (kk := ?_)
    refine v_getI (q := 125) fX2_29 (by assumption) (hd := dX2_goOn_122) (kk := ?_)
    rw [h5]
    refine v_aload_n (q := 126) dX2_goOn_125 (kk := ?_)
    refine v_getI (q := 129) fX2_25 (by assumption) (hd := dX2_goOn_126) (kk := ?_)
    rw [e3]
    refine v_icmp_geT 160 dX2_goOn_129 (nI_le (by omega) (by omega)) (kt := ?_)
    exact hQ I1 hG h4 h5 h6
  | succ n ih =>
    intro i I1 hi hG h4 h5 h6 hQ
    have e3 : I1 r 3 = nI tl := (hG.2 3 (by omega)).trans h3
    have ec : ∀ j, j < tl → I1 c j = sb (tbF tp j) := fun j hj => by rw [hG.1 c hcr]; exact hc j hj
    have hst : stF tp tl i < 4 := by
      unfold stF
      split
      · omega
      · split
        · omega
        · split <;> omega
    simp only [scn] at hQ
    refine v_aload_n (q := 122) dX2_goOn_121 (kk := ?_)
    refine v_getI (q := 125) fX2_29 (by assumption) (hd := dX2_goOn_122) (kk := ?_)
    rw [h5]
    refine v_aload_n (q := 126) dX2_goOn_125 (kk := ?_)
    refine v_getI (q := 129) fX2_25 (by assumption) (hd := dX2_goOn_126) (kk := ?_)
    rw [e3]
    refine v_icmp_geF (q := 132) (t := 160) dX2_goOn_129 (fun h => by have := (nI_leI (by omega) (by omega)).mp h; omega) (kf := ?_)
    refine v_aload_n (q := 133) dX2_goOn_132 (kk := ?_)
    refine v_aload_n (q := 134) dX2_goOn_133 (kk := ?_)
    refine v_getI (q := 137) fX2_29 (by assumption) (hd := dX2_goOn_134) (kk := ?_)
    rw [h5]
    refine v_cV1 (N := mX2_sortAt) (q := 140) lX2_74 iX2_sortAt kX2_sortAt (by assumption) dX2_goOn_137 (s_sortAt s0 r2 sc e3 htl hb ec (by omega) ?_)
    refine v_aload_n (q := 141) dX2_goOn_140 (kk := ?_)
    refine v_getI (q := 144) fX2_32 (by assumption) (hd := dX2_goOn_141) (kk := ?_)
    rw [h6]
    by_cases cc : stF tp tl i = s
    · rw [if_pos (decide_eq_true cc)] at hQ
      refine v_icmp_neF (q := 147) (t := 160) dX2_goOn_144 (by rw [cc]) (kf := ?_)
      refine v_aload_n (q := 148) dX2_goOn_147 (kk := ?_)
      refine v_dup (q := 149) dX2_goOn_148 (kk := ?_)
      refine v_getI (q := 152) fX2_29 (by assumption) (hd := dX2_goOn_149) (kk := ?_)
      rw [h5]
      refine v_iconst (v := 1) (q := 153) dX2_goOn_152 (kk := ?_)
      refine v_iadd (q := 154) dX2_goOn_153 (kk := ?_)
      rw [nI_1]
      refine v_putI (q := 157) fX2_29 (by assumption) (hd := dX2_goOn_154) (kk := ?_)
      refine v_goto 121 dX2_goOn_157 (kt := ?_)
      exact ih (i + 1) _ (by omega) (hG.u (by omega)) (by rw [hc_u_at, upd_ne (by omega)]; exact h4) (by rw [hc_u_at, upd_at]) (by rw [hc_u_at, upd_ne (by omega)]; exact h6) hQ
    · rw [if_neg (by simpa using cc)] at hQ
      refine v_icmp_neT 160 dX2_goOn_144 (fun h => cc ((nI_eq (by omega) (by omega)).mp h)) (kt := ?_)
      exact hQ I1 hG h4 h5 h6
end L3
