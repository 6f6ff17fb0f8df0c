/-- of the reference only now, stack and facts are otherwise -/
def Fm (m : Nat) (I I' : hcI) : Prop := ∀ y, y ≠ m + 1 → y ≠ m + 11 → y ≠ m + 12 → I' y = I y
theorem Fm.rfl {m : Nat} {I : hcI} : Fm m I I := fun _ _ _ _ => Eq.refl _
theorem Fm.trans {m : Nat} {I I' I'' : hcI} (h : Fm m I I') (h' : Fm m I' I'') : Fm m I I'' := fun y a b c => (h' y a b c).trans (h y a b c)
theorem Fm.u {m k : Nat} {I : hcI} {v : Int32} : Fm m I (hc_u I (m + 1) k v) := fun y a _ _ => hc_u_ne a
section M2
variable {g : hcG} {S : hcS} {I : hcI} {R : hcR} {z : Nat} {Q : hcQ} {m np nb nt sec : Nat} {N : hN}
theorem growsBy_77 {p : Nat} {v t : Int32} (hm : MG S R m) (hp : p < 10) (I2 : hcI) (hN : I2 (m + 1) = N) (hv : growF N nt p = if 0 < N (33 + 6 * p + 4) then 0 else hc_wi v 0 99) (hQ : Q (some (.int (growF N nt p))) S I2 R z) : V g mX7_growsBy 2 0 0 S I2 R z 77 [some (.ref m), some (.int (nI p)), some (.int t), none] [.int v] Q := by
  have s0 := hm.s0
  rw [hv] at hQ
  refine v_iconst (v := 0) (q := 78) dX7_growsBy_77 (kk := ?_)
  refine v_bipush (v := 99) (q := 80) dX7_growsBy_78 (kk := ?_)
  refine v_cS3 (N := mX7_within) (q := 83) lX7_109 sX7_within kX7_within dX7_growsBy_80 (s_mwithin ?_)
  refine v_istore3 (q := 84) dX7_growsBy_83 (kk := ?_)
  refine v_aload_n (q := 85) dX7_growsBy_84 (kk := ?_)
  refine v_iload_n (q := 86) dX7_growsBy_85 (kk := ?_)
  refine v_iconst (v := 4) (q := 87) dX7_growsBy_86 (kk := ?_)
  refine v_cV2 (N := mX7_of) (q := 90) lX7_80 iX7_of kX7_of (by assumption) dX7_growsBy_87 (s_of (w := 4) hm (by omega) ?_)
  rw [hN]
  refine v_if_le 97 (q := 93) dX7_growsBy_90 (kt := fun c => ?_) (kf := fun c => ?_)
  · rw [if_neg (Int32.not_lt.mpr c)] at hQ
    refine v_iload_n (q := 98) dX7_growsBy_97 (kk := ?_)
    refine v_iret dX7_growsBy_98 (hQ := ?_)
    exact hQ
  · rw [if_pos (Int32.not_le.mp c)] at hQ
    refine v_iconst (v := 0) (q := 94) dX7_growsBy_93 (kk := ?_)
    refine v_goto 98 dX7_growsBy_94 (kt := ?_)
    refine v_iret dX7_growsBy_98 (hQ := ?_)
    exact hQ
theorem s_growsBy {p : Nat} (hm : MG S R m) (hN : I (m + 1) = N) (hw : WF N np nb nt sec) (hp : p < np) (hQ : ∀ I' : hcI, (∀ y, y ≠ m + 11 → y ≠ m + 12 → I' y = I y) → Q (some (.int (growF N nt p))) S I' R z) : Cl g mX7_growsBy 2 0 0 S I R z [.ref m, .int (nI p)] Q := by
  have s0 := hm.s0
  have sn := hm.s_now
  have rn := hm.r_now
  have sf := hm.s_facts
  have rf := hm.r_facts
  have hnp := hw.1.2
  have hnt := hw.2.2.1.2
  refine Cl.go [some (.ref m), some (.int (nI p)), none, none] ?_
  refine v_aload_n (q := 1) dX7_growsBy_0 (kk := ?_)
  refine v_iconst (v := 0) (q := 2) dX7_growsBy_1 (kk := ?_)
  refine v_cV1 (N := mX7_counts) (q := 5) lX7_103 iX7_counts kX7_counts (by assumption) dX7_growsBy_2 (s_counts (key := 0) rfl hm hN hw.2.2.2.2.2.2.2.2.2.2 hw.2.2.1.1 hnt ?_)
  refine v_istore2 (q := 6) dX7_growsBy_5 (kk := ?_)
  refine v_aload_n (q := 7) dX7_growsBy_6 (kk := ?_)
  refine v_getR (q := 10) fX7_45 (by assumption) (by assumption) (hd := dX7_growsBy_7) (kk := ?_)
  refine v_iconst (v := 0) (q := 11) dX7_growsBy_10 (kk := ?_)
  refine v_aload_n (q := 12) dX7_growsBy_11 (kk := ?_)
  refine v_iload_n (q := 13) dX7_growsBy_12 (kk := ?_)
  refine v_iconst (v := 2) (q := 14) dX7_growsBy_13 (kk := ?_)
  refine v_cV2 (N := mX7_of) (q := 17) lX7_80 iX7_of kX7_of (by assumption) dX7_growsBy_14 (s_of (w := 2) hm (by omega) ?_)
  rw [hN]
  refine v_iastE (q := 18) (0) (by rfl) (by assumption) (by omega) (by omega) (hd := dX7_growsBy_17) (kk := ?_)
  refine v_aload_n (q := 19) dX7_growsBy_18 (kk := ?_)
  refine v_getR (q := 22) fX7_45 (by assumption) (by assumption) (hd := dX7_growsBy_19) (kk := ?_)
  refine v_iconst (v := 1) (q := 23) dX7_growsBy_22 (kk := ?_)
  refine v_aload_n (q := 24) dX7_growsBy_23 (kk := ?_)
  refine v_getR (q := 27) fX7_9 (by assumption) (by assumption) (hd := dX7_growsBy_24) (kk := ?_)
  refine v_bipush (v := 6) (q := 29) dX7_growsBy_27 (kk := ?_)
  refine v_ialdE (q := 30) (6) (by rfl) (by assumption) (by omega) (by omega) (hd := dX7_growsBy_29) (kk := ?_)
  have q1 : hc_u I (m + 12) 0 (N (33 + 6 * p + 2)) (m + 1) = N := by rw [hc_u_ne (by omega), hN]
  rw [q1]
  refine v_iastE (q := 31) (1) (by rfl) (by assumption) (by omega) (by omega) (hd := dX7_growsBy_30) (kk := ?_)
  refine v_aload_n (q := 32) dX7_growsBy_31 (kk := ?_)
  refine v_getR (q := 35) fX7_45 (by assumption) (by assumption) (hd := dX7_growsBy_32) (kk := ?_)
  refine v_iconst (v := 2) (q := 36) dX7_growsBy_35 (kk := ?_)
  refine v_aload_n (q := 37) dX7_growsBy_36 (kk := ?_)
  refine v_iload_n (q := 38) dX7_growsBy_37 (kk := ?_)
  refine v_iconst (v := 3) (q := 39) dX7_growsBy_38 (kk := ?_)
  refine v_cV2 (N := mX7_of) (q := 42) lX7_80 iX7_of kX7_of (by assumption) dX7_growsBy_39 (s_of (w := 3) hm (by omega) ?_)
  have q2 : hc_u (hc_u I (m + 12) 0 (N (33 + 6 * p + 2))) (m + 12) 1 (N 6) (m + 1) = N := by rw [hc_u_ne (by omega), q1]
  rw [q2]
  refine v_iastE (q := 43) (2) (by rfl) (by assumption) (by omega) (by omega) (hd := dX7_growsBy_42) (kk := ?_)
  generalize hI3 : hc_u (hc_u (hc_u I (m + 12) 0 (N (33 + 6 * p + 2))) (m + 12) 1 (N 6)) (m + 12) 2 (N (33 + 6 * p + 3)) = I3
  have hF3 : ∀ y, y ≠ m + 12 → I3 y = I y := fun y hy => by
    rw [← hI3, hc_u_ne hy, hc_u_ne hy, hc_u_ne hy]
  have q3 : I3 (m + 1) = N := by rw [hF3 _ (by omega), hN]
  have f0 : ∀ j, j < 3 → I3 (m + 12) j = f3 (N (33 + 6 * p + 2)) (N 6) (N (33 + 6 * p + 3)) j := fun j hj => by
    rw [← hI3]
    have : j = 0 ∨ j = 1 ∨ j = 2 := by omega
    rcases this with rfl | rfl | rfl <;> simp [hc_u, f3]
  have hg : ∀ v, (optM (cntF N 0 nt) (1 + N (33 + 6 * p + 2) / 20 + N 6 / 10) (fun t => evF (f3 (N (33 + 6 * p + 2)) (N 6) (N (33 + 6 * p + 3))) (cdN N t) (cnN N t))) = v → growF N nt p = if 0 < N (33 + 6 * p + 4) then 0 else hc_wi v 0 99 := fun v hv => by
    unfold growF
    rw [hv]
  refine v_iload_n (q := 44) dX7_growsBy_43 (kk := ?_)
  cases hc : cntF N 0 nt with
  | none =>
    refine v_if_geF (q := 47) (t := 72) dX7_growsBy_44 (by decide) (kf := ?_)
    refine v_iconst (v := 1) (q := 48) dX7_growsBy_47 (kk := ?_)
    refine v_aload_n (q := 49) dX7_growsBy_48 (kk := ?_)
    refine v_iload_n (q := 50) dX7_growsBy_49 (kk := ?_)
    refine v_iconst (v := 2) (q := 51) dX7_growsBy_50 (kk := ?_)
    refine v_cV2 (N := mX7_of) (q := 54) lX7_80 iX7_of kX7_of (by assumption) dX7_growsBy_51 (s_of (w := 2) hm (by omega) ?_)
    rw [q3]
    refine v_bipush (v := 20) (q := 56) dX7_growsBy_54 (kk := ?_)
    refine v_idiv (q := 57) dX7_growsBy_56 (by decide) (kk := ?_)
    refine v_iadd (q := 58) dX7_growsBy_57 (kk := ?_)
    refine v_aload_n (q := 59) dX7_growsBy_58 (kk := ?_)
    refine v_getR (q := 62) fX7_9 (by assumption) (by assumption) (hd := dX7_growsBy_59) (kk := ?_)
    refine v_bipush (v := 6) (q := 64) dX7_growsBy_62 (kk := ?_)
    refine v_ialdE (q := 65) (6) (by rfl) (by assumption) (by omega) (by omega) (hd := dX7_growsBy_64) (kk := ?_)
    rw [q3]
    refine v_bipush (v := 10) (q := 67) dX7_growsBy_65 (kk := ?_)
    refine v_idiv (q := 68) dX7_growsBy_67 (by decide) (kk := ?_)
    refine v_iadd (q := 69) dX7_growsBy_68 (kk := ?_)
    refine v_goto 77 dX7_growsBy_69 (kt := ?_)
    exact growsBy_77 (nt := nt) hm (by omega) I3 q3 (hg _ (by rw [hc]; rfl)) (hQ I3 (fun y _ hy => hF3 y hy))
  | some t =>
    have ht := cntF_lt hc
    obtain ⟨key, cn, lv, htw⟩ := hw.2.2.2.2.2.2.2.2.2.2 t ht
    have hcn := TW_cn htw
    refine v_if_geT 72 dX7_growsBy_44 (nI_pos' (by omega)) (kt := ?_)
    refine v_aload_n (q := 73) dX7_growsBy_72 (kk := ?_)
    refine v_iload_n (q := 74) dX7_growsBy_73 (kk := ?_)
    refine v_cV1 (N := mX7_worksOut) (q := 77) lX7_106 iX7_worksOut kX7_worksOut (by assumption) dX7_growsBy_74 (s_worksOut (t := t) hm (by omega) (by rw [q3]; exact htw) (fun I4 hF4 => ?_))
    rw [q3]
    have ev : evF (I3 (m + 12)) (cdN N t) cn = evF (f3 (N (33 + 6 * p + 2)) (N 6) (N (33 + 6 * p + 3))) (cdN N t) cn := by
      unfold evF
      rw [evS_congr (okC_weak htw.2.2.2.2.2 (by split <;> omega) (by omega)) (nm := 3) (by omega) f0 cn (Nat.le_refl _)]
    rw [ev]
    refine growsBy_77 (nt := nt) hm (by omega) I4 (by rw [hF4 _ (by omega)]; exact q3) (hg _ (by rw [hc]; simp only [optM, hcn])) (hQ I4 (fun y h1 h2 => by rw [hF4 y h1, hF3 y h2]))
theorem isSetOff_loop {p : Nat} (hm : MG S R m) (hN : I (m + 1) = N) (hw : WF N np nb nt sec) (hp : p < np) (k : Nat) : ∀ i, i + k = np → Q (some (.int (hc_z ((fst0 (fun q => decide (¬ q = p) && bitB (N 5) q && decide (-(N 7) ≤ N (33 + 6 * q + 1) - N (33 + 6 * p + 1)) && decide (N (33 + 6 * q + 1) - N (33 + 6 * p + 1) ≤ N 7)) i k).isSome)))) S I R z → V g mX7_isSetOff 1 0 0 S I R z 2 [some (.ref m), some (.int (nI p)), some (.int (nI i))] [] Q := by
  have s0 := hm.s0
  have sn := hm.s_now
  have rn := hm.r_now
  have h1 := hw.1.1
  have hnp := hw.1.2
  induction k with
  | zero =>
    intro i hi hQ
    have e2 : i = np := by omega
    subst e2
    refine v_iload_n (q := 3) dX7_isSetOff_2 (kk := ?_)
    refine v_aload_n (q := 4) dX7_isSetOff_3 (kk := ?_)
    refine v_getR (q := 7) fX7_9 (by assumption) (by assumption) (hd := dX7_isSetOff_4) (kk := ?_)
    refine v_iconst (v := 1) (q := 8) dX7_isSetOff_7 (kk := ?_)
    refine v_ialdE (q := 9) (1) (by rfl) (by assumption) (by omega) (by omega) (hd := dX7_isSetOff_8) (kk := ?_)
    rw [hN, h1]
    refine v_icmp_geT 73 dX7_isSetOff_9 (nI_le (Nat.le_refl _) (by omega)) (kt := ?_)
    refine v_iconst (v := 0) (q := 74) dX7_isSetOff_73 (kk := ?_)
    refine v_zret dX7_isSetOff_74 rfl (hQ := ?_)
    rwa [hc_zf (by simp [fst0])] at hQ
  | succ k ih =>
    intro i hi hQ
    have hQ2 : ∀ hf : (decide (¬ i = p) && bitB (N 5) i && decide (-(N 7) ≤ N (33 + 6 * i + 1) - N (33 + 6 * p + 1)) && decide (N (33 + 6 * i + 1) - N (33 + 6 * p + 1) ≤ N 7)) = false, Q (some (.int (hc_z ((fst0 (fun q => decide (¬ q = p) && bitB (N 5) q && decide (-(N 7) ≤ N (33 + 6 * q + 1) - N (33 + 6 * p + 1)) && decide (N (33 + 6 * q + 1) - N (33 + 6 * p + 1) ≤ N 7)) (i + 1) k).isSome)))) S I R z := by
      intro hf
      simp only [fst0] at hQ
      rw [if_neg (by rw [hf]; decide)] at hQ
      exact hQ
    refine v_iload_n (q := 3) dX7_isSetOff_2 (kk := ?_)
    refine v_aload_n (q := 4) dX7_isSetOff_3 (kk := ?_)
    refine v_getR (q := 7) fX7_9 (by assumption) (by assumption) (hd := dX7_isSetOff_4) (kk := ?_)
    refine v_iconst (v := 1) (q := 8) dX7_isSetOff_7 (kk := ?_)
    refine v_ialdE (q := 9) (1) (by rfl) (by assumption) (by omega) (by omega) (hd := dX7_isSetOff_8) (kk := ?_)
    rw [hN, h1]
    refine v_icmp_geF (q := 12) (t := 73) dX7_isSetOff_9 (nI_ge (by omega) (by omega)) (kf := ?_)
    refine v_iload_n (q := 13) dX7_isSetOff_12 (kk := ?_)
    refine v_iload_n (q := 14) dX7_isSetOff_13 (kk := ?_)
    refine v_icmp_eq 67 (q := 17) dX7_isSetOff_14 (kt := fun c => ?_) (kf := fun c => ?_)
    · have c2 : i = p := (nI_eq (by omega) (by omega)).mp c
      refine v_iinc2 (q := 70) dX7_isSetOff_67 (hv := nI_1 i) (kk := ?_)
      refine v_goto 2 dX7_isSetOff_70 (kt := ?_)
      exact ih (i + 1) (by omega) (hQ2 (by simp [c2]))
    · have c2 : ¬ i = p := fun h => c (by rw [h])
      refine v_aload_n (q := 18) dX7_isSetOff_17 (kk := ?_)
      refine v_getR (q := 21) fX7_9 (by assumption) (by assumption) (hd := dX7_isSetOff_18) (kk := ?_)
      refine v_iconst (v := 5) (q := 22) dX7_isSetOff_21 (kk := ?_)
      refine v_ialdE (q := 23) (5) (by rfl) (by assumption) (by omega) (by omega) (hd := dX7_isSetOff_22) (kk := ?_)
      rw [hN]
      refine v_iload_n (q := 24) dX7_isSetOff_23 (kk := ?_)
      refine v_ishr (q := 25) dX7_isSetOff_24 (kk := ?_)
      refine v_iconst (v := 1) (q := 26) dX7_isSetOff_25 (kk := ?_)
      refine v_iand (q := 27) dX7_isSetOff_26 (kk := ?_)
      refine v_iconst (v := 1) (q := 28) dX7_isSetOff_27 (kk := ?_)
      refine v_icmp_ne 67 (q := 31) dX7_isSetOff_28 (kt := fun c3 => ?_) (kf := fun c3 => ?_)
      · have c4 : bitB (N 5) i = false := decide_eq_false c3
        refine v_iinc2 (q := 70) dX7_isSetOff_67 (hv := nI_1 i) (kk := ?_)
        refine v_goto 2 dX7_isSetOff_70 (kt := ?_)
        exact ih (i + 1) (by omega) (hQ2 (by simp [c4]))
      · have c4 : bitB (N 5) i = true := decide_eq_true c3
        refine v_aload_n (q := 32) dX7_isSetOff_31 (kk := ?_)
        refine v_iload_n (q := 33) dX7_isSetOff_32 (kk := ?_)
        refine v_iconst (v := 1) (q := 34) dX7_isSetOff_33 (kk := ?_)
        refine v_cV2 (N := mX7_of) (q := 37) lX7_80 iX7_of kX7_of (by assumption) dX7_isSetOff_34 (s_of (w := 1) hm (by omega) ?_)
        rw [hN]
        refine v_aload_n (q := 38) dX7_isSetOff_37 (kk := ?_)
        refine v_iload_n (q := 39) dX7_isSetOff_38 (kk := ?_)
        refine v_iconst (v := 1) (q := 40) dX7_isSetOff_39 (kk := ?_)
        refine v_cV2 (N := mX7_of) (q := 43) lX7_80 iX7_of kX7_of (by assumption) dX7_isSetOff_40 (s_of (w := 1) hm (by omega) ?_)
        rw [hN]
        refine v_isub (q := 44) dX7_isSetOff_43 (kk := ?_)
        refine v_aload_n (q := 45) dX7_isSetOff_44 (kk := ?_)
        refine v_getR (q := 48) fX7_9 (by assumption) (by assumption) (hd := dX7_isSetOff_45) (kk := ?_)
        refine v_bipush (v := 7) (q := 50) dX7_isSetOff_48 (kk := ?_)
        refine v_ialdE (q := 51) (7) (by rfl) (by assumption) (by omega) (by omega) (hd := dX7_isSetOff_50) (kk := ?_)
        rw [hN]
        refine v_ineg (q := 52) dX7_isSetOff_51 (kk := ?_)
        refine v_aload_n (q := 53) dX7_isSetOff_52 (kk := ?_)
        refine v_getR (q := 56) fX7_9 (by assumption) (by assumption) (hd := dX7_isSetOff_53) (kk := ?_)
        refine v_bipush (v := 7) (q := 58) dX7_isSetOff_56 (kk := ?_)
        refine v_ialdE (q := 59) (7) (by rfl) (by assumption) (by omega) (by omega) (hd := dX7_isSetOff_58) (kk := ?_)
        rw [hN]
        refine v_cS3 (N := mX7_in) (q := 62) lX7_76 sX7_in kX7_in dX7_isSetOff_59 (s_in ?_)
        refine v_if_eqB 67 (q := 65) dX7_isSetOff_62 (kt := fun c5 => ?_) (kf := fun c5 => ?_)
        · refine v_iinc2 (q := 70) dX7_isSetOff_67 (hv := nI_1 i) (kk := ?_)
          refine v_goto 2 dX7_isSetOff_70 (kt := ?_)
          refine ih (i + 1) (by omega) (hQ2 ?_)
          by_cases d1 : -(N 7) ≤ N (33 + 6 * i + 1) - N (33 + 6 * p + 1)
          · have d2 : ¬ N (33 + 6 * i + 1) - N (33 + 6 * p + 1) ≤ N 7 := fun h => c5 ⟨d1, h⟩
            simp [d2]
          · simp [d1]
        · refine v_iconst (v := 1) (q := 66) dX7_isSetOff_65 (kk := ?_)
          refine v_zret dX7_isSetOff_66 rfl (hQ := ?_)
          simp only [fst0] at hQ
          rw [if_pos (by simp [c2, c4, c5])] at hQ
          rwa [hc_zt (by rfl)] at hQ
theorem s_isSetOff {p : Nat} (hm : MG S R m) (hN : I (m + 1) = N) (hw : WF N np nb nt sec) (hp : p < np) (hQ : Q (some (.int (hc_z (offB N np p)))) S I R z) : Cl g mX7_isSetOff 1 0 0 S I R z [.ref m, .int (nI p)] Q := by
  refine Cl.go [some (.ref m), some (.int (nI p)), none] ?_
  refine v_iconst (v := 0) (q := 1) dX7_isSetOff_0 (kk := ?_)
  refine v_istore2 (q := 2) dX7_isSetOff_1 (kk := ?_)
  exact isSetOff_loop hm hN hw hp np 0 (by omega) hQ
theorem mletsGo_63 {p : Nat} (hm : MG S R m) (hN : I (m + 1) = N) (hw : WF N np nb nt sec) (hp : p < np) (hQ : Q (some (.int (hc_z (goB N np nb sec p)))) S I R z) : V g mX7_letsGo 2 0 0 S I R z 63 [some (.ref m), some (.int (nI p)), some (.int (N (33 + 6 * p + 3))), some (.int (N (9 + sec % nb))), some (.int (hc_z (decide (200 ≤ N (33 + 6 * p + 3)) || (decide (100 ≤ N (33 + 6 * p + 3)) && decide (N (9 + sec % nb) = 0))))), some (.int (hc_z (decide (200 ≤ N (33 + 6 * p + 3)) || (decide (100 ≤ N (33 + 6 * p + 3)) && decide (50 ≤ N (9 + sec % nb))))))] [] Q := by
  have s0 := hm.s0
  have sn := hm.s_now
  have rn := hm.r_now
  have hnp := hw.1.2
  have hs := hw.2.2.2.1.2
  have e3 := hw.2.2.2.1.1
  obtain ⟨⟨k, ek, hk6⟩, -⟩ := hw.2.2.2.2.2.2.2.2.2.1 p hp
  refine v_aload_n (q := 64) dX7_letsGo_63 (kk := ?_)
  refine v_iload_n (q := 65) dX7_letsGo_64 (kk := ?_)
  refine v_iconst (v := 0) (q := 66) dX7_letsGo_65 (kk := ?_)
  refine v_cV2 (N := mX7_of) (q := 69) lX7_80 iX7_of kX7_of (by assumption) dX7_letsGo_66 (s_of (w := 0) hm (by omega) ?_)
  rw [hN, show N (33 + 6 * p + 0) = nI k from ek]
  rcases hc_lt6 hk6 with rfl | rfl | rfl | rfl | rfl | rfl
  · have hk1 : N (33 + 6 * p) = 0 := ek
    have hG : goB N np nb sec p = decide (100 ≤ N (33 + 6 * p + 3)) := by simp [goB, hk1]
    rw [hG] at hQ
    refine v_tsOut 195 dX7_letsGo_69 (by decide) (kt := ?_)
    refine v_iload_n (q := 196) dX7_letsGo_195 (kk := ?_)
    refine v_bipush (v := 100) (q := 198) dX7_letsGo_196 (kk := ?_)
    refine v_icmp_lt 205 (q := 201) dX7_letsGo_198 (kt := fun c => ?_) (kf := fun c => ?_)
    · refine v_iconst (v := 0) (q := 206) dX7_letsGo_205 (kk := ?_)
      refine v_zret dX7_letsGo_206 rfl (hQ := ?_)
      rwa [hc_zf (by simp [Int32.not_le.mpr c])] at hQ
    · refine v_iconst (v := 1) (q := 202) dX7_letsGo_201 (kk := ?_)
      refine v_goto 206 dX7_letsGo_202 (kt := ?_)
      refine v_zret dX7_letsGo_206 rfl (hQ := ?_)
      rwa [hc_zt (by simp [Int32.not_lt.mp c])] at hQ
  · have hk1 : N (33 + 6 * p) = 1 := ek
    have hG : goB N np nb sec p = (decide (200 ≤ N (33 + 6 * p + 3)) || (decide (100 ≤ N (33 + 6 * p + 3)) && decide (N (9 + sec % nb) = 0))) := by simp [goB, hk1]
    rw [hG] at hQ
    refine v_tsIn 104 dX7_letsGo_69 (by decide) (by decide) (by rfl) (kt := ?_)
    refine v_iload (q := 106) dX7_letsGo_104 (kk := ?_)
    refine v_zret dX7_letsGo_106 hc_zn (hQ := ?_)
    exact hQ
  · have hk1 : N (33 + 6 * p) = 2 := ek
    have hG : goB N np nb sec p = (decide (200 ≤ N (33 + 6 * p + 3)) || (decide (100 ≤ N (33 + 6 * p + 3)) && decide (50 ≤ N (9 + sec % nb)))) := by simp [goB, hk1]
    rw [hG] at hQ
    refine v_tsIn 107 dX7_letsGo_69 (by decide) (by decide) (by rfl) (kt := ?_)
    refine v_iload (q := 109) dX7_letsGo_107 (kk := ?_)
    refine v_zret dX7_letsGo_109 hc_zn (hQ := ?_)
    exact hQ
  · have hk1 : N (33 + 6 * p) = 3 := ek
    have hG : goB N np nb sec p = ((decide (200 ≤ N (33 + 6 * p + 3)) || (decide (100 ≤ N (33 + 6 * p + 3)) && decide (N (9 + sec % nb) = 0))) || (decide (50 ≤ N (33 + 6 * p + 3)) && offB N np p)) := by simp [goB, hk1]
    rw [hG] at hQ
    refine v_tsIn 110 dX7_letsGo_69 (by decide) (by decide) (by rfl) (kt := ?_)
    refine v_iload (q := 112) dX7_letsGo_110 (kk := ?_)
    refine v_if_neZ 129 (q := 115) dX7_letsGo_112 (kt := fun c1 => ?_) (kf := fun c1 => ?_)
    · rw [c1] at hQ
      refine v_iconst (v := 1) (q := 130) dX7_letsGo_129 (kk := ?_)
      refine v_goto 134 dX7_letsGo_130 (kt := ?_)
      refine v_zret dX7_letsGo_134 rfl (hQ := ?_)
      rwa [hc_zt (by simp)] at hQ
    · rw [c1] at hQ
      refine v_iload_n (q := 116) dX7_letsGo_115 (kk := ?_)
      refine v_bipush (v := 50) (q := 118) dX7_letsGo_116 (kk := ?_)
      refine v_icmp_lt 133 (q := 121) dX7_letsGo_118 (kt := fun c2 => ?_) (kf := fun c2 => ?_)
      · refine v_iconst (v := 0) (q := 134) dX7_letsGo_133 (kk := ?_)
        refine v_zret dX7_letsGo_134 rfl (hQ := ?_)
        rwa [hc_zf (by simp [Int32.not_le.mpr c2])] at hQ
      · refine v_aload_n (q := 122) dX7_letsGo_121 (kk := ?_)
        refine v_iload_n (q := 123) dX7_letsGo_122 (kk := ?_)
        refine v_cV1 (N := mX7_isSetOff) (q := 126) lX7_115 iX7_isSetOff kX7_isSetOff (by assumption) dX7_letsGo_123 (s_isSetOff hm hN hw hp ?_)
        refine v_if_eqZ 133 (q := 129) dX7_letsGo_126 (kt := fun c4 => ?_) (kf := fun c4 => ?_)
        · rw [c4] at hQ
          refine v_iconst (v := 0) (q := 134) dX7_letsGo_133 (kk := ?_)
          refine v_zret dX7_letsGo_134 rfl (hQ := ?_)
          rwa [hc_zf (by simp)] at hQ
        · rw [c4] at hQ
          refine v_iconst (v := 1) (q := 130) dX7_letsGo_129 (kk := ?_)
          refine v_goto 134 dX7_letsGo_130 (kt := ?_)
          refine v_zret dX7_letsGo_134 rfl (hQ := ?_)
          rwa [hc_zt (by simp [Int32.not_lt.mp c2])] at hQ
  · have hk1 : N (33 + 6 * p) = 4 := ek
    have hG : goB N np nb sec p = ((decide (200 ≤ N (33 + 6 * p + 3)) || (decide (100 ≤ N (33 + 6 * p + 3)) && decide (50 ≤ N (9 + sec % nb)))) || (decide (nI (sec % 60) = N (33 + 6 * p + 2) - N (33 + 6 * p + 2) / 60 * 60) && decide (0 < N (33 + 6 * p + 3)))) := by simp [goB, hk1]
    rw [hG] at hQ
    refine v_tsIn 135 dX7_letsGo_69 (by decide) (by decide) (by rfl) (kt := ?_)
    refine v_iload (q := 137) dX7_letsGo_135 (kk := ?_)
    refine v_if_neZ 165 (q := 140) dX7_letsGo_137 (kt := fun c1 => ?_) (kf := fun c1 => ?_)
    · rw [c1] at hQ
      refine v_iconst (v := 1) (q := 166) dX7_letsGo_165 (kk := ?_)
      refine v_goto 170 dX7_letsGo_166 (kt := ?_)
      refine v_zret dX7_letsGo_170 rfl (hQ := ?_)
      rwa [hc_zt (by simp)] at hQ
    · rw [c1] at hQ
      refine v_aload_n (q := 141) dX7_letsGo_140 (kk := ?_)
      refine v_getR (q := 144) fX7_9 (by assumption) (by assumption) (hd := dX7_letsGo_141) (kk := ?_)
      refine v_iconst (v := 3) (q := 145) dX7_letsGo_144 (kk := ?_)
      refine v_ialdE (q := 146) (3) (by rfl) (by assumption) (by omega) (by omega) (hd := dX7_letsGo_145) (kk := ?_)
      rw [hN, e3]
      refine v_bipush (v := 60) (q := 148) dX7_letsGo_146 (kk := ?_)
      refine v_iremN (q := 149) (a := sec) (n := 60) (by omega) (by omega) (by omega) dX7_letsGo_148 (kk := ?_)
      refine v_aload_n (q := 150) dX7_letsGo_149 (kk := ?_)
      refine v_iload_n (q := 151) dX7_letsGo_150 (kk := ?_)
      refine v_iconst (v := 2) (q := 152) dX7_letsGo_151 (kk := ?_)
      refine v_cV2 (N := mX7_of) (q := 155) lX7_80 iX7_of kX7_of (by assumption) dX7_letsGo_152 (s_of (w := 2) hm (by omega) ?_)
      rw [hN]
      refine v_bipush (v := 60) (q := 157) dX7_letsGo_155 (kk := ?_)
      refine v_irem (q := 158) dX7_letsGo_157 (by decide) (kk := ?_)
      refine v_icmp_ne 169 (q := 161) dX7_letsGo_158 (kt := fun c3 => ?_) (kf := fun c3 => ?_)
      · refine v_iconst (v := 0) (q := 170) dX7_letsGo_169 (kk := ?_)
        refine v_zret dX7_letsGo_170 rfl (hQ := ?_)
        rwa [hc_zf (by simp [c3])] at hQ
      · refine v_iload_n (q := 162) dX7_letsGo_161 (kk := ?_)
        refine v_if_le 169 (q := 165) dX7_letsGo_162 (kt := fun c4 => ?_) (kf := fun c4 => ?_)
        · refine v_iconst (v := 0) (q := 170) dX7_letsGo_169 (kk := ?_)
          refine v_zret dX7_letsGo_170 rfl (hQ := ?_)
          rwa [hc_zf (by simp [Int32.not_lt.mpr c4])] at hQ
        · refine v_iconst (v := 1) (q := 166) dX7_letsGo_165 (kk := ?_)
          refine v_goto 170 dX7_letsGo_166 (kt := ?_)
          refine v_zret dX7_letsGo_170 rfl (hQ := ?_)
          rwa [hc_zt (by simp [c3, Int32.not_le.mp c4])] at hQ
  · have hk1 : N (33 + 6 * p) = 5 := ek
    have hG : goB N np nb sec p = decide (nI (sec % 30) = N (33 + 6 * p + 1)) := by simp [goB, hk1]
    rw [hG] at hQ
    refine v_tsIn 171 dX7_letsGo_69 (by decide) (by decide) (by rfl) (kt := ?_)
    refine v_aload_n (q := 172) dX7_letsGo_171 (kk := ?_)
    refine v_getR (q := 175) fX7_9 (by assumption) (by assumption) (hd := dX7_letsGo_172) (kk := ?_)
    refine v_iconst (v := 3) (q := 176) dX7_letsGo_175 (kk := ?_)
    refine v_ialdE (q := 177) (3) (by rfl) (by assumption) (by omega) (by omega) (hd := dX7_letsGo_176) (kk := ?_)
    rw [hN, e3]
    refine v_bipush (v := 30) (q := 179) dX7_letsGo_177 (kk := ?_)
    refine v_iremN (q := 180) (a := sec) (n := 30) (by omega) (by omega) (by omega) dX7_letsGo_179 (kk := ?_)
    refine v_aload_n (q := 181) dX7_letsGo_180 (kk := ?_)
    refine v_iload_n (q := 182) dX7_letsGo_181 (kk := ?_)
    refine v_iconst (v := 1) (q := 183) dX7_letsGo_182 (kk := ?_)
    refine v_cV2 (N := mX7_of) (q := 186) lX7_80 iX7_of kX7_of (by assumption) dX7_letsGo_183 (s_of (w := 1) hm (by omega) ?_)
    rw [hN]
    refine v_icmp_ne 193 (q := 189) dX7_letsGo_186 (kt := fun c => ?_) (kf := fun c => ?_)
    · refine v_iconst (v := 0) (q := 194) dX7_letsGo_193 (kk := ?_)
      refine v_zret dX7_letsGo_194 rfl (hQ := ?_)
      rwa [hc_zf (by simp [c])] at hQ
    · refine v_iconst (v := 1) (q := 190) dX7_letsGo_189 (kk := ?_)
      refine v_goto 194 dX7_letsGo_190 (kt := ?_)
      refine v_zret dX7_letsGo_194 rfl (hQ := ?_)
      rwa [hc_zt (by simp [c])] at hQ
theorem mletsGo_61 {p : Nat} {v : Int32} (hm : MG S R m) (hN : I (m + 1) = N) (hw : WF N np nb nt sec) (hp : p < np) (hv : v = hc_z (decide (200 ≤ N (33 + 6 * p + 3)) || (decide (100 ≤ N (33 + 6 * p + 3)) && decide (50 ≤ N (9 + sec % nb))))) (hQ : Q (some (.int (hc_z (goB N np nb sec p)))) S I R z) : V g mX7_letsGo 2 0 0 S I R z 61 [some (.ref m), some (.int (nI p)), some (.int (N (33 + 6 * p + 3))), some (.int (N (9 + sec % nb))), some (.int (hc_z (decide (200 ≤ N (33 + 6 * p + 3)) || (decide (100 ≤ N (33 + 6 * p + 3)) && decide (N (9 + sec % nb) = 0))))), none] [.int v] Q := by
  subst hv
  refine v_istore5 (q := 63) dX7_letsGo_61 (kk := ?_)
  exact mletsGo_63 hm hN hw hp hQ
theorem mletsGo_35 {p : Nat} {v : Int32} (hm : MG S R m) (hN : I (m + 1) = N) (hw : WF N np nb nt sec) (hp : p < np) (hv : v = hc_z (decide (200 ≤ N (33 + 6 * p + 3)) || (decide (100 ≤ N (33 + 6 * p + 3)) && decide (N (9 + sec % nb) = 0)))) (hQ : Q (some (.int (hc_z (goB N np nb sec p)))) S I R z) : V g mX7_letsGo 2 0 0 S I R z 35 [some (.ref m), some (.int (nI p)), some (.int (N (33 + 6 * p + 3))), some (.int (N (9 + sec % nb))), none, none] [.int v] Q := by
  subst hv
  refine v_istore4 (q := 37) dX7_letsGo_35 (kk := ?_)
  refine v_iload_n (q := 38) dX7_letsGo_37 (kk := ?_)
  refine v_sipush (v := 200) (q := 41) dX7_letsGo_38 (kk := ?_)
  refine v_icmp_ge 56 (q := 44) dX7_letsGo_41 (kt := fun c1 => ?_) (kf := fun c1 => ?_)
  · refine v_iconst (v := 1) (q := 57) dX7_letsGo_56 (kk := ?_)
    refine v_goto 61 dX7_letsGo_57 (kt := ?_)
    exact mletsGo_61 hm hN hw hp (hc_zt (by simp [c1])).symm hQ
  · refine v_iload_n (q := 45) dX7_letsGo_44 (kk := ?_)
    refine v_bipush (v := 100) (q := 47) dX7_letsGo_45 (kk := ?_)
    refine v_icmp_lt 60 (q := 50) dX7_letsGo_47 (kt := fun c2 => ?_) (kf := fun c2 => ?_)
    · refine v_iconst (v := 0) (q := 61) dX7_letsGo_60 (kk := ?_)
      exact mletsGo_61 hm hN hw hp (hc_zf (by simp [c1, Int32.not_le.mpr c2])).symm hQ
    · refine v_iload_n (q := 51) dX7_letsGo_50 (kk := ?_)
      refine v_bipush (v := 50) (q := 53) dX7_letsGo_51 (kk := ?_)
      refine v_icmp_lt 60 (q := 56) dX7_letsGo_53 (kt := fun c3 => ?_) (kf := fun c3 => ?_)
      · refine v_iconst (v := 0) (q := 61) dX7_letsGo_60 (kk := ?_)
        exact mletsGo_61 hm hN hw hp (hc_zf (by simp [c1, Int32.not_le.mpr c3])).symm hQ
      · refine v_iconst (v := 1) (q := 57) dX7_letsGo_56 (kk := ?_)
        refine v_goto 61 dX7_letsGo_57 (kt := ?_)
        exact mletsGo_61 hm hN hw hp (hc_zt (by simp [Int32.not_lt.mp c2, Int32.not_lt.mp c3])).symm hQ
theorem s_mletsGo {p : Nat} (hm : MG S R m) (hN : I (m + 1) = N) (hw : WF N np nb nt sec) (hp : p < np) (hQ : Q (some (.int (hc_z (goB N np nb sec p)))) S I R z) : Cl g mX7_letsGo 2 0 0 S I R z [.ref m, .int (nI p)] Q := by
  have s0 := hm.s0
  have hnp := hw.1.2
  refine Cl.go [some (.ref m), some (.int (nI p)), none, none, none, none] ?_
  refine v_aload_n (q := 1) dX7_letsGo_0 (kk := ?_)
  refine v_iload_n (q := 2) dX7_letsGo_1 (kk := ?_)
  refine v_iconst (v := 3) (q := 3) dX7_letsGo_2 (kk := ?_)
  refine v_cV2 (N := mX7_of) (q := 6) lX7_80 iX7_of kX7_of (by assumption) dX7_letsGo_3 (s_of (w := 3) hm (by omega) ?_)
  rw [hN]
  refine v_istore2 (q := 7) dX7_letsGo_6 (kk := ?_)
  refine v_aload_n (q := 8) dX7_letsGo_7 (kk := ?_)
  refine v_iconst (v := 0) (q := 9) dX7_letsGo_8 (kk := ?_)
  refine v_cV1 (N := mX7_loudOn) (q := 12) lX7_112 iX7_loudOn kX7_loudOn (by assumption) dX7_letsGo_9 (s_loudOn0 hm hN hw.2.1 hw.2.2.2.1 ?_)
  refine v_istore3 (q := 13) dX7_letsGo_12 (kk := ?_)
  refine v_iload_n (q := 14) dX7_letsGo_13 (kk := ?_)
  refine v_sipush (v := 200) (q := 17) dX7_letsGo_14 (kk := ?_)
  refine v_icmp_ge 30 (q := 20) dX7_letsGo_17 (kt := fun c1 => ?_) (kf := fun c1 => ?_)
  · refine v_iconst (v := 1) (q := 31) dX7_letsGo_30 (kk := ?_)
    refine v_goto 35 dX7_letsGo_31 (kt := ?_)
    exact mletsGo_35 hm hN hw hp (hc_zt (by simp [c1])).symm hQ
  · refine v_iload_n (q := 21) dX7_letsGo_20 (kk := ?_)
    refine v_bipush (v := 100) (q := 23) dX7_letsGo_21 (kk := ?_)
    refine v_icmp_lt 34 (q := 26) dX7_letsGo_23 (kt := fun c2 => ?_) (kf := fun c2 => ?_)
    · refine v_iconst (v := 0) (q := 35) dX7_letsGo_34 (kk := ?_)
      exact mletsGo_35 hm hN hw hp (hc_zf (by simp [c1, Int32.not_le.mpr c2])).symm hQ
    · refine v_iload_n (q := 27) dX7_letsGo_26 (kk := ?_)
      refine v_if_ne 34 (q := 30) dX7_letsGo_27 (kt := fun c3 => ?_) (kf := fun c3 => ?_)
      · refine v_iconst (v := 0) (q := 35) dX7_letsGo_34 (kk := ?_)
        exact mletsGo_35 hm hN hw hp (hc_zf (by simp [c1, c3])).symm hQ
      · refine v_iconst (v := 1) (q := 31) dX7_letsGo_30 (kk := ?_)
        refine v_goto 35 dX7_letsGo_31 (kt := ?_)
        exact mletsGo_35 hm hN hw hp (hc_zt (by simp [Int32.not_lt.mp c2, c3])).symm hQ
theorem s_worthOf {p k : Nat} (hm : MG S R m) (hN : I (m + 1) = N) (hp : p < 10) (hk : k < 6) (ek : N (33 + 6 * p) = nI k) (hQ : Q (some (.int (hc_worth k (N (33 + 6 * p + 2)) (N (33 + 6 * p + 1))))) S I R z) : Cl g mX7_worthOf 1 0 0 S I R z [.ref m, .int (nI p)] Q := by
  have s0 := hm.s0
  refine Cl.go [some (.ref m), some (.int (nI p)), none] ?_
  refine v_aload_n (q := 1) dX7_worthOf_0 (kk := ?_)
  refine v_iload_n (q := 2) dX7_worthOf_1 (kk := ?_)
  refine v_iconst (v := 2) (q := 3) dX7_worthOf_2 (kk := ?_)
  refine v_cV2 (N := mX7_of) (q := 6) lX7_80 iX7_of kX7_of (by assumption) dX7_worthOf_3 (s_of (w := 2) hm (by omega) ?_)
  rw [hN]
  refine v_istore2 (q := 7) dX7_worthOf_6 (kk := ?_)
  refine v_aload_n (q := 8) dX7_worthOf_7 (kk := ?_)
  refine v_iload_n (q := 9) dX7_worthOf_8 (kk := ?_)
  refine v_iconst (v := 0) (q := 10) dX7_worthOf_9 (kk := ?_)
  refine v_cV2 (N := mX7_of) (q := 13) lX7_80 iX7_of kX7_of (by assumption) dX7_worthOf_10 (s_of (w := 0) hm (by omega) ?_)
  rw [hN, show N (33 + 6 * p + 0) = nI k from ek]
  rcases hc_lt6 hk with rfl | rfl | rfl | rfl | rfl | rfl
  · refine v_tsOut 75 dX7_worthOf_13 (by decide) (kt := ?_)
    refine v_iload_n (q := 76) dX7_worthOf_75 (kk := ?_)
    refine v_iret dX7_worthOf_76 (hQ := ?_)
    exact hQ
  · refine v_tsIn 48 dX7_worthOf_13 (by decide) (by decide) (by rfl) (kt := ?_)
    refine v_iload_n (q := 49) dX7_worthOf_48 (kk := ?_)
    refine v_iconst (v := 4) (q := 50) dX7_worthOf_49 (kk := ?_)
    refine v_iadd (q := 51) dX7_worthOf_50 (kk := ?_)
    refine v_iret dX7_worthOf_51 (hQ := ?_)
    exact hQ
  · refine v_tsIn 52 dX7_worthOf_13 (by decide) (by decide) (by rfl) (kt := ?_)
    refine v_bipush (v := 100) (q := 54) dX7_worthOf_52 (kk := ?_)
    refine v_iload_n (q := 55) dX7_worthOf_54 (kk := ?_)
    refine v_isub (q := 56) dX7_worthOf_55 (kk := ?_)
    refine v_iret dX7_worthOf_56 (hQ := ?_)
    exact hQ
  · refine v_tsIn 57 dX7_worthOf_13 (by decide) (by decide) (by rfl) (kt := ?_)
    refine v_iconst (v := 2) (q := 58) dX7_worthOf_57 (kk := ?_)
    refine v_iload_n (q := 59) dX7_worthOf_58 (kk := ?_)
    refine v_iconst (v := 4) (q := 60) dX7_worthOf_59 (kk := ?_)
    refine v_iadd (q := 61) dX7_worthOf_60 (kk := ?_)
    refine v_imul (q := 62) dX7_worthOf_61 (kk := ?_)
    refine v_iret dX7_worthOf_62 (hQ := ?_)
    exact hQ
  · refine v_tsIn 63 dX7_worthOf_13 (by decide) (by decide) (by rfl) (kt := ?_)
    refine v_bipush (v := 94) (q := 65) dX7_worthOf_63 (kk := ?_)
    refine v_iload_n (q := 66) dX7_worthOf_65 (kk := ?_)
    refine v_isub (q := 67) dX7_worthOf_66 (kk := ?_)
    refine v_iret dX7_worthOf_67 (hQ := ?_)
    exact hQ
  · refine v_tsIn 68 dX7_worthOf_13 (by decide) (by decide) (by rfl) (kt := ?_)
    refine v_aload_n (q := 69) dX7_worthOf_68 (kk := ?_)
    refine v_iload_n (q := 70) dX7_worthOf_69 (kk := ?_)
    refine v_iconst (v := 1) (q := 71) dX7_worthOf_70 (kk := ?_)
    refine v_cV2 (N := mX7_of) (q := 74) lX7_80 iX7_of kX7_of (by assumption) dX7_worthOf_71 (s_of (w := 1) hm (by omega) ?_)
    rw [hN]
    refine v_iret dX7_worthOf_74 (hQ := ?_)
    exact hQ
theorem s_harmBy {n : Nat} (hm : MG S R m) (hN : I (m + 1) = N) (h2 : N 2 = nI nb ∧ 1 ≤ nb ∧ nb ≤ 24) (h3 : N 3 = nI sec ∧ sec ≤ 110000) (h8 : N 8 = nI nt ∧ nt ≤ 14) (htw : ∀ t, t < nt → ∃ key cn lv, TW N t key cn lv) (hQ : ∀ I' : hcI, (∀ y, y ≠ m + 11 → y ≠ m + 12 → I' y = I y) → Q (some (.int (harmF N nb nt sec n))) S I' R z) : Cl g mX7_harmBy 2 0 0 S I R z [.ref m, .int (nI n)] Q := by
  have s0 := hm.s0
  have sn := hm.s_now
  have rn := hm.r_now
  have sf := hm.s_facts
  have rf := hm.r_facts
  have hlt := Nat.mod_lt sec (show nb > 0 by omega)
  refine Cl.go [some (.ref m), some (.int (nI n)), none, none] ?_
  refine v_aload_n (q := 1) dX7_harmBy_0 (kk := ?_)
  refine v_iconst (v := 1) (q := 2) dX7_harmBy_1 (kk := ?_)
  refine v_cV1 (N := mX7_counts) (q := 5) lX7_103 iX7_counts kX7_counts (by assumption) dX7_harmBy_2 (s_counts (key := 1) rfl hm hN htw h8.1 h8.2 ?_)
  refine v_istore2 (q := 6) dX7_harmBy_5 (kk := ?_)
  refine v_aload_n (q := 7) dX7_harmBy_6 (kk := ?_)
  refine v_iconst (v := 0) (q := 8) dX7_harmBy_7 (kk := ?_)
  refine v_cV1 (N := mX7_loudOn) (q := 11) lX7_112 iX7_loudOn kX7_loudOn (by assumption) dX7_harmBy_8 (s_loudOn0 hm hN h2 h3 ?_)
  refine v_istore3 (q := 12) dX7_harmBy_11 (kk := ?_)
  refine v_aload_n (q := 13) dX7_harmBy_12 (kk := ?_)
  refine v_getR (q := 16) fX7_45 (by assumption) (by assumption) (hd := dX7_harmBy_13) (kk := ?_)
  refine v_iconst (v := 0) (q := 17) dX7_harmBy_16 (kk := ?_)
  refine v_iload_n (q := 18) dX7_harmBy_17 (kk := ?_)
  refine v_iastE (q := 19) (0) (by rfl) (by assumption) (by omega) (by omega) (hd := dX7_harmBy_18) (kk := ?_)
  refine v_aload_n (q := 20) dX7_harmBy_19 (kk := ?_)
  refine v_getR (q := 23) fX7_45 (by assumption) (by assumption) (hd := dX7_harmBy_20) (kk := ?_)
  refine v_iconst (v := 1) (q := 24) dX7_harmBy_23 (kk := ?_)
  refine v_iload_n (q := 25) dX7_harmBy_24 (kk := ?_)
  refine v_iastE (q := 26) (1) (by rfl) (by assumption) (by omega) (by omega) (hd := dX7_harmBy_25) (kk := ?_)
  generalize hI3 : hc_u (hc_u I (m + 12) 0 (nI n)) (m + 12) 1 (N (9 + sec % nb)) = I3
  have hF3 : ∀ y, y ≠ m + 12 → I3 y = I y := fun y hy => by rw [← hI3, hc_u_ne hy, hc_u_ne hy]
  have q3 : I3 (m + 1) = N := by rw [hF3 _ (by omega), hN]
  have f0 : ∀ j, j < 2 → I3 (m + 12) j = f3 (nI n) (N (9 + sec % nb)) 0 j := fun j hj => by
    rw [← hI3]
    have : j = 0 ∨ j = 1 := by omega
    rcases this with rfl | rfl <;> simp [hc_u, f3]
  refine v_iload_n (q := 27) dX7_harmBy_26 (kk := ?_)
  cases hc : cntF N 1 nt with
  | none =>
    refine v_if_geF (q := 30) (t := 45) dX7_harmBy_27 (by decide) (kf := ?_)
    refine v_iload_n (q := 31) dX7_harmBy_30 (kk := ?_)
    refine v_bipush (v := 60) (q := 33) dX7_harmBy_31 (kk := ?_)
    refine v_iload_n (q := 34) dX7_harmBy_33 (kk := ?_)
    refine v_isub (q := 35) dX7_harmBy_34 (kk := ?_)
    refine v_iconst (v := 0) (q := 36) dX7_harmBy_35 (kk := ?_)
    refine v_bipush (v := 60) (q := 38) dX7_harmBy_36 (kk := ?_)
    refine v_cS3 (N := mX7_within) (q := 41) lX7_109 sX7_within kX7_within dX7_harmBy_38 (s_mwithin ?_)
    refine v_imul (q := 42) dX7_harmBy_41 (kk := ?_)
    refine v_goto 57 dX7_harmBy_42 (kt := ?_)
    refine v_iret dX7_harmBy_57 (hQ := ?_)
    have hv : nI n * hc_wi (60 - N (9 + sec % nb)) 0 60 = harmF N nb nt sec n := by
      unfold harmF
      rw [hc]
      rfl
    rw [hv]
    exact hQ I3 (fun y _ hy => hF3 y hy)
  | some t =>
    have ht := cntF_lt hc
    obtain ⟨key, cn, lv, h⟩ := htw t ht
    have hcn := TW_cn h
    have hkey : key = 1 := TW_key h (cntF_key hc) (by omega)
    have h8' := h8.2
    refine v_if_geT 45 dX7_harmBy_27 (nI_pos' (by omega)) (kt := ?_)
    refine v_aload_n (q := 46) dX7_harmBy_45 (kk := ?_)
    refine v_iload_n (q := 47) dX7_harmBy_46 (kk := ?_)
    refine v_cV1 (N := mX7_worksOut) (q := 50) lX7_106 iX7_worksOut kX7_worksOut (by assumption) dX7_harmBy_47 (s_worksOut (t := t) hm (by omega) (by rw [q3]; exact h) (fun I4 hF4 => ?_))
    rw [q3]
    have ev : evF (I3 (m + 12)) (cdN N t) cn = evF (f3 (nI n) (N (9 + sec % nb)) 0) (cdN N t) cn := by
      unfold evF
      have ok := h.2.2.2.2.2
      rw [if_neg (by omega)] at ok
      rw [evS_congr ok (by omega) f0 cn (Nat.le_refl _)]
    rw [ev]
    refine v_iconst (v := 0) (q := 51) dX7_harmBy_50 (kk := ?_)
    refine v_sipush (v := 9999) (q := 54) dX7_harmBy_51 (kk := ?_)
    refine v_cS3 (N := mX7_within) (q := 57) lX7_109 sX7_within kX7_within dX7_harmBy_54 (s_mwithin ?_)
    refine v_iret dX7_harmBy_57 (hQ := ?_)
    have hv : hc_wi (evF (f3 (nI n) (N (9 + sec % nb)) 0) (cdN N t) cn) 0 9999 = harmF N nb nt sec n := by
      unfold harmF
      rw [hc]
      simp only [optM, hcn]
    rw [hv]
    exact hQ I4 (fun y h1 h2 => by rw [hF4 y h1, hF3 y h2])
theorem bitsOf_loop {t : Nat} : ∀ (s : Nat), s < 1024 → ∀ n, (Q (some (.int (nI (n + pop10 s)))) S I R z) → V g mX7_bitsOf 0 0 0 S I R z 4 [some (.int (nI t)), some (.int (nI n)), some (.int (nI s))] [] Q := by
  intro s
  induction s using Nat.strongRecOn with
  | ind s ih =>
    intro hs n hQ
    refine v_iload_n (q := 5) dX7_bitsOf_4 (kk := ?_)
    by_cases h0 : s = 0
    · subst h0
      refine v_if_eqT 20 dX7_bitsOf_5 (rfl) (kt := ?_)
      refine v_iload_n (q := 21) dX7_bitsOf_20 (kk := ?_)
      refine v_iret dX7_bitsOf_21 (hQ := ?_)
      have : pop10 0 = 0 := by decide
      rw [this] at hQ
      exact hQ
    · obtain ⟨h1, h2, h3⟩ := pop_step s hs (by omega)
      refine v_if_eqF (q := 8) (t := 20) dX7_bitsOf_5 (nI_ne0 (by omega) (by omega)) (kf := ?_)
      refine v_iinc1 (q := 11) dX7_bitsOf_8 (hv := nI_1 n) (kk := ?_)
      refine v_iload_n (q := 12) dX7_bitsOf_11 (kk := ?_)
      refine v_iload_n (q := 13) dX7_bitsOf_12 (kk := ?_)
      refine v_iconst (v := 1) (q := 14) dX7_bitsOf_13 (kk := ?_)
      refine v_isub (q := 15) dX7_bitsOf_14 (kk := ?_)
      refine v_iand (q := 16) dX7_bitsOf_15 (kk := ?_)
      rw [h1]
      refine v_istore2 (q := 17) dX7_bitsOf_16 (kk := ?_)
      refine v_goto 4 dX7_bitsOf_17 (kt := ?_)
      refine ih _ h2 (by omega) (n + 1) ?_
      rw [h3] at hQ
      rw [show n + 1 + pop10 (s &&& (s - 1)) = n + (pop10 (s &&& (s - 1)) + 1) by omega]
      exact hQ
theorem s_bitsOf {s : Nat} (hs : s < 1024) (hQ : Q (some (.int (nI (pop10 s)))) S I R z) : Cl g mX7_bitsOf 0 0 0 S I R z [.int (nI s)] Q := by
  refine Cl.go [some (.int (nI s)), none, none] ?_
  refine v_iconst (v := 0) (q := 1) dX7_bitsOf_0 (kk := ?_)
  refine v_istore1 (q := 2) dX7_bitsOf_1 (kk := ?_)
  refine v_iload_n (q := 3) dX7_bitsOf_2 (kk := ?_)
  refine v_istore2 (q := 4) dX7_bitsOf_3 (kk := ?_)
  refine bitsOf_loop s hs 0 ?_
  rw [Nat.zero_add]
  exact hQ
theorem second_1 (hm : MG S R m) (hw : WF N np nb nt sec) (k : Nat) : ∀ (i : Nat) (I' : hcI), i + k = np → Fm m I I' → I' (m + 1) = growA N nt i → (∀ I2 : hcI, Fm m I I2 → I2 (m + 1) = growA N nt np → V g mX7_second 3 0 0 S I2 R z 70 [some (.ref m), some (.int (nI np)), none, none] [] Q) → V g mX7_second 3 0 0 S I' R z 2 [some (.ref m), some (.int (nI i)), none, none] [] Q := by
  have s0 := hm.s0
  have sn := hm.s_now
  have rn := hm.r_now
  have hnp := hw.1.2
  induction k with
  | zero =>
    intro i I' hi hF hN hK
    have e2 : i = np := by omega
    subst e2
    have hwi := growA_WF hw i (by omega)
    refine v_iload_n (q := 3) dX7_second_2 (kk := ?_)
    refine v_aload_n (q := 4) dX7_second_3 (kk := ?_)
    refine v_getR (q := 7) fX7_9 (by assumption) (by assumption) (hd := dX7_second_4) (kk := ?_)
    refine v_iconst (v := 1) (q := 8) dX7_second_7 (kk := ?_)
    refine v_ialdE (q := 9) (1) (by rfl) (by assumption) (by omega) (by omega) (hd := dX7_second_8) (kk := ?_)
    rw [hN, hwi.1.1]
    refine v_icmp_geT 70 dX7_second_9 (nI_le (Nat.le_refl _) (by omega)) (kt := ?_)
    exact hK I' hF hN
  | succ k ih =>
    intro i I' hi hF hN hK
    have hwi := growA_WF hw i (by omega)
    refine v_iload_n (q := 3) dX7_second_2 (kk := ?_)
    refine v_aload_n (q := 4) dX7_second_3 (kk := ?_)
    refine v_getR (q := 7) fX7_9 (by assumption) (by assumption) (hd := dX7_second_4) (kk := ?_)
    refine v_iconst (v := 1) (q := 8) dX7_second_7 (kk := ?_)
    refine v_ialdE (q := 9) (1) (by rfl) (by assumption) (by omega) (by omega) (hd := dX7_second_8) (kk := ?_)
    rw [hN, hwi.1.1]
    refine v_icmp_geF (q := 12) (t := 70) dX7_second_9 (nI_ge (by omega) (by omega)) (kf := ?_)
    refine v_aload_n (q := 13) dX7_second_12 (kk := ?_)
    refine v_iload_n (q := 14) dX7_second_13 (kk := ?_)
    refine v_iconst (v := 3) (q := 15) dX7_second_14 (kk := ?_)
    refine v_aload_n (q := 16) dX7_second_15 (kk := ?_)
    refine v_iload_n (q := 17) dX7_second_16 (kk := ?_)
    refine v_iconst (v := 3) (q := 18) dX7_second_17 (kk := ?_)
    refine v_cV2 (N := mX7_of) (q := 21) lX7_80 iX7_of kX7_of (by assumption) dX7_second_18 (s_of (w := 3) hm (by omega) ?_)
    rw [hN]
    refine v_aload_n (q := 22) dX7_second_21 (kk := ?_)
    refine v_iload_n (q := 23) dX7_second_22 (kk := ?_)
    refine v_cV1 (N := mX7_growsBy) (q := 26) lX7_121 iX7_growsBy kX7_growsBy (by assumption) dX7_second_23 (s_growsBy hm hN hwi (by omega) (fun I2 hF2 => ?_))
    have hN2 : I2 (m + 1) = growA N nt i := by rw [hF2 _ (by omega) (by omega)]; exact hN
    refine v_iadd (q := 27) dX7_second_26 (kk := ?_)
    refine v_iconst (v := 0) (q := 28) dX7_second_27 (kk := ?_)
    refine v_sipush (v := 999) (q := 31) dX7_second_28 (kk := ?_)
    refine v_cS3 (N := mX7_within) (q := 34) lX7_109 sX7_within kX7_within dX7_second_31 (s_mwithin ?_)
    refine v_cV3 (N := mX7_put) (q := 37) lX7_84 iX7_put kX7_put (by assumption) dX7_second_34 (s_put (w := 3) hm (by omega) ?_)
    have hN3 : hc_u I2 (m + 1) (33 + 6 * i + 3) (hc_wi (growA N nt i (33 + 6 * i + 3) + growF (growA N nt i) nt i) 0 999) (m + 1) (33 + 6 * i + 4) = growA N nt i (33 + 6 * i + 4) := by
      rw [hc_u_at, upd_ne (by omega), hN2]
    refine v_aload_n (q := 38) dX7_second_37 (kk := ?_)
    refine v_iload_n (q := 39) dX7_second_38 (kk := ?_)
    refine v_iconst (v := 4) (q := 40) dX7_second_39 (kk := ?_)
    refine v_aload_n (q := 41) dX7_second_40 (kk := ?_)
    refine v_iload_n (q := 42) dX7_second_41 (kk := ?_)
    refine v_iconst (v := 4) (q := 43) dX7_second_42 (kk := ?_)
    refine v_cV2 (N := mX7_of) (q := 46) lX7_80 iX7_of kX7_of (by assumption) dX7_second_43 (s_of (w := 4) hm (by omega) ?_)
    rw [hN3]
    have hFf : Fm m I I2 := hF.trans (fun y _ h1 h2 => hF2 y h1 h2)
    refine v_if_le 60 (q := 49) dX7_second_46 (kt := fun c => ?_) (kf := fun c => ?_)
    · refine v_iconst (v := 0) (q := 61) dX7_second_60 (kk := ?_)
      refine v_cV3 (N := mX7_put) (q := 64) lX7_84 iX7_put kX7_put (by assumption) dX7_second_61 (s_put (w := 4) hm (by omega) ?_)
      refine v_iinc1 (q := 67) dX7_second_64 (hv := nI_1 i) (kk := ?_)
      refine v_goto 2 dX7_second_67 (kt := ?_)
      refine ih (i + 1) _ (by omega) ((hFf.trans Fm.u).trans Fm.u) ?_ hK
      rw [hc_u_at, hc_u_at, hN2, growA]
      unfold grow1
      rw [if_neg (Int32.not_lt.mpr c)]
    · refine v_aload_n (q := 50) dX7_second_49 (kk := ?_)
      refine v_iload_n (q := 51) dX7_second_50 (kk := ?_)
      refine v_iconst (v := 4) (q := 52) dX7_second_51 (kk := ?_)
      refine v_cV2 (N := mX7_of) (q := 55) lX7_80 iX7_of kX7_of (by assumption) dX7_second_52 (s_of (w := 4) hm (by omega) ?_)
      rw [hN3]
      refine v_iconst (v := 1) (q := 56) dX7_second_55 (kk := ?_)
      refine v_isub (q := 57) dX7_second_56 (kk := ?_)
      refine v_goto 61 dX7_second_57 (kt := ?_)
      refine v_cV3 (N := mX7_put) (q := 64) lX7_84 iX7_put kX7_put (by assumption) dX7_second_61 (s_put (w := 4) hm (by omega) ?_)
      refine v_iinc1 (q := 67) dX7_second_64 (hv := nI_1 i) (kk := ?_)
      refine v_goto 2 dX7_second_67 (kt := ?_)
      refine ih (i + 1) _ (by omega) ((hFf.trans Fm.u).trans Fm.u) ?_ hK
      rw [hc_u_at, hc_u_at, hN2, growA]
      unfold grow1
      rw [if_pos (Int32.not_le.mp c)]
theorem second_2 {I' : hcI} {N1 : hN} (hm : MG S R m) (hN : I' (m + 1) = N1) (hw : WF N1 np nb nt sec) (k : Nat) : ∀ (i : Nat), i + k = np → V g mX7_second 3 0 0 S I' R z 108 [some (.ref m), some (.int (nI (setA N1 np nb sec np))), some (.int (nI np)), none] [] Q → V g mX7_second 3 0 0 S I' R z 74 [some (.ref m), some (.int (nI (setA N1 np nb sec i))), some (.int (nI i)), none] [] Q := by
  have s0 := hm.s0
  have sn := hm.s_now
  have rn := hm.r_now
  have hnp := hw.1.2
  induction k with
  | zero =>
    intro i hi hK
    have e2 : i = np := by omega
    subst e2
    refine v_iload_n (q := 75) dX7_second_74 (kk := ?_)
    refine v_aload_n (q := 76) dX7_second_75 (kk := ?_)
    refine v_getR (q := 79) fX7_9 (by assumption) (by assumption) (hd := dX7_second_76) (kk := ?_)
    refine v_iconst (v := 1) (q := 80) dX7_second_79 (kk := ?_)
    refine v_ialdE (q := 81) (1) (by rfl) (by assumption) (by omega) (by omega) (hd := dX7_second_80) (kk := ?_)
    rw [hN, hw.1.1]
    refine v_icmp_geT 108 dX7_second_81 (nI_le (Nat.le_refl _) (by omega)) (kt := ?_)
    exact hK
  | succ k ih =>
    intro i hi hK
    refine v_iload_n (q := 75) dX7_second_74 (kk := ?_)
    refine v_aload_n (q := 76) dX7_second_75 (kk := ?_)
    refine v_getR (q := 79) fX7_9 (by assumption) (by assumption) (hd := dX7_second_76) (kk := ?_)
    refine v_iconst (v := 1) (q := 80) dX7_second_79 (kk := ?_)
    refine v_ialdE (q := 81) (1) (by rfl) (by assumption) (by omega) (by omega) (hd := dX7_second_80) (kk := ?_)
    rw [hN, hw.1.1]
    refine v_icmp_geF (q := 84) (t := 108) dX7_second_81 (nI_ge (by omega) (by omega)) (kf := ?_)
    refine v_iload_n (q := 85) dX7_second_84 (kk := ?_)
    refine v_aload_n (q := 86) dX7_second_85 (kk := ?_)
    refine v_iload_n (q := 87) dX7_second_86 (kk := ?_)
    refine v_cV1 (N := mX7_letsGo) (q := 90) lX7_124 iX7_letsGo kX7_letsGo (by assumption) dX7_second_87 (s_mletsGo hm hN hw (by omega) ?_)
    refine v_if_eqZ 99 (q := 93) dX7_second_90 (kt := fun c => ?_) (kf := fun c => ?_)
    · refine v_iconst (v := 0) (q := 100) dX7_second_99 (kk := ?_)
      refine v_ior (q := 101) dX7_second_100 (kk := ?_)
      have es : nI (setA N1 np nb sec i) ||| 0 = nI (setA N1 np nb sec (i + 1)) := by
        rw [show nI (setA N1 np nb sec i) ||| 0 = nI (setA N1 np nb sec i) from Int32.or_zero]
        simp [setA, c]
      rw [es]
      refine v_istore1 (q := 102) dX7_second_101 (kk := ?_)
      refine v_iinc2 (q := 105) dX7_second_102 (hv := nI_1 i) (kk := ?_)
      refine v_goto 74 dX7_second_105 (kt := ?_)
      exact ih (i + 1) (by omega) hK
    · refine v_iconst (v := 1) (q := 94) dX7_second_93 (kk := ?_)
      refine v_iload_n (q := 95) dX7_second_94 (kk := ?_)
      refine v_ishl (q := 96) dX7_second_95 (kk := ?_)
      refine v_goto 100 dX7_second_96 (kt := ?_)
      refine v_ior (q := 101) dX7_second_100 (kk := ?_)
      rw [or_nat i (by omega) _ (setA_lt i)]
      have es : setA N1 np nb sec i + 2 ^ i = setA N1 np nb sec (i + 1) := by simp [setA, c]
      rw [es]
      refine v_istore1 (q := 102) dX7_second_101 (kk := ?_)
      refine v_iinc2 (q := 105) dX7_second_102 (hv := nI_1 i) (kk := ?_)
      refine v_goto 74 dX7_second_105 (kt := ?_)
      exact ih (i + 1) (by omega) hK
theorem second_3 {I0 : hcI} {N1 : hN} {s : Nat} (hs : s < 1024) (hm : MG S R m) (h1 : N1 1 = nI np) (hnp : np ≤ 10) (k : Nat) : ∀ (i : Nat) (I' : hcI), i + k = np → Fm m I0 I' → I' (m + 1) = coughA N1 s i → (∀ I2 : hcI, Fm m I0 I2 → I2 (m + 1) = coughA N1 s np → V g mX7_second 3 0 0 S I2 R z 183 [some (.ref m), some (.int (nI s)), some (.int (nI np)), none] [] Q) → V g mX7_second 3 0 0 S I' R z 110 [some (.ref m), some (.int (nI s)), some (.int (nI i)), none] [] Q := by
  have s0 := hm.s0
  have sn := hm.s_now
  have rn := hm.r_now
  induction k with
  | zero =>
    intro i I' hi hF hN hK
    have e2 : i = np := by omega
    subst e2
    refine v_iload_n (q := 111) dX7_second_110 (kk := ?_)
    refine v_aload_n (q := 112) dX7_second_111 (kk := ?_)
    refine v_getR (q := 115) fX7_9 (by assumption) (by assumption) (hd := dX7_second_112) (kk := ?_)
    refine v_iconst (v := 1) (q := 116) dX7_second_115 (kk := ?_)
    refine v_ialdE (q := 117) (1) (by rfl) (by assumption) (by omega) (by omega) (hd := dX7_second_116) (kk := ?_)
    rw [hN, coughA_ne i 1 (by omega) (by omega), h1]
    refine v_icmp_geT 183 dX7_second_117 (nI_le (Nat.le_refl _) (by omega)) (kt := ?_)
    exact hK I' hF hN
  | succ k ih =>
    intro i I' hi hF hN hK
    have hbit := bit_nat s hs i (by omega)
    refine v_iload_n (q := 111) dX7_second_110 (kk := ?_)
    refine v_aload_n (q := 112) dX7_second_111 (kk := ?_)
    refine v_getR (q := 115) fX7_9 (by assumption) (by assumption) (hd := dX7_second_112) (kk := ?_)
    refine v_iconst (v := 1) (q := 116) dX7_second_115 (kk := ?_)
    refine v_ialdE (q := 117) (1) (by rfl) (by assumption) (by omega) (by omega) (hd := dX7_second_116) (kk := ?_)
    rw [hN, coughA_ne i 1 (by omega) (by omega), h1]
    refine v_icmp_geF (q := 120) (t := 183) dX7_second_117 (nI_ge (by omega) (by omega)) (kf := ?_)
    refine v_iload_n (q := 121) dX7_second_120 (kk := ?_)
    refine v_iload_n (q := 122) dX7_second_121 (kk := ?_)
    refine v_ishr (q := 123) dX7_second_122 (kk := ?_)
    refine v_iconst (v := 1) (q := 124) dX7_second_123 (kk := ?_)
    refine v_iand (q := 125) dX7_second_124 (kk := ?_)
    refine v_iconst (v := 1) (q := 126) dX7_second_125 (kk := ?_)
    refine v_icmp_ne 133 (q := 129) dX7_second_126 (kt := fun c => ?_) (kf := fun c => ?_)
    · have c2 : ¬ s / 2 ^ i % 2 = 1 := by
        have : bitB (nI s) i = false := decide_eq_false c
        rw [hbit] at this
        exact of_decide_eq_false this
      refine v_iconst (v := 0) (q := 134) dX7_second_133 (kk := ?_)
      refine v_istore3 (q := 135) dX7_second_134 (kk := ?_)
      refine v_aload_n (q := 136) dX7_second_135 (kk := ?_)
      refine v_iload_n (q := 137) dX7_second_136 (kk := ?_)
      refine v_iconst (v := 3) (q := 138) dX7_second_137 (kk := ?_)
      refine v_iload_n (q := 139) dX7_second_138 (kk := ?_)
      refine v_if_eqT 146 dX7_second_139 (rfl) (kt := ?_)
      refine v_aload_n (q := 147) dX7_second_146 (kk := ?_)
      refine v_iload_n (q := 148) dX7_second_147 (kk := ?_)
      refine v_iconst (v := 3) (q := 149) dX7_second_148 (kk := ?_)
      refine v_cV2 (N := mX7_of) (q := 152) lX7_80 iX7_of kX7_of (by assumption) dX7_second_149 (s_of (w := 3) hm (by omega) ?_)
      refine v_cV3 (N := mX7_put) (q := 155) lX7_84 iX7_put kX7_put (by assumption) dX7_second_152 (s_put (w := 3) hm (by omega) ?_)
      refine v_aload_n (q := 156) dX7_second_155 (kk := ?_)
      refine v_iload_n (q := 157) dX7_second_156 (kk := ?_)
      refine v_iconst (v := 5) (q := 158) dX7_second_157 (kk := ?_)
      refine v_aload_n (q := 159) dX7_second_158 (kk := ?_)
      refine v_iload_n (q := 160) dX7_second_159 (kk := ?_)
      refine v_iconst (v := 5) (q := 161) dX7_second_160 (kk := ?_)
      refine v_cV2 (N := mX7_of) (q := 164) lX7_80 iX7_of kX7_of (by assumption) dX7_second_161 (s_of (w := 5) hm (by omega) ?_)
      refine v_iload_n (q := 165) dX7_second_164 (kk := ?_)
      refine v_if_eqT 172 dX7_second_165 (rfl) (kt := ?_)
      refine v_iconst (v := 0) (q := 173) dX7_second_172 (kk := ?_)
      refine v_iadd (q := 174) dX7_second_173 (kk := ?_)
      refine v_cV3 (N := mX7_put) (q := 177) lX7_84 iX7_put kX7_put (by assumption) dX7_second_174 (s_put (w := 5) hm (by omega) ?_)
      refine v_iinc2 (q := 180) dX7_second_177 (hv := nI_1 i) (kk := ?_)
      refine v_goto 110 dX7_second_180 (kt := ?_)
      refine v_drop3 ?_
      refine ih (i + 1) _ (by omega) ((hF.trans Fm.u).trans Fm.u) ?_ hK
      rw [hc_u_at, hc_u_at, coughA, hN]
      unfold cough1
      rw [if_neg c2]
      funext j
      by_cases e5 : j = 33 + 6 * i + 5
      · subst e5
        rw [upd_at, upd_ne (by omega)]
        exact Int32.add_zero _
      · rw [upd_ne e5]
        by_cases e3 : j = 33 + 6 * i + 3
        · subst e3
          rw [upd_at]
        · rw [upd_ne e3]
    · have c2 : s / 2 ^ i % 2 = 1 := by
        have : bitB (nI s) i = true := decide_eq_true c
        rw [hbit] at this
        exact of_decide_eq_true this
      refine v_iconst (v := 1) (q := 130) dX7_second_129 (kk := ?_)
      refine v_goto 134 dX7_second_130 (kt := ?_)
      refine v_istore3 (q := 135) dX7_second_134 (kk := ?_)
      refine v_aload_n (q := 136) dX7_second_135 (kk := ?_)
      refine v_iload_n (q := 137) dX7_second_136 (kk := ?_)
      refine v_iconst (v := 3) (q := 138) dX7_second_137 (kk := ?_)
      refine v_iload_n (q := 139) dX7_second_138 (kk := ?_)
      refine v_if_eqF (q := 142) (t := 146) dX7_second_139 (by decide) (kf := ?_)
      refine v_iconst (v := 0) (q := 143) dX7_second_142 (kk := ?_)
      refine v_goto 152 dX7_second_143 (kt := ?_)
      refine v_cV3 (N := mX7_put) (q := 155) lX7_84 iX7_put kX7_put (by assumption) dX7_second_152 (s_put (w := 3) hm (by omega) ?_)
      refine v_aload_n (q := 156) dX7_second_155 (kk := ?_)
      refine v_iload_n (q := 157) dX7_second_156 (kk := ?_)
      refine v_iconst (v := 5) (q := 158) dX7_second_157 (kk := ?_)
      refine v_aload_n (q := 159) dX7_second_158 (kk := ?_)
      refine v_iload_n (q := 160) dX7_second_159 (kk := ?_)
      refine v_iconst (v := 5) (q := 161) dX7_second_160 (kk := ?_)
      refine v_cV2 (N := mX7_of) (q := 164) lX7_80 iX7_of kX7_of (by assumption) dX7_second_161 (s_of (w := 5) hm (by omega) ?_)
      refine v_iload_n (q := 165) dX7_second_164 (kk := ?_)
      refine v_if_eqF (q := 168) (t := 172) dX7_second_165 (by decide) (kf := ?_)
      refine v_iconst (v := 1) (q := 169) dX7_second_168 (kk := ?_)
      refine v_goto 173 dX7_second_169 (kt := ?_)
      refine v_iadd (q := 174) dX7_second_173 (kk := ?_)
      refine v_cV3 (N := mX7_put) (q := 177) lX7_84 iX7_put kX7_put (by assumption) dX7_second_174 (s_put (w := 5) hm (by omega) ?_)
      refine v_iinc2 (q := 180) dX7_second_177 (hv := nI_1 i) (kk := ?_)
      refine v_goto 110 dX7_second_180 (kt := ?_)
      refine v_drop3 ?_
      refine ih (i + 1) _ (by omega) ((hF.trans Fm.u).trans Fm.u) ?_ hK
      rw [hc_u_at, hc_u_at, coughA, hN]
      unfold cough1
      rw [if_pos c2, upd_ne (by omega)]
theorem second_208 {I2 : hcI} {N2 : hN} {s n : Nat} {h v : Int32} (hm : MG S R m) (hN : I2 (m + 1) = N2) (h3 : N2 3 = nI sec) (hF : Fm m I I2) (hQ : ∀ I' : hcI, Fm m I I' → I' (m + 1) = upd (upd (upd N2 4 (h + v)) 3 (nI (sec + 1))) 5 (nI s) → Q (some (.int (nI n))) S I' R z) : V g mX7_second 3 0 0 S I2 R z 208 [some (.ref m), some (.int (nI s)), some (.int (nI n)), none] [.int v, .int h, .int 4, .ref (m + 1)] Q := by
  have s0 := hm.s0
  have sn := hm.s_now
  have rn := hm.r_now
  refine v_iadd (q := 209) dX7_second_208 (kk := ?_)
  refine v_iastE (q := 210) (4) (by rfl) (by assumption) (by omega) (by omega) (hd := dX7_second_209) (kk := ?_)
  refine v_aload_n (q := 211) dX7_second_210 (kk := ?_)
  refine v_getR (q := 214) fX7_9 (by assumption) (by assumption) (hd := dX7_second_211) (kk := ?_)
  refine v_iconst (v := 3) (q := 215) dX7_second_214 (kk := ?_)
  refine v_dup2 (q := 216) dX7_second_215 (kk := ?_)
  refine v_ialdE (q := 217) (3) (by rfl) (by assumption) (by omega) (by omega) (hd := dX7_second_216) (kk := ?_)
  have e3 : hc_u I2 (m + 1) 4 (h + v) (m + 1) 3 = nI sec := by rw [hc_u_at, upd_ne (by omega), hN, h3]
  rw [e3]
  refine v_iconst (v := 1) (q := 218) dX7_second_217 (kk := ?_)
  refine v_iadd (q := 219) dX7_second_218 (kk := ?_)
  rw [nI_1]
  refine v_iastE (q := 220) (3) (by rfl) (by assumption) (by omega) (by omega) (hd := dX7_second_219) (kk := ?_)
  refine v_aload_n (q := 221) dX7_second_220 (kk := ?_)
  refine v_getR (q := 224) fX7_9 (by assumption) (by assumption) (hd := dX7_second_221) (kk := ?_)
  refine v_iconst (v := 5) (q := 225) dX7_second_224 (kk := ?_)
  refine v_iload_n (q := 226) dX7_second_225 (kk := ?_)
  refine v_iastE (q := 227) (5) (by rfl) (by assumption) (by omega) (by omega) (hd := dX7_second_226) (kk := ?_)
  refine v_iload_n (q := 228) dX7_second_227 (kk := ?_)
  refine v_iret dX7_second_228 (hQ := ?_)
  refine hQ _ (((hF.trans Fm.u).trans Fm.u).trans Fm.u) ?_
  rw [hc_u_at, hc_u_at, hc_u_at, hN]
theorem s_second (hm : MG S R m) (hN : I (m + 1) = N) (hw : WF N np nb nt sec) (hs : sec < 110000) (hQ : ∀ I' : hcI, Fm m I I' → I' (m + 1) = secF N np nb nt sec → Q (some (.int (nI (pop10 (secS N np nb nt sec))))) S I' R z) : Cl g mX7_second 3 0 0 S I R z [.ref m] Q := by
  have s0 := hm.s0
  have sn := hm.s_now
  have rn := hm.r_now
  have hnp := hw.1.2
  have hwG := growA_WF hw np (Nat.le_refl _)
  have hsl : secS N np nb nt sec < 2 ^ np := setA_lt np
  have h10 : secS N np nb nt sec < 1024 := Nat.lt_of_lt_of_le hsl (Nat.pow_le_pow_right (by omega) hnp)
  have hp10 := pop_le _ h10
  refine Cl.go [some (.ref m), none, none, none] ?_
  refine v_iconst (v := 0) (q := 1) dX7_second_0 (kk := ?_)
  refine v_istore1 (q := 2) dX7_second_1 (kk := ?_)
  refine second_1 hm hw np 0 I (by omega) Fm.rfl hN (fun I1 hF1 hN1 => ?_)
  refine v_iconst (v := 0) (q := 71) dX7_second_70 (kk := ?_)
  refine v_istore1 (q := 72) dX7_second_71 (kk := ?_)
  refine v_iconst (v := 0) (q := 73) dX7_second_72 (kk := ?_)
  refine v_istore2 (q := 74) dX7_second_73 (kk := ?_)
  refine second_2 hm hN1 hwG np 0 (by omega) ?_
  refine v_iconst (v := 0) (q := 109) dX7_second_108 (kk := ?_)
  refine v_istore2 (q := 110) dX7_second_109 (kk := ?_)
  refine second_3 (I0 := I1) (N1 := growA N nt np) (s := secS N np nb nt sec) h10 hm hwG.1.1 hnp np 0 I1 (by omega) Fm.rfl hN1 (fun I2 hF2 hN2 => ?_)
  have e4 : I2 (m + 1) 4 = N 4 := by rw [hN2, coughA_ne np 4 hnp (by omega), growA_ne np 4 hnp (by omega)]
  have e3 : coughA (growA N nt np) (secS N np nb nt sec) np 3 = nI sec := by rw [coughA_ne np 3 hnp (by omega)]; exact hwG.2.2.2.1.1
  refine v_iload_n (q := 184) dX7_second_183 (kk := ?_)
  refine v_cS1 (N := mX7_bitsOf) (q := 187) lX7_146 sX7_bitsOf kX7_bitsOf dX7_second_184 (s_bitsOf h10 ?_)
  refine v_istore2 (q := 188) dX7_second_187 (kk := ?_)
  refine v_aload_n (q := 189) dX7_second_188 (kk := ?_)
  refine v_getR (q := 192) fX7_9 (by assumption) (by assumption) (hd := dX7_second_189) (kk := ?_)
  refine v_iconst (v := 4) (q := 193) dX7_second_192 (kk := ?_)
  refine v_dup2 (q := 194) dX7_second_193 (kk := ?_)
  refine v_ialdE (q := 195) (4) (by rfl) (by assumption) (by omega) (by omega) (hd := dX7_second_194) (kk := ?_)
  rw [e4]
  refine v_iload_n (q := 196) dX7_second_195 (kk := ?_)
  refine v_if_le 207 (q := 199) dX7_second_196 (kt := fun c => ?_) (kf := fun c => ?_)
  · have p0 : ¬ 0 < pop10 (secS N np nb nt sec) := fun q => absurd c (Int32.not_le.mpr (show nI 0 < _ from (nI_ltI (by omega) (by omega)).mpr q))
    refine v_iconst (v := 0) (q := 208) dX7_second_207 (kk := ?_)
    refine second_208 hm hN2 e3 (hF1.trans hF2) (fun I' hF' hN' => hQ I' hF' ?_)
    rw [hN']
    unfold secF
    rw [if_neg p0]
  · have p0 : 0 < pop10 (secS N np nb nt sec) := (nI_ltI (a := 0) (by omega) (by omega)).mp (Int32.not_le.mp c)
    refine v_aload_n (q := 200) dX7_second_199 (kk := ?_)
    refine v_iload_n (q := 201) dX7_second_200 (kk := ?_)
    refine v_cV1 (N := mX7_harmBy) (q := 204) lX7_149 iX7_harmBy kX7_harmBy (by assumption) dX7_second_201 (s_harmBy hm hN2 (nb := nb) (nt := nt) (sec := sec) ⟨by rw [coughA_ne np 2 hnp (by omega)]; exact hwG.2.1.1, hw.2.1.2⟩ ⟨e3, hw.2.2.2.1.2⟩ ⟨by rw [coughA_ne np 8 hnp (by omega)]; exact hwG.2.2.1.1, hw.2.2.1.2⟩ (fun t ht => ?_) (fun I3 hF3 => ?_))
    · obtain ⟨key, cn, lv, q⟩ := hwG.2.2.2.2.2.2.2.2.2.2 t ht
      exact ⟨key, cn, lv, TW_congr (fun i hi => coughA_ne np i hnp (by omega)) q⟩
    · refine v_goto 208 dX7_second_204 (kt := ?_)
      refine second_208 hm (by rw [hF3 _ (by omega) (by omega)]; exact hN2) e3 ((hF1.trans hF2).trans (fun y _ h1 h2 => hF3 y h1 h2)) (fun I' hF' hN' => hQ I' hF' ?_)
      rw [hN']
      unfold secF
      rw [if_pos p0]
theorem seconds_loop {n : Nat} (hm : MG S R m) (hw : WF N np nb nt sec) (hs : sec + n ≤ 110000) (hQ : ∀ I' : hcI, Fm m I I' → I' (m + 1) = secsF N np nb nt sec n → Q (some (.int (nI (secsC N np nb nt sec n)))) S I' R z) (k : Nat) : ∀ (i : Nat) (I' : hcI), i + k = n → Fm m I I' → I' (m + 1) = secsF N np nb nt sec i → V g mX7_seconds 4 0 0 S I' R z 4 [some (.ref m), some (.int (nI n)), some (.int (nI (secsC N np nb nt sec i))), some (.int (nI i))] [] Q := by
  have s0 := hm.s0
  induction k with
  | zero =>
    intro i I' hi hF hN
    have e2 : i = n := by omega
    subst e2
    refine v_iload_n (q := 5) dX7_seconds_4 (kk := ?_)
    refine v_iload_n (q := 6) dX7_seconds_5 (kk := ?_)
    refine v_icmp_geT 22 dX7_seconds_6 (nI_le (Nat.le_refl _) (by omega)) (kt := ?_)
    refine v_iload_n (q := 23) dX7_seconds_22 (kk := ?_)
    refine v_iret dX7_seconds_23 (hQ := ?_)
    exact hQ I' hF hN
  | succ k ih =>
    intro i I' hi hF hN
    have hwi := secsF_WF hw i (by omega)
    refine v_iload_n (q := 5) dX7_seconds_4 (kk := ?_)
    refine v_iload_n (q := 6) dX7_seconds_5 (kk := ?_)
    refine v_icmp_geF (q := 9) (t := 22) dX7_seconds_6 (nI_ge (by omega) (by omega)) (kf := ?_)
    refine v_iload_n (q := 10) dX7_seconds_9 (kk := ?_)
    refine v_aload_n (q := 11) dX7_seconds_10 (kk := ?_)
    refine v_cV0 (N := mX7_second) (q := 14) lX7_152 iX7_second kX7_second (by assumption) dX7_seconds_11 (s_second hm hN hwi (by omega) (fun I2 hF2 hN2 => ?_))
    refine v_iadd (q := 15) dX7_seconds_14 (kk := ?_)
    rw [nI_add]
    refine v_istore2 (q := 16) dX7_seconds_15 (kk := ?_)
    refine v_iinc3 (q := 19) dX7_seconds_16 (hv := nI_1 i) (kk := ?_)
    refine v_goto 4 dX7_seconds_19 (kt := ?_)
    exact ih (i + 1) I2 (by omega) (hF.trans hF2) hN2
theorem s_seconds {n : Nat} (hm : MG S R m) (hN : I (m + 1) = N) (hw : WF N np nb nt sec) (hs : sec + n ≤ 110000) (hQ : ∀ I' : hcI, Fm m I I' → I' (m + 1) = secsF N np nb nt sec n → Q (some (.int (nI (secsC N np nb nt sec n)))) S I' R z) : Cl g mX7_seconds 4 0 0 S I R z [.ref m, .int (nI n)] Q := by
  refine Cl.go [some (.ref m), some (.int (nI n)), none, none] ?_
  refine v_iconst (v := 0) (q := 1) dX7_seconds_0 (kk := ?_)
  refine v_istore2 (q := 2) dX7_seconds_1 (kk := ?_)
  refine v_iconst (v := 0) (q := 3) dX7_seconds_2 (kk := ?_)
  refine v_istore3 (q := 4) dX7_seconds_3 (kk := ?_)
  exact seconds_loop hm hw hs hQ n 0 I (by omega) Fm.rfl hN
end M2
