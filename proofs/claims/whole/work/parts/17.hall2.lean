theorem hc_o_some {o : Option Nat} {t n : Nat} (h : hc_o o = nI t) (ht : t < 1000) (ho : ∀ t', o = some t' → t' < n) (hn : n < 1000) : o = some t := by
  cases o with
  | none =>
    exfalso
    have h1 : (hc_o none).toInt = -1 := rfl
    rw [h, nI_toInt (by omega)] at h1
    omega
  | some p =>
    have := ho p rfl
    have h2 : nI p = nI t := h
    rw [(nI_eq (by omega) (by omega)).mp h2]
theorem hc_o_none {o : Option Nat} {n : Nat} (h : ¬ (0 ≤ hc_o o ∧ hc_o o < nI n)) (ho : ∀ t', o = some t' → t' < n) (hn : n < 1000) : o = none := by
  cases o with
  | none => rfl
  | some p =>
    exfalso
    have := ho p rfl
    exact h ⟨nI_pos' (by omega), (nI_ltI (by omega) (by omega)).mpr this⟩
section H2
variable {g : hcG} {S : hcS} {I : hcI} {R : hcR} {z : Nat} {Q : hcQ} {b a np nb nt sec : Nat} {N : hN}
theorem s_grows {p : Nat} (hk : HSk S R a) (hd : HD S I R b a N np nb nt) (hw : WF N np nb nt sec) (hp : p < np) (hQ : ∀ I' : hcI, (∀ y, ¬ stk b y → I' y = I y) → Q (some (.int (growF N nt p))) S I' R z) : Cl g mX0_grows 2 0 0 S I R z [.ref a, .ref (a + 5 + p)] Q := by
  have hk' := hk
  obtain ⟨s0, s1, s2, s3, s4, r0, r1, r2, r3, sp⟩ := hk'
  have hnp := hw.1.2
  have hsp := (sp p (by omega)).1
  have hP := hd.2.2.1 p hp
  have e7 : I a 7 = N 6 := hd.1.2.2.2.1
  obtain ⟨-, -, ⟨ag, eag, hag⟩, ⟨it, eit, hit⟩, -, -⟩ := hw.2.2.2.2.2.2.2.2.2.1 p hp
  obtain ⟨dr, edr, hdr⟩ := hw.2.2.2.2.2.2.1
  have hnt := hw.2.2.1.2
  refine Cl.go [some (.ref a), some (.ref (a + 5 + p)), none] ?_
  refine v_aload_n (q := 1) dX0_grows_0 (kk := ?_)
  refine v_getI (q := 4) fX0_109 (by assumption) (hd := dX0_grows_1) (kk := ?_)
  rw [hP 4 (by omega)]
  refine v_if_le 9 (q := 7) dX0_grows_4 (kt := fun c => ?_) (kf := fun c => ?_)
  · have hg : growF N nt p = hc_wi (optM (cntF N 0 nt) (1 + N (33 + 6 * p + 2) / 20 + N 6 / 10) (fun t => evF (f3 (N (33 + 6 * p + 2)) (N 6) (N (33 + 6 * p + 3))) (cdN N t) (cnN N t))) 0 99 := by
      unfold growF
      rw [if_neg (Int32.not_lt.mpr c)]
    refine v_aload_n (q := 10) dX0_grows_9 (kk := ?_)
    refine v_aload_n (q := 11) dX0_grows_10 (kk := ?_)
    refine v_getR (q := 14) fX0_27 (by assumption) (by assumption) (hd := dX0_grows_11) (kk := ?_)
    refine v_iconst (v := 0) (q := 15) dX0_grows_14 (kk := ?_)
    refine v_ialdE (q := 16) (0) (by rfl) (by assumption) (by omega) (by omega) (hd := dX0_grows_15) (kk := ?_)
    rw [hd.2.2.2.1 0 (by omega)]
    refine v_cV1 (N := mX0_lawAt) (q := 19) lX0_112 iX0_lawAt kX0_lawAt (by assumption) dX0_grows_16 (s_lawAt hk hd hw.2.2.1 (fun t x ht ev hx htx => ?_) (fun hn => ?_))
    · have ec := hc_o_some ev (by omega) (fun t' h => cntF_lt h) (n := nt) (by omega)
      obtain ⟨⟨q1, q2⟩, key, cn, lv, htw, t0, t1, t2, u2, u3, v0, v1, v9⟩ := htx
      have hcn := TW_cn htw
      obtain ⟨w1, w2, w3, w4, w5, w6⟩ := htw
      refine v_astore2 (q := 20) dX0_grows_19 (kk := ?_)
      refine v_aload_n (q := 21) dX0_grows_20 (kk := ?_)
      refine v_ifnonnull 44 dX0_grows_21 (kt := ?_)
      refine v_aload_n (q := 45) dX0_grows_44 (kk := ?_)
      refine v_aload_n (q := 46) dX0_grows_45 (kk := ?_)
      refine v_getI (q := 49) fX0_116 (by assumption) (hd := dX0_grows_46) (kk := ?_)
      rw [hP 2 (by omega)]
      refine v_aload_n (q := 50) dX0_grows_49 (kk := ?_)
      refine v_getI (q := 53) fX0_34 (by assumption) (hd := dX0_grows_50) (kk := ?_)
      rw [e7]
      refine v_aload_n (q := 54) dX0_grows_53 (kk := ?_)
      refine v_getI (q := 57) fX0_100 (by assumption) (hd := dX0_grows_54) (kk := ?_)
      rw [hP 3 (by omega)]
      refine v_cV3 (N := mX5_gives) (q := 60) lX0_119 iX5_gives kX5_gives (by assumption) dX0_grows_57 (s_gives t0 t1 t2 u2 u3 v9 (okC_weak w6 (by split <;> omega) (by omega)) w5 w2 (fun I' hI' => ?_))
      refine v_bipush (v := 99) (q := 62) dX0_grows_60 (kk := ?_)
      refine v_cN2 (N := mX6_held) (q := 65) nX0_122 sX6_held kX6_held dX0_grows_62 (s_held ?_)
      refine v_iret dX0_grows_65 (hQ := ?_)
      have hv : hc_max 0 (hc_min (evF (f3 (N (33 + 6 * p + 2)) (N 6) (N (33 + 6 * p + 3))) (cdN N t) cn) 99) = growF N nt p := by
        rw [hg, ec]
        simp only [optM, hcn]
        exact held_wi _ (hi := 99) (by omega)
      rw [hv]
      exact hQ I' (fun y hy => hI' y (fun e => hy (by unfold stk; omega)))
    · have ec := hc_o_none hn (fun t' h => cntF_lt h) (by omega)
      refine v_astoreN2 (q := 20) dX0_grows_19 (kk := ?_)
      refine v_aload_nN (q := 21) dX0_grows_20 (kk := ?_)
      refine v_ifnonnullN (q := 24) dX0_grows_21 (kt := ?_)
      refine v_iconst (v := 1) (q := 25) dX0_grows_24 (kk := ?_)
      refine v_aload_n (q := 26) dX0_grows_25 (kk := ?_)
      refine v_getI (q := 29) fX0_116 (by assumption) (hd := dX0_grows_26) (kk := ?_)
      rw [hP 2 (by omega), eag]
      refine v_bipush (v := 20) (q := 31) dX0_grows_29 (kk := ?_)
      refine v_idiv (q := 32) dX0_grows_31 (by decide) (kk := ?_)
      refine v_iadd (q := 33) dX0_grows_32 (kk := ?_)
      refine v_aload_n (q := 34) dX0_grows_33 (kk := ?_)
      refine v_getI (q := 37) fX0_34 (by assumption) (hd := dX0_grows_34) (kk := ?_)
      rw [e7, edr]
      refine v_bipush (v := 10) (q := 39) dX0_grows_37 (kk := ?_)
      refine v_idiv (q := 40) dX0_grows_39 (by decide) (kk := ?_)
      refine v_iadd (q := 41) dX0_grows_40 (kk := ?_)
      refine v_goto 65 dX0_grows_41 (kt := ?_)
      refine v_iret dX0_grows_65 (hQ := ?_)
      have hv : 1 + nI ag / 20 + nI dr / 10 = growF N nt p := by
        rw [hg, ec]
        simp only [optM]
        rw [eag, edr, show (20 : Int32) = nI 20 from rfl, show (10 : Int32) = nI 10 from rfl, pk_div (by omega) (by omega) (by omega), pk_div (by omega) (by omega) (by omega), show (1 : Int32) = nI 1 from rfl, nI_add, nI_add]
        exact (wi_id (hi := 99) (by omega) (by omega)).symm
      rw [hv]
      exact hQ I (fun _ _ => rfl)
  · refine v_iconst (v := 0) (q := 8) dX0_grows_7 (kk := ?_)
    refine v_iret dX0_grows_8 (hQ := ?_)
    have hg : growF N nt p = 0 := by
      unfold growF
      rw [if_pos (Int32.not_le.mp c)]
    rw [hg] at hQ
    exact hQ I (fun _ _ => rfl)
theorem s_harmOf {n : Nat} (hk : HSk S R a) (hd : HD S I R b a N np nb nt) (hw : N 8 = nI nt ∧ nt ≤ 14) (hld' : ∃ x, N (9 + sec % nb) = nI x ∧ x < 100) (hn : n ≤ 10) (hQ : ∀ I' : hcI, (∀ y, ¬ stk b y → I' y = I y) → Q (some (.int (harmF N nb nt sec n))) S I' R z) : Cl g mX0_harmOf 2 0 0 S I R z [.ref a, .int (nI n), .int (N (9 + sec % nb))] Q := by
  have hk' := hk
  obtain ⟨s0, s1, s2, s3, s4, r0, r1, r2, r3, sp⟩ := hk'
  obtain ⟨ld, eld, hld⟩ := hld'
  have hnt := hw.2
  refine Cl.go [some (.ref a), some (.int (nI n)), some (.int (N (9 + sec % nb))), none] ?_
  refine v_aload_n (q := 1) dX0_harmOf_0 (kk := ?_)
  refine v_aload_n (q := 2) dX0_harmOf_1 (kk := ?_)
  refine v_getR (q := 5) fX0_27 (by assumption) (by assumption) (hd := dX0_harmOf_2) (kk := ?_)
  refine v_iconst (v := 1) (q := 6) dX0_harmOf_5 (kk := ?_)
  refine v_ialdE (q := 7) (1) (by rfl) (by assumption) (by omega) (by omega) (hd := dX0_harmOf_6) (kk := ?_)
  rw [hd.2.2.2.1 1 (by omega)]
  refine v_cV1 (N := mX0_lawAt) (q := 10) lX0_112 iX0_lawAt kX0_lawAt (by assumption) dX0_harmOf_7 (s_lawAt hk hd hw (fun t x ht ev hx htx => ?_) (fun hn => ?_))
  · have ec := hc_o_some ev (by omega) (fun t' h => cntF_lt h) (n := nt) (by omega)
    obtain ⟨⟨q1, q2⟩, key, cn, lv, htw, t0, t1, t2, u2, u3, v0, v1, v9⟩ := htx
    have hcn := TW_cn htw
    obtain ⟨w1, w2, w3, w4, w5, w6⟩ := htw
    refine v_astore3 (q := 11) dX0_harmOf_10 (kk := ?_)
    refine v_aload_n (q := 12) dX0_harmOf_11 (kk := ?_)
    refine v_ifnonnull 28 dX0_harmOf_12 (kt := ?_)
    refine v_aload_n (q := 29) dX0_harmOf_28 (kk := ?_)
    refine v_iload_n (q := 30) dX0_harmOf_29 (kk := ?_)
    refine v_iload_n (q := 31) dX0_harmOf_30 (kk := ?_)
    refine v_iconst (v := 0) (q := 32) dX0_harmOf_31 (kk := ?_)
    refine v_cV3 (N := mX5_gives) (q := 35) lX0_119 iX5_gives kX5_gives (by assumption) dX0_harmOf_32 (s_gives t0 t1 t2 u2 u3 v9 (okC_weak w6 (by split <;> omega) (by omega)) w5 w2 (fun I' hI' => ?_))
    refine v_sipush (v := 9999) (q := 38) dX0_harmOf_35 (kk := ?_)
    refine v_cN2 (N := mX6_held) (q := 41) nX0_122 sX6_held kX6_held dX0_harmOf_38 (s_held ?_)
    refine v_iret dX0_harmOf_41 (hQ := ?_)
    have hv : hc_max 0 (hc_min (evF (f3 (nI n) (N (9 + sec % nb)) 0) (cdN N t) cn) 9999) = harmF N nb nt sec n := by
      unfold harmF
      rw [ec]
      simp only [optM, hcn]
      exact held_wi _ (hi := 9999) (by omega)
    rw [hv]
    exact hQ I' (fun y hy => hI' y (fun e => hy (by unfold stk; omega)))
  · have ec := hc_o_none hn (fun t' h => cntF_lt h) (by omega)
    refine v_astoreN3 (q := 11) dX0_harmOf_10 (kk := ?_)
    refine v_aload_nN (q := 12) dX0_harmOf_11 (kk := ?_)
    refine v_ifnonnullN (q := 15) dX0_harmOf_12 (kt := ?_)
    refine v_iload_n (q := 16) dX0_harmOf_15 (kk := ?_)
    refine v_iconst (v := 0) (q := 17) dX0_harmOf_16 (kk := ?_)
    refine v_bipush (v := 60) (q := 19) dX0_harmOf_17 (kk := ?_)
    refine v_iload_n (q := 20) dX0_harmOf_19 (kk := ?_)
    refine v_isub (q := 21) dX0_harmOf_20 (kk := ?_)
    refine v_cS2 (N := mJ9_max_7cf53) (q := 24) lX0_103 sJ9_max_7cf53 kJ9_max_7cf53 dX0_harmOf_21 (s_max ?_)
    refine v_imul (q := 25) dX0_harmOf_24 (kk := ?_)
    refine v_goto 41 dX0_harmOf_25 (kt := ?_)
    refine v_iret dX0_harmOf_41 (hQ := ?_)
    have hv : nI n * hc_max 0 (60 - N (9 + sec % nb)) = harmF N nb nt sec n := by
      unfold harmF
      rw [ec]
      simp only [optM]
      congr 1
      have := held_wi (60 - N (9 + sec % nb)) (hi := 60) (by omega)
      rw [← show hc_max 0 (hc_min (60 - N (9 + sec % nb)) (nI 60)) = hc_wi (60 - N (9 + sec % nb)) 0 60 from this]
      have hm : hc_min (60 - N (9 + sec % nb)) (nI 60) = 60 - N (9 + sec % nb) := by
        unfold hc_min
        refine if_pos ?_
        rw [eld]
        refine Int32.le_iff_toInt_le.mpr ?_
        rw [show (60 : Int32) = nI 60 from rfl, pk_sub_toInt (by omega) (by omega), nI_toInt (by omega)]
        omega
      rw [hm]
    rw [hv]
    exact hQ I (fun _ _ => rfl)
theorem s_fineOf {p : Nat} (hk : HSk S R a) (hd : HD S I R b a N np nb nt) (hw : WF N np nb nt sec) (hp : p < np) (hQ : ∀ I' : hcI, (∀ y, ¬ stk b y → I' y = I y) → Q (some (.int (fineF N nt p))) S I' R z) : Cl g mX0_fineOf 2 0 0 S I R z [.ref a, .ref (a + 5 + p)] Q := by
  have hk' := hk
  obtain ⟨s0, s1, s2, s3, s4, r0, r1, r2, r3, sp⟩ := hk'
  have hnp := hw.1.2
  have hsp := (sp p (by omega)).1
  have hP := hd.2.2.1 p hp
  have e10 : I a 10 = N 4 := hd.1.2.2.2.2.2.2.1
  have hnt := hw.2.2.1.2
  refine Cl.go [some (.ref a), some (.ref (a + 5 + p)), none] ?_
  refine v_aload_n (q := 1) dX0_fineOf_0 (kk := ?_)
  refine v_aload_n (q := 2) dX0_fineOf_1 (kk := ?_)
  refine v_getR (q := 5) fX0_27 (by assumption) (by assumption) (hd := dX0_fineOf_2) (kk := ?_)
  refine v_iconst (v := 2) (q := 6) dX0_fineOf_5 (kk := ?_)
  refine v_ialdE (q := 7) (2) (by rfl) (by assumption) (by omega) (by omega) (hd := dX0_fineOf_6) (kk := ?_)
  rw [hd.2.2.2.1 2 (by omega)]
  refine v_cV1 (N := mX0_lawAt) (q := 10) lX0_112 iX0_lawAt kX0_lawAt (by assumption) dX0_fineOf_7 (s_lawAt hk hd hw.2.2.1 (fun t x ht ev hx htx => ?_) (fun hn => ?_))
  · have ec := hc_o_some ev (by omega) (fun t' h => cntF_lt h) (n := nt) (by omega)
    obtain ⟨⟨q1, q2⟩, key, cn, lv, htw, t0, t1, t2, u2, u3, v0, v1, v9⟩ := htx
    have hcn := TW_cn htw
    obtain ⟨w1, w2, w3, w4, w5, w6⟩ := htw
    refine v_astore2 (q := 11) dX0_fineOf_10 (kk := ?_)
    refine v_aload_n (q := 12) dX0_fineOf_11 (kk := ?_)
    refine v_ifnonnull 22 dX0_fineOf_12 (kt := ?_)
    refine v_aload_n (q := 23) dX0_fineOf_22 (kk := ?_)
    refine v_aload_n (q := 24) dX0_fineOf_23 (kk := ?_)
    refine v_getI (q := 27) fX0_97 (by assumption) (hd := dX0_fineOf_24) (kk := ?_)
    rw [hP 5 (by omega)]
    refine v_aload_n (q := 28) dX0_fineOf_27 (kk := ?_)
    refine v_getI (q := 31) fX0_57 (by assumption) (hd := dX0_fineOf_28) (kk := ?_)
    rw [e10]
    refine v_iconst (v := 0) (q := 32) dX0_fineOf_31 (kk := ?_)
    refine v_cV3 (N := mX5_gives) (q := 35) lX0_119 iX5_gives kX5_gives (by assumption) dX0_fineOf_32 (s_gives t0 t1 t2 u2 u3 v9 (okC_weak w6 (by split <;> omega) (by omega)) w5 w2 (fun I' hI' => ?_))
    refine v_iret dX0_fineOf_35 (hQ := ?_)
    have hv : evF (f3 (N (33 + 6 * p + 5)) (N 4) 0) (cdN N t) cn = fineF N nt p := by
      unfold fineF
      rw [ec]
      simp only [optM, hcn]
    rw [hv]
    exact hQ I' (fun y hy => hI' y (fun e => hy (by unfold stk; omega)))
  · have ec := hc_o_none hn (fun t' h => cntF_lt h) (by omega)
    refine v_astoreN2 (q := 11) dX0_fineOf_10 (kk := ?_)
    refine v_aload_nN (q := 12) dX0_fineOf_11 (kk := ?_)
    refine v_ifnonnullN (q := 15) dX0_fineOf_12 (kt := ?_)
    refine v_aload_n (q := 16) dX0_fineOf_15 (kk := ?_)
    refine v_getI (q := 19) fX0_97 (by assumption) (hd := dX0_fineOf_16) (kk := ?_)
    rw [hP 5 (by omega)]
    refine v_goto 35 dX0_fineOf_19 (kt := ?_)
    refine v_iret dX0_fineOf_35 (hQ := ?_)
    have hv : N (33 + 6 * p + 5) = fineF N nt p := by
      unfold fineF
      rw [ec]
      rfl
    rw [hv]
    exact hQ I (fun _ _ => rfl)
theorem oneNear_loop {p : Nat} (hk : HSk S R a) (hd : HD S I R b a N np nb nt) (hw : WF N np nb nt sec) (hp : p < np) (k : Nat) : ∀ i, i + k = np → Q (some (.int (hc_z ((fst0 (fun q => decide (¬ q = p) && bitB (N 5) q && decide (-(N 7) ≤ N (33 + 6 * q + 1) - N (33 + 6 * p + 1)) && decide (N (33 + 6 * q + 1) - N (33 + 6 * p + 1) ≤ N 7)) i k).isSome)))) S I R z → V g mX0_oneNearDid 1 0 0 S I R z 2 [some (.ref a), some (.int (nI p)), some (.int (nI i))] [] Q := by
  have hk' := hk
  obtain ⟨s0, s1, s2, s3, s4, r0, r1, r2, r3, sp⟩ := hk'
  have e : I a 4 = nI np := hd.1.1.trans hw.1.1
  have hnp := hw.1.2
  obtain ⟨ne, ene, hne⟩ := hw.2.2.2.2.2.2.2.1
  have e8 : I a 8 = nI ne := hd.1.2.2.2.2.1.trans ene
  obtain ⟨sp0, esp, hsp30⟩ := (hw.2.2.2.2.2.2.2.2.2.1 p hp).2.1
  have hspp := (sp p (by omega)).1
  have hrpp := (sp p (by omega)).2
  induction k with
  | zero =>
    intro i hi hQ
    have e2 : i = np := by omega
    subst e2
    refine v_iload_n (q := 3) dX0_oneNearDid_2 (kk := ?_)
    refine v_aload_n (q := 4) dX0_oneNearDid_3 (kk := ?_)
    refine v_getI (q := 7) fX0_44 (by assumption) (hd := dX0_oneNearDid_4) (kk := ?_)
    rw [e]
    refine v_icmp_geT 60 dX0_oneNearDid_7 (nI_le (Nat.le_refl _) (by omega)) (kt := ?_)
    refine v_iconst (v := 0) (q := 61) dX0_oneNearDid_60 (kk := ?_)
    refine v_zret dX0_oneNearDid_61 rfl (hQ := ?_)
    rwa [hc_zf (by simp [fst0])] at hQ
  | succ k ih =>
    intro i hi hQ
    have hsp := (sp i (by omega)).1
    have hrp := (sp i (by omega)).2
    obtain ⟨si, esi, hsi⟩ := (hw.2.2.2.2.2.2.2.2.2.1 i (by omega)).2.1
    have hQ2 : ∀ hf : (decide (¬ i = p) && bitB (N 5) i && decide (-(N 7) ≤ N (33 + 6 * i + 1) - N (33 + 6 * p + 1)) && decide (N (33 + 6 * i + 1) - N (33 + 6 * p + 1) ≤ N 7)) = false, Q (some (.int (hc_z ((fst0 (fun q => decide (¬ q = p) && bitB (N 5) q && decide (-(N 7) ≤ N (33 + 6 * q + 1) - N (33 + 6 * p + 1)) && decide (N (33 + 6 * q + 1) - N (33 + 6 * p + 1) ≤ N 7)) (i + 1) k).isSome)))) S I R z := by
      intro hf
      simp only [fst0] at hQ
      rw [if_neg (by rw [hf]; decide)] at hQ
      exact hQ
    refine v_iload_n (q := 3) dX0_oneNearDid_2 (kk := ?_)
    refine v_aload_n (q := 4) dX0_oneNearDid_3 (kk := ?_)
    refine v_getI (q := 7) fX0_44 (by assumption) (hd := dX0_oneNearDid_4) (kk := ?_)
    rw [e]
    refine v_icmp_geF (q := 10) (t := 60) dX0_oneNearDid_7 (nI_ge (by omega) (by omega)) (kf := ?_)
    refine v_iload_n (q := 11) dX0_oneNearDid_10 (kk := ?_)
    refine v_iload_n (q := 12) dX0_oneNearDid_11 (kk := ?_)
    refine v_icmp_eq 54 (q := 15) dX0_oneNearDid_12 (kt := fun c => ?_) (kf := fun c => ?_)
    · have c2 : i = p := (nI_eq (by omega) (by omega)).mp c
      refine v_iinc2 (q := 57) dX0_oneNearDid_54 (hv := nI_1 i) (kk := ?_)
      refine v_goto 2 dX0_oneNearDid_57 (kt := ?_)
      exact ih (i + 1) (by omega) (hQ2 (by simp [c2]))
    · have c2 : ¬ i = p := fun h => c (by rw [h])
      refine v_aload_n (q := 16) dX0_oneNearDid_15 (kk := ?_)
      refine v_iload_n (q := 17) dX0_oneNearDid_16 (kk := ?_)
      refine v_cV1 (N := mX0_hasCoughed) (q := 20) lX0_132 iX0_hasCoughed kX0_hasCoughed (by assumption) dX0_oneNearDid_17 (s_hasCoughed hk hd hw (by omega) ?_)
      refine v_if_eqZ 54 (q := 23) dX0_oneNearDid_20 (kt := fun c3 => ?_) (kf := fun c3 => ?_)
      · refine v_iinc2 (q := 57) dX0_oneNearDid_54 (hv := nI_1 i) (kk := ?_)
        refine v_goto 2 dX0_oneNearDid_57 (kt := ?_)
        exact ih (i + 1) (by omega) (hQ2 (by simp [c3]))
      · refine v_aload_n (q := 24) dX0_oneNearDid_23 (kk := ?_)
        refine v_getR (q := 27) fX0_11 (by assumption) (by assumption) (hd := dX0_oneNearDid_24) (kk := ?_)
        refine v_iload_n (q := 28) dX0_oneNearDid_27 (kk := ?_)
        refine v_aaldn (q := 29) (by assumption) (by assumption) (by omega) (by omega) (hd := dX0_oneNearDid_28) (kk := ?_)
        refine v_getI (q := 32) fX0_67 (by assumption) (hd := dX0_oneNearDid_29) (kk := ?_)
        rw [hd.2.2.1 i (by omega) 1 (by omega)]
        refine v_aload_n (q := 33) dX0_oneNearDid_32 (kk := ?_)
        refine v_getR (q := 36) fX0_11 (by assumption) (by assumption) (hd := dX0_oneNearDid_33) (kk := ?_)
        refine v_iload_n (q := 37) dX0_oneNearDid_36 (kk := ?_)
        refine v_aaldn (q := 38) (by assumption) (by assumption) (by omega) (by omega) (hd := dX0_oneNearDid_37) (kk := ?_)
        refine v_getI (q := 41) fX0_67 (by assumption) (hd := dX0_oneNearDid_38) (kk := ?_)
        rw [hd.2.2.1 p (by omega) 1 (by omega)]
        refine v_isub (q := 42) dX0_oneNearDid_41 (kk := ?_)
        refine v_cS1 (N := mJ9_abs_0f7a4) (q := 45) lX0_135 sJ9_abs_0f7a4 kJ9_abs_0f7a4 dX0_oneNearDid_42 (s_abs ?_)
        refine v_aload_n (q := 46) dX0_oneNearDid_45 (kk := ?_)
        refine v_getI (q := 49) fX0_37 (by assumption) (hd := dX0_oneNearDid_46) (kk := ?_)
        rw [e8]
        have hab := abs_le si hsi sp0 hsp30 ne hne
        refine v_icmp_gt 54 (q := 52) dX0_oneNearDid_49 (kt := fun c4 => ?_) (kf := fun c4 => ?_)
        · refine v_iinc2 (q := 57) dX0_oneNearDid_54 (hv := nI_1 i) (kk := ?_)
          refine v_goto 2 dX0_oneNearDid_57 (kt := ?_)
          refine ih (i + 1) (by omega) (hQ2 ?_)
          rw [esi, esp] at c4
          have c5 : ¬ hc_abs (nI si - nI sp0) ≤ nI ne := Int32.not_le.mpr c4
          rw [hab] at c5
          rw [esi, esp, ene]
          by_cases d1 : -(nI ne) ≤ nI si - nI sp0
          · have d2 : ¬ nI si - nI sp0 ≤ nI ne := fun h => c5 ⟨d1, h⟩
            simp [d2]
          · simp [d1]
        · refine v_iconst (v := 1) (q := 53) dX0_oneNearDid_52 (kk := ?_)
          refine v_zret dX0_oneNearDid_53 rfl (hQ := ?_)
          rw [esi, esp] at c4
          have c5 := hab.mp (Int32.not_lt.mp c4)
          simp only [fst0] at hQ
          rw [if_pos (by rw [esi, esp, ene]; simp [c2, c3, c5])] at hQ
          rwa [hc_zt (by rfl)] at hQ
theorem s_oneNear {p : Nat} (hk : HSk S R a) (hd : HD S I R b a N np nb nt) (hw : WF N np nb nt sec) (hp : p < np) (hQ : Q (some (.int (hc_z (offB N np p)))) S I R z) : Cl g mX0_oneNearDid 1 0 0 S I R z [.ref a, .int (nI p)] Q := by
  refine Cl.go [some (.ref a), some (.int (nI p)), none] ?_
  refine v_iconst (v := 0) (q := 1) dX0_oneNearDid_0 (kk := ?_)
  refine v_istore2 (q := 2) dX0_oneNearDid_1 (kk := ?_)
  exact oneNear_loop hk hd hw hp np 0 (by omega) hQ
end H2
