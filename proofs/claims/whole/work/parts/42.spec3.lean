theorem nI_ofL {v lo : Int32} (h0 : 0 ≤ lo) (h : lo ≤ v) : ∃ j, j < 2 ^ 31 ∧ v = nI j := nI_of (Int32.not_lt.mpr (Int32.le_trans h0 h))
theorem secF_lo {N : hN} {np nb nt sec i : Nat} (hp : np ≤ 10) (h1 : 9 ≤ i) (h2 : i < 33) : secF N np nb nt sec i = N i := by
  unfold secF
  rw [upd_ne (by omega), upd_ne (by omega), upd_ne (by omega), coughA_ne _ _ hp (by omega), growA_ne _ _ hp (by omega)]
theorem secsF_lo {N : hN} {np nb nt sec i : Nat} (hp : np ≤ 10) (h1 : 9 ≤ i) (h2 : i < 33) : ∀ n, secsF N np nb nt sec n i = N i
  | 0 => rfl
  | n + 1 => (secF_lo hp h1 h2).trans (secsF_lo hp h1 h2 n)
theorem XW.secs {N : hN} {np nb nt sec n : Nat} (h : XW N np nb nt sec) (hn : sec + n ≤ 99999) : XW (secsF N np nb nt sec n) np nb nt (sec + n) := h.lo (secsF_WF h.1 n (by omega)) hn (fun i h1 h2 => secsF_lo h.1.1.2 h1 h2 n)
def runN (N : hN) (n : Int32) : Nat := (hc_min n (99999 - N 3)).toNatClampNeg
def spRun (N : hN) (n : Int32) : Int32 × hN := if 1 ≤ n ∧ n ≤ 200 then (nI (secsC N (npN N) (nbN N) (ntN N) (scN N) (runN N n)), secsF N (npN N) (nbN N) (ntN N) (scN N) (runN N n)) else (-1000000001, N)
theorem run_n {N : hN} {np nb nt sec : Nat} {n : Int32} (h : XW N np nb nt sec) (hn : 1 ≤ n ∧ n ≤ 200) : hc_min n (99999 - nI sec) = nI (runN N n) ∧ hc_wi (99999 - nI sec) 0 n = nI (runN N n) ∧ sec + runN N n ≤ 99999 := by
  have hs := h.2.1
  have e3 := h.1.2.2.2.1.1
  obtain ⟨j, hj, rfl⟩ := nI_ofL (v := n) (lo := 1) (by decide) hn.1
  have hj2 : j ≤ 200 := (nI_leI (b := 200) hj (by omega)).mp hn.2
  have e : (99999 : Int32) - nI sec = nI (99999 - sec) := pk_sub (by omega)
  unfold runN
  rw [e3, e]
  by_cases c : j ≤ 99999 - sec
  · have e2 : hc_min (nI j) (nI (99999 - sec)) = nI j := if_pos (nI_le c (by omega))
    rw [e2, nI_clamp hj]
    refine ⟨rfl, ?_, by omega⟩
    unfold hc_wi
    rw [if_neg (nI_pos (by omega))]
    by_cases c2 : j = 99999 - sec
    · rw [if_neg (by rw [nI_ltI (by omega) (by omega)]; omega), c2]
    · rw [if_pos (nI_lt (by omega) (by omega))]
  · have e2 : hc_min (nI j) (nI (99999 - sec)) = nI (99999 - sec) := if_neg (fun hh => c ((nI_leI (by omega) (by omega)).mp hh))
    rw [e2, nI_clamp (by omega)]
    refine ⟨rfl, ?_, by omega⟩
    unfold hc_wi
    rw [if_neg (nI_pos (by omega)), if_neg (by rw [nI_ltI (by omega) (by omega)]; omega)]
theorem run_ok {N : hN} {np nb nt sec : Nat} {n : Int32} (h : XW N np nb nt sec) (hn : 1 ≤ n ∧ n ≤ 200) : XW (secsF N np nb nt sec (runN N n)) np nb nt (sec + runN N n) := by
  obtain ⟨-, -, h3⟩ := run_n h hn
  revert h3
  generalize runN N n = k
  intro h3
  exact h.secs h3
def barF (N : hN) (n : Nat) : hN := fun i => if i = 2 then nI n else if 9 + n ≤ i ∧ i < 33 then 0 else N i
def spBars (N : hN) (n : Int32) : Int32 × hN := if 1 ≤ n ∧ n ≤ 24 then (N 2, barF N n.toNatClampNeg) else (-1000000001, N)
theorem barF_ne {N : hN} {n i : Nat} (h : i ≠ 2) (h1 : i < 9 + n ∨ 33 ≤ i) : barF N n i = N i := by
  unfold barF
  rw [if_neg h, if_neg (by omega)]
theorem XW.bar {N : hN} {np nb nt sec n : Nat} (h : XW N np nb nt sec) (h1 : 1 ≤ n) (h2 : n ≤ 24) : XW (barF N n) np n nt sec := by
  obtain ⟨⟨a1, a2, a3, a4, a5, a6, a7, a8, a9, a10, a11⟩, hs, hl⟩ := h
  have hne : ∀ i, i ≠ 2 → (i < 9 + n ∨ 33 ≤ i) → barF N n i = N i := fun i h h1 => barF_ne h h1
  refine ⟨⟨by rw [hne 1 (by omega) (by omega)]; exact a1, ⟨by unfold barF; rw [if_pos rfl], h1, h2⟩, by rw [hne 8 (by omega) (by omega)]; exact a3, by rw [hne 3 (by omega) (by omega)]; exact a4, by rw [hne 4 (by omega) (by omega)]; exact a5, by rw [hne 5 (by omega) (by omega)]; exact a6, by rw [hne 6 (by omega) (by omega)]; exact a7, by rw [hne 7 (by omega) (by omega)]; exact a8, fun k hk => ?_, fun p hp => PW_congr (a10 p hp) (fun j hj => hne _ (by omega) (by omega)), fun t ht => ?_⟩, hs, fun k h3 h4 => ?_⟩
  · rw [hne _ (by omega) (by omega)]
    by_cases c : k < nb
    · exact a9 k c
    · exact ⟨0, hl k (by omega) (by omega), by omega⟩
  · obtain ⟨key, cn, lv, q⟩ := a11 t ht
    exact ⟨key, cn, lv, TW_congr (fun i hi => hne i (by omega) (by omega)) q⟩
  · unfold barF
    rw [if_neg (by omega), if_pos (by omega)]
section C3
variable {g : hcG} {S : hcS} {I : hcI} {R : hcR} {z : Nat} {Q : hcQ} {b m : Nat} {N : hN}
theorem x_set {p w v : Int32} (hx : XSk S R b) (hn : XN S I R b N) (hQ : ∀ I' : hcI, Fh b (b + 1) I I' → XN S I' R b (spSet N p w v).2 → Q (some (.int (spSet N p w v).1)) S I' R z) : Cl g mX6_set 2 0 0 S I R z [.ref b, .int p, .int w, .int v] Q := by
  obtain ⟨⟨s0, r0, -⟩, ⟨hk1, -⟩, -⟩ := hx
  obtain ⟨np, nb, nt, sec, hw, hd⟩ := id hn
  obtain ⟨e1, e2, e3, e4⟩ := hw.e
  have hk1' := hk1
  obtain ⟨sh, s1, -, -, -, q0, -, -, -, sp⟩ := hk1'
  have hnp := hw.1.1.2
  have hnb := hw.1.2.1.2.2
  have badE : ¬ ((0 ≤ p ∧ p < nI np) ∧ (2 ≤ w ∧ w ≤ 4) ∧ (0 ≤ v ∧ v < if w = 3 then 1000 else 100)) → spSet N p w v = (-1000000001, N) := fun c => by
    unfold spSet
    rw [e1, if_neg c]
  refine Cl.go [some (.ref b), some (.int p), some (.int w), some (.int v)] ?_
  refine v_aload_n (q := 1) dX6_set_0 (kk := ?_)
  refine v_getR (q := 4) fX6_12 (by assumption) (by assumption) (hd := dX6_set_1) (kk := ?_)
  refine v_iload_n (q := 5) dX6_set_4 (kk := ?_)
  refine v_cV1 (N := mX0_has) (q := 8) lX6_70 iX0_has kX0_has (by assumption) dX6_set_5 (s_has hk1 hd hw.1 ?_)
  refine v_if_neB 14 (q := 11) dX6_set_8 (kt := fun c1 => ?_) (kf := fun c1 => ?_)
  · obtain ⟨j, rfl, hj⟩ := nI_of6 (n := np) rfl (by omega) c1
    have hspp := (sp j (by omega)).1
    have hrpp := (sp j (by omega)).2
    have hP := hd.2.2.1 j hj
    have okE : ∀ k, w = nI k → 2 ≤ k ∧ k ≤ 4 → (0 ≤ v ∧ v < if w = 3 then 1000 else 100) → spSet N (nI j) w v = (N (33 + 6 * j + k), upd N (33 + 6 * j + k) v) := by
      intro k ek hk hv
      have hw2 : 2 ≤ w ∧ w ≤ 4 := by
        rw [ek]
        exact ⟨nI_le (a := 2) hk.1 (by omega), nI_le (b := 4) hk.2 (by omega)⟩
      unfold spSet
      rw [e1, if_pos ⟨c1, hw2, hv⟩, nI_clamp (by omega), ek, nI_clamp (by omega)]
    refine v_iload_n (q := 15) dX6_set_14 (kk := ?_)
    by_cases c2 : 2 ≤ w ∧ w ≤ 4
    · obtain ⟨k, hk, rfl⟩ := nI_ofL (v := w) (lo := 2) (by decide) c2.1
      have hk2 : 2 ≤ k := (nI_leI (a := 2) (by omega) hk).mp c2.1
      have hk4 : k ≤ 4 := (nI_leI (b := 4) hk (by omega)).mp c2.2
      have : k = 2 ∨ k = 3 ∨ k = 4 := by omega
      rcases this with rfl | rfl | rfl
      · refine v_tsIn 40 dX6_set_15 (by decide) (by decide) (by rfl) (kt := ?_)
        refine v_iload_n (q := 41) dX6_set_40 (kk := ?_)
        refine v_bipush (v := 100) (q := 43) dX6_set_41 (kk := ?_)
        refine v_cS2 (N := mX6_within) (q := 46) lX6_51 sX6_within kX6_within dX6_set_43 (s_within ?_)
        refine v_if_eqB 65 (q := 49) dX6_set_46 (kt := fun c3 => ?_) (kf := fun c3 => ?_)
        · rw [badE (fun h => c3 h.2.2)] at hQ
          refine v_ldc (q := 67) cX6_55 dX6_set_65 (kk := ?_)
          refine v_iret dX6_set_67 (hQ := ?_)
          exact hQ I Fh.rfl hn
        · rw [okE 2 rfl (by omega) c3] at hQ
          obtain ⟨vv, rfl, hvv⟩ := nI_of6 (n := 100) rfl (by omega) c3
          refine v_aload_n (q := 50) dX6_set_49 (kk := ?_)
          refine v_getR (q := 53) fX6_12 (by assumption) (by assumption) (hd := dX6_set_50) (kk := ?_)
          refine v_getR (q := 56) fX6_74 (by assumption) (by assumption) (hd := dX6_set_53) (kk := ?_)
          refine v_iload_n (q := 57) dX6_set_56 (kk := ?_)
          refine v_aaldn (q := 58) (by assumption) (by assumption) (by omega) (by omega) (hd := dX6_set_57) (kk := ?_)
          refine v_iload_n (q := 59) dX6_set_58 (kk := ?_)
          refine v_cV1 (N := mX1_changeAge) (q := 62) lX6_116 iX1_changeAge kX1_changeAge (by assumption) dX6_set_59 (s_Person_changeAge hspp ?_)
          rw [hP 2 (by omega)]
          refine v_goto 67 dX6_set_62 (kt := ?_)
          refine v_iret dX6_set_67 (hQ := ?_)
          exact hQ _ (Fh.u (by omega) (by omega)) ⟨np, nb, nt, sec, hw.p (j := 2) hj (by omega), hd.p (j := 2) (by omega) hj hnp hnb (by omega)⟩
      · refine v_tsIn 68 dX6_set_15 (by decide) (by decide) (by rfl) (kt := ?_)
        refine v_iload_n (q := 69) dX6_set_68 (kk := ?_)
        refine v_sipush (v := 1000) (q := 72) dX6_set_69 (kk := ?_)
        refine v_cS2 (N := mX6_within) (q := 75) lX6_51 sX6_within kX6_within dX6_set_72 (s_within ?_)
        refine v_if_eqB 94 (q := 78) dX6_set_75 (kt := fun c3 => ?_) (kf := fun c3 => ?_)
        · rw [badE (fun h => c3 h.2.2)] at hQ
          refine v_ldc (q := 96) cX6_55 dX6_set_94 (kk := ?_)
          refine v_iret dX6_set_96 (hQ := ?_)
          exact hQ I Fh.rfl hn
        · rw [okE 3 rfl (by omega) c3] at hQ
          obtain ⟨vv, rfl, hvv⟩ := nI_of6 (n := 1000) rfl (by omega) c3
          refine v_aload_n (q := 79) dX6_set_78 (kk := ?_)
          refine v_getR (q := 82) fX6_12 (by assumption) (by assumption) (hd := dX6_set_79) (kk := ?_)
          refine v_getR (q := 85) fX6_74 (by assumption) (by assumption) (hd := dX6_set_82) (kk := ?_)
          refine v_iload_n (q := 86) dX6_set_85 (kk := ?_)
          refine v_aaldn (q := 87) (by assumption) (by assumption) (by omega) (by omega) (hd := dX6_set_86) (kk := ?_)
          refine v_iload_n (q := 88) dX6_set_87 (kk := ?_)
          refine v_cV1 (N := mX1_changeItch) (q := 91) lX6_119 iX1_changeItch kX1_changeItch (by assumption) dX6_set_88 (s_Person_changeItch hspp ?_)
          rw [hP 3 (by omega)]
          refine v_goto 96 dX6_set_91 (kt := ?_)
          refine v_iret dX6_set_96 (hQ := ?_)
          exact hQ _ (Fh.u (by omega) (by omega)) ⟨np, nb, nt, sec, hw.p (j := 3) hj (by omega), hd.p (j := 3) (by omega) hj hnp hnb (by omega)⟩
      · refine v_tsIn 97 dX6_set_15 (by decide) (by decide) (by rfl) (kt := ?_)
        refine v_iload_n (q := 98) dX6_set_97 (kk := ?_)
        refine v_bipush (v := 100) (q := 100) dX6_set_98 (kk := ?_)
        refine v_cS2 (N := mX6_within) (q := 103) lX6_51 sX6_within kX6_within dX6_set_100 (s_within ?_)
        refine v_if_eqB 122 (q := 106) dX6_set_103 (kt := fun c3 => ?_) (kf := fun c3 => ?_)
        · rw [badE (fun h => c3 h.2.2)] at hQ
          refine v_ldc (q := 124) cX6_55 dX6_set_122 (kk := ?_)
          refine v_iret dX6_set_124 (hQ := ?_)
          exact hQ I Fh.rfl hn
        · rw [okE 4 rfl (by omega) c3] at hQ
          obtain ⟨vv, rfl, hvv⟩ := nI_of6 (n := 100) rfl (by omega) c3
          refine v_aload_n (q := 107) dX6_set_106 (kk := ?_)
          refine v_getR (q := 110) fX6_12 (by assumption) (by assumption) (hd := dX6_set_107) (kk := ?_)
          refine v_getR (q := 113) fX6_74 (by assumption) (by assumption) (hd := dX6_set_110) (kk := ?_)
          refine v_iload_n (q := 114) dX6_set_113 (kk := ?_)
          refine v_aaldn (q := 115) (by assumption) (by assumption) (by omega) (by omega) (hd := dX6_set_114) (kk := ?_)
          refine v_iload_n (q := 116) dX6_set_115 (kk := ?_)
          refine v_cV1 (N := mX1_changeSweet) (q := 119) lX6_122 iX1_changeSweet kX1_changeSweet (by assumption) dX6_set_116 (s_Person_changeSweet hspp ?_)
          rw [hP 4 (by omega)]
          refine v_goto 124 dX6_set_119 (kt := ?_)
          refine v_iret dX6_set_124 (hQ := ?_)
          exact hQ _ (Fh.u (by omega) (by omega)) ⟨np, nb, nt, sec, hw.p (j := 4) hj (by omega), hd.p (j := 4) (by omega) hj hnp hnb (by omega)⟩
    · have : w.toInt < 2 ∨ 4 < w.toInt := by
        rw [Int32.le_iff_toInt_le, Int32.le_iff_toInt_le, show (2 : Int32).toInt = 2 from rfl, show (4 : Int32).toInt = 4 from rfl] at c2
        omega
      rw [badE (fun h => c2 h.2.1)] at hQ
      refine v_tsOut 125 dX6_set_15 this (kt := ?_)
      refine v_ldc (q := 127) cX6_55 dX6_set_125 (kk := ?_)
      refine v_iret dX6_set_127 (hQ := ?_)
      exact hQ I Fh.rfl hn
  · rw [badE (fun h => c1 h.1)] at hQ
    refine v_ldc (q := 13) cX6_55 dX6_set_11 (kk := ?_)
    refine v_iret dX6_set_13 (hQ := ?_)
    exact hQ I Fh.rfl hn
theorem m_set {p w v : Int32} (hm : MG S R m) (hN : I (m + 1) = N) (hn : MN N) (hQ : ∀ I' : hcI, Fm m I I' → I' (m + 1) = (spSet N p w v).2 → Q (some (.int (spSet N p w v).1)) S I' R z) : Cl g mX7_set 2 0 0 S I R z [.ref m, .int p, .int w, .int v] Q := by
  have s0 := hm.s0
  obtain ⟨np, nb, nt, sec, hw⟩ := hn
  obtain ⟨e1, e2, e3, e4⟩ := hw.e
  have hnp := hw.1.1.2
  have h1 := hw.1.1.1
  refine Cl.go [some (.ref m), some (.int p), some (.int w), some (.int v)] ?_
  have bad : ¬ ((0 ≤ p ∧ p < nI np) ∧ (2 ≤ w ∧ w ≤ 4) ∧ (0 ≤ v ∧ v < if w = 3 then 1000 else 100)) → V g mX7_set 2 0 0 S I R z 55 [some (.ref m), some (.int p), some (.int w), some (.int v)] [] Q := by
    intro c
    have e : spSet N p w v = (-1000000001, N) := by unfold spSet; rw [e1, if_neg c]
    rw [e] at hQ
    refine v_ldc (q := 57) cX7_92 dX7_set_55 (kk := ?_)
    refine v_iret dX7_set_57 (hQ := ?_)
    exact hQ I Fm.rfl hN
  refine v_aload_n (q := 1) dX7_set_0 (kk := ?_)
  refine v_iload_n (q := 2) dX7_set_1 (kk := ?_)
  refine v_cV1 (N := mX7_isOne) (q := 5) lX7_118 iX7_isOne kX7_isOne (by assumption) dX7_set_2 (s_isOne hm (by rw [hN]; exact h1) hnp ?_)
  refine v_if_eqB 55 (q := 8) dX7_set_5 (kt := fun c1 => ?_) (kf := fun c1 => ?_)
  · exact bad (fun h => c1 h.1)
  · refine v_iload_n (q := 9) dX7_set_8 (kk := ?_)
    refine v_iconst (v := 2) (q := 10) dX7_set_9 (kk := ?_)
    refine v_iconst (v := 4) (q := 11) dX7_set_10 (kk := ?_)
    refine v_cS3 (N := mX7_in) (q := 14) lX7_76 sX7_in kX7_in dX7_set_11 (s_in ?_)
    refine v_if_eqB 55 (q := 17) dX7_set_14 (kt := fun c2 => ?_) (kf := fun c2 => ?_)
    · exact bad (fun h => c2 h.2.1)
    · have fin : V g mX7_set 2 0 0 S I R z 35 [some (.ref m), some (.int p), some (.int w), some (.int v)] [.int (hc_b (0 ≤ v ∧ v < if w = 3 then 1000 else 100))] Q := by
        refine v_if_eqB 55 (q := 38) dX7_set_35 (kt := fun c3 => ?_) (kf := fun c3 => ?_)
        · exact bad (fun h => c3 h.2.2)
        · obtain ⟨j, rfl, hj⟩ := nI_of6 (n := np) rfl (by omega) c1
          obtain ⟨k, hk, rfl⟩ := nI_ofL (v := w) (lo := 2) (by decide) c2.1
          have hk4 : k ≤ 4 := (nI_leI (b := 4) hk (by omega)).mp c2.2
          have e : spSet N (nI j) (nI k) v = (N (33 + 6 * j + k), upd N (33 + 6 * j + k) v) := by
            unfold spSet
            rw [e1, if_pos ⟨c1, c2, c3⟩, nI_clamp (by omega), nI_clamp (by omega)]
          rw [e] at hQ
          refine v_aload_n (q := 39) dX7_set_38 (kk := ?_)
          refine v_bipush (v := 33) (q := 41) dX7_set_39 (kk := ?_)
          refine v_bipush (v := 6) (q := 43) dX7_set_41 (kk := ?_)
          refine v_iload_n (q := 44) dX7_set_43 (kk := ?_)
          refine v_imul (q := 45) dX7_set_44 (kk := ?_)
          refine v_iadd (q := 46) dX7_set_45 (kk := ?_)
          refine v_iload_n (q := 47) dX7_set_46 (kk := ?_)
          refine v_iadd (q := 48) dX7_set_47 (kk := ?_)
          refine v_iload_n (q := 49) dX7_set_48 (kk := ?_)
          refine v_cV2 (N := mX7_becomes) (q := 52) lX7_135 iX7_becomes kX7_becomes (by assumption) dX7_set_49 (s_mbecomes (k := 33 + 6 * j + k) hm (ix33 j k) (by omega) ?_)
          rw [hN]
          refine v_goto 57 dX7_set_52 (kt := ?_)
          refine v_iret dX7_set_57 (hQ := ?_)
          exact hQ _ Fm.u (by rw [hc_u_at, hN])
      refine v_iload_n (q := 18) dX7_set_17 (kk := ?_)
      refine v_iconst (v := 0) (q := 19) dX7_set_18 (kk := ?_)
      refine v_iload_n (q := 20) dX7_set_19 (kk := ?_)
      refine v_iconst (v := 3) (q := 21) dX7_set_20 (kk := ?_)
      refine v_icmp_ne 30 (q := 24) dX7_set_21 (kt := fun c3 => ?_) (kf := fun c3 => ?_)
      · rw [if_neg c3] at fin
        refine v_bipush (v := 99) (q := 32) dX7_set_30 (kk := ?_)
        refine v_cS3 (N := mX7_in) (q := 35) lX7_76 sX7_in kX7_in dX7_set_32 (s_in0 100 100 rfl rfl (by omega) ?_)
        exact fin
      · rw [if_pos c3] at fin
        refine v_sipush (v := 999) (q := 27) dX7_set_24 (kk := ?_)
        refine v_goto 32 dX7_set_27 (kt := ?_)
        refine v_cS3 (N := mX7_in) (q := 35) lX7_76 sX7_in kX7_in dX7_set_32 (s_in0 1000 1000 rfl rfl (by omega) ?_)
        exact fin
theorem x_hall {w v : Int32} (hx : XSk S R b) (hn : XN S I R b N) (hQ : ∀ I' : hcI, Fh b (b + 1) I I' → XN S I' R b (spHall N w v).2 → Q (some (.int (spHall N w v).1)) S I' R z) : Cl g mX6_hall 1 0 0 S I R z [.ref b, .int w, .int v] Q := by
  obtain ⟨⟨s0, r0, -⟩, ⟨hk1, -⟩, -⟩ := hx
  obtain ⟨np, nb, nt, sec, hw, hd⟩ := id hn
  have sh := hk1.1
  have hnb := hw.1.2.1.2.2
  have d6 := hd.1.2.2.2.1
  have d7 := hd.1.2.2.2.2.1
  refine Cl.go [some (.ref b), some (.int w), some (.int v), none] ?_
  have last : ¬ (w = 0 ∧ 0 ≤ v ∧ v < 100) → V g mX6_hall 1 0 0 S I R z 32 [some (.ref b), some (.int w), some (.int v), none] [] Q := by
    intro c
    have bad : ¬ (w = 1 ∧ 0 ≤ v ∧ v < 10) → V g mX6_hall 1 0 0 S I R z 65 [some (.ref b), some (.int w), some (.int v), none] [] Q := by
      intro c'
      have e : spHall N w v = (-1000000001, N) := by unfold spHall; rw [if_neg c, if_neg c']
      rw [e] at hQ
      refine v_ldc (q := 67) cX6_55 dX6_hall_65 (kk := ?_)
      refine v_istore3 (q := 68) dX6_hall_67 (kk := ?_)
      refine v_iload_n (q := 69) dX6_hall_68 (kk := ?_)
      refine v_iret dX6_hall_69 (hQ := ?_)
      exact hQ I Fh.rfl hn
    refine v_iload_n (q := 33) dX6_hall_32 (kk := ?_)
    refine v_iconst (v := 1) (q := 34) dX6_hall_33 (kk := ?_)
    refine v_icmp_ne 65 (q := 37) dX6_hall_34 (kt := fun c1 => ?_) (kf := fun c1 => ?_)
    · exact bad (fun h => c1 h.1)
    · refine v_iload_n (q := 38) dX6_hall_37 (kk := ?_)
      refine v_bipush (v := 10) (q := 40) dX6_hall_38 (kk := ?_)
      refine v_cS2 (N := mX6_within) (q := 43) lX6_51 sX6_within kX6_within dX6_hall_40 (s_within ?_)
      refine v_if_eqB 65 (q := 46) dX6_hall_43 (kt := fun c2 => ?_) (kf := fun c2 => ?_)
      · exact bad (fun h => c2 h.2)
      · have e : spHall N w v = (N 7, upd N 7 v) := by unfold spHall; rw [if_neg c, if_pos ⟨c1, c2⟩]
        rw [e] at hQ
        obtain ⟨vv, rfl, hvv⟩ := nI_of6 (n := 10) rfl (by omega) c2
        refine v_aload_n (q := 47) dX6_hall_46 (kk := ?_)
        refine v_getR (q := 50) fX6_12 (by assumption) (by assumption) (hd := dX6_hall_47) (kk := ?_)
        refine v_getI (q := 53) fX6_141 (by assumption) (hd := dX6_hall_50) (kk := ?_)
        rw [d7]
        refine v_istore3 (q := 54) dX6_hall_53 (kk := ?_)
        refine v_aload_n (q := 55) dX6_hall_54 (kk := ?_)
        refine v_getR (q := 58) fX6_12 (by assumption) (by assumption) (hd := dX6_hall_55) (kk := ?_)
        refine v_iload_n (q := 59) dX6_hall_58 (kk := ?_)
        refine v_putI (q := 62) fX6_141 (by assumption) (hd := dX6_hall_59) (kk := ?_)
        refine v_goto 68 dX6_hall_62 (kt := ?_)
        refine v_iload_n (q := 69) dX6_hall_68 (kk := ?_)
        refine v_iret dX6_hall_69 (hQ := ?_)
        exact hQ _ (Fh.u (by omega) (by omega)) ⟨np, nb, nt, sec, hw.f (by omega), hd.fld (by omega) hnb (by omega)⟩
  refine v_iload_n (q := 1) dX6_hall_0 (kk := ?_)
  refine v_if_ne 32 (q := 4) dX6_hall_1 (kt := fun c1 => ?_) (kf := fun c1 => ?_)
  · exact last (fun h => c1 h.1)
  · refine v_iload_n (q := 5) dX6_hall_4 (kk := ?_)
    refine v_bipush (v := 100) (q := 7) dX6_hall_5 (kk := ?_)
    refine v_cS2 (N := mX6_within) (q := 10) lX6_51 sX6_within kX6_within dX6_hall_7 (s_within ?_)
    refine v_if_eqB 32 (q := 13) dX6_hall_10 (kt := fun c2 => ?_) (kf := fun c2 => ?_)
    · exact last (fun h => c2 h.2)
    · have e : spHall N w v = (N 6, upd N 6 v) := by unfold spHall; rw [if_pos ⟨c1, c2⟩]
      rw [e] at hQ
      obtain ⟨vv, rfl, hvv⟩ := nI_of6 (n := 100) rfl (by omega) c2
      refine v_aload_n (q := 14) dX6_hall_13 (kk := ?_)
      refine v_getR (q := 17) fX6_12 (by assumption) (by assumption) (hd := dX6_hall_14) (kk := ?_)
      refine v_getI (q := 20) fX6_138 (by assumption) (hd := dX6_hall_17) (kk := ?_)
      rw [d6]
      refine v_istore3 (q := 21) dX6_hall_20 (kk := ?_)
      refine v_aload_n (q := 22) dX6_hall_21 (kk := ?_)
      refine v_getR (q := 25) fX6_12 (by assumption) (by assumption) (hd := dX6_hall_22) (kk := ?_)
      refine v_iload_n (q := 26) dX6_hall_25 (kk := ?_)
      refine v_putI (q := 29) fX6_138 (by assumption) (hd := dX6_hall_26) (kk := ?_)
      refine v_goto 68 dX6_hall_29 (kt := ?_)
      refine v_iload_n (q := 69) dX6_hall_68 (kk := ?_)
      refine v_iret dX6_hall_69 (hQ := ?_)
      exact hQ _ (Fh.u (by omega) (by omega)) ⟨np, nb, nt, sec, hw.f (by omega), hd.fld (by omega) hnb (by omega)⟩
theorem m_hall {w v : Int32} (hm : MG S R m) (hN : I (m + 1) = N) (hn : MN N) (hQ : ∀ I' : hcI, Fm m I I' → I' (m + 1) = (spHall N w v).2 → Q (some (.int (spHall N w v).1)) S I' R z) : Cl g mX7_hall 1 0 0 S I R z [.ref m, .int w, .int v] Q := by
  have s0 := hm.s0
  refine Cl.go [some (.ref m), some (.int w), some (.int v)] ?_
  have bad : ¬ (w = 0 ∧ 0 ≤ v ∧ v < 100) → ¬ (w = 1 ∧ 0 ≤ v ∧ v < 10) → V g mX7_hall 1 0 0 S I R z 40 [some (.ref m), some (.int w), some (.int v)] [] Q := by
    intro c c'
    have e : spHall N w v = (-1000000001, N) := by unfold spHall; rw [if_neg c, if_neg c']
    rw [e] at hQ
    refine v_ldc (q := 42) cX7_92 dX7_hall_40 (kk := ?_)
    refine v_iret dX7_hall_42 (hQ := ?_)
    exact hQ I Fm.rfl hN
  refine v_iload_n (q := 1) dX7_hall_0 (kk := ?_)
  refine v_iconst (v := 0) (q := 2) dX7_hall_1 (kk := ?_)
  refine v_iconst (v := 1) (q := 3) dX7_hall_2 (kk := ?_)
  refine v_cS3 (N := mX7_in) (q := 6) lX7_76 sX7_in kX7_in dX7_hall_3 (s_in ?_)
  refine v_if_eqB 40 (q := 9) dX7_hall_6 (kt := fun c1 => ?_) (kf := fun c1 => ?_)
  · exact bad (fun h => c1 (by rw [h.1]; decide)) (fun h => c1 (by rw [h.1]; decide))
  · have hw01 : w = 0 ∨ w = 1 := by
      obtain ⟨k, hk, rfl⟩ := nI_of (x := w) (Int32.not_lt.mpr c1.1)
      have hk4 : k ≤ 1 := (nI_leI (b := 1) hk (by omega)).mp c1.2
      have : k = 0 ∨ k = 1 := by omega
      rcases this with rfl | rfl
      · exact Or.inl rfl
      · exact Or.inr rfl
    refine v_iload_n (q := 10) dX7_hall_9 (kk := ?_)
    refine v_iconst (v := 0) (q := 11) dX7_hall_10 (kk := ?_)
    refine v_iload_n (q := 12) dX7_hall_11 (kk := ?_)
    rcases hw01 with rfl | rfl
    · refine v_if_neF (q := 15) (t := 20) dX7_hall_12 (rfl) (kf := ?_)
      refine v_bipush (v := 99) (q := 17) dX7_hall_15 (kk := ?_)
      refine v_goto 22 dX7_hall_17 (kt := ?_)
      refine v_cS3 (N := mX7_in) (q := 25) lX7_76 sX7_in kX7_in dX7_hall_22 (s_in0 100 100 rfl rfl (by omega) ?_)
      refine v_if_eqB 40 (q := 28) dX7_hall_25 (kt := fun c2 => ?_) (kf := fun c2 => ?_)
      · exact bad (fun h => c2 h.2) (fun h => absurd h.1 (by decide))
      · have e : spHall N 0 v = (N 6, upd N 6 v) := by unfold spHall; rw [if_pos ⟨rfl, c2⟩]
        rw [e] at hQ
        refine v_aload_n (q := 29) dX7_hall_28 (kk := ?_)
        refine v_bipush (v := 6) (q := 31) dX7_hall_29 (kk := ?_)
        refine v_iload_n (q := 32) dX7_hall_31 (kk := ?_)
        refine v_iadd (q := 33) dX7_hall_32 (kk := ?_)
        refine v_iload_n (q := 34) dX7_hall_33 (kk := ?_)
        refine v_cV2 (N := mX7_becomes) (q := 37) lX7_135 iX7_becomes kX7_becomes (by assumption) dX7_hall_34 (s_mbecomes (k := 6) hm rfl (by omega) ?_)
        rw [hN]
        refine v_goto 42 dX7_hall_37 (kt := ?_)
        refine v_iret dX7_hall_42 (hQ := ?_)
        exact hQ _ Fm.u (by rw [hc_u_at, hN])
    · refine v_if_neT 20 dX7_hall_12 (by decide) (kt := ?_)
      refine v_bipush (v := 9) (q := 22) dX7_hall_20 (kk := ?_)
      refine v_cS3 (N := mX7_in) (q := 25) lX7_76 sX7_in kX7_in dX7_hall_22 (s_in0 10 10 rfl rfl (by omega) ?_)
      refine v_if_eqB 40 (q := 28) dX7_hall_25 (kt := fun c2 => ?_) (kf := fun c2 => ?_)
      · exact bad (fun h => absurd h.1 (by decide)) (fun h => c2 h.2)
      · have e : spHall N 1 v = (N 7, upd N 7 v) := by unfold spHall; rw [if_neg (fun h => absurd h.1 (by decide)), if_pos ⟨rfl, c2⟩]
        rw [e] at hQ
        refine v_aload_n (q := 29) dX7_hall_28 (kk := ?_)
        refine v_bipush (v := 6) (q := 31) dX7_hall_29 (kk := ?_)
        refine v_iload_n (q := 32) dX7_hall_31 (kk := ?_)
        refine v_iadd (q := 33) dX7_hall_32 (kk := ?_)
        refine v_iload_n (q := 34) dX7_hall_33 (kk := ?_)
        refine v_cV2 (N := mX7_becomes) (q := 37) lX7_135 iX7_becomes kX7_becomes (by assumption) dX7_hall_34 (s_mbecomes (k := 7) hm rfl (by omega) ?_)
        rw [hN]
        refine v_goto 42 dX7_hall_37 (kt := ?_)
        refine v_iret dX7_hall_42 (hQ := ?_)
        exact hQ _ Fm.u (by rw [hc_u_at, hN])
theorem x_loud {k v : Int32} (hx : XSk S R b) (hn : XN S I R b N) (hQ : ∀ I' : hcI, Fh b (b + 1) I I' → XN S I' R b (spLoud N k v).2 → Q (some (.int (spLoud N k v).1)) S I' R z) : Cl g mX6_loud 1 0 0 S I R z [.ref b, .int k, .int v] Q := by
  obtain ⟨⟨s0, r0, -⟩, ⟨hk1, -⟩, -⟩ := hx
  obtain ⟨np, nb, nt, sec, hw, hd⟩ := id hn
  obtain ⟨e1, e2, e3, e4⟩ := hw.e
  have sh := hk1.1
  have s2 := hk1.2.2.1
  have r1 := hk1.2.2.2.2.2.2.1
  have hnb := hw.1.2.1.2.2
  have d2 : I (b + 1) 5 = nI nb := hd.1.2.1.trans hw.1.2.1.1
  refine Cl.go [some (.ref b), some (.int k), some (.int v), none] ?_
  have bad : ¬ ((0 ≤ k ∧ k < nI nb) ∧ 0 ≤ v ∧ v < 100) → V g mX6_loud 1 0 0 S I R z 23 [some (.ref b), some (.int k), some (.int v), none] [] Q := by
    intro c
    have e : spLoud N k v = (-1000000001, N) := by unfold spLoud; rw [e2, if_neg c]
    rw [e] at hQ
    refine v_ldc (q := 25) cX6_55 dX6_loud_23 (kk := ?_)
    refine v_iret dX6_loud_25 (hQ := ?_)
    exact hQ I Fh.rfl hn
  refine v_iload_n (q := 1) dX6_loud_0 (kk := ?_)
  refine v_aload_n (q := 2) dX6_loud_1 (kk := ?_)
  refine v_getR (q := 5) fX6_12 (by assumption) (by assumption) (hd := dX6_loud_2) (kk := ?_)
  refine v_getI (q := 8) fX6_144 (by assumption) (hd := dX6_loud_5) (kk := ?_)
  rw [d2]
  refine v_cS2 (N := mX6_within) (q := 11) lX6_51 sX6_within kX6_within dX6_loud_8 (s_within ?_)
  refine v_if_eqB 23 (q := 14) dX6_loud_11 (kt := fun c1 => ?_) (kf := fun c1 => ?_)
  · exact bad (fun h => c1 h.1)
  · refine v_iload_n (q := 15) dX6_loud_14 (kk := ?_)
    refine v_bipush (v := 100) (q := 17) dX6_loud_15 (kk := ?_)
    refine v_cS2 (N := mX6_within) (q := 20) lX6_51 sX6_within kX6_within dX6_loud_17 (s_within ?_)
    refine v_if_neB 26 (q := 23) dX6_loud_20 (kt := fun c2 => ?_) (kf := fun c2 => ?_)
    · obtain ⟨j, rfl, hj⟩ := nI_of6 (n := nb) rfl (by omega) c1
      have e : spLoud N (nI j) v = (N (9 + j), upd N (9 + j) v) := by unfold spLoud; rw [e2, if_pos ⟨c1, c2⟩, nI_clamp (by omega)]
      rw [e] at hQ
      obtain ⟨vv, rfl, hvv⟩ := nI_of6 (n := 100) rfl (by omega) c2
      refine v_aload_n (q := 27) dX6_loud_26 (kk := ?_)
      refine v_getR (q := 30) fX6_12 (by assumption) (by assumption) (hd := dX6_loud_27) (kk := ?_)
      refine v_getR (q := 33) fX6_147 (by assumption) (by assumption) (hd := dX6_loud_30) (kk := ?_)
      refine v_iload_n (q := 34) dX6_loud_33 (kk := ?_)
      refine v_ialdN (q := 35) (by assumption) (by omega) (by omega) (hd := dX6_loud_34) (kk := ?_)
      rw [hd.2.1 j hj]
      refine v_istore3 (q := 36) dX6_loud_35 (kk := ?_)
      refine v_aload_n (q := 37) dX6_loud_36 (kk := ?_)
      refine v_getR (q := 40) fX6_12 (by assumption) (by assumption) (hd := dX6_loud_37) (kk := ?_)
      refine v_getR (q := 43) fX6_147 (by assumption) (by assumption) (hd := dX6_loud_40) (kk := ?_)
      refine v_iload_n (q := 44) dX6_loud_43 (kk := ?_)
      refine v_iload_n (q := 45) dX6_loud_44 (kk := ?_)
      refine v_iastN (q := 46) (by assumption) (by omega) (by omega) (hd := dX6_loud_45) (kk := ?_)
      refine v_iload_n (q := 47) dX6_loud_46 (kk := ?_)
      refine v_iret dX6_loud_47 (hQ := ?_)
      exact hQ _ (Fh.u (by omega) (by omega)) ⟨np, nb, nt, sec, hw.l hj hvv, hd.l (by omega) hj hnb⟩
    · exact bad (fun h => c2 h.2)
theorem m_loud {k v : Int32} (hm : MG S R m) (hN : I (m + 1) = N) (hn : MN N) (hQ : ∀ I' : hcI, Fm m I I' → I' (m + 1) = (spLoud N k v).2 → Q (some (.int (spLoud N k v).1)) S I' R z) : Cl g mX7_loud 1 0 0 S I R z [.ref m, .int k, .int v] Q := by
  have s0 := hm.s0
  have sn := hm.s_now
  have rn := hm.r_now
  obtain ⟨np, nb, nt, sec, hw⟩ := hn
  obtain ⟨e1, e2, e3, e4⟩ := hw.e
  have hnb := hw.1.2.1.2.2
  have h2 := hw.1.2.1.1
  refine Cl.go [some (.ref m), some (.int k), some (.int v)] ?_
  have bad : ¬ ((0 ≤ k ∧ k < nI nb) ∧ 0 ≤ v ∧ v < 100) → V g mX7_loud 1 0 0 S I R z 38 [some (.ref m), some (.int k), some (.int v)] [] Q := by
    intro c
    have e : spLoud N k v = (-1000000001, N) := by unfold spLoud; rw [e2, if_neg c]
    rw [e] at hQ
    refine v_ldc (q := 40) cX7_92 dX7_loud_38 (kk := ?_)
    refine v_iret dX7_loud_40 (hQ := ?_)
    exact hQ I Fm.rfl hN
  refine v_iload_n (q := 1) dX7_loud_0 (kk := ?_)
  refine v_iconst (v := 0) (q := 2) dX7_loud_1 (kk := ?_)
  refine v_aload_n (q := 3) dX7_loud_2 (kk := ?_)
  refine v_getR (q := 6) fX7_9 (by assumption) (by assumption) (hd := dX7_loud_3) (kk := ?_)
  refine v_iconst (v := 2) (q := 7) dX7_loud_6 (kk := ?_)
  refine v_ialdE (q := 8) (2) (by rfl) (by assumption) (by omega) (by omega) (hd := dX7_loud_7) (kk := ?_)
  rw [hN, h2]
  refine v_iconst (v := 1) (q := 9) dX7_loud_8 (kk := ?_)
  refine v_isub (q := 10) dX7_loud_9 (kk := ?_)
  refine v_cS3 (N := mX7_in) (q := 13) lX7_76 sX7_in kX7_in dX7_loud_10 (s_in0 nb (nI nb) rfl rfl (by omega) ?_)
  refine v_if_eqB 38 (q := 16) dX7_loud_13 (kt := fun c1 => ?_) (kf := fun c1 => ?_)
  · exact bad (fun h => c1 h.1)
  · refine v_iload_n (q := 17) dX7_loud_16 (kk := ?_)
    refine v_iconst (v := 0) (q := 18) dX7_loud_17 (kk := ?_)
    refine v_bipush (v := 99) (q := 20) dX7_loud_18 (kk := ?_)
    refine v_cS3 (N := mX7_in) (q := 23) lX7_76 sX7_in kX7_in dX7_loud_20 (s_in0 100 100 rfl rfl (by omega) ?_)
    refine v_if_eqB 38 (q := 26) dX7_loud_23 (kt := fun c2 => ?_) (kf := fun c2 => ?_)
    · exact bad (fun h => c2 h.2)
    · obtain ⟨j, rfl, hj⟩ := nI_of6 (n := nb) rfl (by omega) c1
      have e : spLoud N (nI j) v = (N (9 + j), upd N (9 + j) v) := by unfold spLoud; rw [e2, if_pos ⟨c1, c2⟩, nI_clamp (by omega)]
      rw [e] at hQ
      refine v_aload_n (q := 27) dX7_loud_26 (kk := ?_)
      refine v_bipush (v := 9) (q := 29) dX7_loud_27 (kk := ?_)
      refine v_iload_n (q := 30) dX7_loud_29 (kk := ?_)
      refine v_iadd (q := 31) dX7_loud_30 (kk := ?_)
      refine v_iload_n (q := 32) dX7_loud_31 (kk := ?_)
      refine v_cV2 (N := mX7_becomes) (q := 35) lX7_135 iX7_becomes kX7_becomes (by assumption) dX7_loud_32 (s_mbecomes (k := 9 + j) hm (nI_add 9 j) (by omega) ?_)
      rw [hN]
      refine v_goto 40 dX7_loud_35 (kt := ?_)
      refine v_iret dX7_loud_40 (hQ := ?_)
      exact hQ _ Fm.u (by rw [hc_u_at, hN])
theorem x_music {t : Int32} (hx : XSk S R b) (hn : XN S I R b N) (hQ : Q (some (.int (spMusic N t))) S I R z) : Cl g mX6_music 1 0 0 S I R z [.ref b, .int t] Q := by
  obtain ⟨⟨s0, r0, -⟩, ⟨hk1, -⟩, -⟩ := hx
  obtain ⟨np, nb, nt, sec, hw, hd⟩ := id hn
  obtain ⟨e1, e2, e3, e4⟩ := hw.e
  have sh := hk1.1
  unfold spMusic at hQ
  refine Cl.go [some (.ref b), some (.int t)] ?_
  have bad : ¬ (0 ≤ t ∧ t < 100) → V g mX6_music 1 0 0 S I R z 10 [some (.ref b), some (.int t)] [] Q := by
    intro c
    rw [if_neg c] at hQ
    refine v_ldc (q := 12) cX6_55 dX6_music_10 (kk := ?_)
    refine v_goto 23 dX6_music_12 (kt := ?_)
    refine v_iret dX6_music_23 (hQ := ?_)
    exact hQ
  refine v_iload_n (q := 1) dX6_music_0 (kk := ?_)
  refine v_if_lt 10 (q := 4) dX6_music_1 (kt := fun c1 => ?_) (kf := fun c1 => ?_)
  · exact bad (fun h => absurd h.1 (Int32.not_le.mpr c1))
  · refine v_iload_n (q := 5) dX6_music_4 (kk := ?_)
    refine v_bipush (v := 99) (q := 7) dX6_music_5 (kk := ?_)
    refine v_icmp_le 15 (q := 10) dX6_music_7 (kt := fun c2 => ?_) (kf := fun c2 => ?_)
    · have c : 0 ≤ t ∧ t < 100 := (lt_le_pred (n := 100) (by omega)).mp ⟨Int32.not_lt.mp c1, c2⟩
      rw [if_pos c] at hQ
      obtain ⟨j, rfl, hj⟩ := nI_of6 (n := 100) rfl (by omega) c
      rw [nI_clamp (by omega), e2, e4] at hQ
      refine v_aload_n (q := 16) dX6_music_15 (kk := ?_)
      refine v_getR (q := 19) fX6_12 (by assumption) (by assumption) (hd := dX6_music_16) (kk := ?_)
      refine v_iload_n (q := 20) dX6_music_19 (kk := ?_)
      refine v_cV1 (N := mX0_loudIn) (q := 23) lX6_102 iX0_loudIn kX0_loudIn (by assumption) dX6_music_20 (s_loudIn hk1 hd hw.1 (by omega) ?_)
      refine v_iret dX6_music_23 (hQ := ?_)
      exact hQ
    · exact bad (fun h => c2 ((lt_le_pred (n := 100) (by omega)).mpr h).2)
theorem m_music {t : Int32} (hm : MG S R m) (hN : I (m + 1) = N) (hn : MN N) (hQ : Q (some (.int (spMusic N t))) S I R z) : Cl g mX7_music 1 0 0 S I R z [.ref m, .int t] Q := by
  have s0 := hm.s0
  obtain ⟨np, nb, nt, sec, hw⟩ := hn
  obtain ⟨e1, e2, e3, e4⟩ := hw.e
  unfold spMusic at hQ
  refine Cl.go [some (.ref m), some (.int t)] ?_
  refine v_iload_n (q := 1) dX7_music_0 (kk := ?_)
  refine v_iconst (v := 0) (q := 2) dX7_music_1 (kk := ?_)
  refine v_bipush (v := 99) (q := 4) dX7_music_2 (kk := ?_)
  refine v_cS3 (N := mX7_in) (q := 7) lX7_76 sX7_in kX7_in dX7_music_4 (s_in0 100 100 rfl rfl (by omega) ?_)
  refine v_if_eqB 18 (q := 10) dX7_music_7 (kt := fun c1 => ?_) (kf := fun c1 => ?_)
  · rw [if_neg c1] at hQ
    refine v_ldc (q := 20) cX7_92 dX7_music_18 (kk := ?_)
    refine v_iret dX7_music_20 (hQ := ?_)
    exact hQ
  · rw [if_pos c1] at hQ
    obtain ⟨j, rfl, hj⟩ := nI_of6 (n := 100) rfl (by omega) c1
    rw [nI_clamp (by omega), e2, e4] at hQ
    refine v_aload_n (q := 11) dX7_music_10 (kk := ?_)
    refine v_iload_n (q := 12) dX7_music_11 (kk := ?_)
    refine v_cV1 (N := mX7_loudOn) (q := 15) lX7_112 iX7_loudOn kX7_loudOn (by assumption) dX7_music_12 (s_loudOn hm hN hw.1 (by omega) ?_)
    refine v_goto 20 dX7_music_15 (kt := ?_)
    refine v_iret dX7_music_20 (hQ := ?_)
    exact hQ
theorem x_seed {v : Int32} (hx : XSk S R b) (hn : XN S I R b N) (hQ : ∀ I' : hcI, Fh b (b + 1) I I' → XN S I' R b (upd N 0 v) → Q (some (.int (N 0))) S I' R z) : Cl g mX6_seed 0 0 0 S I R z [.ref b, .int v] Q := by
  obtain ⟨⟨s0, r0, -⟩, ⟨hk1, -⟩, -⟩ := hx
  obtain ⟨np, nb, nt, sec, hw, hd⟩ := id hn
  have sh := hk1.1
  have d := hd.1.2.2.2.2.2.2.2.2
  refine Cl.go [some (.ref b), some (.int v), none] ?_
  refine v_aload_n (q := 1) dX6_seed_0 (kk := ?_)
  refine v_getR (q := 4) fX6_12 (by assumption) (by assumption) (hd := dX6_seed_1) (kk := ?_)
  refine v_getI (q := 7) fX6_135 (by assumption) (hd := dX6_seed_4) (kk := ?_)
  rw [d]
  refine v_istore2 (q := 8) dX6_seed_7 (kk := ?_)
  refine v_aload_n (q := 9) dX6_seed_8 (kk := ?_)
  refine v_getR (q := 12) fX6_12 (by assumption) (by assumption) (hd := dX6_seed_9) (kk := ?_)
  refine v_iload_n (q := 13) dX6_seed_12 (kk := ?_)
  refine v_putI (q := 16) fX6_135 (by assumption) (hd := dX6_seed_13) (kk := ?_)
  refine v_iload_n (q := 17) dX6_seed_16 (kk := ?_)
  refine v_iret dX6_seed_17 (hQ := ?_)
  exact hQ _ (Fh.u (by omega) (by omega)) ⟨np, nb, nt, sec, hw.z, hd.fld (by omega) hw.1.2.1.2.2 (by omega)⟩
theorem m_seed {v : Int32} (hm : MG S R m) (hN : I (m + 1) = N) (hQ : ∀ I' : hcI, Fm m I I' → I' (m + 1) = upd N 0 v → Q (some (.int (N 0))) S I' R z) : Cl g mX7_seed 1 0 0 S I R z [.ref m, .int v] Q := by
  have s0 := hm.s0
  refine Cl.go [some (.ref m), some (.int v)] ?_
  refine v_aload_n (q := 1) dX7_seed_0 (kk := ?_)
  refine v_iconst (v := 0) (q := 2) dX7_seed_1 (kk := ?_)
  refine v_iload_n (q := 3) dX7_seed_2 (kk := ?_)
  refine v_cV2 (N := mX7_becomes) (q := 6) lX7_135 iX7_becomes kX7_becomes (by assumption) dX7_seed_3 (s_mbecomes (k := 0) hm rfl (by omega) ?_)
  rw [hN]
  refine v_iret dX7_seed_6 (hQ := ?_)
  exact hQ _ Fm.u (by rw [hc_u_at, hN])
theorem x_did (hx : XSk S R b) (hn : XN S I R b N) (hQ : Q (some (.int (N 5))) S I R z) : Cl g mX6_did 0 0 0 S I R z [.ref b] Q := by
  obtain ⟨⟨s0, r0, -⟩, ⟨hk1, -⟩, -⟩ := hx
  obtain ⟨np, nb, nt, sec, hw, hd⟩ := id hn
  have sh := hk1.1
  have d := hd.1.2.2.2.2.2.2.2.1
  refine Cl.go [some (.ref b)] ?_
  refine v_aload_n (q := 1) dX6_did_0 (kk := ?_)
  refine v_getR (q := 4) fX6_12 (by assumption) (by assumption) (hd := dX6_did_1) (kk := ?_)
  refine v_getI (q := 7) fX6_156 (by assumption) (hd := dX6_did_4) (kk := ?_)
  rw [d]
  refine v_iret dX6_did_7 (hQ := ?_)
  exact hQ
theorem m_did (hm : MG S R m) (hN : I (m + 1) = N) (hQ : Q (some (.int (N 5))) S I R z) : Cl g mX7_did 0 0 0 S I R z [.ref m] Q := by
  have s0 := hm.s0
  have sn := hm.s_now
  have rn := hm.r_now
  refine Cl.go [some (.ref m)] ?_
  refine v_aload_n (q := 1) dX7_did_0 (kk := ?_)
  refine v_getR (q := 4) fX7_9 (by assumption) (by assumption) (hd := dX7_did_1) (kk := ?_)
  refine v_iconst (v := 5) (q := 5) dX7_did_4 (kk := ?_)
  refine v_ialdE (q := 6) (5) (by rfl) (by assumption) (by omega) (by omega) (hd := dX7_did_5) (kk := ?_)
  rw [hN]
  refine v_iret dX7_did_6 (hQ := ?_)
  exact hQ
theorem x_run {n : Int32} (hx : XSk S R b) (hn : XN S I R b N) (hQ : ∀ I' : hcI, Fh b (b + 1) I I' → XN S I' R b (spRun N n).2 → Q (some (.int (spRun N n).1)) S I' R z) : Cl g mX6_run 6 0 0 S I R z [.ref b, .int n] Q := by
  obtain ⟨⟨s0, r0, -⟩, ⟨hk1, -⟩, -⟩ := hx
  obtain ⟨np, nb, nt, sec, hw, hd⟩ := id hn
  obtain ⟨e1, e2, e3, e4⟩ := hw.e
  have sh := hk1.1
  refine Cl.go [some (.ref b), some (.int n)] ?_
  have bad : ¬ (1 ≤ n ∧ n ≤ 200) → V g mX6_run 6 0 0 S I R z 12 [some (.ref b), some (.int n)] [] Q := by
    intro c
    have e : spRun N n = (-1000000001, N) := by unfold spRun; rw [if_neg c]
    rw [e] at hQ
    refine v_ldc (q := 14) cX6_55 dX6_run_12 (kk := ?_)
    refine v_goto 32 dX6_run_14 (kt := ?_)
    refine v_iret dX6_run_32 (hQ := ?_)
    exact hQ I Fh.rfl hn
  refine v_iload_n (q := 1) dX6_run_0 (kk := ?_)
  refine v_iconst (v := 1) (q := 2) dX6_run_1 (kk := ?_)
  refine v_icmp_lt 12 (q := 5) dX6_run_2 (kt := fun c1 => ?_) (kf := fun c1 => ?_)
  · exact bad (fun h => absurd h.1 (Int32.not_le.mpr c1))
  · refine v_iload_n (q := 6) dX6_run_5 (kk := ?_)
    refine v_sipush (v := 200) (q := 9) dX6_run_6 (kk := ?_)
    refine v_icmp_le 17 (q := 12) dX6_run_9 (kt := fun c2 => ?_) (kf := fun c2 => ?_)
    · have c : 1 ≤ n ∧ n ≤ 200 := ⟨Int32.not_lt.mp c1, c2⟩
      have e : spRun N n = (nI (secsC N np nb nt sec (runN N n)), secsF N np nb nt sec (runN N n)) := by unfold spRun; rw [if_pos c, e1, e2, e3, e4]
      rw [e] at hQ
      clear e
      dsimp only at hQ
      refine v_aload_n (q := 18) dX6_run_17 (kk := ?_)
      refine v_getR (q := 21) fX6_12 (by assumption) (by assumption) (hd := dX6_run_18) (kk := ?_)
      refine v_aload_n (q := 22) dX6_run_21 (kk := ?_)
      refine v_getR (q := 25) fX6_12 (by assumption) (by assumption) (hd := dX6_run_22) (kk := ?_)
      refine v_iload_n (q := 26) dX6_run_25 (kk := ?_)
      refine v_cV1 (N := mX0_upToTheLast) (q := 29) lX6_150 iX0_upToTheLast kX0_upToTheLast (by assumption) dX6_run_26 (s_upTo hk1 hd hw.1 ?_)
      rw [(run_n hw c).1]
      refine v_cV1 (N := mX0_passSeconds) (q := 32) lX6_153 iX0_passSeconds kX0_passSeconds (by assumption) dX6_run_29 (s_passSeconds hk1 hd (by omega) hw.1 (by have := (run_n hw c).2.2; omega) (fun I' hF' hd' => ?_))
      refine v_iret dX6_run_32 (hQ := ?_)
      exact hQ I' hF' ⟨np, nb, nt, sec + runN N n, run_ok hw c, hd'⟩
    · exact bad (fun h => c2 h.2)
theorem m_run {n : Int32} (hm : MG S R m) (hN : I (m + 1) = N) (hn : MN N) (hQ : ∀ I' : hcI, Fm m I I' → I' (m + 1) = (spRun N n).2 → Q (some (.int (spRun N n).1)) S I' R z) : Cl g mX7_run 5 0 0 S I R z [.ref m, .int n] Q := by
  have s0 := hm.s0
  have sn := hm.s_now
  have rn := hm.r_now
  obtain ⟨np, nb, nt, sec, hw⟩ := hn
  obtain ⟨e1, e2, e3, e4⟩ := hw.e
  have h3 := hw.1.2.2.2.1.1
  refine Cl.go [some (.ref m), some (.int n)] ?_
  refine v_iload_n (q := 1) dX7_run_0 (kk := ?_)
  refine v_iconst (v := 1) (q := 2) dX7_run_1 (kk := ?_)
  refine v_sipush (v := 200) (q := 5) dX7_run_2 (kk := ?_)
  refine v_cS3 (N := mX7_in) (q := 8) lX7_76 sX7_in kX7_in dX7_run_5 (s_in ?_)
  refine v_if_eqB 32 (q := 11) dX7_run_8 (kt := fun c => ?_) (kf := fun c => ?_)
  · have e : spRun N n = (-1000000001, N) := by unfold spRun; rw [if_neg c]
    rw [e] at hQ
    refine v_ldc (q := 34) cX7_92 dX7_run_32 (kk := ?_)
    refine v_iret dX7_run_34 (hQ := ?_)
    exact hQ I Fm.rfl hN
  · have e : spRun N n = (nI (secsC N np nb nt sec (runN N n)), secsF N np nb nt sec (runN N n)) := by unfold spRun; rw [if_pos c, e1, e2, e3, e4]
    rw [e] at hQ
    clear e
    dsimp only at hQ
    refine v_aload_n (q := 12) dX7_run_11 (kk := ?_)
    refine v_ldc (q := 14) cX7_155 dX7_run_12 (kk := ?_)
    refine v_aload_n (q := 15) dX7_run_14 (kk := ?_)
    refine v_getR (q := 18) fX7_9 (by assumption) (by assumption) (hd := dX7_run_15) (kk := ?_)
    refine v_iconst (v := 3) (q := 19) dX7_run_18 (kk := ?_)
    refine v_ialdE (q := 20) (3) (by rfl) (by assumption) (by omega) (by omega) (hd := dX7_run_19) (kk := ?_)
    rw [hN, h3]
    refine v_isub (q := 21) dX7_run_20 (kk := ?_)
    refine v_iconst (v := 0) (q := 22) dX7_run_21 (kk := ?_)
    refine v_iload_n (q := 23) dX7_run_22 (kk := ?_)
    refine v_cS3 (N := mX7_within) (q := 26) lX7_109 sX7_within kX7_within dX7_run_23 (s_mwithin ?_)
    rw [(run_n hw c).2.1]
    refine v_cV1 (N := mX7_seconds) (q := 29) lX7_156 iX7_seconds kX7_seconds (by assumption) dX7_run_26 (s_seconds hm hN hw.1 (by have := (run_n hw c).2.2; omega) (fun I' hF' hN' => ?_))
    refine v_goto 34 dX7_run_29 (kt := ?_)
    refine v_iret dX7_run_34 (hQ := ?_)
    exact hQ I' hF' hN'
theorem bars_loop {n nb : Nat} {x : Int32} (s0 : S b = some (6, 0)) (r0 : R b 0 = some (b + 1)) (hk1 : HSk S R (b + 1)) (hn : n ≤ 24) (k : Nat) : ∀ (i : Nat) (I' : hcI), i + k = max i n → nb ≤ i → i ≤ 24 → (∀ y, y ≠ b + 3 → I' y = I y) → (∀ j, j < nb → I' (b + 3) j = I (b + 3) j) → (∀ j, nb ≤ j → j < i → I' (b + 3) j = 0) → (∀ I'' : hcI, (∀ y, y ≠ b + 3 → I'' y = I y) → (∀ j, j < nb → I'' (b + 3) j = I (b + 3) j) → (∀ j, nb ≤ j → j < n → I'' (b + 3) j = 0) → V g mX6_bars 0 0 0 S I'' R z 45 [some (.ref b), some (.int (nI n)), some (.int x), none] [] Q) → V g mX6_bars 0 0 0 S I' R z 24 [some (.ref b), some (.int (nI n)), some (.int x), some (.int (nI i))] [] Q := by
  have sh := hk1.1
  have s2 := hk1.2.2.1
  have r1 := hk1.2.2.2.2.2.2.1
  induction k with
  | zero =>
    intro i I' hi hb h24 hF h1 h2 hQ
    refine v_iload_n (q := 25) dX6_bars_24 (kk := ?_)
    refine v_iload_n (q := 26) dX6_bars_25 (kk := ?_)
    refine v_icmp_geT 45 dX6_bars_26 ((nI_le (by omega) (by omega))) (kt := ?_)
    refine v_drop3 ?_
    exact hQ I' hF h1 (fun j a1 a2 => h2 j a1 (by omega))
  | succ k ih =>
    intro i I' hi hb h24 hF h1 h2 hQ
    refine v_iload_n (q := 25) dX6_bars_24 (kk := ?_)
    refine v_iload_n (q := 26) dX6_bars_25 (kk := ?_)
    refine v_icmp_geF (q := 29) (t := 45) dX6_bars_26 (fun h => by have := (nI_leI (by omega) (by omega)).mp h; omega) (kf := ?_)
    refine v_aload_n (q := 30) dX6_bars_29 (kk := ?_)
    refine v_getR (q := 33) fX6_12 (by assumption) (by assumption) (hd := dX6_bars_30) (kk := ?_)
    refine v_getR (q := 36) fX6_147 (by assumption) (by assumption) (hd := dX6_bars_33) (kk := ?_)
    refine v_iload_n (q := 37) dX6_bars_36 (kk := ?_)
    refine v_iconst (v := 0) (q := 38) dX6_bars_37 (kk := ?_)
    refine v_iastN (q := 39) (by assumption) (by omega) (by omega) (hd := dX6_bars_38) (kk := ?_)
    refine v_iinc3 (q := 42) dX6_bars_39 (hv := nI_1 i) (kk := ?_)
    refine v_goto 24 dX6_bars_42 (kt := ?_)
    refine ih (i + 1) _ (by omega) (by omega) (by omega) (fun y hy => (hc_u_ne hy).trans (hF y hy)) (fun j hj => ?_) (fun j a1 a2 => ?_) hQ
    · rw [hc_u_at, upd_ne (by omega)]
      exact h1 j hj
    · rw [hc_u_at]
      by_cases e : j = i
      · rw [e, upd_at]
      · rw [upd_ne e]
        exact h2 j a1 (by omega)
theorem x_bars {n : Int32} (hx : XSk S R b) (hn : XN S I R b N) (hQ : ∀ I' : hcI, Fh b (b + 1) I I' → XN S I' R b (spBars N n).2 → Q (some (.int (spBars N n).1)) S I' R z) : Cl g mX6_bars 0 0 0 S I R z [.ref b, .int n] Q := by
  obtain ⟨⟨s0, r0, -⟩, ⟨hk1, -⟩, -⟩ := hx
  obtain ⟨np, nb, nt, sec, hw, hd⟩ := id hn
  have sh := hk1.1
  have hnb := hw.1.2.1.2.2
  have e2 : N 2 = nI nb := hw.1.2.1.1
  have d2 : I (b + 1) 5 = nI nb := hd.1.2.1.trans e2
  refine Cl.go [some (.ref b), some (.int n), none, none] ?_
  have bad : ¬ (1 ≤ n ∧ n ≤ 24) → V g mX6_bars 0 0 0 S I R z 11 [some (.ref b), some (.int n), none, none] [] Q := by
    intro c
    have e : spBars N n = (-1000000001, N) := by unfold spBars; rw [if_neg c]
    rw [e] at hQ
    refine v_ldc (q := 13) cX6_55 dX6_bars_11 (kk := ?_)
    refine v_iret dX6_bars_13 (hQ := ?_)
    exact hQ I Fh.rfl hn
  refine v_iload_n (q := 1) dX6_bars_0 (kk := ?_)
  refine v_iconst (v := 1) (q := 2) dX6_bars_1 (kk := ?_)
  refine v_icmp_lt 11 (q := 5) dX6_bars_2 (kt := fun c1 => ?_) (kf := fun c1 => ?_)
  · exact bad (fun h => absurd h.1 (Int32.not_le.mpr c1))
  · refine v_iload_n (q := 6) dX6_bars_5 (kk := ?_)
    refine v_bipush (v := 24) (q := 8) dX6_bars_6 (kk := ?_)
    refine v_icmp_le 14 (q := 11) dX6_bars_8 (kt := fun c2 => ?_) (kf := fun c2 => ?_)
    · have c : 1 ≤ n ∧ n ≤ 24 := ⟨Int32.not_lt.mp c1, c2⟩
      obtain ⟨j, hj, rfl⟩ := nI_ofL (v := n) (lo := 1) (by decide) c.1
      have hj1 : 1 ≤ j := (nI_leI (a := 1) (by omega) hj).mp c.1
      have hj2 : j ≤ 24 := (nI_leI (b := 24) hj (by omega)).mp c.2
      have e : spBars N (nI j) = (N 2, barF N j) := by unfold spBars; rw [if_pos c, nI_clamp hj]
      rw [e] at hQ
      refine v_aload_n (q := 15) dX6_bars_14 (kk := ?_)
      refine v_getR (q := 18) fX6_12 (by assumption) (by assumption) (hd := dX6_bars_15) (kk := ?_)
      refine v_getI (q := 21) fX6_144 (by assumption) (hd := dX6_bars_18) (kk := ?_)
      rw [d2]
      refine v_istore2 (q := 22) dX6_bars_21 (kk := ?_)
      refine v_iload_n (q := 23) dX6_bars_22 (kk := ?_)
      refine v_istore3 (q := 24) dX6_bars_23 (kk := ?_)
      refine bars_loop (x := nI nb) (nb := nb) s0 r0 hk1 hj2 (max nb j - nb) nb I (by omega) (by omega) hnb (fun _ _ => rfl) (fun _ _ => rfl) (fun _ _ _ => by omega) (fun I' hF h1 h2 => ?_)
      refine v_aload_n (q := 46) dX6_bars_45 (kk := ?_)
      refine v_getR (q := 49) fX6_12 (by assumption) (by assumption) (hd := dX6_bars_46) (kk := ?_)
      refine v_iload_n (q := 50) dX6_bars_49 (kk := ?_)
      refine v_putI (q := 53) fX6_144 (by assumption) (hd := dX6_bars_50) (kk := ?_)
      refine v_iload_n (q := 54) dX6_bars_53 (kk := ?_)
      refine v_iret dX6_bars_54 (hQ := ?_)
      rw [e2] at hQ
      refine hQ _ (fun y hy _ => (hc_u_ne (by omega)).trans (hF y (by omega))) ⟨np, j, nt, sec, hw.bar hj1 hj2, (?_ : HD S _ R b (b + 1) (barF N j) np j nt)⟩
      obtain ⟨⟨a1, a2, a3, a4, a5, a6, a7, a8, a9⟩, h4, h5, h6, h7⟩ := hd
      have hT : ∀ i, 93 ≤ i → barF N j i = N i := fun i hi => barF_ne (by omega) (by omega)
      refine ⟨?_, fun k hk => ?_, fun q hq k hk => ?_, fun k hk => ?_, fun t ht => ?_⟩
      · rw [hc_u_at, hF (b + 1) (by omega), barF_ne (i := 1) (by omega) (by omega), barF_ne (i := 8) (by omega) (by omega), barF_ne (i := 6) (by omega) (by omega), barF_ne (i := 7) (by omega) (by omega), barF_ne (i := 3) (by omega) (by omega), barF_ne (i := 4) (by omega) (by omega), barF_ne (i := 5) (by omega) (by omega), barF_ne (i := 0) (by omega) (by omega)]
        refine ⟨a1, ?_, a3, a4, a5, a6, a7, a8, a9⟩
        rw [upd_at]
        unfold barF
        rw [if_pos rfl]
      · rw [hc_u_ne (by omega), barF_ne (by omega) (by omega)]
        by_cases c4 : k < nb
        · exact (h1 k c4).trans (h4 k c4)
        · exact (h2 k (by omega) hk).trans (hw.2.2 k (by omega) (by omega)).symm
      · rw [hc_u_ne (by omega), hF _ (by omega), barF_ne (by omega) (by omega)]
        exact h5 q hq k hk
      · rw [hc_u_ne (by omega), hF _ (by omega), cntF_congr hT]
        exact h6 k hk
      · obtain ⟨x, hx, ht2⟩ := h7 t ht
        exact ⟨x, hx, (ht2.keep (fun y hy hy2 => (hc_u_ne (by omega)).trans (hF y (by omega)))).toN hT⟩
    · exact bad (fun h => c2 h.2)
theorem mbars_loop {n : Nat} (hm : MG S R m) (h0 : 1 ≤ n) (k : Nat) : ∀ (i : Nat) (I' : hcI), i + k = 24 → n ≤ i → (∀ y, y ≠ m + 1 → I' y = I y) → (∀ j, j < 9 + n ∨ 9 + i ≤ j → I' (m + 1) j = N j) → (∀ j, n ≤ j → j < i → I' (m + 1) (9 + j) = 0) → (∀ I'' : hcI, (∀ y, y ≠ m + 1 → I'' y = I y) → (∀ j, j < 9 + n ∨ 33 ≤ j → I'' (m + 1) j = N j) → (∀ j, n ≤ j → j < 24 → I'' (m + 1) (9 + j) = 0) → V g mX7_bars 1 0 0 S I'' R z 37 [some (.ref m), some (.int (nI n)), none] [] Q) → V g mX7_bars 1 0 0 S I' R z 15 [some (.ref m), some (.int (nI n)), some (.int (nI i))] [] Q := by
  have s0 := hm.s0
  have sn := hm.s_now
  have rn := hm.r_now
  induction k with
  | zero =>
    intro i I' hi hb hF h1 h2 hQ
    refine v_iload_n (q := 16) dX7_bars_15 (kk := ?_)
    refine v_bipush (v := 24) (q := 18) dX7_bars_16 (kk := ?_)
    refine v_icmp_geT 37 dX7_bars_18 ((nI_le (a := 24) (by omega) (by omega))) (kt := ?_)
    refine v_drop2 ?_
    exact hQ I' hF (fun j a1 => h1 j (by omega)) (fun j a1 a2 => h2 j a1 (by omega))
  | succ k ih =>
    intro i I' hi hb hF h1 h2 hQ
    refine v_iload_n (q := 16) dX7_bars_15 (kk := ?_)
    refine v_bipush (v := 24) (q := 18) dX7_bars_16 (kk := ?_)
    refine v_icmp_geF (q := 21) (t := 37) dX7_bars_18 (fun h => by have := (nI_leI (a := 24) (by omega) (by omega)).mp h; omega) (kf := ?_)
    refine v_aload_n (q := 22) dX7_bars_21 (kk := ?_)
    refine v_getR (q := 25) fX7_9 (by assumption) (by assumption) (hd := dX7_bars_22) (kk := ?_)
    refine v_bipush (v := 9) (q := 27) dX7_bars_25 (kk := ?_)
    refine v_iload_n (q := 28) dX7_bars_27 (kk := ?_)
    refine v_iadd (q := 29) dX7_bars_28 (kk := ?_)
    refine v_iconst (v := 0) (q := 30) dX7_bars_29 (kk := ?_)
    refine v_iastE (q := 31) (9 + i) (nI_add 9 i) (by assumption) (by omega) (by omega) (hd := dX7_bars_30) (kk := ?_)
    refine v_iinc2 (q := 34) dX7_bars_31 (hv := nI_1 i) (kk := ?_)
    refine v_goto 15 dX7_bars_34 (kt := ?_)
    refine ih (i + 1) _ (by omega) (by omega) (fun y hy => (hc_u_ne hy).trans (hF y hy)) (fun j hj => ?_) (fun j a1 a2 => ?_) hQ
    · rw [hc_u_at, upd_ne (by omega)]
      exact h1 j (by omega)
    · rw [hc_u_at]
      by_cases e : j = i
      · rw [e, upd_at]
      · rw [upd_ne (by omega)]
        exact h2 j a1 (by omega)
theorem m_bars {n : Int32} (hm : MG S R m) (hN : I (m + 1) = N) (hn : MN N) (hQ : ∀ I' : hcI, Fm m I I' → I' (m + 1) = (spBars N n).2 → Q (some (.int (spBars N n).1)) S I' R z) : Cl g mX7_bars 1 0 0 S I R z [.ref m, .int n] Q := by
  have s0 := hm.s0
  obtain ⟨np, nb, nt, sec, hw⟩ := hn
  refine Cl.go [some (.ref m), some (.int n), none] ?_
  refine v_iload_n (q := 1) dX7_bars_0 (kk := ?_)
  refine v_iconst (v := 1) (q := 2) dX7_bars_1 (kk := ?_)
  refine v_bipush (v := 24) (q := 4) dX7_bars_2 (kk := ?_)
  refine v_cS3 (N := mX7_in) (q := 7) lX7_76 sX7_in kX7_in dX7_bars_4 (s_in ?_)
  refine v_if_neB 13 (q := 10) dX7_bars_7 (kt := fun c => ?_) (kf := fun c => ?_)
  · obtain ⟨j, hj, rfl⟩ := nI_ofL (v := n) (lo := 1) (by decide) c.1
    have hj1 : 1 ≤ j := (nI_leI (a := 1) (by omega) hj).mp c.1
    have hj2 : j ≤ 24 := (nI_leI (b := 24) hj (by omega)).mp c.2
    have e : spBars N (nI j) = (N 2, barF N j) := by unfold spBars; rw [if_pos c, nI_clamp hj]
    rw [e] at hQ
    refine v_iload_n (q := 14) dX7_bars_13 (kk := ?_)
    refine v_istore2 (q := 15) dX7_bars_14 (kk := ?_)
    refine mbars_loop (N := N) hm hj1 (24 - j) j I (by omega) (by omega) (fun _ _ => rfl) (fun k _ => by rw [hN]) (fun _ _ _ => by omega) (fun I' hF h1 h2 => ?_)
    refine v_aload_n (q := 38) dX7_bars_37 (kk := ?_)
    refine v_iconst (v := 2) (q := 39) dX7_bars_38 (kk := ?_)
    refine v_iload_n (q := 40) dX7_bars_39 (kk := ?_)
    refine v_cV2 (N := mX7_becomes) (q := 43) lX7_135 iX7_becomes kX7_becomes (by assumption) dX7_bars_40 (s_mbecomes (k := 2) hm rfl (by omega) ?_)
    rw [h1 2 (by omega)]
    refine v_iret dX7_bars_43 (hQ := ?_)
    refine hQ _ (fun y a1 a2 a3 => (hc_u_ne a1).trans (hF y a1)) ?_
    rw [hc_u_at]
    show upd _ _ _ = barF N j
    funext i
    by_cases e2 : i = 2
    · rw [e2, upd_at]
      unfold barF
      rw [if_pos rfl]
    · rw [upd_ne e2]
      by_cases c3 : 9 + j ≤ i ∧ i < 33
      · have := h2 (i - 9) (by omega) (by omega)
        rw [show 9 + (i - 9) = i by omega] at this
        unfold barF
        rw [this, if_neg e2, if_pos c3]
      · rw [barF_ne e2 (by omega)]
        exact h1 i (by omega)
  · have e : spBars N n = (-1000000001, N) := by unfold spBars; rw [if_neg c]
    rw [e] at hQ
    refine v_ldc (q := 12) cX7_92 dX7_bars_10 (kk := ?_)
    refine v_iret dX7_bars_12 (hQ := ?_)
    exact hQ I Fm.rfl hN
end C3
