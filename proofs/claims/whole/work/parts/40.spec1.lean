/-! what both sides answer, and the numbers behind it -/
def npN (N : hN) : Nat := (N 1).toNatClampNeg
def nbN (N : hN) : Nat := (N 2).toNatClampNeg
def ntN (N : hN) : Nat := (N 8).toNatClampNeg
def scN (N : hN) : Nat := (N 3).toNatClampNeg
def XW (N : hN) (np nb nt sec : Nat) : Prop := WF N np nb nt sec ∧ sec ≤ 99999 ∧ ∀ k, nb ≤ k → k < 24 → N (9 + k) = 0
theorem XW.e {N : hN} {np nb nt sec : Nat} (h : XW N np nb nt sec) : npN N = np ∧ nbN N = nb ∧ ntN N = nt ∧ scN N = sec := by
  obtain ⟨h1, h2, -⟩ := h
  have a1 := h1.1.2
  have a2 := h1.2.1.2.2
  have a3 := h1.2.2.1.2
  refine ⟨?_, ?_, ?_, ?_⟩
  · unfold npN; rw [h1.1.1, nI_clamp (by omega)]
  · unfold nbN; rw [h1.2.1.1, nI_clamp (by omega)]
  · unfold ntN; rw [h1.2.2.1.1, nI_clamp (by omega)]
  · unfold scN; rw [h1.2.2.2.1.1, nI_clamp (by omega)]
def MN (N : hN) : Prop := ∃ np nb nt sec, XW N np nb nt sec
def XN (S : hcS) (I : hcI) (R : hcR) (b : Nat) (N : hN) : Prop := ∃ np nb nt sec, XW N np nb nt sec ∧ HD S I R b (b + 1) N np nb nt
theorem XN.mn {S : hcS} {I : hcI} {R : hcR} {b : Nat} {N : hN} (h : XN S I R b N) : MN N := by
  obtain ⟨np, nb, nt, sec, h1, -⟩ := h
  exact ⟨np, nb, nt, sec, h1⟩
theorem XW.lo {N N' : hN} {np nb nt sec np' sec' : Nat} (h : XW N np nb nt sec) (hw : WF N' np' nb nt sec') (hs : sec' ≤ 99999) (hl : ∀ i, 9 ≤ i → i < 33 → N' i = N i) : XW N' np' nb nt sec' := ⟨hw, hs, fun k h1 h2 => by rw [hl _ (by omega) (by omega)]; exact h.2.2 k h1 h2⟩
/-- the class's own cells, but for the halls' laws and the Reader's bytes -/
def XSk (S : hcS) (R : hcR) (b : Nat) : Prop :=
  (S b = some (6, 0) ∧ R b 0 = some (b + 1) ∧ R b 1 = some (b + 16) ∧ R b 2 = some (b + 31) ∧ R b 3 = some (b + 46) ∧ R b 4 = some (b + 49) ∧ R b 5 = some (b + 50) ∧ R b 6 = some (b + 51) ∧ R b 7 = some (b + 52)) ∧
  (HSk S R (b + 1) ∧ HSk S R (b + 16) ∧ HSk S R (b + 31)) ∧
  (S (b + 46) = some (2, 0) ∧ S (b + 47) = some (10, 96) ∧ S (b + 48) = some (8, 0) ∧ R (b + 46) 1 = some (b + 47)) ∧
  (S (b + 49) = some (13, 4) ∧ ∀ k, k < 4 → R (b + 49) k = some (b + 53 + 2 * k) ∧ RowAt S R (b + 53 + 2 * k)) ∧
  (S (b + 50) = some (14, 5) ∧ ∀ k, k < 5 → R (b + 50) k = some (b + 61 + 4 * k) ∧ S (b + 61 + 4 * k) = some (4, 0) ∧ R (b + 61 + 4 * k) 1 = some (b + 62 + 4 * k) ∧ R (b + 61 + 4 * k) 2 = some (b + 63 + 4 * k) ∧ S (b + 62 + 4 * k) = some (1, 0) ∧ RowAt S R (b + 63 + 4 * k)) ∧
  (S (b + 51) = some (8, 96) ∧ S (b + 52) = some (10, 60))
def spPerson (N : hN) (k s w : Int32) : Int32 × hN := if (0 ≤ k ∧ k < 6) ∧ (0 ≤ s ∧ s < 30) ∧ (0 ≤ w ∧ w < 100) then (if (whoF N (npN N) s).isSome = true then (-1000000002, N) else if npN N = 10 then (-1000000003, N) else (nI (npN N), comeF N (npN N) k s w)) else (-1000000001, N)
theorem nI_of6 {v m : Int32} {n : Nat} (hm : m = nI n) (hn : n < 2 ^ 31) (h : 0 ≤ v ∧ v < m) : ∃ j, v = nI j ∧ j < n := by
  obtain ⟨j, hj, e⟩ := nI_of (x := v) (Int32.not_lt.mpr h.1)
  refine ⟨j, e, ?_⟩
  have := h.2
  rw [e, hm] at this
  exact (nI_ltI hj hn).mp this
theorem person_MN {N : hN} {k s w : Int32} {np nb nt sec : Nat} (h : XW N np nb nt sec) (hnp : np < 10) (hk : 0 ≤ k ∧ k < 6) (hs : 0 ≤ s ∧ s < 30) (hw : 0 ≤ w ∧ w < 100) : XW (comeF N np k s w) (np + 1) nb nt sec := by
  obtain ⟨k', rfl, hk'⟩ := nI_of6 (n := 6) rfl (by omega) hk
  obtain ⟨s', rfl, hs'⟩ := nI_of6 (n := 30) rfl (by omega) hs
  obtain ⟨w', rfl, hw'⟩ := nI_of6 (n := 100) rfl (by omega) hw
  exact h.lo (comeF_WF h.1 hnp hk' hs' hw') h.2.1 (fun i h1 h2 => comeF_ne (fun j hj => by omega) (by omega))
section C1
variable {g : hcG} {S : hcS} {I : hcI} {R : hcR} {z : Nat} {Q : hcQ} {b m : Nat} {N : hN}
theorem s_in0 {v hi : Int32} (n : Nat) (mm : Int32) (hm : mm = nI n) (hh : hi = nI n - 1) (hn : n < 2 ^ 31) (hQ : Q (some (.int (hc_b (0 ≤ v ∧ v < mm)))) S I R z) : Cl g mX7_in 0 0 0 S I R z [.int v, .int 0, .int hi] Q := by
  subst hm
  subst hh
  refine s_in ?_
  rwa [hc_b_congr (lt_le_pred (n := n) hn)]
theorem x_person {k s w : Int32} (hx : XSk S R b) (hn : XN S I R b N) (hQ : ∀ I' : hcI, Fh b (b + 1) I I' → XN S I' R b (spPerson N k s w).2 → Q (some (.int (spPerson N k s w).1)) S I' R z) : Cl g mX6_person 2 0 0 S I R z [.ref b, .int k, .int s, .int w] Q := by
  obtain ⟨⟨s0, r0, -⟩, ⟨hk1, -⟩, -⟩ := hx
  obtain ⟨np, nb, nt, sec, hw, hd⟩ := id hn
  obtain ⟨e1, e2, e3, e4⟩ := hw.e
  have sh := hk1.1
  refine Cl.go [some (.ref b), some (.int k), some (.int s), some (.int w)] ?_
  have bad : ¬ ((0 ≤ k ∧ k < 6) ∧ (0 ≤ s ∧ s < 30) ∧ (0 ≤ w ∧ w < 100)) → V g mX6_person 2 0 0 S I R z 27 [some (.ref b), some (.int k), some (.int s), some (.int w)] [] Q := by
    intro c
    have e : spPerson N k s w = (-1000000001, N) := by unfold spPerson; rw [if_neg c]
    rw [e] at hQ
    refine v_ldc (q := 29) cX6_55 dX6_person_27 (kk := ?_)
    refine v_iret dX6_person_29 (hQ := ?_)
    exact hQ I Fh.rfl hn
  refine v_iload_n (q := 1) dX6_person_0 (kk := ?_)
  refine v_bipush (v := 6) (q := 3) dX6_person_1 (kk := ?_)
  refine v_cS2 (N := mX6_within) (q := 6) lX6_51 sX6_within kX6_within dX6_person_3 (s_within ?_)
  refine v_if_eqB 27 (q := 9) dX6_person_6 (kt := fun c1 => ?_) (kf := fun c1 => ?_)
  · exact bad (fun h => c1 h.1)
  · refine v_iload_n (q := 10) dX6_person_9 (kk := ?_)
    refine v_bipush (v := 30) (q := 12) dX6_person_10 (kk := ?_)
    refine v_cS2 (N := mX6_within) (q := 15) lX6_51 sX6_within kX6_within dX6_person_12 (s_within ?_)
    refine v_if_eqB 27 (q := 18) dX6_person_15 (kt := fun c2 => ?_) (kf := fun c2 => ?_)
    · exact bad (fun h => c2 h.2.1)
    · refine v_iload_n (q := 19) dX6_person_18 (kk := ?_)
      refine v_bipush (v := 100) (q := 21) dX6_person_19 (kk := ?_)
      refine v_cS2 (N := mX6_within) (q := 24) lX6_51 sX6_within kX6_within dX6_person_21 (s_within ?_)
      refine v_if_neB 30 (q := 27) dX6_person_24 (kt := fun c3 => ?_) (kf := fun c3 => ?_)
      · have e0 : spPerson N k s w = (if (whoF N np s).isSome = true then (-1000000002, N) else if np = 10 then (-1000000003, N) else (nI np, comeF N np k s w)) := by
          unfold spPerson
          rw [if_pos ⟨c1, c2, c3⟩, e1]
        have e4 : I (b + 1) 4 = nI np := hd.1.1.trans hw.1.1.1
        have hnp := hw.1.1.2
        refine v_aload_n (q := 31) dX6_person_30 (kk := ?_)
        refine v_getR (q := 34) fX6_12 (by assumption) (by assumption) (hd := dX6_person_31) (kk := ?_)
        refine v_iload_n (q := 35) dX6_person_34 (kk := ?_)
        refine v_cV1 (N := mX0_whoSits) (q := 38) lX6_56 iX0_whoSits kX0_whoSits (by assumption) dX6_person_35 (s_whoSits hk1 hd hw.1 ?_)
        cases hf : whoF N np s with
        | some p =>
          have e5 : spPerson N k s w = (-1000000002, N) := by rw [e0, if_pos (by rw [hf]; rfl)]
          rw [e5] at hQ
          have hp := (fst0_some np 0 p hf).2.1
          refine v_if_ltF (q := 41) (t := 44) dX6_person_38 (nI_pos (by omega)) (kf := ?_)
          refine v_ldc (q := 43) cX6_60 dX6_person_41 (kk := ?_)
          refine v_iret dX6_person_43 (hQ := ?_)
          exact hQ I Fh.rfl hn
        | none =>
          have e5 : spPerson N k s w = if np = 10 then (-1000000003, N) else (nI np, comeF N np k s w) := by rw [e0, if_neg (by rw [hf]; simp)]
          refine v_if_ltT 44 dX6_person_38 (by decide) (kt := ?_)
          refine v_aload_n (q := 45) dX6_person_44 (kk := ?_)
          refine v_getR (q := 48) fX6_12 (by assumption) (by assumption) (hd := dX6_person_45) (kk := ?_)
          refine v_getI (q := 51) fX6_61 (by assumption) (hd := dX6_person_48) (kk := ?_)
          rw [e4]
          refine v_bipush (v := 10) (q := 53) dX6_person_51 (kk := ?_)
          by_cases h10 : np = 10
          · rw [if_pos h10] at e5
            rw [e5] at hQ
            refine v_icmp_ltF (q := 56) (t := 61) dX6_person_53 (fun h => by have := (nI_ltI (b := 10) (by omega) (by omega)).mp h; omega) (kf := ?_)
            refine v_ldc (q := 58) cX6_65 dX6_person_56 (kk := ?_)
            refine v_goto 71 dX6_person_58 (kt := ?_)
            refine v_iret dX6_person_71 (hQ := ?_)
            exact hQ I Fh.rfl hn
          · rw [if_neg h10] at e5
            rw [e5] at hQ
            refine v_icmp_ltT 61 dX6_person_53 ((nI_ltI (b := 10) (by omega) (by omega)).mpr (by omega)) (kt := ?_)
            refine v_aload_n (q := 62) dX6_person_61 (kk := ?_)
            refine v_getR (q := 65) fX6_12 (by assumption) (by assumption) (hd := dX6_person_62) (kk := ?_)
            refine v_iload_n (q := 66) dX6_person_65 (kk := ?_)
            refine v_iload_n (q := 67) dX6_person_66 (kk := ?_)
            refine v_iload_n (q := 68) dX6_person_67 (kk := ?_)
            refine v_cV3 (N := mX0_comes) (q := 71) lX6_66 iX0_comes kX0_comes (by assumption) dX6_person_68 (s_comes hk1 hd (by omega) hw.1 (by omega) (fun I' hF' hd' => ?_))
            refine v_iret dX6_person_71 (hQ := ?_)
            exact hQ I' hF'.h ⟨np + 1, nb, nt, sec, person_MN hw (by omega) c1 c2 c3, hd'⟩
      · exact bad (fun h => c3 h.2.2)
theorem m_person {k s w : Int32} (hm : MG S R m) (hN : I (m + 1) = N) (hn : MN N) (hQ : ∀ I' : hcI, Fm m I I' → I' (m + 1) = (spPerson N k s w).2 → Q (some (.int (spPerson N k s w).1)) S I' R z) : Cl g mX7_person 2 0 0 S I R z [.ref m, .int k, .int s, .int w] Q := by
  have s0 := hm.s0
  have sn := hm.s_now
  have rn := hm.r_now
  obtain ⟨np, nb, nt, sec, hw⟩ := hn
  obtain ⟨e1, e2, e3, e4⟩ := hw.e
  have hnp := hw.1.1.2
  have h1 := hw.1.1.1
  refine Cl.go [some (.ref m), some (.int k), some (.int s), some (.int w)] ?_
  have bad : ¬ ((0 ≤ k ∧ k < 6) ∧ (0 ≤ s ∧ s < 30) ∧ (0 ≤ w ∧ w < 100)) → V g mX7_person 2 0 0 S I R z 26 [some (.ref m), some (.int k), some (.int s), some (.int w)] [] Q := by
    intro c
    have e : spPerson N k s w = (-1000000001, N) := by unfold spPerson; rw [if_neg c]
    rw [e] at hQ
    refine v_ldc (q := 28) cX7_92 dX7_person_26 (kk := ?_)
    refine v_iret dX7_person_28 (hQ := ?_)
    exact hQ I Fm.rfl hN
  refine v_iload_n (q := 1) dX7_person_0 (kk := ?_)
  refine v_iconst (v := 0) (q := 2) dX7_person_1 (kk := ?_)
  refine v_iconst (v := 5) (q := 3) dX7_person_2 (kk := ?_)
  refine v_cS3 (N := mX7_in) (q := 6) lX7_76 sX7_in kX7_in dX7_person_3 (s_in0 6 6 rfl rfl (by omega) ?_)
  refine v_if_eqB 26 (q := 9) dX7_person_6 (kt := fun c1 => ?_) (kf := fun c1 => ?_)
  · exact bad (fun h => c1 h.1)
  · refine v_iload_n (q := 10) dX7_person_9 (kk := ?_)
    refine v_cS1 (N := mX7_isSeat) (q := 13) lX7_88 sX7_isSeat kX7_isSeat dX7_person_10 (s_isSeat ?_)
    refine v_if_eqB 26 (q := 16) dX7_person_13 (kt := fun c2 => ?_) (kf := fun c2 => ?_)
    · exact bad (fun h => c2 h.2.1)
    · refine v_iload_n (q := 17) dX7_person_16 (kk := ?_)
      refine v_iconst (v := 0) (q := 18) dX7_person_17 (kk := ?_)
      refine v_bipush (v := 99) (q := 20) dX7_person_18 (kk := ?_)
      refine v_cS3 (N := mX7_in) (q := 23) lX7_76 sX7_in kX7_in dX7_person_20 (s_in0 100 100 rfl rfl (by omega) ?_)
      refine v_if_neB 29 (q := 26) dX7_person_23 (kt := fun c3 => ?_) (kf := fun c3 => ?_)
      · have e0 : spPerson N k s w = (if (whoF N np s).isSome = true then (-1000000002, N) else if np = 10 then (-1000000003, N) else (nI np, comeF N np k s w)) := by
          unfold spPerson
          rw [if_pos ⟨c1, c2, c3⟩, e1]
        refine v_aload_n (q := 30) dX7_person_29 (kk := ?_)
        refine v_iload_n (q := 31) dX7_person_30 (kk := ?_)
        refine v_cV1 (N := mX7_whoOn) (q := 34) lX7_93 iX7_whoOn kX7_whoOn (by assumption) dX7_person_31 (s_whoOn hm (by rw [hN]; exact h1) hnp ?_)
        rw [hN]
        cases hf : whoF N np s with
        | some p =>
          have e5 : spPerson N k s w = (-1000000002, N) := by rw [e0, if_pos (by rw [hf]; rfl)]
          rw [e5] at hQ
          have hp := (fst0_some np 0 p hf).2.1
          refine v_if_ltF (q := 37) (t := 40) dX7_person_34 (nI_pos (by omega)) (kf := ?_)
          refine v_ldc (q := 39) cX7_97 dX7_person_37 (kk := ?_)
          refine v_iret dX7_person_39 (hQ := ?_)
          exact hQ I Fm.rfl hN
        | none =>
          have e5 : spPerson N k s w = if np = 10 then (-1000000003, N) else (nI np, comeF N np k s w) := by rw [e0, if_neg (by rw [hf]; simp)]
          refine v_if_ltT 40 dX7_person_34 (by decide) (kt := ?_)
          refine v_aload_n (q := 41) dX7_person_40 (kk := ?_)
          refine v_getR (q := 44) fX7_9 (by assumption) (by assumption) (hd := dX7_person_41) (kk := ?_)
          refine v_iconst (v := 1) (q := 45) dX7_person_44 (kk := ?_)
          refine v_ialdE (q := 46) (1) (by rfl) (by assumption) (by omega) (by omega) (hd := dX7_person_45) (kk := ?_)
          rw [hN, h1]
          refine v_bipush (v := 10) (q := 48) dX7_person_46 (kk := ?_)
          by_cases h10 : np = 10
          · rw [if_pos h10] at e5
            rw [e5] at hQ
            refine v_icmp_neF (q := 51) (t := 56) dX7_person_48 (by rw [h10]; rfl) (kf := ?_)
            refine v_ldc (q := 53) cX7_98 dX7_person_51 (kk := ?_)
            refine v_goto 63 dX7_person_53 (kt := ?_)
            refine v_iret dX7_person_63 (hQ := ?_)
            exact hQ I Fm.rfl hN
          · rw [if_neg h10] at e5
            rw [e5] at hQ
            refine v_icmp_neT 56 dX7_person_48 (fun h => h10 ((nI_eq (b := 10) (by omega) (by omega)).mp h)) (kt := ?_)
            refine v_aload_n (q := 57) dX7_person_56 (kk := ?_)
            refine v_iload_n (q := 58) dX7_person_57 (kk := ?_)
            refine v_iload_n (q := 59) dX7_person_58 (kk := ?_)
            refine v_iload_n (q := 60) dX7_person_59 (kk := ?_)
            refine v_cV3 (N := mX7_comes) (q := 63) lX7_99 iX7_comes kX7_comes (by assumption) dX7_person_60 (s_mcomes hm hN h1 (by omega) (fun I' hF' hN' => ?_))
            refine v_iret dX7_person_63 (hQ := ?_)
            exact hQ I' (fun y hy _ _ => hF' y hy) hN'
      · exact bad (fun h => c3 h.2.2)
end C1
