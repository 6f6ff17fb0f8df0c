/-- a Hall at a: its cells -/
def HSk (S : hcS) (R : hcR) (a : Nat) : Prop :=
  S a = some (0, 0) ∧ S (a + 1) = some (12, 10) ∧ S (a + 2) = some (10, 24) ∧ S (a + 3) = some (15, 14) ∧ S (a + 4) = some (10, 3) ∧ R a 0 = some (a + 1) ∧ R a 1 = some (a + 2) ∧ R a 2 = some (a + 3) ∧ R a 3 = some (a + 4) ∧ ∀ p, p < 10 → S (a + 5 + p) = some (1, 0) ∧ R (a + 1) p = some (a + 5 + p)
def stk (b y : Nat) : Prop := b + 103 ≤ y ∧ (y - (b + 103)) % 3 = 2
/-- a Text at x holds TEXT t of the numbers -/
def TxAt (S : hcS) (I : hcI) (R : hcR) (b x : Nat) (N : hN) (t : Nat) : Prop := (b + 103 ≤ x ∧ (x - (b + 103)) % 3 = 0) ∧ ∃ key cn lv, TW N t key cn lv ∧ S x = some (5, 0) ∧ S (x + 1) = some (10, cn) ∧ S (x + 2) = some (10, lv) ∧ R x 2 = some (x + 1) ∧ R x 3 = some (x + 2) ∧ I x 0 = nI key ∧ I x 1 = nI lv ∧ ∀ k, k < cn → I (x + 1) k = trc (cdN N t k)
/-- the Hall at a holds the numbers N -/
def HD (S : hcS) (I : hcI) (R : hcR) (b a : Nat) (N : hN) (np nb nt : Nat) : Prop :=
  (I a 4 = N 1 ∧ I a 5 = N 2 ∧ I a 6 = N 8 ∧ I a 7 = N 6 ∧ I a 8 = N 7 ∧ I a 9 = N 3 ∧ I a 10 = N 4 ∧ I a 11 = N 5 ∧ I a 12 = N 0) ∧ (∀ k, k < nb → I (a + 2) k = N (9 + k)) ∧ (∀ p, p < np → ∀ j, j < 6 → I (a + 5 + p) j = N (33 + 6 * p + j)) ∧ (∀ k, k < 3 → I (a + 4) k = hc_o (cntF N k nt)) ∧ (∀ t, t < nt → ∃ x, R (a + 3) t = some x ∧ TxAt S I R b x N t)
theorem TxAt.keep {S : hcS} {I I' : hcI} {R : hcR} {b x : Nat} {N : hN} {t : Nat} (h : TxAt S I R b x N t) (h2 : ∀ y, b + 103 ≤ y → ¬ stk b y → I' y = I y) : TxAt S I' R b x N t := by
  obtain ⟨⟨q1, q2⟩, key, cn, lv, a1, a2, a3, a4, a5, a6, a7, a8, a9⟩ := h
  have e0 := h2 x q1 (by unfold stk; omega)
  have e1 := h2 (x + 1) (by omega) (by unfold stk; omega)
  exact ⟨⟨q1, q2⟩, key, cn, lv, a1, a2, a3, a4, a5, a6, by rw [e0]; exact a7, by rw [e0]; exact a8, fun k hk => by rw [e1]; exact a9 k hk⟩
theorem HD.keep {S : hcS} {I I' : hcI} {R : hcR} {b a : Nat} {N : hN} {np nb nt : Nat} (h : HD S I R b a N np nb nt) (hp : np ≤ 10) (h1 : ∀ y, a ≤ y → y < a + 15 → I' y = I y) (h2 : ∀ y, b + 103 ≤ y → ¬ stk b y → I' y = I y) : HD S I' R b a N np nb nt := by
  obtain ⟨h3, h4, h5, h6, h7⟩ := h
  refine ⟨?_, fun k hk => ?_, fun p hp j hj => ?_, fun k hk => ?_, fun t ht => ?_⟩
  · rw [h1 a (by omega) (by omega)]
    exact h3
  · rw [h1 (a + 2) (by omega) (by omega)]
    exact h4 k hk
  · rw [h1 (a + 5 + p) (by omega) (by omega)]
    exact h5 p hp j hj
  · rw [h1 (a + 4) (by omega) (by omega)]
    exact h6 k hk
  · obtain ⟨x, hx, ht2⟩ := h7 t ht
    exact ⟨x, hx, ht2.keep h2⟩
theorem HD.keepS {S : hcS} {I I' : hcI} {R : hcR} {b a : Nat} {N : hN} {np nb nt : Nat} (h : HD S I R b a N np nb nt) (hp : np ≤ 10) (ha : a + 15 ≤ b + 103) (h1 : ∀ y, ¬ stk b y → I' y = I y) : HD S I' R b a N np nb nt :=
  h.keep hp (fun y _ hy => h1 y (fun q => by have := q.1; omega)) (fun y _ hy => h1 y hy)
theorem cntF_lt {N : hN} {k : Nat} : ∀ {nt t : Nat}, cntF N k nt = some t → t < nt
  | 0, t, h => by simp [cntF] at h
  | n + 1, t, h => by
    simp only [cntF] at h
    split at h
    next => simp only [Option.some.injEq] at h; omega
    next => have := cntF_lt h; omega
theorem cntF_key {N : hN} {k : Nat} : ∀ {nt t : Nat}, cntF N k nt = some t → N (93 + 2 * t) / 1000 = nI k
  | 0, t, h => by simp [cntF] at h
  | n + 1, t, h => by
    simp only [cntF] at h
    split at h
    next c => simp only [Option.some.injEq] at h; subst h; exact c
    next => exact cntF_key h
section H1
variable {g : hcG} {S : hcS} {I : hcI} {R : hcR} {z : Nat} {Q : hcQ} {b a np nb nt sec : Nat} {N : hN}
theorem s_has {v : Int32} (hk : HSk S R a) (hd : HD S I R b a N np nb nt) (hw : WF N np nb nt sec) (hQ : Q (some (.int (hc_b (0 ≤ v ∧ v < nI np)))) S I R z) : Cl g mX0_has 1 0 0 S I R z [.ref a, .int v] Q := by
  obtain ⟨s0, -⟩ := hk
  have e : I a 4 = nI np := hd.1.1.trans hw.1.1
  refine Cl.go [some (.ref a), some (.int v)] ?_
  refine v_iload_n (q := 1) dX0_has_0 (kk := ?_)
  refine v_aload_n (q := 2) dX0_has_1 (kk := ?_)
  refine v_getI (q := 5) fX0_44 (by assumption) (hd := dX0_has_2) (kk := ?_)
  refine v_cN2 (N := mX6_within) (q := 8) nX0_63 sX6_within kX6_within dX0_has_5 (s_within ?_)
  rw [e]
  refine v_zret dX0_has_8 hc_nz (hQ := ?_)
  exact hQ
theorem whoSits_loop {seat : Int32} (hk : HSk S R a) (hd : HD S I R b a N np nb nt) (hw : WF N np nb nt sec) (k : Nat) : ∀ i, i + k = np → Q (some (.int (hc_o (fst0 (fun p => decide (N (33 + 6 * p + 1) = seat)) i k)))) S I R z → V g mX0_whoSits 0 0 0 S I R z 2 [some (.ref a), some (.int seat), some (.int (nI i))] [] Q := by
  obtain ⟨s0, s1, s2, s3, s4, r0, r1, r2, r3, sp⟩ := hk
  have e : I a 4 = nI np := hd.1.1.trans hw.1.1
  have hnp := hw.1.2
  induction k with
  | zero =>
    intro i hi hQ
    have e2 : i = np := by omega
    subst e2
    refine v_iload_n (q := 3) dX0_whoSits_2 (kk := ?_)
    refine v_aload_n (q := 4) dX0_whoSits_3 (kk := ?_)
    refine v_getI (q := 7) fX0_44 (by assumption) (hd := dX0_whoSits_4) (kk := ?_)
    rw [e]
    refine v_icmp_geT 31 dX0_whoSits_7 (nI_le (Nat.le_refl _) (by omega)) (kt := ?_)
    refine v_iconst (v := (-1)) (q := 32) dX0_whoSits_31 (kk := ?_)
    refine v_iret dX0_whoSits_32 (hQ := ?_)
    exact hQ
  | succ k ih =>
    intro i hi hQ
    have hsp := (sp i (by omega)).1
    have hrp := (sp i (by omega)).2
    simp only [fst0] at hQ
    refine v_iload_n (q := 3) dX0_whoSits_2 (kk := ?_)
    refine v_aload_n (q := 4) dX0_whoSits_3 (kk := ?_)
    refine v_getI (q := 7) fX0_44 (by assumption) (hd := dX0_whoSits_4) (kk := ?_)
    rw [e]
    refine v_icmp_geF (q := 10) (t := 31) dX0_whoSits_7 (nI_ge (by omega) (by omega)) (kf := ?_)
    refine v_aload_n (q := 11) dX0_whoSits_10 (kk := ?_)
    refine v_getR (q := 14) fX0_11 (by assumption) (by assumption) (hd := dX0_whoSits_11) (kk := ?_)
    refine v_iload_n (q := 15) dX0_whoSits_14 (kk := ?_)
    refine v_aaldn (q := 16) (by assumption) (by assumption) (by omega) (by omega) (hd := dX0_whoSits_15) (kk := ?_)
    refine v_getI (q := 19) fX0_67 (by assumption) (hd := dX0_whoSits_16) (kk := ?_)
    rw [hd.2.2.1 i (by omega) 1 (by omega)]
    refine v_iload_n (q := 20) dX0_whoSits_19 (kk := ?_)
    refine v_icmp_ne 25 (q := 23) dX0_whoSits_20 (kt := fun c => ?_) (kf := fun c => ?_)
    · rw [if_neg (by simpa using c)] at hQ
      refine v_iinc2 (q := 28) dX0_whoSits_25 (hv := nI_1 i) (kk := ?_)
      refine v_goto 2 dX0_whoSits_28 (kt := ?_)
      exact ih (i + 1) (by omega) hQ
    · rw [if_pos (by simpa using c)] at hQ
      refine v_iload_n (q := 24) dX0_whoSits_23 (kk := ?_)
      refine v_iret dX0_whoSits_24 (hQ := ?_)
      exact hQ
theorem s_whoSits {seat : Int32} (hk : HSk S R a) (hd : HD S I R b a N np nb nt) (hw : WF N np nb nt sec) (hQ : Q (some (.int (hc_o (whoF N np seat)))) S I R z) : Cl g mX0_whoSits 0 0 0 S I R z [.ref a, .int seat] Q := by
  refine Cl.go [some (.ref a), some (.int seat), none] ?_
  refine v_iconst (v := 0) (q := 1) dX0_whoSits_0 (kk := ?_)
  refine v_istore2 (q := 2) dX0_whoSits_1 (kk := ?_)
  exact whoSits_loop hk hd hw np 0 (by omega) hQ
theorem s_loudIn {t : Nat} (hk : HSk S R a) (hd : HD S I R b a N np nb nt) (hw : WF N np nb nt sec) (ht : t ≤ 1000) (hQ : Q (some (.int (N (9 + (sec + t) % nb)))) S I R z) : Cl g mX0_loudIn 0 0 0 S I R z [.ref a, .int (nI t)] Q := by
  obtain ⟨s0, s1, s2, s3, s4, r0, r1, r2, r3, sp⟩ := hk
  have e5 : I a 5 = nI nb := hd.1.2.1.trans hw.2.1.1
  have e9 : I a 9 = nI sec := hd.1.2.2.2.2.2.1.trans hw.2.2.2.1.1
  have hb1 := hw.2.1.2.1
  have hb2 := hw.2.1.2.2
  have hs := hw.2.2.2.1.2
  have hlt := Nat.mod_lt (sec + t) (show nb > 0 by omega)
  refine Cl.go [some (.ref a), some (.int (nI t))] ?_
  refine v_aload_n (q := 1) dX0_loudIn_0 (kk := ?_)
  refine v_getI (q := 4) fX0_30 (by assumption) (hd := dX0_loudIn_1) (kk := ?_)
  refine v_iconst (v := 1) (q := 5) dX0_loudIn_4 (kk := ?_)
  rw [e5]
  refine v_icmp_geT 12 dX0_loudIn_5 ((show nI 1 ≤ nI nb from nI_le (by omega) (by omega))) (kt := ?_)
  refine v_aload_n (q := 13) dX0_loudIn_12 (kk := ?_)
  refine v_getR (q := 16) fX0_17 (by assumption) (by assumption) (hd := dX0_loudIn_13) (kk := ?_)
  refine v_aload_n (q := 17) dX0_loudIn_16 (kk := ?_)
  refine v_getI (q := 20) fX0_54 (by assumption) (hd := dX0_loudIn_17) (kk := ?_)
  refine v_iload_n (q := 21) dX0_loudIn_20 (kk := ?_)
  refine v_iadd (q := 22) dX0_loudIn_21 (kk := ?_)
  rw [e9, nI_add]
  refine v_aload_n (q := 23) dX0_loudIn_22 (kk := ?_)
  refine v_getI (q := 26) fX0_30 (by assumption) (hd := dX0_loudIn_23) (kk := ?_)
  rw [e5]
  refine v_iremN (q := 27) (a := sec + t) (n := nb) (by omega) (by omega) (by omega) dX0_loudIn_26 (kk := ?_)
  refine v_ialdN (q := 28) (by assumption) (by omega) (by omega) (hd := dX0_loudIn_27) (kk := ?_)
  rw [hd.2.1 _ hlt]
  refine v_iret dX0_loudIn_28 (hQ := ?_)
  exact hQ
theorem s_upTo {v : Int32} (hk : HSk S R a) (hd : HD S I R b a N np nb nt) (hw : WF N np nb nt sec) (hQ : Q (some (.int (hc_min v (99999 - nI sec)))) S I R z) : Cl g mX0_upToTheLast 1 0 0 S I R z [.ref a, .int v] Q := by
  obtain ⟨s0, -⟩ := hk
  have e9 : I a 9 = nI sec := hd.1.2.2.2.2.2.1.trans hw.2.2.2.1.1
  refine Cl.go [some (.ref a), some (.int v)] ?_
  refine v_iload_n (q := 1) dX0_upToTheLast_0 (kk := ?_)
  refine v_ldc (q := 3) cX0_90 dX0_upToTheLast_1 (kk := ?_)
  refine v_aload_n (q := 4) dX0_upToTheLast_3 (kk := ?_)
  refine v_getI (q := 7) fX0_54 (by assumption) (hd := dX0_upToTheLast_4) (kk := ?_)
  refine v_isub (q := 8) dX0_upToTheLast_7 (kk := ?_)
  rw [e9]
  refine v_cS2 (N := mJ9_min_7cf53) (q := 11) lX0_91 sJ9_min_7cf53 kJ9_min_7cf53 dX0_upToTheLast_8 (s_min ?_)
  refine v_iret dX0_upToTheLast_11 (hQ := ?_)
  exact hQ
theorem s_hasCoughed {p : Nat} (hk : HSk S R a) (hd : HD S I R b a N np nb nt) (hw : WF N np nb nt sec) (hp : p < 10) (hQ : Q (some (.int (hc_z (bitB (N 5) p)))) S I R z) : Cl g mX0_hasCoughed 0 0 0 S I R z [.ref a, .int (nI p)] Q := by
  obtain ⟨s0, -⟩ := hk
  obtain ⟨k, hk5, hk10⟩ := hw.2.2.2.2.2.1
  have h10 : k < 1024 := Nat.lt_of_lt_of_le hk10 (Nat.pow_le_pow_right (by omega) hw.1.2)
  have e11 : I a 11 = nI k := hd.1.2.2.2.2.2.2.2.1.trans hk5
  rw [hk5, ← bit_eq k h10 p hp] at hQ
  refine Cl.go [some (.ref a), some (.int (nI p))] ?_
  refine v_aload_n (q := 1) dX0_hasCoughed_0 (kk := ?_)
  refine v_getI (q := 4) fX0_60 (by assumption) (hd := dX0_hasCoughed_1) (kk := ?_)
  refine v_iload_n (q := 5) dX0_hasCoughed_4 (kk := ?_)
  rw [e11]
  refine v_iushr (q := 6) dX0_hasCoughed_5 (kk := ?_)
  refine v_iconst (v := 1) (q := 7) dX0_hasCoughed_6 (kk := ?_)
  refine v_iand (q := 8) dX0_hasCoughed_7 (kk := ?_)
  refine v_iconst (v := 1) (q := 9) dX0_hasCoughed_8 (kk := ?_)
  refine v_icmp_ne 16 (q := 12) dX0_hasCoughed_9 (kt := fun c => ?_) (kf := fun c => ?_)
  · refine v_iconst (v := 0) (q := 17) dX0_hasCoughed_16 (kk := ?_)
    refine v_zret dX0_hasCoughed_17 rfl (hQ := ?_)
    rwa [hc_zf (by simpa using c)] at hQ
  · refine v_iconst (v := 1) (q := 13) dX0_hasCoughed_12 (kk := ?_)
    refine v_goto 17 dX0_hasCoughed_13 (kt := ?_)
    refine v_zret dX0_hasCoughed_17 rfl (hQ := ?_)
    rwa [hc_zt (by simpa using c)] at hQ
def sumC (N : hN) : Nat → Int32
  | 0 => 0
  | p + 1 => sumC N p + N (33 + 6 * p + 5)
def maxI (N : hN) : Nat → Int32
  | 0 => 0
  | p + 1 => hc_max (maxI N p) (N (33 + 6 * p + 3))
theorem allCoughs_loop (hk : HSk S R a) (hd : HD S I R b a N np nb nt) (hw : WF N np nb nt sec) (hQ : Q (some (.int (sumC N np))) S I R z) (k : Nat) : ∀ i, i + k = np → V g mX0_allCoughs 0 0 0 S I R z 4 [some (.ref a), some (.int (sumC N i)), some (.int (nI i))] [] Q := by
  obtain ⟨s0, s1, s2, s3, s4, r0, r1, r2, r3, sp⟩ := hk
  have e : I a 4 = nI np := hd.1.1.trans hw.1.1
  have hnp := hw.1.2
  induction k with
  | zero =>
    intro i hi
    have e2 : i = np := by omega
    subst e2
    refine v_iload_n (q := 5) dX0_allCoughs_4 (kk := ?_)
    refine v_aload_n (q := 6) dX0_allCoughs_5 (kk := ?_)
    refine v_getI (q := 9) fX0_44 (by assumption) (hd := dX0_allCoughs_6) (kk := ?_)
    rw [e]
    refine v_icmp_geT 30 dX0_allCoughs_9 (nI_le (Nat.le_refl _) (by omega)) (kt := ?_)
    refine v_iload_n (q := 31) dX0_allCoughs_30 (kk := ?_)
    refine v_iret dX0_allCoughs_31 (hQ := ?_)
    exact hQ
  | succ k ih =>
    intro i hi
    have hsp := (sp i (by omega)).1
    have hrp := (sp i (by omega)).2
    refine v_iload_n (q := 5) dX0_allCoughs_4 (kk := ?_)
    refine v_aload_n (q := 6) dX0_allCoughs_5 (kk := ?_)
    refine v_getI (q := 9) fX0_44 (by assumption) (hd := dX0_allCoughs_6) (kk := ?_)
    rw [e]
    refine v_icmp_geF (q := 12) (t := 30) dX0_allCoughs_9 (nI_ge (by omega) (by omega)) (kf := ?_)
    refine v_iload_n (q := 13) dX0_allCoughs_12 (kk := ?_)
    refine v_aload_n (q := 14) dX0_allCoughs_13 (kk := ?_)
    refine v_getR (q := 17) fX0_11 (by assumption) (by assumption) (hd := dX0_allCoughs_14) (kk := ?_)
    refine v_iload_n (q := 18) dX0_allCoughs_17 (kk := ?_)
    refine v_aaldn (q := 19) (by assumption) (by assumption) (by omega) (by omega) (hd := dX0_allCoughs_18) (kk := ?_)
    refine v_getI (q := 22) fX0_97 (by assumption) (hd := dX0_allCoughs_19) (kk := ?_)
    rw [hd.2.2.1 i (by omega) 5 (by omega)]
    refine v_iadd (q := 23) dX0_allCoughs_22 (kk := ?_)
    refine v_istore1 (q := 24) dX0_allCoughs_23 (kk := ?_)
    refine v_iinc2 (q := 27) dX0_allCoughs_24 (hv := nI_1 i) (kk := ?_)
    refine v_goto 4 dX0_allCoughs_27 (kt := ?_)
    exact ih (i + 1) (by omega)
theorem s_allCoughs (hk : HSk S R a) (hd : HD S I R b a N np nb nt) (hw : WF N np nb nt sec) (hQ : Q (some (.int (sumC N np))) S I R z) : Cl g mX0_allCoughs 0 0 0 S I R z [.ref a] Q := by
  refine Cl.go [some (.ref a), none, none] ?_
  refine v_iconst (v := 0) (q := 1) dX0_allCoughs_0 (kk := ?_)
  refine v_istore1 (q := 2) dX0_allCoughs_1 (kk := ?_)
  refine v_iconst (v := 0) (q := 3) dX0_allCoughs_2 (kk := ?_)
  refine v_istore2 (q := 4) dX0_allCoughs_3 (kk := ?_)
  exact allCoughs_loop hk hd hw hQ np 0 (by omega)
theorem greatestItch_loop (hk : HSk S R a) (hd : HD S I R b a N np nb nt) (hw : WF N np nb nt sec) (hQ : Q (some (.int (maxI N np))) S I R z) (k : Nat) : ∀ i, i + k = np → V g mX0_greatestItch 1 0 0 S I R z 4 [some (.ref a), some (.int (maxI N i)), some (.int (nI i))] [] Q := by
  obtain ⟨s0, s1, s2, s3, s4, r0, r1, r2, r3, sp⟩ := hk
  have e : I a 4 = nI np := hd.1.1.trans hw.1.1
  have hnp := hw.1.2
  induction k with
  | zero =>
    intro i hi
    have e2 : i = np := by omega
    subst e2
    refine v_iload_n (q := 5) dX0_greatestItch_4 (kk := ?_)
    refine v_aload_n (q := 6) dX0_greatestItch_5 (kk := ?_)
    refine v_getI (q := 9) fX0_44 (by assumption) (hd := dX0_greatestItch_6) (kk := ?_)
    rw [e]
    refine v_icmp_geT 32 dX0_greatestItch_9 (nI_le (Nat.le_refl _) (by omega)) (kt := ?_)
    refine v_iload_n (q := 33) dX0_greatestItch_32 (kk := ?_)
    refine v_iret dX0_greatestItch_33 (hQ := ?_)
    exact hQ
  | succ k ih =>
    intro i hi
    have hsp := (sp i (by omega)).1
    have hrp := (sp i (by omega)).2
    refine v_iload_n (q := 5) dX0_greatestItch_4 (kk := ?_)
    refine v_aload_n (q := 6) dX0_greatestItch_5 (kk := ?_)
    refine v_getI (q := 9) fX0_44 (by assumption) (hd := dX0_greatestItch_6) (kk := ?_)
    rw [e]
    refine v_icmp_geF (q := 12) (t := 32) dX0_greatestItch_9 (nI_ge (by omega) (by omega)) (kf := ?_)
    refine v_iload_n (q := 13) dX0_greatestItch_12 (kk := ?_)
    refine v_aload_n (q := 14) dX0_greatestItch_13 (kk := ?_)
    refine v_getR (q := 17) fX0_11 (by assumption) (by assumption) (hd := dX0_greatestItch_14) (kk := ?_)
    refine v_iload_n (q := 18) dX0_greatestItch_17 (kk := ?_)
    refine v_aaldn (q := 19) (by assumption) (by assumption) (by omega) (by omega) (hd := dX0_greatestItch_18) (kk := ?_)
    refine v_getI (q := 22) fX0_100 (by assumption) (hd := dX0_greatestItch_19) (kk := ?_)
    rw [hd.2.2.1 i (by omega) 3 (by omega)]
    refine v_cS2 (N := mJ9_max_7cf53) (q := 25) lX0_103 sJ9_max_7cf53 kJ9_max_7cf53 dX0_greatestItch_22 (s_max ?_)
    refine v_istore1 (q := 26) dX0_greatestItch_25 (kk := ?_)
    refine v_iinc2 (q := 29) dX0_greatestItch_26 (hv := nI_1 i) (kk := ?_)
    refine v_goto 4 dX0_greatestItch_29 (kt := ?_)
    exact ih (i + 1) (by omega)
theorem s_greatestItch (hk : HSk S R a) (hd : HD S I R b a N np nb nt) (hw : WF N np nb nt sec) (hQ : Q (some (.int (maxI N np))) S I R z) : Cl g mX0_greatestItch 1 0 0 S I R z [.ref a] Q := by
  refine Cl.go [some (.ref a), none, none] ?_
  refine v_iconst (v := 0) (q := 1) dX0_greatestItch_0 (kk := ?_)
  refine v_istore1 (q := 2) dX0_greatestItch_1 (kk := ?_)
  refine v_iconst (v := 0) (q := 3) dX0_greatestItch_2 (kk := ?_)
  refine v_istore2 (q := 4) dX0_greatestItch_3 (kk := ?_)
  exact greatestItch_loop hk hd hw hQ np 0 (by omega)
theorem s_lawAt {v : Int32} (hk : HSk S R a) (hd : HD S I R b a N np nb nt) (hw : N 8 = nI nt ∧ nt ≤ 14) (h1 : ∀ t x, t < nt → v = nI t → R (a + 3) t = some x → TxAt S I R b x N t → Q (some (.ref x)) S I R z) (h0 : ¬ (0 ≤ v ∧ v < nI nt) → Q (some .null) S I R z) : Cl g mX0_lawAt 1 0 0 S I R z [.ref a, .int v] Q := by
  obtain ⟨s0, s1, s2, s3, s4, r0, r1, r2, r3, sp⟩ := hk
  have e : I a 6 = nI nt := hd.1.2.2.1.trans hw.1
  have hnt := hw.2
  refine Cl.go [some (.ref a), some (.int v)] ?_
  refine v_iload_n (q := 1) dX0_lawAt_0 (kk := ?_)
  refine v_aload_n (q := 2) dX0_lawAt_1 (kk := ?_)
  refine v_getI (q := 5) fX0_51 (by assumption) (hd := dX0_lawAt_2) (kk := ?_)
  rw [e]
  refine v_cN2 (N := mX6_within) (q := 8) nX0_63 sX6_within kX6_within dX0_lawAt_5 (s_within ?_)
  refine v_if_eqB 20 (q := 11) dX0_lawAt_8 (kt := fun c => ?_) (kf := fun c => ?_)
  · refine v_null (q := 21) dX0_lawAt_20 (kk := ?_)
    refine v_aret dX0_lawAt_21 (Or.inl rfl) (Or.inl ⟨_, rfl⟩) (hQ := ?_)
    exact h0 c
  · obtain ⟨t, ht, et⟩ := nI_of (x := v) (Int32.not_lt.mpr c.1)
    have ht2 : t < nt := by
      have := c.2
      rw [et] at this
      exact (nI_ltI ht (by omega)).mp this
    obtain ⟨x, hx, htx⟩ := hd.2.2.2.2 t ht2
    refine v_aload_n (q := 12) dX0_lawAt_11 (kk := ?_)
    refine v_getR (q := 15) fX0_23 (by assumption) (by assumption) (hd := dX0_lawAt_12) (kk := ?_)
    refine v_iload_n (q := 16) dX0_lawAt_15 (kk := ?_)
    refine v_aaldE (q := 17) (t) et (by assumption) (by assumption) (by omega) (by omega) (hd := dX0_lawAt_16) (kk := ?_)
    refine v_goto 21 dX0_lawAt_17 (kt := ?_)
    refine v_aret dX0_lawAt_21 (Or.inr ⟨_, rfl⟩) (Or.inl ⟨_, rfl⟩) (hQ := ?_)
    exact h1 t x ht2 et hx htx
end H1
