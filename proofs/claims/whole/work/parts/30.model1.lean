section M0
variable {g : hcG} {M : hcM} {d kc ks : Nat} {S : hcS} {I I' : hcI} {R : hcR} {z pc : Nat} {L : List (Option Value)} {st : List Value} {Q : hcQ}
/-- what a picture says beyond an array's end doesn't matter -/
theorem v_ext (hI : ∀ a, I' a = I a ∨ ∃ n, S a = some (10, n) ∧ ∀ j, j < n → I' a j = I a j) (kk : V g M d kc ks S I' R z pc L st Q) : V g M d kc ks S I R z pc L st Q := by
  intro p l e s m args below meth c H locs cells slots ls Rm mc ms D K C
  obtain ⟨hx, hb, hml, hr, hlk, hown, hnm, hts, hG, hbs, hw, hz, hS, hL, hR⟩ := C
  refine kk _ _ _ _ _ _ _ _ _ _ _ _ _ _ _ _ _ _ _ ⟨hx, hb, hml, hr, hlk, hown, hnm, hts, hG, hbs, fun a t n ha => ?_, hz, hS, hL, hR⟩
  obtain ⟨h1, h2⟩ := hw a t n ha
  refine ⟨h1, ?_⟩
  rcases hI a with e | ⟨n', hn, hj⟩
  · rw [e]
    exact h2
  · rw [ha] at hn
    simp only [Option.some.injEq, Prod.mk.injEq] at hn
    obtain ⟨rfl, rfl⟩ := hn
    refine Or.inr (Or.inl ⟨by decide, by decide, ?_⟩)
    rw [h2.ia (by decide) (by decide)]
    congr 1
    unfold arrV
    congr 1
    refine Array.ext (by simp) (fun i hi1 hi2 => ?_)
    simp only [Array.getElem_ofFn]
    rw [hj i (by simpa using hi2)]
end M0
theorem lt_le_pred {v : Int32} {n : Nat} (hn : n < 2 ^ 31) : (0 ≤ v ∧ v ≤ nI n - 1) ↔ (0 ≤ v ∧ v < nI n) := by
  rcases Nat.eq_zero_or_pos n with q | q
  · subst q
    constructor
    · rintro ⟨h1, h2⟩
      exact absurd (Int32.le_trans h1 h2) (by decide)
    · rintro ⟨h1, h2⟩
      exact absurd (Int32.lt_of_le_of_lt h1 h2) (by decide)
  · have e : nI n - 1 = nI (n - 1) := pk_sub (b := 1) q
    rw [e]
    constructor
    · rintro ⟨h1, h2⟩
      exact ⟨h1, Int32.lt_of_le_of_lt h2 ((nI_ltI (by omega) hn).mpr (by omega))⟩
    · rintro ⟨h1, h2⟩
      refine ⟨h1, ?_⟩
      obtain ⟨j, hj, ej⟩ := nI_of (x := v) (Int32.not_lt.mpr h1)
      rw [ej] at h2 ⊢
      have := (nI_ltI hj hn).mp h2
      exact (nI_leI hj (by omega)).mpr (by omega)
theorem hc_b_congr {p q : Prop} [Decidable p] [Decidable q] (h : p ↔ q) : hc_b p = hc_b q := by
  unfold hc_b
  by_cases hq : q
  · rw [if_pos hq, if_pos (h.mpr hq)]
  · rw [if_neg hq, if_neg (fun x => hq (h.mp x))]
theorem ix33 (p w : Nat) : (33 : Int32) + 6 * nI p + nI w = nI (33 + 6 * p + w) := by
  rw [show (6 : Int32) = nI 6 from rfl, pk_mul, show (33 : Int32) = nI 33 from rfl, nI_add, nI_add]
section M1
variable {g : hcG} {S : hcS} {I : hcI} {R : hcR} {z : Nat} {Q : hcQ} {m np nb nt sec : Nat} {N : hN}
theorem s_in {v lo hi : Int32} (hQ : Q (some (.int (hc_b (lo ≤ v ∧ v ≤ hi)))) S I R z) : Cl g mX7_in 0 0 0 S I R z [.int v, .int lo, .int hi] Q := by
  refine Cl.go [some (.int v), some (.int lo), some (.int hi)] ?_
  refine v_iload_n (q := 1) dX7_in_0 (kk := ?_)
  refine v_iload_n (q := 2) dX7_in_1 (kk := ?_)
  refine v_icmp_lt 14 (q := 5) dX7_in_2 (kt := fun c => ?_) (kf := fun c => ?_)
  · refine v_iconst (v := 0) (q := 15) dX7_in_14 (kk := ?_)
    refine v_zret dX7_in_15 rfl (hQ := ?_)
    rwa [hc_bf (fun h => Int32.not_le.mpr c h.1)] at hQ
  · refine v_iload_n (q := 6) dX7_in_5 (kk := ?_)
    refine v_iload_n (q := 7) dX7_in_6 (kk := ?_)
    refine v_icmp_gt 14 (q := 10) dX7_in_7 (kt := fun c2 => ?_) (kf := fun c2 => ?_)
    · refine v_iconst (v := 0) (q := 15) dX7_in_14 (kk := ?_)
      refine v_zret dX7_in_15 rfl (hQ := ?_)
      rwa [hc_bf (fun h => Int32.not_le.mpr c2 h.2)] at hQ
    · refine v_iconst (v := 1) (q := 11) dX7_in_10 (kk := ?_)
      refine v_goto 15 dX7_in_11 (kt := ?_)
      refine v_zret dX7_in_15 rfl (hQ := ?_)
      rwa [hc_bt ⟨Int32.not_lt.mp c, Int32.not_lt.mp c2⟩] at hQ
theorem s_mwithin {v lo hi : Int32} (hQ : Q (some (.int (hc_wi v lo hi))) S I R z) : Cl g mX7_within 0 0 0 S I R z [.int v, .int lo, .int hi] Q := by
  refine Cl.go [some (.int v), some (.int lo), some (.int hi)] ?_
  unfold hc_wi at hQ
  refine v_iload_n (q := 1) dX7_within_0 (kk := ?_)
  refine v_iload_n (q := 2) dX7_within_1 (kk := ?_)
  refine v_icmp_ge 9 (q := 5) dX7_within_2 (kt := fun c => ?_) (kf := fun c => ?_)
  · rw [if_neg (Int32.not_lt.mpr c)] at hQ
    refine v_iload_n (q := 10) dX7_within_9 (kk := ?_)
    refine v_iload_n (q := 11) dX7_within_10 (kk := ?_)
    refine v_icmp_le 18 (q := 14) dX7_within_11 (kt := fun c2 => ?_) (kf := fun c2 => ?_)
    · rw [if_neg (Int32.not_lt.mpr c2)] at hQ
      refine v_iload_n (q := 19) dX7_within_18 (kk := ?_)
      refine v_iret dX7_within_19 (hQ := ?_)
      exact hQ
    · rw [if_pos (Int32.not_le.mp c2)] at hQ
      refine v_iload_n (q := 15) dX7_within_14 (kk := ?_)
      refine v_goto 19 dX7_within_15 (kt := ?_)
      refine v_iret dX7_within_19 (hQ := ?_)
      exact hQ
  · rw [if_pos (Int32.not_le.mp c)] at hQ
    refine v_iload_n (q := 6) dX7_within_5 (kk := ?_)
    refine v_goto 19 dX7_within_6 (kt := ?_)
    refine v_iret dX7_within_19 (hQ := ?_)
    exact hQ
theorem s_told0 {v : Int32} (hQ : Q (some (.int (if 0 ≤ v then v else -1000000005))) S I R z) : Cl g mX7_told0 0 0 0 S I R z [.int v] Q := by
  refine Cl.go [some (.int v)] ?_
  refine v_iload_n (q := 1) dX7_told0_0 (kk := ?_)
  refine v_if_ge 9 (q := 4) dX7_told0_1 (kt := fun c => ?_) (kf := fun c => ?_)
  · rw [if_pos c] at hQ
    refine v_iload_n (q := 10) dX7_told0_9 (kk := ?_)
    refine v_iret dX7_told0_10 (hQ := ?_)
    exact hQ
  · rw [if_neg c] at hQ
    refine v_ldc (q := 6) cX7_75 dX7_told0_4 (kk := ?_)
    refine v_goto 10 dX7_told0_6 (kt := ?_)
    refine v_iret dX7_told0_10 (hQ := ?_)
    exact hQ
theorem s_isOne {v : Int32} (hm : MG S R m) (h1 : I (m + 1) 1 = nI np) (hnp : np ≤ 10) (hQ : Q (some (.int (hc_b (0 ≤ v ∧ v < nI np)))) S I R z) : Cl g mX7_isOne 1 0 0 S I R z [.ref m, .int v] Q := by
  have s0 := hm.s0
  have sn := hm.s_now
  have rn := hm.r_now
  refine Cl.go [some (.ref m), some (.int v)] ?_
  refine v_iload_n (q := 1) dX7_isOne_0 (kk := ?_)
  refine v_iconst (v := 0) (q := 2) dX7_isOne_1 (kk := ?_)
  refine v_aload_n (q := 3) dX7_isOne_2 (kk := ?_)
  refine v_getR (q := 6) fX7_9 (by assumption) (by assumption) (hd := dX7_isOne_3) (kk := ?_)
  refine v_iconst (v := 1) (q := 7) dX7_isOne_6 (kk := ?_)
  refine v_ialdE (q := 8) (1) (by rfl) (by assumption) (by omega) (by omega) (hd := dX7_isOne_7) (kk := ?_)
  rw [h1]
  refine v_iconst (v := 1) (q := 9) dX7_isOne_8 (kk := ?_)
  refine v_isub (q := 10) dX7_isOne_9 (kk := ?_)
  refine v_cS3 (N := mX7_in) (q := 13) lX7_76 sX7_in kX7_in dX7_isOne_10 (s_in ?_)
  refine v_zret dX7_isOne_13 hc_nz (hQ := ?_)
  rwa [hc_b_congr (lt_le_pred (n := np) (by omega))]
theorem s_isSeat {v : Int32} (hQ : Q (some (.int (hc_b (0 ≤ v ∧ v < 30)))) S I R z) : Cl g mX7_isSeat 1 0 0 S I R z [.int v] Q := by
  refine Cl.go [some (.int v)] ?_
  refine v_iload_n (q := 1) dX7_isSeat_0 (kk := ?_)
  refine v_iconst (v := 0) (q := 2) dX7_isSeat_1 (kk := ?_)
  refine v_bipush (v := 29) (q := 4) dX7_isSeat_2 (kk := ?_)
  refine v_cS3 (N := mX7_in) (q := 7) lX7_76 sX7_in kX7_in dX7_isSeat_4 (s_in ?_)
  refine v_zret dX7_isSeat_7 hc_nz (hQ := ?_)
  have := hc_b_congr (lt_le_pred (v := v) (n := 30) (by omega))
  rwa [show hc_b (0 ≤ v ∧ v ≤ 29) = hc_b (0 ≤ v ∧ v < 30) from this]
theorem s_of {p w : Nat} (hm : MG S R m) (hp : 33 + 6 * p + w < 1465) (hQ : Q (some (.int (I (m + 1) (33 + 6 * p + w)))) S I R z) : Cl g mX7_of 0 0 0 S I R z [.ref m, .int (nI p), .int (nI w)] Q := by
  have s0 := hm.s0
  have sn := hm.s_now
  have rn := hm.r_now
  refine Cl.go [some (.ref m), some (.int (nI p)), some (.int (nI w))] ?_
  refine v_aload_n (q := 1) dX7_of_0 (kk := ?_)
  refine v_getR (q := 4) fX7_9 (by assumption) (by assumption) (hd := dX7_of_1) (kk := ?_)
  refine v_bipush (v := 33) (q := 6) dX7_of_4 (kk := ?_)
  refine v_bipush (v := 6) (q := 8) dX7_of_6 (kk := ?_)
  refine v_iload_n (q := 9) dX7_of_8 (kk := ?_)
  refine v_imul (q := 10) dX7_of_9 (kk := ?_)
  refine v_iadd (q := 11) dX7_of_10 (kk := ?_)
  refine v_iload_n (q := 12) dX7_of_11 (kk := ?_)
  refine v_iadd (q := 13) dX7_of_12 (kk := ?_)
  refine v_ialdE (q := 14) (33 + 6 * p + w) (ix33 p w) (by assumption) (by omega) (by omega) (hd := dX7_of_13) (kk := ?_)
  refine v_iret dX7_of_14 (hQ := ?_)
  exact hQ
theorem s_put {p w : Nat} {v : Int32} (hm : MG S R m) (hp : 33 + 6 * p + w < 1465) (hQ : Q none S (hc_u I (m + 1) (33 + 6 * p + w) v) R z) : Cl g mX7_put 0 0 0 S I R z [.ref m, .int (nI p), .int (nI w), .int v] Q := by
  have s0 := hm.s0
  have sn := hm.s_now
  have rn := hm.r_now
  refine Cl.go [some (.ref m), some (.int (nI p)), some (.int (nI w)), some (.int v)] ?_
  refine v_aload_n (q := 1) dX7_put_0 (kk := ?_)
  refine v_getR (q := 4) fX7_9 (by assumption) (by assumption) (hd := dX7_put_1) (kk := ?_)
  refine v_bipush (v := 33) (q := 6) dX7_put_4 (kk := ?_)
  refine v_bipush (v := 6) (q := 8) dX7_put_6 (kk := ?_)
  refine v_iload_n (q := 9) dX7_put_8 (kk := ?_)
  refine v_imul (q := 10) dX7_put_9 (kk := ?_)
  refine v_iadd (q := 11) dX7_put_10 (kk := ?_)
  refine v_iload_n (q := 12) dX7_put_11 (kk := ?_)
  refine v_iadd (q := 13) dX7_put_12 (kk := ?_)
  refine v_iload_n (q := 14) dX7_put_13 (kk := ?_)
  refine v_iastE (q := 15) (33 + 6 * p + w) (ix33 p w) (by assumption) (by omega) (by omega) (hd := dX7_put_14) (kk := ?_)
  refine v_vret dX7_put_15 (hQ := ?_)
  exact hQ
theorem s_mbecomes {k : Nat} {v x : Int32} (hm : MG S R m) (hx : x = nI k) (hk : k < 1465) (hQ : Q (some (.int (I (m + 1) k))) S (hc_u I (m + 1) k v) R z) : Cl g mX7_becomes 0 0 0 S I R z [.ref m, .int x, .int v] Q := by
  have s0 := hm.s0
  have sn := hm.s_now
  have rn := hm.r_now
  refine Cl.go [some (.ref m), some (.int x), some (.int v), none] ?_
  refine v_aload_n (q := 1) dX7_becomes_0 (kk := ?_)
  refine v_getR (q := 4) fX7_9 (by assumption) (by assumption) (hd := dX7_becomes_1) (kk := ?_)
  refine v_iload_n (q := 5) dX7_becomes_4 (kk := ?_)
  refine v_ialdE (q := 6) (k) hx (by assumption) (by omega) (by omega) (hd := dX7_becomes_5) (kk := ?_)
  refine v_istore3 (q := 7) dX7_becomes_6 (kk := ?_)
  refine v_aload_n (q := 8) dX7_becomes_7 (kk := ?_)
  refine v_getR (q := 11) fX7_9 (by assumption) (by assumption) (hd := dX7_becomes_8) (kk := ?_)
  refine v_iload_n (q := 12) dX7_becomes_11 (kk := ?_)
  refine v_iload_n (q := 13) dX7_becomes_12 (kk := ?_)
  refine v_iastE (q := 14) (k) hx (by assumption) (by omega) (by omega) (hd := dX7_becomes_13) (kk := ?_)
  refine v_iload_n (q := 15) dX7_becomes_14 (kk := ?_)
  refine v_iret dX7_becomes_15 (hQ := ?_)
  exact hQ
theorem whoOn_loop {seat : Int32} (hm : MG S R m) (h1 : I (m + 1) 1 = nI np) (hnp : np ≤ 10) (k : Nat) : ∀ i, i + k = np → Q (some (.int (hc_o (fst0 (fun p => decide (I (m + 1) (33 + 6 * p + 1) = seat)) i k)))) S I R z → V g mX7_whoOn 1 0 0 S I R z 2 [some (.ref m), some (.int seat), some (.int (nI i))] [] Q := by
  have s0 := hm.s0
  have sn := hm.s_now
  have rn := hm.r_now
  induction k with
  | zero =>
    intro i hi hQ
    have e2 : i = np := by omega
    subst e2
    refine v_iload_n (q := 3) dX7_whoOn_2 (kk := ?_)
    refine v_aload_n (q := 4) dX7_whoOn_3 (kk := ?_)
    refine v_getR (q := 7) fX7_9 (by assumption) (by assumption) (hd := dX7_whoOn_4) (kk := ?_)
    refine v_iconst (v := 1) (q := 8) dX7_whoOn_7 (kk := ?_)
    refine v_ialdE (q := 9) (1) (by rfl) (by assumption) (by omega) (by omega) (hd := dX7_whoOn_8) (kk := ?_)
    rw [h1]
    refine v_icmp_geT 30 dX7_whoOn_9 (nI_le (Nat.le_refl _) (by omega)) (kt := ?_)
    refine v_iconst (v := (-1)) (q := 31) dX7_whoOn_30 (kk := ?_)
    refine v_iret dX7_whoOn_31 (hQ := ?_)
    exact hQ
  | succ k ih =>
    intro i hi hQ
    simp only [fst0] at hQ
    refine v_iload_n (q := 3) dX7_whoOn_2 (kk := ?_)
    refine v_aload_n (q := 4) dX7_whoOn_3 (kk := ?_)
    refine v_getR (q := 7) fX7_9 (by assumption) (by assumption) (hd := dX7_whoOn_4) (kk := ?_)
    refine v_iconst (v := 1) (q := 8) dX7_whoOn_7 (kk := ?_)
    refine v_ialdE (q := 9) (1) (by rfl) (by assumption) (by omega) (by omega) (hd := dX7_whoOn_8) (kk := ?_)
    rw [h1]
    refine v_icmp_geF (q := 12) (t := 30) dX7_whoOn_9 (nI_ge (by omega) (by omega)) (kf := ?_)
    refine v_aload_n (q := 13) dX7_whoOn_12 (kk := ?_)
    refine v_iload_n (q := 14) dX7_whoOn_13 (kk := ?_)
    refine v_iconst (v := 1) (q := 15) dX7_whoOn_14 (kk := ?_)
    refine v_cV2 (N := mX7_of) (q := 18) lX7_80 iX7_of kX7_of (by assumption) dX7_whoOn_15 (s_of (w := 1) hm (by omega) ?_)
    refine v_iload_n (q := 19) dX7_whoOn_18 (kk := ?_)
    refine v_icmp_ne 24 (q := 22) dX7_whoOn_19 (kt := fun c => ?_) (kf := fun c => ?_)
    · rw [if_neg (by simpa using c)] at hQ
      refine v_iinc2 (q := 27) dX7_whoOn_24 (hv := nI_1 i) (kk := ?_)
      refine v_goto 2 dX7_whoOn_27 (kt := ?_)
      exact ih (i + 1) (by omega) hQ
    · rw [if_pos (by simpa using c)] at hQ
      refine v_iload_n (q := 23) dX7_whoOn_22 (kk := ?_)
      refine v_iret dX7_whoOn_23 (hQ := ?_)
      exact hQ
theorem s_whoOn {seat : Int32} (hm : MG S R m) (h1 : I (m + 1) 1 = nI np) (hnp : np ≤ 10) (hQ : Q (some (.int (hc_o (whoF (I (m + 1)) np seat)))) S I R z) : Cl g mX7_whoOn 1 0 0 S I R z [.ref m, .int seat] Q := by
  refine Cl.go [some (.ref m), some (.int seat), none] ?_
  refine v_iconst (v := 0) (q := 1) dX7_whoOn_0 (kk := ?_)
  refine v_istore2 (q := 2) dX7_whoOn_1 (kk := ?_)
  exact whoOn_loop hm h1 hnp np 0 (by omega) hQ
theorem s_mcomes {k s w : Int32} (hm : MG S R m) (hN : I (m + 1) = N) (h1 : N 1 = nI np) (hnp : np < 10) (hQ : ∀ I' : hcI, (∀ y, y ≠ m + 1 → I' y = I y) → I' (m + 1) = comeF N np k s w → Q (some (.int (nI np))) S I' R z) : Cl g mX7_comes 1 0 0 S I R z [.ref m, .int k, .int s, .int w] Q := by
  have s0 := hm.s0
  have sn := hm.s_now
  have rn := hm.r_now
  refine Cl.go [some (.ref m), some (.int k), some (.int s), some (.int w), none] ?_
  refine v_aload_n (q := 1) dX7_comes_0 (kk := ?_)
  refine v_getR (q := 4) fX7_9 (by assumption) (by assumption) (hd := dX7_comes_1) (kk := ?_)
  refine v_iconst (v := 1) (q := 5) dX7_comes_4 (kk := ?_)
  refine v_ialdE (q := 6) (1) (by rfl) (by assumption) (by omega) (by omega) (hd := dX7_comes_5) (kk := ?_)
  rw [hN, h1]
  refine v_istore4 (q := 8) dX7_comes_6 (kk := ?_)
  refine v_aload_n (q := 9) dX7_comes_8 (kk := ?_)
  refine v_iload (q := 11) dX7_comes_9 (kk := ?_)
  refine v_iconst (v := 0) (q := 12) dX7_comes_11 (kk := ?_)
  refine v_iload_n (q := 13) dX7_comes_12 (kk := ?_)
  refine v_cV3 (N := mX7_put) (q := 16) lX7_84 iX7_put kX7_put (by assumption) dX7_comes_13 (s_put (w := 0) hm (by omega) ?_)
  refine v_aload_n (q := 17) dX7_comes_16 (kk := ?_)
  refine v_iload (q := 19) dX7_comes_17 (kk := ?_)
  refine v_iconst (v := 1) (q := 20) dX7_comes_19 (kk := ?_)
  refine v_iload_n (q := 21) dX7_comes_20 (kk := ?_)
  refine v_cV3 (N := mX7_put) (q := 24) lX7_84 iX7_put kX7_put (by assumption) dX7_comes_21 (s_put (w := 1) hm (by omega) ?_)
  refine v_aload_n (q := 25) dX7_comes_24 (kk := ?_)
  refine v_iload (q := 27) dX7_comes_25 (kk := ?_)
  refine v_iconst (v := 2) (q := 28) dX7_comes_27 (kk := ?_)
  refine v_iload_n (q := 29) dX7_comes_28 (kk := ?_)
  refine v_cV3 (N := mX7_put) (q := 32) lX7_84 iX7_put kX7_put (by assumption) dX7_comes_29 (s_put (w := 2) hm (by omega) ?_)
  refine v_aload_n (q := 33) dX7_comes_32 (kk := ?_)
  refine v_iload (q := 35) dX7_comes_33 (kk := ?_)
  refine v_iconst (v := 3) (q := 36) dX7_comes_35 (kk := ?_)
  refine v_iconst (v := 0) (q := 37) dX7_comes_36 (kk := ?_)
  refine v_cV3 (N := mX7_put) (q := 40) lX7_84 iX7_put kX7_put (by assumption) dX7_comes_37 (s_put (w := 3) hm (by omega) ?_)
  refine v_aload_n (q := 41) dX7_comes_40 (kk := ?_)
  refine v_iload (q := 43) dX7_comes_41 (kk := ?_)
  refine v_iconst (v := 4) (q := 44) dX7_comes_43 (kk := ?_)
  refine v_iconst (v := 0) (q := 45) dX7_comes_44 (kk := ?_)
  refine v_cV3 (N := mX7_put) (q := 48) lX7_84 iX7_put kX7_put (by assumption) dX7_comes_45 (s_put (w := 4) hm (by omega) ?_)
  refine v_aload_n (q := 49) dX7_comes_48 (kk := ?_)
  refine v_iload (q := 51) dX7_comes_49 (kk := ?_)
  refine v_iconst (v := 5) (q := 52) dX7_comes_51 (kk := ?_)
  refine v_iconst (v := 0) (q := 53) dX7_comes_52 (kk := ?_)
  refine v_cV3 (N := mX7_put) (q := 56) lX7_84 iX7_put kX7_put (by assumption) dX7_comes_53 (s_put (w := 5) hm (by omega) ?_)
  refine v_aload_n (q := 57) dX7_comes_56 (kk := ?_)
  refine v_getR (q := 60) fX7_9 (by assumption) (by assumption) (hd := dX7_comes_57) (kk := ?_)
  refine v_iconst (v := 1) (q := 61) dX7_comes_60 (kk := ?_)
  refine v_dup2 (q := 62) dX7_comes_61 (kk := ?_)
  refine v_ialdE (q := 63) (1) (by rfl) (by assumption) (by omega) (by omega) (hd := dX7_comes_62) (kk := ?_)
  have e1 : hc_u (hc_u (hc_u (hc_u (hc_u (hc_u I (m + 1) (33 + 6 * np + 0) k) (m + 1) (33 + 6 * np + 1) s) (m + 1) (33 + 6 * np + 2) w) (m + 1) (33 + 6 * np + 3) 0) (m + 1) (33 + 6 * np + 4) 0) (m + 1) (33 + 6 * np + 5) 0 (m + 1) 1 = nI np := by
    simp only [hc_u_at]
    rw [upd_ne (by omega), upd_ne (by omega), upd_ne (by omega), upd_ne (by omega), upd_ne (by omega), upd_ne (by omega), hN, h1]
  rw [e1]
  refine v_iconst (v := 1) (q := 64) dX7_comes_63 (kk := ?_)
  refine v_iadd (q := 65) dX7_comes_64 (kk := ?_)
  rw [nI_1]
  refine v_iastE (q := 66) (1) (by rfl) (by assumption) (by omega) (by omega) (hd := dX7_comes_65) (kk := ?_)
  refine v_iload (q := 68) dX7_comes_66 (kk := ?_)
  refine v_iret dX7_comes_68 (hQ := ?_)
  refine hQ _ (fun y hy => ?_) ?_
  · simp only [hc_u_ne hy]
  · simp only [hc_u_at, hN]
    funext i
    by_cases i1 : i = 1
    · subst i1
      rw [upd_at, comeF_1]
    · rw [upd_ne i1]
      by_cases h : ∀ j, j < 6 → i ≠ 33 + 6 * np + j
      · rw [comeF_ne h i1, upd_ne (h 5 (by omega)), upd_ne (h 4 (by omega)), upd_ne (h 3 (by omega)), upd_ne (h 2 (by omega)), upd_ne (h 1 (by omega)), upd_ne (h 0 (by omega))]
      · have : ∃ j, j < 6 ∧ i = 33 + 6 * np + j := by
          refine Classical.byContradiction (fun hn => h (fun j hj e => hn ⟨j, hj, e⟩))
        obtain ⟨j, hj, rfl⟩ := this
        obtain ⟨c0, c1, c2, c3, c4, c5⟩ := comeF_p (N := N) (np := np) (k := k) (s := s) (w := w)
        rcases hc_lt6 hj with rfl | rfl | rfl | rfl | rfl | rfl
        · rw [upd_ne (by omega), upd_ne (by omega), upd_ne (by omega), upd_ne (by omega), upd_ne (by omega), upd_at]
          exact c0.symm
        · rw [upd_ne (by omega), upd_ne (by omega), upd_ne (by omega), upd_ne (by omega), upd_at, c1]
        · rw [upd_ne (by omega), upd_ne (by omega), upd_ne (by omega), upd_at, c2]
        · rw [upd_ne (by omega), upd_ne (by omega), upd_at, c3]
        · rw [upd_ne (by omega), upd_at, c4]
        · rw [upd_at, c5]
theorem s_loudOn {t : Nat} (hm : MG S R m) (hN : I (m + 1) = N) (hw : WF N np nb nt sec) (ht : t ≤ 1000) (hQ : Q (some (.int (N (9 + (sec + t) % nb)))) S I R z) : Cl g mX7_loudOn 0 0 0 S I R z [.ref m, .int (nI t)] Q := by
  have s0 := hm.s0
  have sn := hm.s_now
  have rn := hm.r_now
  have e2 := hw.2.1.1
  have e3 := hw.2.2.2.1.1
  have hb1 := hw.2.1.2.1
  have hb2 := hw.2.1.2.2
  have hs := hw.2.2.2.1.2
  have hlt := Nat.mod_lt (sec + t) (show nb > 0 by omega)
  refine Cl.go [some (.ref m), some (.int (nI t))] ?_
  refine v_aload_n (q := 1) dX7_loudOn_0 (kk := ?_)
  refine v_getR (q := 4) fX7_9 (by assumption) (by assumption) (hd := dX7_loudOn_1) (kk := ?_)
  refine v_bipush (v := 9) (q := 6) dX7_loudOn_4 (kk := ?_)
  refine v_aload_n (q := 7) dX7_loudOn_6 (kk := ?_)
  refine v_getR (q := 10) fX7_9 (by assumption) (by assumption) (hd := dX7_loudOn_7) (kk := ?_)
  refine v_iconst (v := 3) (q := 11) dX7_loudOn_10 (kk := ?_)
  refine v_ialdE (q := 12) (3) (by rfl) (by assumption) (by omega) (by omega) (hd := dX7_loudOn_11) (kk := ?_)
  rw [hN, e3]
  refine v_iload_n (q := 13) dX7_loudOn_12 (kk := ?_)
  refine v_iadd (q := 14) dX7_loudOn_13 (kk := ?_)
  rw [nI_add]
  refine v_aload_n (q := 15) dX7_loudOn_14 (kk := ?_)
  refine v_getR (q := 18) fX7_9 (by assumption) (by assumption) (hd := dX7_loudOn_15) (kk := ?_)
  refine v_iconst (v := 2) (q := 19) dX7_loudOn_18 (kk := ?_)
  refine v_ialdE (q := 20) (2) (by rfl) (by assumption) (by omega) (by omega) (hd := dX7_loudOn_19) (kk := ?_)
  rw [hN, e2]
  refine v_iremN (q := 21) (a := sec + t) (n := nb) (by omega) (by omega) (by omega) dX7_loudOn_20 (kk := ?_)
  refine v_iadd (q := 22) dX7_loudOn_21 (kk := ?_)
  refine v_ialdE (q := 23) (9 + (sec + t) % nb) (by rw [show (9 : Int32) = nI 9 from rfl, nI_add]) (by assumption) (by omega) (by omega) (hd := dX7_loudOn_22) (kk := ?_)
  rw [hN]
  refine v_iret dX7_loudOn_23 (hQ := ?_)
  exact hQ
theorem s_loudOn0 (hm : MG S R m) (hN : I (m + 1) = N) (h2 : N 2 = nI nb ∧ 1 ≤ nb ∧ nb ≤ 24) (h3 : N 3 = nI sec ∧ sec ≤ 110000) (hQ : Q (some (.int (N (9 + sec % nb)))) S I R z) : Cl g mX7_loudOn 0 0 0 S I R z [.ref m, .int 0] Q := by
  have s0 := hm.s0
  have sn := hm.s_now
  have rn := hm.r_now
  have hb1 := h2.2.1
  have hb2 := h2.2.2
  have hs := h3.2
  have hlt := Nat.mod_lt sec (show nb > 0 by omega)
  refine Cl.go [some (.ref m), some (.int 0)] ?_
  refine v_aload_n (q := 1) dX7_loudOn_0 (kk := ?_)
  refine v_getR (q := 4) fX7_9 (by assumption) (by assumption) (hd := dX7_loudOn_1) (kk := ?_)
  refine v_bipush (v := 9) (q := 6) dX7_loudOn_4 (kk := ?_)
  refine v_aload_n (q := 7) dX7_loudOn_6 (kk := ?_)
  refine v_getR (q := 10) fX7_9 (by assumption) (by assumption) (hd := dX7_loudOn_7) (kk := ?_)
  refine v_iconst (v := 3) (q := 11) dX7_loudOn_10 (kk := ?_)
  refine v_ialdE (q := 12) (3) (by rfl) (by assumption) (by omega) (by omega) (hd := dX7_loudOn_11) (kk := ?_)
  rw [hN, h3.1]
  refine v_iload_n (q := 13) dX7_loudOn_12 (kk := ?_)
  refine v_iadd (q := 14) dX7_loudOn_13 (kk := ?_)
  rw [show nI sec + 0 = nI sec from Int32.add_zero _]
  refine v_aload_n (q := 15) dX7_loudOn_14 (kk := ?_)
  refine v_getR (q := 18) fX7_9 (by assumption) (by assumption) (hd := dX7_loudOn_15) (kk := ?_)
  refine v_iconst (v := 2) (q := 19) dX7_loudOn_18 (kk := ?_)
  refine v_ialdE (q := 20) (2) (by rfl) (by assumption) (by omega) (by omega) (hd := dX7_loudOn_19) (kk := ?_)
  rw [hN, h2.1]
  refine v_iremN (q := 21) (a := sec) (n := nb) (by omega) (by omega) (by omega) dX7_loudOn_20 (kk := ?_)
  refine v_iadd (q := 22) dX7_loudOn_21 (kk := ?_)
  refine v_ialdE (q := 23) (9 + sec % nb) (by rw [show (9 : Int32) = nI 9 from rfl, nI_add]) (by assumption) (by omega) (by omega) (hd := dX7_loudOn_22) (kk := ?_)
  rw [hN]
  refine v_iret dX7_loudOn_23 (hQ := ?_)
  exact hQ
theorem counts_loop {key : Nat} (hm : MG S R m) (hN : I (m + 1) = N) (hw : ∀ t, t < nt → ∃ key cn lv, TW N t key cn lv) (hnt : nt ≤ 14) : ∀ i, i ≤ nt → Q (some (.int (hc_o (cntF N key i)))) S I R z → V g mX7_counts 0 0 0 S I R z 10 [some (.ref m), some (.int (nI key)), some (.int (nI i - 1))] [] Q := by
  have s0 := hm.s0
  have sn := hm.s_now
  have rn := hm.r_now
  intro i
  induction i with
  | zero =>
    intro hi hQ
    refine v_iload_n (q := 11) dX7_counts_10 (kk := ?_)
    refine v_if_ltT 41 dX7_counts_11 (by decide) (kt := ?_)
    refine v_iconst (v := (-1)) (q := 42) dX7_counts_41 (kk := ?_)
    refine v_iret dX7_counts_42 (hQ := ?_)
    exact hQ
  | succ i ih =>
    intro hi hQ
    rw [nI_pred]
    simp only [cntF] at hQ
    have en : (93 : Int32) + 2 * nI i = nI (93 + 2 * i) := by
      rw [show (2 : Int32) = nI 2 from rfl, pk_mul, show (93 : Int32) = nI 93 from rfl, nI_add]
    refine v_iload_n (q := 11) dX7_counts_10 (kk := ?_)
    refine v_if_ltF (q := 14) (t := 41) dX7_counts_11 (nI_pos (by omega)) (kf := ?_)
    refine v_aload_n (q := 15) dX7_counts_14 (kk := ?_)
    refine v_getR (q := 18) fX7_9 (by assumption) (by assumption) (hd := dX7_counts_15) (kk := ?_)
    refine v_bipush (v := 93) (q := 20) dX7_counts_18 (kk := ?_)
    refine v_iconst (v := 2) (q := 21) dX7_counts_20 (kk := ?_)
    refine v_iload_n (q := 22) dX7_counts_21 (kk := ?_)
    refine v_imul (q := 23) dX7_counts_22 (kk := ?_)
    refine v_iadd (q := 24) dX7_counts_23 (kk := ?_)
    refine v_ialdE (q := 25) (93 + 2 * i) en (by assumption) (by omega) (by omega) (hd := dX7_counts_24) (kk := ?_)
    rw [hN]
    refine v_sipush (v := 1000) (q := 28) dX7_counts_25 (kk := ?_)
    refine v_idiv (q := 29) dX7_counts_28 (by decide) (kk := ?_)
    refine v_iload_n (q := 30) dX7_counts_29 (kk := ?_)
    refine v_icmp_ne 35 (q := 33) dX7_counts_30 (kt := fun c => ?_) (kf := fun c => ?_)
    · rw [if_neg c] at hQ
      refine v_iinc2 (q := 38) dX7_counts_35 (hv := (by rfl)) (kk := ?_)
      refine v_goto 10 dX7_counts_38 (kt := ?_)
      have e : nI i + Int32.ofInt (-1) = nI i - 1 := by
        have : Int32.ofInt (-1) = -1 := by decide
        rw [this]
        grind
      rw [e]
      exact ih (by omega) hQ
    · rw [if_pos c] at hQ
      refine v_iload_n (q := 34) dX7_counts_33 (kk := ?_)
      refine v_iret dX7_counts_34 (hQ := ?_)
      exact hQ
theorem s_counts {key : Nat} {x : Int32} (hx : x = nI key) (hm : MG S R m) (hN : I (m + 1) = N) (hw : ∀ t, t < nt → ∃ key cn lv, TW N t key cn lv) (h8 : N 8 = nI nt) (hnt : nt ≤ 14) (hQ : Q (some (.int (hc_o (cntF N key nt)))) S I R z) : Cl g mX7_counts 0 0 0 S I R z [.ref m, .int x] Q := by
  subst hx
  have s0 := hm.s0
  have sn := hm.s_now
  have rn := hm.r_now
  refine Cl.go [some (.ref m), some (.int (nI key)), none] ?_
  refine v_aload_n (q := 1) dX7_counts_0 (kk := ?_)
  refine v_getR (q := 4) fX7_9 (by assumption) (by assumption) (hd := dX7_counts_1) (kk := ?_)
  refine v_bipush (v := 8) (q := 6) dX7_counts_4 (kk := ?_)
  refine v_ialdE (q := 7) (8) (by rfl) (by assumption) (by omega) (by omega) (hd := dX7_counts_6) (kk := ?_)
  rw [hN, h8]
  refine v_iconst (v := 1) (q := 8) dX7_counts_7 (kk := ?_)
  refine v_isub (q := 9) dX7_counts_8 (kk := ?_)
  refine v_istore2 (q := 10) dX7_counts_9 (kk := ?_)
  exact counts_loop hm hN hw hnt nt (Nat.le_refl _) hQ
end M1
