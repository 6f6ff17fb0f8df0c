/-! what is only thought -/
def Fk (m : Nat) (I I' : hcI) : Prop := ∀ y, y ≠ m + 1 → y ≠ m + 4 → y ≠ m + 11 → y ≠ m + 12 → I' y = I y
theorem Fk.trans {m : Nat} {I I' I'' : hcI} (h : Fk m I I') (h' : Fk m I' I'') : Fk m I I'' := fun y a b c d => (h' y a b c d).trans (h y a b c d)
theorem Fm.k {m : Nat} {I I' : hcI} (h : Fm m I I') : Fk m I I' := fun y a _ c d => h y a c d
theorem Fk.rfl {m : Nat} {I : hcI} : Fk m I I := fun _ _ _ _ _ => Eq.refl _
def Fr (b : Nat) (R R' : hcR) : Prop := ∀ x, x ≠ b + 34 → R' x = R x
theorem Fr.trans {b : Nat} {R R' R'' : hcR} (h : Fr b R R') (h' : Fr b R' R'') : Fr b R R'' := fun x a => (h' x a).trans (h x a)
theorem Fr.rfl {b : Nat} {R : hcR} : Fr b R R := fun _ _ => Eq.refl _
theorem RowAt.keepR {S : hcS} {R R' : hcR} {a c : Nat} (h : RowAt S R a) (hR : ∀ x, x ≠ c → R' x = R x) (hc : a ≠ c) : RowAt S R' a := ⟨h.1, h.2.1, by rw [hR a hc]; exact h.2.2⟩
theorem XSk.keepR {S : hcS} {R R' : hcR} {b : Nat} (h : XSk S R b) (hR : Fr b R R') : XSk S R' b := by
  obtain ⟨h0, ⟨k1, k2, k3⟩, h2, h3, h4, h5⟩ := h
  have e : ∀ x, x ≠ b + 34 → R' x = R x := hR
  refine ⟨by rw [e b (by omega)]; exact h0, ⟨k1.keepR e (by omega) (by omega), k2.keepR e (by omega) (by omega), k3.keepR e (by omega) (by omega)⟩, by rw [e (b + 46) (by omega)]; exact h2, ?_, ?_, h5⟩
  · refine ⟨h3.1, fun k hk => ?_⟩
    rw [e (b + 49) (by omega)]
    exact ⟨(h3.2 k hk).1, (h3.2 k hk).2.keepR e (by omega)⟩
  · refine ⟨h4.1, fun k hk => ?_⟩
    rw [e (b + 50) (by omega), e (b + 61 + 4 * k) (by omega)]
    obtain ⟨q1, q2, q3, q4, q5, q6⟩ := h4.2 k hk
    exact ⟨q1, q2, q3, q4, q5, q6.keepR e (by omega)⟩
theorem XN.keepT {S : hcS} {I I' : hcI} {R R' : hcR} {b : Nat} {N : hN} (h : XN S I R b N) (hF : Fh b (b + 31) I I') (hR : Fr b R R') : XN S I' R' b N := by
  obtain ⟨np, nb, nt, sec, hw, hd⟩ := h
  exact ⟨np, nb, nt, sec, hw, (hd.keepR hR (by omega) (by omega)).keep hw.1.1.2 (fun y h1 h2 => hF y (by omega) (by unfold stk; omega)) (fun y h1 h2 => hF y (by omega) h2)⟩
theorem XN.keepF {S : hcS} {I I' : hcI} {R : hcR} {b : Nat} {N : hN} (h : XN S I R b N) (hF : Fh b (b + 31) I I') : XN S I' R b N := h.keepT hF Fr.rfl
theorem secF_hi {N : hN} {np nb nt sec i : Nat} (hp : np ≤ 10) (h1 : 93 ≤ i) : secF N np nb nt sec i = N i := by
  unfold secF
  rw [upd_ne (by omega), upd_ne (by omega), upd_ne (by omega), coughA_ne _ _ hp (by omega), growA_ne _ _ hp (by omega)]
theorem secsF_hi {N : hN} {np nb nt sec i : Nat} (hp : np ≤ 10) (h1 : 93 ≤ i) : ∀ n, secsF N np nb nt sec n i = N i
  | 0 => rfl
  | n + 1 => (secF_hi hp h1).trans (secsF_hi hp h1 n)
def behW (np nb nt sec : Nat) (N : hN) (n w : Nat) : Int32 := if w = 0 then sumC (secsF N np nb nt sec n) np else if w = 1 then secsF N np nb nt sec n 4 else maxI (secsF N np nb nt sec n) np
def spBehind (N : hN) (n w : Int32) : Int32 := if (0 ≤ n ∧ n ≤ 200) ∧ (0 ≤ w ∧ w ≤ 2) then behW (npN N) (nbN N) (ntN N) (scN N) N n.toNatClampNeg w.toNatClampNeg else -1000000001
def fsS (N : hN) (np nb nt sec k : Nat) : Nat := pop10 (secS (secsF N np nb nt sec k) np nb nt (sec + k))
def hc_f (o : Option Nat) : Int32 := match o with
  | none => -1000000005
  | some k => nI (k + 1)
def fsF (np nb nt sec : Nat) (N : hN) : Option Nat := fst0 (fun k => decide (0 < fsS N np nb nt sec k)) 0 200
def spFirst (N : hN) : Int32 := hc_f (fsF (npN N) (nbN N) (ntN N) (scN N) N)
theorem nI_ofT {v : Int32} {n : Nat} (hn : n < 2 ^ 31) (h : 0 ≤ v ∧ v ≤ nI n) : ∃ j, v = nI j ∧ j ≤ n := by
  obtain ⟨j, hj, e⟩ := nI_of (x := v) (Int32.not_lt.mpr h.1)
  refine ⟨j, e, ?_⟩
  have := h.2
  rw [e] at this
  exact (nI_leI hj hn).mp this
theorem secS_lt {N : hN} {np nb nt sec : Nat} (h : WF N np nb nt sec) : secS N np nb nt sec < 1024 := Nat.lt_of_lt_of_le (setA_lt np) (show 2 ^ np ≤ 2 ^ 10 from Nat.pow_le_pow_right (by omega) h.1.2)
section T1
variable {g : hcG} {S : hcS} {I : hcI} {R : hcR} {z : Nat} {Q : hcQ} {b m np nb nt sec : Nat} {N : hN}
theorem thinks_loop (hm : MG S R m) (hN : I (m + 1) = N) (hQ : ∀ I' : hcI, (∀ y, y ≠ m + 4 → I' y = I y) → (∀ k, k < 93 → I' (m + 4) k = N k) → Q none S I' R z) (k : Nat) : ∀ (i : Nat) (I' : hcI), i + k = 93 → (∀ y, y ≠ m + 4 → I' y = I y) → (∀ j, j < i → I' (m + 4) j = N j) → V g mX7_thinks 0 0 0 S I' R z 2 [some (.ref m), some (.int (nI i))] [] Q := by
  have s0 := hm.s0
  have sn := hm.s_now
  have rn := hm.r_now
  have sb := hm.s_before
  have rb := hm.r_before
  induction k with
  | zero =>
    intro i I' hi hF h1
    refine v_iload_n (q := 3) dX7_thinks_2 (kk := ?_)
    refine v_bipush (v := 93) (q := 5) dX7_thinks_3 (kk := ?_)
    refine v_icmp_geT 26 dX7_thinks_5 (nI_le (a := 93) (by omega) (by omega)) (kt := ?_)
    refine v_vret dX7_thinks_26 (hQ := ?_)
    exact hQ I' hF (fun j hj => h1 j (by omega))
  | succ k ih =>
    intro i I' hi hF h1
    refine v_iload_n (q := 3) dX7_thinks_2 (kk := ?_)
    refine v_bipush (v := 93) (q := 5) dX7_thinks_3 (kk := ?_)
    refine v_icmp_geF (q := 8) (t := 26) dX7_thinks_5 (fun h => by have := (nI_leI (a := 93) (by omega) (by omega)).mp h; omega) (kf := ?_)
    refine v_aload_n (q := 9) dX7_thinks_8 (kk := ?_)
    refine v_getR (q := 12) fX7_19 (by assumption) (by assumption) (hd := dX7_thinks_9) (kk := ?_)
    refine v_iload_n (q := 13) dX7_thinks_12 (kk := ?_)
    refine v_aload_n (q := 14) dX7_thinks_13 (kk := ?_)
    refine v_getR (q := 17) fX7_9 (by assumption) (by assumption) (hd := dX7_thinks_14) (kk := ?_)
    refine v_iload_n (q := 18) dX7_thinks_17 (kk := ?_)
    refine v_ialdE (q := 19) (i) (by rfl) (by assumption) (by omega) (by omega) (hd := dX7_thinks_18) (kk := ?_)
    rw [hF (m + 1) (by omega), hN]
    refine v_iastE (q := 20) (i) (by rfl) (by assumption) (by omega) (by omega) (hd := dX7_thinks_19) (kk := ?_)
    refine v_iinc1 (q := 23) dX7_thinks_20 (hv := nI_1 i) (kk := ?_)
    refine v_goto 2 dX7_thinks_23 (kt := ?_)
    refine ih (i + 1) _ (by omega) (fun y hy => (hc_u_ne hy).trans (hF y hy)) (fun j hj => ?_)
    rw [hc_u_at]
    by_cases e : j = i
    · rw [e, upd_at]
    · rw [upd_ne e]
      exact h1 j (by omega)
theorem s_thinks (hm : MG S R m) (hN : I (m + 1) = N) (hQ : ∀ I' : hcI, (∀ y, y ≠ m + 4 → I' y = I y) → (∀ k, k < 93 → I' (m + 4) k = N k) → Q none S I' R z) : Cl g mX7_thinks 0 0 0 S I R z [.ref m] Q := by
  refine Cl.go [some (.ref m), none] ?_
  refine v_iconst (v := 0) (q := 1) dX7_thinks_0 (kk := ?_)
  refine v_istore1 (q := 2) dX7_thinks_1 (kk := ?_)
  exact thinks_loop hm hN hQ 93 0 I (by omega) (fun _ _ => rfl) (fun _ _ => by omega)
theorem putsBack_loop (hm : MG S R m) (hB : ∀ k, k < 93 → I (m + 4) k = N k) (hQ : ∀ I' : hcI, (∀ y, y ≠ m + 1 → I' y = I y) → I' (m + 1) = N → Q none S I' R z) (k : Nat) : ∀ (i : Nat) (I' : hcI), i + k = 93 → (∀ y, y ≠ m + 1 → I' y = I y) → (∀ j, j < i ∨ 93 ≤ j → I' (m + 1) j = N j) → V g mX7_putsBack 0 0 0 S I' R z 2 [some (.ref m), some (.int (nI i))] [] Q := by
  have s0 := hm.s0
  have sn := hm.s_now
  have rn := hm.r_now
  have sb := hm.s_before
  have rb := hm.r_before
  induction k with
  | zero =>
    intro i I' hi hF h1
    refine v_iload_n (q := 3) dX7_putsBack_2 (kk := ?_)
    refine v_bipush (v := 93) (q := 5) dX7_putsBack_3 (kk := ?_)
    refine v_icmp_geT 26 dX7_putsBack_5 (nI_le (a := 93) (by omega) (by omega)) (kt := ?_)
    refine v_vret dX7_putsBack_26 (hQ := ?_)
    exact hQ I' hF (funext fun j => h1 j (by omega))
  | succ k ih =>
    intro i I' hi hF h1
    refine v_iload_n (q := 3) dX7_putsBack_2 (kk := ?_)
    refine v_bipush (v := 93) (q := 5) dX7_putsBack_3 (kk := ?_)
    refine v_icmp_geF (q := 8) (t := 26) dX7_putsBack_5 (fun h => by have := (nI_leI (a := 93) (by omega) (by omega)).mp h; omega) (kf := ?_)
    refine v_aload_n (q := 9) dX7_putsBack_8 (kk := ?_)
    refine v_getR (q := 12) fX7_9 (by assumption) (by assumption) (hd := dX7_putsBack_9) (kk := ?_)
    refine v_iload_n (q := 13) dX7_putsBack_12 (kk := ?_)
    refine v_aload_n (q := 14) dX7_putsBack_13 (kk := ?_)
    refine v_getR (q := 17) fX7_19 (by assumption) (by assumption) (hd := dX7_putsBack_14) (kk := ?_)
    refine v_iload_n (q := 18) dX7_putsBack_17 (kk := ?_)
    refine v_ialdE (q := 19) (i) (by rfl) (by assumption) (by omega) (by omega) (hd := dX7_putsBack_18) (kk := ?_)
    rw [hF (m + 4) (by omega), hB i (by omega)]
    refine v_iastE (q := 20) (i) (by rfl) (by assumption) (by omega) (by omega) (hd := dX7_putsBack_19) (kk := ?_)
    refine v_iinc1 (q := 23) dX7_putsBack_20 (hv := nI_1 i) (kk := ?_)
    refine v_goto 2 dX7_putsBack_23 (kt := ?_)
    refine ih (i + 1) _ (by omega) (fun y hy => (hc_u_ne hy).trans (hF y hy)) (fun j hj => ?_)
    rw [hc_u_at]
    by_cases e : j = i
    · rw [e, upd_at]
    · rw [upd_ne e]
      exact h1 j (by omega)
theorem s_putsBack (hm : MG S R m) (hB : ∀ k, k < 93 → I (m + 4) k = N k) (hN : ∀ i, 93 ≤ i → I (m + 1) i = N i) (hQ : ∀ I' : hcI, (∀ y, y ≠ m + 1 → I' y = I y) → I' (m + 1) = N → Q none S I' R z) : Cl g mX7_putsBack 0 0 0 S I R z [.ref m] Q := by
  refine Cl.go [some (.ref m), none] ?_
  refine v_iconst (v := 0) (q := 1) dX7_putsBack_0 (kk := ?_)
  refine v_istore1 (q := 2) dX7_putsBack_1 (kk := ?_)
  exact putsBack_loop hm hB hQ 93 0 I (by omega) (fun _ _ => rfl) (fun j hj => hN j (by omega))
theorem coughsAll_loop (hm : MG S R m) (hN : I (m + 1) = N) (h1 : N 1 = nI np) (hnp : np ≤ 10) (hQ : Q (some (.int (sumC N np))) S I R z) (k : Nat) : ∀ i, i + k = np → V g mX7_coughsAll 1 0 0 S I R z 4 [some (.ref m), some (.int (sumC N i)), some (.int (nI i))] [] Q := by
  have s0 := hm.s0
  have sn := hm.s_now
  have rn := hm.r_now
  induction k with
  | zero =>
    intro i hi
    obtain rfl : i = np := by omega
    refine v_iload_n (q := 5) dX7_coughsAll_4 (kk := ?_)
    refine v_aload_n (q := 6) dX7_coughsAll_5 (kk := ?_)
    refine v_getR (q := 9) fX7_9 (by assumption) (by assumption) (hd := dX7_coughsAll_6) (kk := ?_)
    refine v_iconst (v := 1) (q := 10) dX7_coughsAll_9 (kk := ?_)
    refine v_ialdE (q := 11) (1) (by rfl) (by assumption) (by omega) (by omega) (hd := dX7_coughsAll_10) (kk := ?_)
    rw [hN, h1]
    refine v_icmp_geT 29 dX7_coughsAll_11 (Int32.le_refl _) (kt := ?_)
    refine v_iload_n (q := 30) dX7_coughsAll_29 (kk := ?_)
    refine v_iret dX7_coughsAll_30 (hQ := ?_)
    exact hQ
  | succ k ih =>
    intro i hi
    refine v_iload_n (q := 5) dX7_coughsAll_4 (kk := ?_)
    refine v_aload_n (q := 6) dX7_coughsAll_5 (kk := ?_)
    refine v_getR (q := 9) fX7_9 (by assumption) (by assumption) (hd := dX7_coughsAll_6) (kk := ?_)
    refine v_iconst (v := 1) (q := 10) dX7_coughsAll_9 (kk := ?_)
    refine v_ialdE (q := 11) (1) (by rfl) (by assumption) (by omega) (by omega) (hd := dX7_coughsAll_10) (kk := ?_)
    rw [hN, h1]
    refine v_icmp_geF (q := 14) (t := 29) dX7_coughsAll_11 (fun h => by have := (nI_leI (by omega) (by omega)).mp h; omega) (kf := ?_)
    refine v_iload_n (q := 15) dX7_coughsAll_14 (kk := ?_)
    refine v_aload_n (q := 16) dX7_coughsAll_15 (kk := ?_)
    refine v_iload_n (q := 17) dX7_coughsAll_16 (kk := ?_)
    refine v_iconst (v := 5) (q := 18) dX7_coughsAll_17 (kk := ?_)
    refine v_cV2 (N := mX7_of) (q := 21) lX7_80 iX7_of kX7_of (by assumption) dX7_coughsAll_18 (s_of (w := 5) hm (by omega) ?_)
    rw [hN]
    refine v_iadd (q := 22) dX7_coughsAll_21 (kk := ?_)
    refine v_istore1 (q := 23) dX7_coughsAll_22 (kk := ?_)
    refine v_iinc2 (q := 26) dX7_coughsAll_23 (hv := nI_1 i) (kk := ?_)
    refine v_goto 4 dX7_coughsAll_26 (kt := ?_)
    exact ih (i + 1) (by omega)
theorem s_coughsAll (hm : MG S R m) (hN : I (m + 1) = N) (h1 : N 1 = nI np) (hnp : np ≤ 10) (hQ : Q (some (.int (sumC N np))) S I R z) : Cl g mX7_coughsAll 1 0 0 S I R z [.ref m] Q := by
  refine Cl.go [some (.ref m), none, none] ?_
  refine v_iconst (v := 0) (q := 1) dX7_coughsAll_0 (kk := ?_)
  refine v_istore1 (q := 2) dX7_coughsAll_1 (kk := ?_)
  refine v_iconst (v := 0) (q := 3) dX7_coughsAll_2 (kk := ?_)
  refine v_istore2 (q := 4) dX7_coughsAll_3 (kk := ?_)
  exact coughsAll_loop hm hN h1 hnp hQ np 0 (by omega)
theorem mostItch_loop (hm : MG S R m) (hN : I (m + 1) = N) (h1 : N 1 = nI np) (hnp : np ≤ 10) (hQ : Q (some (.int (maxI N np))) S I R z) (k : Nat) : ∀ i, i + k = np → V g mX7_mostItch 1 0 0 S I R z 4 [some (.ref m), some (.int (maxI N i)), some (.int (nI i))] [] Q := by
  have s0 := hm.s0
  have sn := hm.s_now
  have rn := hm.r_now
  induction k with
  | zero =>
    intro i hi
    obtain rfl : i = np := by omega
    refine v_iload_n (q := 5) dX7_mostItch_4 (kk := ?_)
    refine v_aload_n (q := 6) dX7_mostItch_5 (kk := ?_)
    refine v_getR (q := 9) fX7_9 (by assumption) (by assumption) (hd := dX7_mostItch_6) (kk := ?_)
    refine v_iconst (v := 1) (q := 10) dX7_mostItch_9 (kk := ?_)
    refine v_ialdE (q := 11) (1) (by rfl) (by assumption) (by omega) (by omega) (hd := dX7_mostItch_10) (kk := ?_)
    rw [hN, h1]
    refine v_icmp_geT 41 dX7_mostItch_11 (Int32.le_refl _) (kt := ?_)
    refine v_iload_n (q := 42) dX7_mostItch_41 (kk := ?_)
    refine v_iret dX7_mostItch_42 (hQ := ?_)
    exact hQ
  | succ k ih =>
    intro i hi
    refine v_iload_n (q := 5) dX7_mostItch_4 (kk := ?_)
    refine v_aload_n (q := 6) dX7_mostItch_5 (kk := ?_)
    refine v_getR (q := 9) fX7_9 (by assumption) (by assumption) (hd := dX7_mostItch_6) (kk := ?_)
    refine v_iconst (v := 1) (q := 10) dX7_mostItch_9 (kk := ?_)
    refine v_ialdE (q := 11) (1) (by rfl) (by assumption) (by omega) (by omega) (hd := dX7_mostItch_10) (kk := ?_)
    rw [hN, h1]
    refine v_icmp_geF (q := 14) (t := 41) dX7_mostItch_11 (fun h => by have := (nI_leI (by omega) (by omega)).mp h; omega) (kf := ?_)
    refine v_aload_n (q := 15) dX7_mostItch_14 (kk := ?_)
    refine v_iload_n (q := 16) dX7_mostItch_15 (kk := ?_)
    refine v_iconst (v := 3) (q := 17) dX7_mostItch_16 (kk := ?_)
    refine v_cV2 (N := mX7_of) (q := 20) lX7_80 iX7_of kX7_of (by assumption) dX7_mostItch_17 (s_of (w := 3) hm (by omega) ?_)
    rw [hN]
    have hm1 : maxI N (i + 1) = hc_max (maxI N i) (N (33 + 6 * i + 3)) := rfl
    refine v_iload_n (q := 21) dX7_mostItch_20 (kk := ?_)
    refine v_icmp_le 33 (q := 24) dX7_mostItch_21 (kt := fun c => ?_) (kf := fun c => ?_)
    · have e : maxI N (i + 1) = maxI N i := by
        rw [hm1]
        unfold hc_max
        rw [if_neg (Int32.not_lt.mpr c)]
      have := ih (i + 1) (by omega)
      rw [e] at this
      refine v_iload_n (q := 34) dX7_mostItch_33 (kk := ?_)
      refine v_istore1 (q := 35) dX7_mostItch_34 (kk := ?_)
      refine v_iinc2 (q := 38) dX7_mostItch_35 (hv := nI_1 i) (kk := ?_)
      refine v_goto 4 dX7_mostItch_38 (kt := ?_)
      exact this
    · have e : maxI N (i + 1) = N (33 + 6 * i + 3) := by
        rw [hm1]
        unfold hc_max
        rw [if_pos (Int32.not_le.mp c)]
      have := ih (i + 1) (by omega)
      rw [e] at this
      refine v_aload_n (q := 25) dX7_mostItch_24 (kk := ?_)
      refine v_iload_n (q := 26) dX7_mostItch_25 (kk := ?_)
      refine v_iconst (v := 3) (q := 27) dX7_mostItch_26 (kk := ?_)
      refine v_cV2 (N := mX7_of) (q := 30) lX7_80 iX7_of kX7_of (by assumption) dX7_mostItch_27 (s_of (w := 3) hm (by omega) ?_)
      rw [hN]
      refine v_goto 34 dX7_mostItch_30 (kt := ?_)
      refine v_istore1 (q := 35) dX7_mostItch_34 (kk := ?_)
      refine v_iinc2 (q := 38) dX7_mostItch_35 (hv := nI_1 i) (kk := ?_)
      refine v_goto 4 dX7_mostItch_38 (kt := ?_)
      exact this
theorem s_mostItch (hm : MG S R m) (hN : I (m + 1) = N) (h1 : N 1 = nI np) (hnp : np ≤ 10) (hQ : Q (some (.int (maxI N np))) S I R z) : Cl g mX7_mostItch 1 0 0 S I R z [.ref m] Q := by
  refine Cl.go [some (.ref m), none, none] ?_
  refine v_iconst (v := 0) (q := 1) dX7_mostItch_0 (kk := ?_)
  refine v_istore1 (q := 2) dX7_mostItch_1 (kk := ?_)
  refine v_iconst (v := 0) (q := 3) dX7_mostItch_2 (kk := ?_)
  refine v_istore2 (q := 4) dX7_mostItch_3 (kk := ?_)
  exact mostItch_loop hm hN h1 hnp hQ np 0 (by omega)
theorem s_behindAll {N1 : hN} {n w : Nat} (hw3 : w < 3) (hm : MG S R m) (hB : ∀ k, k < 93 → I (m + 4) k = N k) (hN1 : I (m + 1) = N1) (h93 : ∀ i, 93 ≤ i → N1 i = N i) (hw : WF N1 np nb nt sec) (hs : sec + n ≤ 110000) (hQ : ∀ I' : hcI, Fm m I I' → I' (m + 1) = N → Q (some (.int (behW np nb nt sec N1 n w))) S I' R z) : Cl g mX7_behindAll 5 0 0 S I R z [.ref m, .int (nI n), .int (nI w)] Q := by
  have s0 := hm.s0
  have sn := hm.s_now
  have rn := hm.r_now
  have hnp := hw.1.2
  refine Cl.go [some (.ref m), some (.int (nI n)), some (.int (nI w)), none, none] ?_
  refine v_aload_n (q := 1) dX7_behindAll_0 (kk := ?_)
  refine v_iload_n (q := 2) dX7_behindAll_1 (kk := ?_)
  refine v_cV1 (N := mX7_seconds) (q := 5) lX7_156 iX7_seconds kX7_seconds (by assumption) dX7_behindAll_2 (s_seconds hm hN1 hw hs (fun I1 hF1 hN2 => ?_))
  have hw2 := secsF_WF hw n hs
  have fin : ∀ (v : Int32) (x : Option Value), v = behW np nb nt sec N1 n w → V g mX7_behindAll 5 0 0 S I1 R z 35 [some (.ref m), some (.int (nI n)), some (.int (nI w)), x, none] [.int v] Q := by
    intro v x hv
    subst hv
    refine v_istore4 (q := 37) dX7_behindAll_35 (kk := ?_)
    refine v_aload_n (q := 38) dX7_behindAll_37 (kk := ?_)
    refine v_cV0 (N := mX7_putsBack) (q := 41) lX7_165 iX7_putsBack kX7_putsBack (by assumption) dX7_behindAll_38 (s_putsBack (N := N) hm (fun k hk => by rw [hF1 (m + 4) (by omega) (by omega) (by omega)]; exact hB k hk) (fun i hi => by rw [hN2, secsF_hi hnp hi]; exact h93 i hi) (fun I2 hF2 hN3 => ?_))
    refine v_iload (q := 43) dX7_behindAll_41 (kk := ?_)
    refine v_iret dX7_behindAll_43 (hQ := ?_)
    exact hQ I2 (fun y a1 a2 a3 => (hF2 y a1).trans (hF1 y a1 a2 a3)) hN3
  refine v_istore3 (q := 6) dX7_behindAll_5 (kk := ?_)
  refine v_iload_n (q := 7) dX7_behindAll_6 (kk := ?_)
  have : w = 0 ∨ w = 1 ∨ w = 2 := by omega
  rcases this with rfl | rfl | rfl
  · refine v_if_neF (q := 10) (t := 17) dX7_behindAll_7 (rfl) (kf := ?_)
    refine v_aload_n (q := 11) dX7_behindAll_10 (kk := ?_)
    refine v_cV0 (N := mX7_coughsAll) (q := 14) lX7_159 iX7_coughsAll kX7_coughsAll (by assumption) dX7_behindAll_11 (s_coughsAll hm hN2 hw2.1.1 hnp ?_)
    refine v_goto 35 dX7_behindAll_14 (kt := ?_)
    exact fin _ _ rfl
  · refine v_if_neT 17 dX7_behindAll_7 (by decide) (kt := ?_)
    refine v_iload_n (q := 18) dX7_behindAll_17 (kk := ?_)
    refine v_iconst (v := 1) (q := 19) dX7_behindAll_18 (kk := ?_)
    refine v_icmp_neF (q := 22) (t := 31) dX7_behindAll_19 (rfl) (kf := ?_)
    refine v_aload_n (q := 23) dX7_behindAll_22 (kk := ?_)
    refine v_getR (q := 26) fX7_9 (by assumption) (by assumption) (hd := dX7_behindAll_23) (kk := ?_)
    refine v_iconst (v := 4) (q := 27) dX7_behindAll_26 (kk := ?_)
    refine v_ialdE (q := 28) (4) (by rfl) (by assumption) (by omega) (by omega) (hd := dX7_behindAll_27) (kk := ?_)
    rw [hN2]
    refine v_goto 35 dX7_behindAll_28 (kt := ?_)
    exact fin _ _ rfl
  · refine v_if_neT 17 dX7_behindAll_7 (by decide) (kt := ?_)
    refine v_iload_n (q := 18) dX7_behindAll_17 (kk := ?_)
    refine v_iconst (v := 1) (q := 19) dX7_behindAll_18 (kk := ?_)
    refine v_icmp_neT 31 dX7_behindAll_19 (by decide) (kt := ?_)
    refine v_aload_n (q := 32) dX7_behindAll_31 (kk := ?_)
    refine v_cV0 (N := mX7_mostItch) (q := 35) lX7_162 iX7_mostItch kX7_mostItch (by assumption) dX7_behindAll_32 (s_mostItch hm hN2 hw2.1.1 hnp ?_)
    exact fin _ _ rfl
theorem m_behind {n w : Int32} (hm : MG S R m) (hN : I (m + 1) = N) (hn : MN N) (hQ : ∀ I' : hcI, Fk m I I' → I' (m + 1) = N → Q (some (.int (spBehind N n w))) S I' R z) : Cl g mX7_behind 6 0 0 S I R z [.ref m, .int n, .int w] Q := by
  have s0 := hm.s0
  obtain ⟨np, nb, nt, sec, hw⟩ := hn
  obtain ⟨e1, e2, e3, e4⟩ := hw.e
  refine Cl.go [some (.ref m), some (.int n), some (.int w)] ?_
  have bad : ¬ ((0 ≤ n ∧ n ≤ 200) ∧ (0 ≤ w ∧ w ≤ 2)) → V g mX7_behind 6 0 0 S I R z 20 [some (.ref m), some (.int n), some (.int w)] [] Q := by
    intro c
    have e : spBehind N n w = -1000000001 := by unfold spBehind; rw [if_neg c]
    rw [e] at hQ
    refine v_ldc (q := 22) cX7_92 dX7_behind_20 (kk := ?_)
    refine v_iret dX7_behind_22 (hQ := ?_)
    exact hQ I Fk.rfl hN
  refine v_iload_n (q := 1) dX7_behind_0 (kk := ?_)
  refine v_iconst (v := 0) (q := 2) dX7_behind_1 (kk := ?_)
  refine v_sipush (v := 200) (q := 5) dX7_behind_2 (kk := ?_)
  refine v_cS3 (N := mX7_in) (q := 8) lX7_76 sX7_in kX7_in dX7_behind_5 (s_in ?_)
  refine v_if_eqB 20 (q := 11) dX7_behind_8 (kt := fun c1 => ?_) (kf := fun c1 => ?_)
  · exact bad (fun h => c1 h.1)
  · refine v_iload_n (q := 12) dX7_behind_11 (kk := ?_)
    refine v_iconst (v := 0) (q := 13) dX7_behind_12 (kk := ?_)
    refine v_iconst (v := 2) (q := 14) dX7_behind_13 (kk := ?_)
    refine v_cS3 (N := mX7_in) (q := 17) lX7_76 sX7_in kX7_in dX7_behind_14 (s_in ?_)
    refine v_if_neB 23 (q := 20) dX7_behind_17 (kt := fun c2 => ?_) (kf := fun c2 => ?_)
    · obtain ⟨j, rfl, hj⟩ := nI_ofT (n := 200) (by omega) c1
      obtain ⟨k, rfl, hk⟩ := nI_ofT (n := 2) (by omega) c2
      have e : spBehind N (nI j) (nI k) = behW np nb nt sec N j k := by
        unfold spBehind
        rw [if_pos ⟨c1, c2⟩, nI_clamp (by omega), nI_clamp (by omega), e1, e2, e3, e4]
      rw [e] at hQ
      clear e
      refine v_aload_n (q := 24) dX7_behind_23 (kk := ?_)
      refine v_cV0 (N := mX7_thinks) (q := 27) lX7_168 iX7_thinks kX7_thinks (by assumption) dX7_behind_24 (s_thinks hm hN (fun I1 hF1 hB => ?_))
      refine v_aload_n (q := 28) dX7_behind_27 (kk := ?_)
      refine v_iload_n (q := 29) dX7_behind_28 (kk := ?_)
      refine v_iload_n (q := 30) dX7_behind_29 (kk := ?_)
      refine v_cV2 (N := mX7_behindAll) (q := 33) lX7_171 iX7_behindAll kX7_behindAll (by assumption) dX7_behind_30 (s_behindAll (by omega) hm hB ((hF1 _ (by omega)).trans hN) (fun _ _ => rfl) hw.1 (by have := hw.2.1; omega) (fun I2 hF2 hN2 => ?_))
      refine v_iret dX7_behind_33 (hQ := ?_)
      exact hQ I2 (fun y a1 a2 a3 a4 => (hF2 y a1 a3 a4).trans (hF1 y a2)) hN2
    · exact bad (fun h => c2 h.2)
theorem x_behind {n w : Int32} (hx : XSk S R b) (hn : XN S I R b N) (hQ : ∀ (I' : hcI) (R' : hcR), Fh b (b + 31) I I' → Fr b R R' → Q (some (.int (spBehind N n w))) S I' R' z) : Cl g mX6_behind 6 0 0 S I R z [.ref b, .int n, .int w] Q := by
  have hx' := hx
  obtain ⟨⟨s0, r0, -, r2, -⟩, ⟨hk1, -, hk3⟩, -⟩ := hx'
  obtain ⟨np, nb, nt, sec, hw, hd⟩ := id hn
  obtain ⟨e1, e2, e3, e4⟩ := hw.e
  have sh := hk1.1
  have sh3 := hk3.1
  refine Cl.go [some (.ref b), some (.int n), some (.int w)] ?_
  have bad : ¬ ((0 ≤ n ∧ n ≤ 200) ∧ (0 ≤ w ∧ w ≤ 2)) → V g mX6_behind 6 0 0 S I R z 20 [some (.ref b), some (.int n), some (.int w)] [] Q := by
    intro c
    have e : spBehind N n w = -1000000001 := by unfold spBehind; rw [if_neg c]
    rw [e] at hQ
    refine v_ldc (q := 22) cX6_55 dX6_behind_20 (kk := ?_)
    refine v_iret dX6_behind_22 (hQ := ?_)
    exact hQ I R Fh.rfl Fr.rfl
  refine v_iload_n (q := 1) dX6_behind_0 (kk := ?_)
  refine v_if_lt 20 (q := 4) dX6_behind_1 (kt := fun c1 => ?_) (kf := fun c1 => ?_)
  · exact bad (fun h => absurd h.1.1 (Int32.not_le.mpr c1))
  · refine v_iload_n (q := 5) dX6_behind_4 (kk := ?_)
    refine v_sipush (v := 200) (q := 8) dX6_behind_5 (kk := ?_)
    refine v_icmp_gt 20 (q := 11) dX6_behind_8 (kt := fun c2 => ?_) (kf := fun c2 => ?_)
    · exact bad (fun h => absurd h.1.2 (Int32.not_le.mpr c2))
    · refine v_iload_n (q := 12) dX6_behind_11 (kk := ?_)
      refine v_if_lt 20 (q := 15) dX6_behind_12 (kt := fun c3 => ?_) (kf := fun c3 => ?_)
      · exact bad (fun h => absurd h.2.1 (Int32.not_le.mpr c3))
      · refine v_iload_n (q := 16) dX6_behind_15 (kk := ?_)
        refine v_iconst (v := 2) (q := 17) dX6_behind_16 (kk := ?_)
        refine v_icmp_le 23 (q := 20) dX6_behind_17 (kt := fun c4 => ?_) (kf := fun c4 => ?_)
        · have d1 : 0 ≤ n ∧ n ≤ 200 := ⟨Int32.not_lt.mp c1, Int32.not_lt.mp c2⟩
          have d2 : 0 ≤ w ∧ w ≤ 2 := ⟨Int32.not_lt.mp c3, c4⟩
          obtain ⟨j, rfl, hj⟩ := nI_ofT (n := 200) (by omega) d1
          obtain ⟨k, rfl, hk⟩ := nI_ofT (n := 2) (by omega) d2
          have e : spBehind N (nI j) (nI k) = behW np nb nt sec N j k := by
            unfold spBehind
            rw [if_pos ⟨d1, d2⟩, nI_clamp (by omega), nI_clamp (by omega), e1, e2, e3, e4]
          rw [e] at hQ
          clear e
          refine v_aload_n (q := 24) dX6_behind_23 (kk := ?_)
          refine v_getR (q := 27) fX6_19 (by assumption) (by assumption) (hd := dX6_behind_24) (kk := ?_)
          refine v_aload_n (q := 28) dX6_behind_27 (kk := ?_)
          refine v_getR (q := 31) fX6_12 (by assumption) (by assumption) (hd := dX6_behind_28) (kk := ?_)
          refine v_cV1 (N := mX0_becomes) (q := 34) lX6_159 iX0_becomes kX0_becomes (by assumption) dX6_behind_31 (s_Hall_becomes hk3 hk1 hd hw.1 (by omega) (by omega) (by omega) (fun I1 R1 hF1 hR1 hd1 => ?_))
          have hx1 : XSk S R1 b := hx.keepR hR1
          obtain ⟨⟨-, r0', -, r2', -⟩, ⟨-, -, hk3'⟩, -⟩ := hx1
          refine v_aload_n (q := 35) dX6_behind_34 (kk := ?_)
          refine v_getR (q := 38) fX6_19 (by assumption) (by assumption) (hd := dX6_behind_35) (kk := ?_)
          refine v_iload_n (q := 39) dX6_behind_38 (kk := ?_)
          refine v_cV1 (N := mX0_passSeconds) (q := 42) lX6_153 iX0_passSeconds kX0_passSeconds (by assumption) dX6_behind_39 (s_passSeconds hk3' hd1 (by omega) hw.1 (by have := hw.2.1; omega) (fun I2 hF2 hd2 => ?_))
          have hF : Fh b (b + 31) I I2 := Fh.trans hF1.h hF2
          have hw2 := secsF_WF hw.1 j (by have := hw.2.1; omega)
          refine v_pop (q := 43) dX6_behind_42 (kk := ?_)
          refine v_iload_n (q := 44) dX6_behind_43 (kk := ?_)
          have : k = 0 ∨ k = 1 ∨ k = 2 := by omega
          rcases this with rfl | rfl | rfl
          · refine v_ls 72 dX6_behind_44 (by rfl) (kt := ?_)
            refine v_aload_n (q := 73) dX6_behind_72 (kk := ?_)
            refine v_getR (q := 76) fX6_19 (by assumption) (by assumption) (hd := dX6_behind_73) (kk := ?_)
            refine v_cV0 (N := mX0_allCoughs) (q := 79) lX6_163 iX0_allCoughs kX0_allCoughs (by assumption) dX6_behind_76 (s_allCoughs hk3' hd2 hw2 ?_)
            refine v_iret dX6_behind_79 (hQ := ?_)
            exact hQ I2 R1 hF hR1
          · refine v_ls 80 dX6_behind_44 (by rfl) (kt := ?_)
            refine v_aload_n (q := 81) dX6_behind_80 (kk := ?_)
            refine v_getR (q := 84) fX6_19 (by assumption) (by assumption) (hd := dX6_behind_81) (kk := ?_)
            refine v_getI (q := 87) fX6_166 (by assumption) (hd := dX6_behind_84) (kk := ?_)
            rw [hd2.1.2.2.2.2.2.2.1]
            refine v_iret dX6_behind_87 (hQ := ?_)
            exact hQ I2 R1 hF hR1
          · refine v_ls 88 dX6_behind_44 (by rfl) (kt := ?_)
            refine v_aload_n (q := 89) dX6_behind_88 (kk := ?_)
            refine v_getR (q := 92) fX6_19 (by assumption) (by assumption) (hd := dX6_behind_89) (kk := ?_)
            refine v_cV0 (N := mX0_greatestItch) (q := 95) lX6_169 iX0_greatestItch kX0_greatestItch (by assumption) dX6_behind_92 (s_greatestItch hk3' hd2 hw2 ?_)
            refine v_iret dX6_behind_95 (hQ := ?_)
            exact hQ I2 R1 hF hR1
        · exact bad (fun h => c4 h.2.2)
theorem first_loop {R1 : hcR} (hk3 : HSk S R1 (b + 31)) (s0 : S b = some (6, 0)) (r2 : R1 b 2 = some (b + 31)) (hw : WF N np nb nt sec) (hs : sec ≤ 99999) (k : Nat) : ∀ (i : Nat) (I1 : hcI), i + k = 200 → Fh b (b + 31) I I1 → HD S I1 R1 b (b + 31) (secsF N np nb nt sec i) np nb nt → (∀ I' : hcI, Fh b (b + 31) I I' → Q (some (.int (hc_f (fst0 (fun k => decide (0 < fsS N np nb nt sec k)) i k)))) S I' R1 z) → V g mX6_first 5 0 0 S I1 R1 z 13 [some (.ref b), some (.int (nI (i + 1)))] [] Q := by
  have sh3 := hk3.1
  induction k with
  | zero =>
    intro i I1 hi hF hd hQ
    refine v_iload_n (q := 14) dX6_first_13 (kk := ?_)
    refine v_sipush (v := 200) (q := 17) dX6_first_14 (kk := ?_)
    refine v_icmp_gtT 38 dX6_first_17 (nI_lt (a := 200) (by omega) (by omega)) (kt := ?_)
    refine v_ldc (q := 40) cX6_125 dX6_first_38 (kk := ?_)
    refine v_iret dX6_first_40 (hQ := ?_)
    exact hQ I1 hF
  | succ k ih =>
    intro i I1 hi hF hd hQ
    simp only [fst0] at hQ
    refine v_iload_n (q := 14) dX6_first_13 (kk := ?_)
    refine v_sipush (v := 200) (q := 17) dX6_first_14 (kk := ?_)
    refine v_icmp_gtF (q := 20) (t := 38) dX6_first_17 (fun h => by have := (nI_ltI (a := 200) (by omega) (by omega)).mp h; omega) (kf := ?_)
    refine v_aload_n (q := 21) dX6_first_20 (kk := ?_)
    refine v_getR (q := 24) fX6_19 (by assumption) (by assumption) (hd := dX6_first_21) (kk := ?_)
    have hwi := secsF_WF hw i (by omega)
    have hp10 := (pop_le (secS (secsF N np nb nt sec i) np nb nt (sec + i)) (secS_lt hwi)).1
    refine v_cV0 (N := mX0_passSecond) (q := 27) lX6_172 iX0_passSecond kX0_passSecond (by assumption) dX6_first_24 (s_passSecond hk3 hd (by omega) hwi (by omega) (fun I2 hF2 hd2 => ?_))
    by_cases c : 0 < fsS N np nb nt sec i
    · rw [if_pos (by simpa using c)] at hQ
      refine v_if_leF (q := 30) (t := 32) dX6_first_27 (fun h => by have := (nI_leI (b := 0) (by omega) (by omega)).mp h; unfold fsS at c; omega) (kf := ?_)
      refine v_iload_n (q := 31) dX6_first_30 (kk := ?_)
      refine v_iret dX6_first_31 (hQ := ?_)
      exact hQ I2 (hF.trans hF2)
    · rw [if_neg (by simpa using c)] at hQ
      refine v_if_leT 32 dX6_first_27 (nI_le (b := 0) (by unfold fsS at c; omega) (by omega)) (kt := ?_)
      refine v_iinc1 (q := 35) dX6_first_32 (hv := nI_1 (i + 1)) (kk := ?_)
      refine v_goto 13 dX6_first_35 (kt := ?_)
      exact ih (i + 1) I2 (by omega) (hF.trans hF2) hd2 hQ
theorem x_first (hx : XSk S R b) (hn : XN S I R b N) (hQ : ∀ (I' : hcI) (R' : hcR), Fh b (b + 31) I I' → Fr b R R' → Q (some (.int (spFirst N))) S I' R' z) : Cl g mX6_first 5 0 0 S I R z [.ref b] Q := by
  have hx' := hx
  obtain ⟨⟨s0, r0, -, r2, -⟩, ⟨hk1, -, hk3⟩, -⟩ := hx'
  obtain ⟨np, nb, nt, sec, hw, hd⟩ := id hn
  obtain ⟨e1, e2, e3, e4⟩ := hw.e
  have sh := hk1.1
  have sh3 := hk3.1
  unfold spFirst fsF at hQ
  rw [e1, e2, e3, e4] at hQ
  refine Cl.go [some (.ref b), none] ?_
  refine v_aload_n (q := 1) dX6_first_0 (kk := ?_)
  refine v_getR (q := 4) fX6_19 (by assumption) (by assumption) (hd := dX6_first_1) (kk := ?_)
  refine v_aload_n (q := 5) dX6_first_4 (kk := ?_)
  refine v_getR (q := 8) fX6_12 (by assumption) (by assumption) (hd := dX6_first_5) (kk := ?_)
  refine v_cV1 (N := mX0_becomes) (q := 11) lX6_159 iX0_becomes kX0_becomes (by assumption) dX6_first_8 (s_Hall_becomes hk3 hk1 hd hw.1 (by omega) (by omega) (by omega) (fun I1 R1 hF1 hR1 hd1 => ?_))
  have hx1 : XSk S R1 b := hx.keepR hR1
  obtain ⟨⟨-, r0', -, r2', -⟩, ⟨-, -, hk3'⟩, -⟩ := hx1
  refine v_iconst (v := 1) (q := 12) dX6_first_11 (kk := ?_)
  refine v_istore1 (q := 13) dX6_first_12 (kk := ?_)
  exact first_loop hk3' s0 r2' hw.1 hw.2.1 200 0 I1 (by omega) hF1.h hd1 (fun I' hF' => hQ I' R1 hF' hR1)
theorem mfirst_loop (hm : MG S R m) (hB : ∀ k, k < 93 → I (m + 4) k = N k) (hw : WF N np nb nt sec) (hs : sec ≤ 99999) (k : Nat) : ∀ (i : Nat) (I1 : hcI), i + k = 200 → Fm m I I1 → I1 (m + 1) = secsF N np nb nt sec i → (∀ I' : hcI, Fm m I I' → I' (m + 1) = N → Q (some (.int (hc_f (fst0 (fun k => decide (0 < fsS N np nb nt sec k)) i k)))) S I' R z) → V g mX7_first 4 0 0 S I1 R z 6 [some (.ref m), some (.int (nI (i + 1)))] [] Q := by
  have s0 := hm.s0
  have hnp := hw.1.2
  have fin : ∀ (i n : Nat) (I1 : hcI) (v : Int32), Fm m I I1 → I1 (m + 1) = secsF N np nb nt sec n → i ≤ 201 → v = (if i ≤ 200 then nI i else -1000000005) → (∀ I' : hcI, Fm m I I' → I' (m + 1) = N → Q (some (.int v)) S I' R z) → V g mX7_first 4 0 0 S I1 R z 26 [some (.ref m), some (.int (nI i))] [] Q := by
    intro i n I1 v hF hN1 hi hv hQ
    subst hv
    refine v_aload_n (q := 27) dX7_first_26 (kk := ?_)
    refine v_cV0 (N := mX7_putsBack) (q := 30) lX7_165 iX7_putsBack kX7_putsBack (by assumption) dX7_first_27 (s_putsBack (N := N) hm (fun k hk => by rw [hF (m + 4) (by omega) (by omega) (by omega)]; exact hB k hk) (fun i hi => by rw [hN1, secsF_hi hnp hi]) (fun I2 hF2 hN3 => ?_))
    have hF3 : Fm m I I2 := fun y a1 a2 a3 => (hF2 y a1).trans (hF y a1 a2 a3)
    refine v_iload_n (q := 31) dX7_first_30 (kk := ?_)
    refine v_sipush (v := 200) (q := 34) dX7_first_31 (kk := ?_)
    by_cases c : i ≤ 200
    · rw [if_pos c] at hQ
      refine v_icmp_gtF (q := 37) (t := 41) dX7_first_34 (fun h => by have := (nI_ltI (a := 200) (by omega) (by omega)).mp h; omega) (kf := ?_)
      refine v_iload_n (q := 38) dX7_first_37 (kk := ?_)
      refine v_goto 43 dX7_first_38 (kt := ?_)
      refine v_iret dX7_first_43 (hQ := ?_)
      exact hQ I2 hF3 hN3
    · rw [if_neg c] at hQ
      refine v_icmp_gtT 41 dX7_first_34 (nI_lt (a := 200) (by omega) (by omega)) (kt := ?_)
      refine v_ldc (q := 43) cX7_75 dX7_first_41 (kk := ?_)
      refine v_iret dX7_first_43 (hQ := ?_)
      exact hQ I2 hF3 hN3
  induction k with
  | zero =>
    intro i I1 hi hF hN1 hQ
    refine v_iload_n (q := 7) dX7_first_6 (kk := ?_)
    refine v_sipush (v := 200) (q := 10) dX7_first_7 (kk := ?_)
    refine v_icmp_gtT 26 dX7_first_10 (nI_lt (a := 200) (by omega) (by omega)) (kt := ?_)
    exact fin (i + 1) i I1 _ hF hN1 (by omega) (by rw [if_neg (by omega)]; rfl) hQ
  | succ k ih =>
    intro i I1 hi hF hN1 hQ
    simp only [fst0] at hQ
    refine v_iload_n (q := 7) dX7_first_6 (kk := ?_)
    refine v_sipush (v := 200) (q := 10) dX7_first_7 (kk := ?_)
    refine v_icmp_gtF (q := 13) (t := 26) dX7_first_10 (fun h => by have := (nI_ltI (a := 200) (by omega) (by omega)).mp h; omega) (kf := ?_)
    refine v_aload_n (q := 14) dX7_first_13 (kk := ?_)
    have hwi := secsF_WF hw i (by omega)
    have hp10 := (pop_le (secS (secsF N np nb nt sec i) np nb nt (sec + i)) (secS_lt hwi)).1
    refine v_cV0 (N := mX7_second) (q := 17) lX7_152 iX7_second kX7_second (by assumption) dX7_first_14 (s_second hm hN1 hwi (by omega) (fun I2 hF2 hN2 => ?_))
    by_cases c : 0 < fsS N np nb nt sec i
    · rw [if_pos (by simpa using c)] at hQ
      refine v_if_neT 26 dX7_first_17 (fun h => by have := (nI_eq (b := 0) (by omega) (by omega)).mp h; unfold fsS at c; omega) (kt := ?_)
      exact fin (i + 1) (i + 1) I2 _ (hF.trans hF2) hN2 (by omega) (by rw [if_pos (by omega)]; rfl) hQ
    · rw [if_neg (by simpa using c)] at hQ
      refine v_if_neF (q := 20) (t := 26) dX7_first_17 (by unfold fsS at c; rw [show pop10 (secS (secsF N np nb nt sec i) np nb nt (sec + i)) = 0 by omega]; rfl) (kf := ?_)
      refine v_iinc1 (q := 23) dX7_first_20 (hv := nI_1 (i + 1)) (kk := ?_)
      refine v_goto 6 dX7_first_23 (kt := ?_)
      exact ih (i + 1) I2 (by omega) (hF.trans hF2) hN2 hQ
theorem m_first (hm : MG S R m) (hN : I (m + 1) = N) (hn : MN N) (hQ : ∀ I' : hcI, Fk m I I' → I' (m + 1) = N → Q (some (.int (spFirst N))) S I' R z) : Cl g mX7_first 4 0 0 S I R z [.ref m] Q := by
  have s0 := hm.s0
  obtain ⟨np, nb, nt, sec, hw⟩ := hn
  obtain ⟨e1, e2, e3, e4⟩ := hw.e
  unfold spFirst fsF at hQ
  rw [e1, e2, e3, e4] at hQ
  refine Cl.go [some (.ref m), none] ?_
  refine v_aload_n (q := 1) dX7_first_0 (kk := ?_)
  refine v_cV0 (N := mX7_thinks) (q := 4) lX7_168 iX7_thinks kX7_thinks (by assumption) dX7_first_1 (s_thinks hm hN (fun I1 hF1 hB => ?_))
  refine v_iconst (v := 1) (q := 5) dX7_first_4 (kk := ?_)
  refine v_istore1 (q := 6) dX7_first_5 (kk := ?_)
  exact mfirst_loop hm hB hw.1 hw.2.1 200 0 I1 (by omega) Fm.rfl ((hF1 _ (by omega)).trans hN) (fun I' hF' hN' => hQ I' (fun y a1 a2 a3 a4 => (hF' y a1 a3 a4).trans (hF1 y a2)) hN')
end T1
