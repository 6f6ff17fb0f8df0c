/-- outside the Hall at a, and but for the Texts' stacks, nothing is otherwise -/
def Fh (b a : Nat) (I I' : hcI) : Prop := ∀ y, (y < a ∨ a + 15 ≤ y) → ¬ stk b y → I' y = I y
theorem Fh.rfl {b a : Nat} {I : hcI} : Fh b a I I := fun _ _ _ => Eq.refl _
theorem Fh.trans {b a : Nat} {I I' I'' : hcI} (h : Fh b a I I') (h' : Fh b a I' I'') : Fh b a I I'' := fun y h1 h2 => (h' y h1 h2).trans (h y h1 h2)
theorem Fh.stk {b a : Nat} {I I' : hcI} (h : ∀ y, ¬ stk b y → I' y = I y) : Fh b a I I' := fun y _ h2 => h y h2
theorem Fh.u {b a x k : Nat} {I : hcI} {v : Int32} (h1 : a ≤ x) (h2 : x < a + 15) : Fh b a I (hc_u I x k v) := fun y hy _ => hc_u_ne (by omega)
theorem TxAt.toN {S : hcS} {I : hcI} {R : hcR} {b x : Nat} {N N' : hN} {t : Nat} (h : TxAt S I R b x N t) (hT : ∀ i, 93 ≤ i → N' i = N i) : TxAt S I R b x N' t := by
  obtain ⟨q, key, cn, lv, a1, a2, a3, a4, a5, a6, a7, a8, a9⟩ := h
  exact ⟨q, key, cn, lv, TW_congr hT a1, a2, a3, a4, a5, a6, a7, a8, fun k hk => by rw [cdN_congr hT]; exact a9 k hk⟩
section H4a
variable {S : hcS} {I I' : hcI} {R : hcR} {b a np nb nt : Nat} {N N' : hN}
theorem HD.person {p : Nat} (h : HD S I R b a N np nb nt) (hab : a + 15 ≤ b + 103) (hp : p < np) (hnp : np ≤ 10) (hnb : nb ≤ 24) (hI : ∀ y, y ≠ a + 5 + p → ¬ stk b y → I' y = I y) (hN : ∀ i, (∀ j, j < 6 → i ≠ 33 + 6 * p + j) → N' i = N i) (hP : ∀ j, j < 6 → I' (a + 5 + p) j = N' (33 + 6 * p + j)) : HD S I' R b a N' np nb nt := by
  have ns : ∀ y, y < a + 15 → ¬ stk b y := fun y hy q => by have := q.1; omega
  have hT : ∀ i, 93 ≤ i → N' i = N i := fun i hi => hN i (fun j hj => by omega)
  have hL : ∀ i, i < 33 → N' i = N i := fun i hi => hN i (fun j hj => by omega)
  obtain ⟨h3, h4, h5, h6, h7⟩ := h
  refine ⟨?_, fun k hk => ?_, fun q hq j hj => ?_, fun k hk => ?_, fun t ht => ?_⟩
  · rw [hI a (by omega) (ns _ (by omega)), hL 1 (by omega), hL 2 (by omega), hL 8 (by omega), hL 6 (by omega), hL 7 (by omega), hL 3 (by omega), hL 4 (by omega), hL 5 (by omega), hL 0 (by omega)]
    exact h3
  · rw [hI (a + 2) (by omega) (ns _ (by omega)), hL (9 + k) (by omega)]
    exact h4 k hk
  · by_cases e : q = p
    · subst e
      exact hP j hj
    · rw [hI (a + 5 + q) (by omega) (ns _ (by omega)), hN _ (fun j' hj' => by omega)]
      exact h5 q hq j hj
  · rw [hI (a + 4) (by omega) (ns _ (by omega)), cntF_congr hT]
    exact h6 k hk
  · obtain ⟨x, hx, ht2⟩ := h7 t ht
    exact ⟨x, hx, (ht2.keep (fun y hy hy2 => hI y (by omega) hy2)).toN hT⟩
theorem HD.fld {k n : Nat} {v : Int32} (h : HD S I R b a N np nb nt) (hab : a + 15 ≤ b + 103) (hnb : nb ≤ 24) (hkn : (k = 9 ∧ n = 3) ∨ (k = 10 ∧ n = 4) ∨ (k = 11 ∧ n = 5) ∨ (k = 12 ∧ n = 0) ∨ (k = 7 ∧ n = 6) ∨ (k = 8 ∧ n = 7)) : HD S (hc_u I a k v) R b a (upd N n v) np nb nt := by
  have hn9 : n < 9 := by omega
  have hT : ∀ i, 93 ≤ i → upd N n v i = N i := fun i hi => upd_ne (by omega)
  obtain ⟨h3, h4, h5, h6, h7⟩ := h
  refine ⟨?_, fun j hj => ?_, fun q hq j hj => ?_, fun j hj => ?_, fun t ht => ?_⟩
  · obtain ⟨a1, a2, a3, a4, a5, a6, a7, a8, a9⟩ := h3
    rcases hkn with ⟨rfl, rfl⟩ | ⟨rfl, rfl⟩ | ⟨rfl, rfl⟩ | ⟨rfl, rfl⟩ | ⟨rfl, rfl⟩ | ⟨rfl, rfl⟩ <;> simp [hc_u, upd, a1, a2, a3, a4, a5, a6, a7, a8, a9]
  · rw [hc_u_ne (by omega), upd_ne (by omega)]
    exact h4 j hj
  · rw [hc_u_ne (by omega), upd_ne (by omega)]
    exact h5 q hq j hj
  · rw [hc_u_ne (by omega), cntF_congr hT]
    exact h6 j hj
  · obtain ⟨x, hx, ht2⟩ := h7 t ht
    exact ⟨x, hx, (ht2.keep (fun y hy hy2 => hc_u_ne (by omega))).toN hT⟩
theorem HD.toN (h : HD S I R b a N np nb nt) (he : ∀ i, N' i = N i) : HD S I R b a N' np nb nt := by
  have : N' = N := funext he
  rw [this]
  exact h
end H4a
theorem min_wi {x : Nat} (hx : x < 2 ^ 31) : hc_min 999 (nI x) = hc_wi (nI x) 0 999 := by
  unfold hc_min hc_wi
  rw [if_neg (nI_pos hx)]
  by_cases h : (999 : Int32) < nI x
  · rw [if_pos h, if_pos (Int32.le_of_lt h)]
  · rw [if_neg h]
    have h2 := Int32.not_lt.mp h
    by_cases h3 : (999 : Int32) ≤ nI x
    · rw [if_pos h3]
      exact Int32.le_antisymm h3 h2
    · rw [if_neg h3]
section H4
variable {g : hcG} {S : hcS} {I : hcI} {R : hcR} {z : Nat} {Q : hcQ} {b a np nb nt sec : Nat} {N : hN}
theorem throats_loop (hk : HSk S R a) (hab : a + 15 ≤ b + 103) (hw : WF N np nb nt sec) (hQ : ∀ I' : hcI, Fh b a I I' → HD S I' R b a (growA N nt np) np nb nt → Q none S I' R z) (k : Nat) : ∀ (i : Nat) (I' : hcI), i + k = np → Fh b a I I' → HD S I' R b a (growA N nt i) np nb nt → V g mX0_throatsGrow 3 0 0 S I' R z 2 [some (.ref a), some (.int (nI i)), none] [] Q := by
  have hk' := hk
  obtain ⟨s0, s1, s2, s3, s4, r0, r1, r2, r3, sp⟩ := hk'
  have hnp := hw.1.2
  have hnb := hw.2.1.2.2
  induction k with
  | zero =>
    intro i I' hi hF hd
    have e2 : i = np := by omega
    subst e2
    have e : I' a 4 = nI i := hd.1.1.trans (growA_WF hw i (by omega)).1.1
    refine v_iload_n (q := 3) dX0_throatsGrow_2 (kk := ?_)
    refine v_aload_n (q := 4) dX0_throatsGrow_3 (kk := ?_)
    refine v_getI (q := 7) fX0_44 (by assumption) (hd := dX0_throatsGrow_4) (kk := ?_)
    rw [e]
    refine v_icmp_geT 60 dX0_throatsGrow_7 (nI_le (Nat.le_refl _) (by omega)) (kt := ?_)
    refine v_vret dX0_throatsGrow_60 (hQ := ?_)
    exact hQ I' hF hd
  | succ k ih =>
    intro i I' hi hF hd
    have hwi := growA_WF hw i (by omega)
    have e : I' a 4 = nI np := hd.1.1.trans hwi.1.1
    have hsp := (sp i (by omega)).1
    have hrp := (sp i (by omega)).2
    have hP := hd.2.2.1 i (by omega)
    obtain ⟨-, -, -, ⟨it, eit, hit⟩, ⟨sw, esw, hsw⟩, -⟩ := hwi.2.2.2.2.2.2.2.2.2.1 i (by omega)
    obtain ⟨gr, egr, hgr⟩ := grow_range (N := growA N nt i) (nt := nt) (p := i)
    refine v_iload_n (q := 3) dX0_throatsGrow_2 (kk := ?_)
    refine v_aload_n (q := 4) dX0_throatsGrow_3 (kk := ?_)
    refine v_getI (q := 7) fX0_44 (by assumption) (hd := dX0_throatsGrow_4) (kk := ?_)
    rw [e]
    refine v_icmp_geF (q := 10) (t := 60) dX0_throatsGrow_7 (nI_ge (by omega) (by omega)) (kf := ?_)
    refine v_aload_n (q := 11) dX0_throatsGrow_10 (kk := ?_)
    refine v_getR (q := 14) fX0_11 (by assumption) (by assumption) (hd := dX0_throatsGrow_11) (kk := ?_)
    refine v_iload_n (q := 15) dX0_throatsGrow_14 (kk := ?_)
    refine v_aaldn (q := 16) (by assumption) (by assumption) (by omega) (by omega) (hd := dX0_throatsGrow_15) (kk := ?_)
    refine v_astore2 (q := 17) dX0_throatsGrow_16 (kk := ?_)
    refine v_aload_n (q := 18) dX0_throatsGrow_17 (kk := ?_)
    refine v_sipush (v := 999) (q := 21) dX0_throatsGrow_18 (kk := ?_)
    refine v_aload_n (q := 22) dX0_throatsGrow_21 (kk := ?_)
    refine v_getI (q := 25) fX0_100 (by assumption) (hd := dX0_throatsGrow_22) (kk := ?_)
    rw [hP 3 (by omega)]
    refine v_aload_n (q := 26) dX0_throatsGrow_25 (kk := ?_)
    refine v_aload_n (q := 27) dX0_throatsGrow_26 (kk := ?_)
    refine v_cV1 (N := mX0_grows) (q := 30) lX0_162 iX0_grows kX0_grows (by assumption) dX0_throatsGrow_27 (s_grows hk hd hwi (by omega) (fun I2 hI2 => ?_))
    refine v_iadd (q := 31) dX0_throatsGrow_30 (kk := ?_)
    refine v_cS2 (N := mJ9_min_7cf53) (q := 34) lX0_91 sJ9_min_7cf53 kJ9_min_7cf53 dX0_throatsGrow_31 (s_min ?_)
    have hv : hc_min 999 (growA N nt i (33 + 6 * i + 3) + growF (growA N nt i) nt i) = hc_wi (growA N nt i (33 + 6 * i + 3) + growF (growA N nt i) nt i) 0 999 := by
      rw [eit, egr, nI_add]
      exact min_wi (by omega)
    rw [hv]
    refine v_putI (q := 37) fX0_100 (by assumption) (hd := dX0_throatsGrow_34) (kk := ?_)
    have e4 : hc_u I2 (a + 5 + i) 3 (hc_wi (growA N nt i (33 + 6 * i + 3) + growF (growA N nt i) nt i) 0 999) (a + 5 + i) 4 = nI sw := by
      rw [hc_u_at, upd_ne (by omega), hI2 _ (fun q => by have := q.1; omega), hP 4 (by omega), esw]
    refine v_aload_n (q := 38) dX0_throatsGrow_37 (kk := ?_)
    refine v_getI (q := 41) fX0_109 (by assumption) (hd := dX0_throatsGrow_38) (kk := ?_)
    rw [e4]
    have ns : ¬ stk b (a + 5 + i) := fun q => by have := q.1; omega
    refine v_if_le 54 (q := 44) dX0_throatsGrow_41 (kt := fun c => ?_) (kf := fun c => ?_)
    · have sw0 : sw = 0 := by
        have : ¬ nI 0 < nI sw := Int32.not_lt.mpr c
        rcases Nat.eq_zero_or_pos sw with q | q
        · exact q
        · exact absurd ((nI_ltI (by omega) (by omega)).mpr q) this
      refine v_iinc1 (q := 57) dX0_throatsGrow_54 (hv := nI_1 i) (kk := ?_)
      refine v_goto 2 dX0_throatsGrow_57 (kt := ?_)
      refine v_drop2 ?_
      refine ih (i + 1) _ (by omega) ((hF.trans (Fh.stk hI2)).trans (Fh.u (by omega) (by omega))) ?_
      refine hd.person (p := i) hab (by omega) hnp hnb (fun y hy hy2 => by rw [hc_u_ne hy]; exact hI2 y hy2) (fun j hj => by rw [growA]; exact grow1_ne (hj 3 (by omega)) (hj 4 (by omega))) (fun j hj => ?_)
      rw [growA, hc_u_at]
      by_cases j3 : j = 3
      · subst j3
        rw [upd_at]
        unfold grow1
        rw [upd_ne (by omega), upd_at]
      · rw [upd_ne j3, hI2 _ ns, hP j hj]
        by_cases j4 : j = 4
        · subst j4
          unfold grow1
          rw [upd_at, esw, sw0]
          rfl
        · exact (grow1_ne (by omega) (by omega)).symm
    · have sw0 : 0 < sw := (nI_ltI (a := 0) (by omega) (by omega)).mp (Int32.not_le.mp c)
      refine v_aload_n (q := 45) dX0_throatsGrow_44 (kk := ?_)
      refine v_dup (q := 46) dX0_throatsGrow_45 (kk := ?_)
      refine v_getI (q := 49) fX0_109 (by assumption) (hd := dX0_throatsGrow_46) (kk := ?_)
      rw [e4]
      refine v_iconst (v := 1) (q := 50) dX0_throatsGrow_49 (kk := ?_)
      refine v_isub (q := 51) dX0_throatsGrow_50 (kk := ?_)
      refine v_putI (q := 54) fX0_109 (by assumption) (hd := dX0_throatsGrow_51) (kk := ?_)
      refine v_iinc1 (q := 57) dX0_throatsGrow_54 (hv := nI_1 i) (kk := ?_)
      refine v_goto 2 dX0_throatsGrow_57 (kt := ?_)
      refine v_drop2 ?_
      refine ih (i + 1) _ (by omega) (((hF.trans (Fh.stk hI2)).trans (Fh.u (by omega) (by omega))).trans (Fh.u (by omega) (by omega))) ?_
      refine hd.person (p := i) hab (by omega) hnp hnb (fun y hy hy2 => by rw [hc_u_ne hy, hc_u_ne hy]; exact hI2 y hy2) (fun j hj => by rw [growA]; exact grow1_ne (hj 3 (by omega)) (hj 4 (by omega))) (fun j hj => ?_)
      rw [growA, hc_u_at, hc_u_at]
      by_cases j4 : j = 4
      · subst j4
        rw [upd_at]
        unfold grow1
        rw [upd_at, esw, if_pos (Int32.not_le.mp c)]
      · rw [upd_ne j4]
        by_cases j3 : j = 3
        · subst j3
          rw [upd_at]
          unfold grow1
          rw [upd_ne (by omega), upd_at]
        · rw [upd_ne j3, hI2 _ ns, hP j hj]
          exact (grow1_ne (by omega) (by omega)).symm
theorem s_throats (hk : HSk S R a) (hd : HD S I R b a N np nb nt) (hab : a + 15 ≤ b + 103) (hw : WF N np nb nt sec) (hQ : ∀ I' : hcI, Fh b a I I' → HD S I' R b a (growA N nt np) np nb nt → Q none S I' R z) : Cl g mX0_throatsGrow 3 0 0 S I R z [.ref a] Q := by
  refine Cl.go [some (.ref a), none, none] ?_
  refine v_iconst (v := 0) (q := 1) dX0_throatsGrow_0 (kk := ?_)
  refine v_istore1 (q := 2) dX0_throatsGrow_1 (kk := ?_)
  exact throats_loop hk hab hw hQ np 0 I (by omega) Fh.rfl hd
theorem theyCough_loop {s : Nat} (hs : s < 1024) (hk : HSk S R a) (hab : a + 15 ≤ b + 103) (hw : WF N np nb nt sec) (hQ : ∀ I' : hcI, Fh b a I I' → HD S I' R b a (coughA N s np) np nb nt → Q none S I' R z) (k : Nat) : ∀ (i : Nat) (I' : hcI), i + k = np → Fh b a I I' → HD S I' R b a (coughA N s i) np nb nt → V g mX0_theyCough 0 0 0 S I' R z 2 [some (.ref a), some (.int (nI s)), some (.int (nI i))] [] Q := by
  have hk' := hk
  obtain ⟨s0, s1, s2, s3, s4, r0, r1, r2, r3, sp⟩ := hk'
  have hnp := hw.1.2
  have hnb := hw.2.1.2.2
  induction k with
  | zero =>
    intro i I' hi hF hd
    have e2 : i = np := by omega
    subst e2
    have e : I' a 4 = nI i := by rw [hd.1.1, coughA_ne i 1 hnp (by omega)]; exact hw.1.1
    refine v_iload_n (q := 3) dX0_theyCough_2 (kk := ?_)
    refine v_aload_n (q := 4) dX0_theyCough_3 (kk := ?_)
    refine v_getI (q := 7) fX0_44 (by assumption) (hd := dX0_theyCough_4) (kk := ?_)
    rw [e]
    refine v_icmp_geT 50 dX0_theyCough_7 (nI_le (Nat.le_refl _) (by omega)) (kt := ?_)
    refine v_vret dX0_theyCough_50 (hQ := ?_)
    exact hQ I' hF hd
  | succ k ih =>
    intro i I' hi hF hd
    have e : I' a 4 = nI np := by rw [hd.1.1, coughA_ne i 1 (by omega) (by omega)]; exact hw.1.1
    have hsp := (sp i (by omega)).1
    have hrp := (sp i (by omega)).2
    have hP := hd.2.2.1 i (by omega)
    have hbit := (bit_eq s hs i (by omega)).trans (bit_nat s hs i (by omega))
    refine v_iload_n (q := 3) dX0_theyCough_2 (kk := ?_)
    refine v_aload_n (q := 4) dX0_theyCough_3 (kk := ?_)
    refine v_getI (q := 7) fX0_44 (by assumption) (hd := dX0_theyCough_4) (kk := ?_)
    rw [e]
    refine v_icmp_geF (q := 10) (t := 50) dX0_theyCough_7 (nI_ge (by omega) (by omega)) (kf := ?_)
    refine v_iload_n (q := 11) dX0_theyCough_10 (kk := ?_)
    refine v_iload_n (q := 12) dX0_theyCough_11 (kk := ?_)
    refine v_iushr (q := 13) dX0_theyCough_12 (kk := ?_)
    refine v_iconst (v := 1) (q := 14) dX0_theyCough_13 (kk := ?_)
    refine v_iand (q := 15) dX0_theyCough_14 (kk := ?_)
    refine v_iconst (v := 1) (q := 16) dX0_theyCough_15 (kk := ?_)
    refine v_icmp_ne 44 (q := 19) dX0_theyCough_16 (kt := fun c => ?_) (kf := fun c => ?_)
    · have c2 : ¬ s / 2 ^ i % 2 = 1 := by
        have := decide_eq_false c
        rw [hbit] at this
        exact of_decide_eq_false this
      refine v_iinc2 (q := 47) dX0_theyCough_44 (hv := nI_1 i) (kk := ?_)
      refine v_goto 2 dX0_theyCough_47 (kt := ?_)
      refine ih (i + 1) _ (by omega) hF ?_
      rw [coughA]
      unfold cough1
      rw [if_neg c2]
      exact hd
    · have c2 : s / 2 ^ i % 2 = 1 := by
        have := decide_eq_true c
        rw [hbit] at this
        exact of_decide_eq_true this
      refine v_aload_n (q := 20) dX0_theyCough_19 (kk := ?_)
      refine v_getR (q := 23) fX0_11 (by assumption) (by assumption) (hd := dX0_theyCough_20) (kk := ?_)
      refine v_iload_n (q := 24) dX0_theyCough_23 (kk := ?_)
      refine v_aaldn (q := 25) (by assumption) (by assumption) (by omega) (by omega) (hd := dX0_theyCough_24) (kk := ?_)
      refine v_iconst (v := 0) (q := 26) dX0_theyCough_25 (kk := ?_)
      refine v_putI (q := 29) fX0_100 (by assumption) (hd := dX0_theyCough_26) (kk := ?_)
      refine v_aload_n (q := 30) dX0_theyCough_29 (kk := ?_)
      refine v_getR (q := 33) fX0_11 (by assumption) (by assumption) (hd := dX0_theyCough_30) (kk := ?_)
      refine v_iload_n (q := 34) dX0_theyCough_33 (kk := ?_)
      refine v_aaldn (q := 35) (by assumption) (by assumption) (by omega) (by omega) (hd := dX0_theyCough_34) (kk := ?_)
      refine v_dup (q := 36) dX0_theyCough_35 (kk := ?_)
      refine v_getI (q := 39) fX0_97 (by assumption) (hd := dX0_theyCough_36) (kk := ?_)
      have e5 : hc_u I' (a + 5 + i) 3 0 (a + 5 + i) 5 = coughA N s i (33 + 6 * i + 5) := by
        rw [hc_u_at, upd_ne (by omega), hP 5 (by omega)]
      rw [e5]
      refine v_iconst (v := 1) (q := 40) dX0_theyCough_39 (kk := ?_)
      refine v_iadd (q := 41) dX0_theyCough_40 (kk := ?_)
      refine v_putI (q := 44) fX0_97 (by assumption) (hd := dX0_theyCough_41) (kk := ?_)
      refine v_iinc2 (q := 47) dX0_theyCough_44 (hv := nI_1 i) (kk := ?_)
      refine v_goto 2 dX0_theyCough_47 (kt := ?_)
      refine ih (i + 1) _ (by omega) ((hF.trans (Fh.u (by omega) (by omega))).trans (Fh.u (by omega) (by omega))) ?_
      refine hd.person (p := i) hab (by omega) hnp hnb (fun y hy hy2 => by rw [hc_u_ne hy, hc_u_ne hy]) (fun j hj => by rw [coughA]; exact cough1_ne (hj 3 (by omega)) (hj 5 (by omega))) (fun j hj => ?_)
      rw [coughA, hc_u_at, hc_u_at]
      unfold cough1
      rw [if_pos c2]
      by_cases j5 : j = 5
      · subst j5
        rw [upd_at, upd_at]
      · rw [upd_ne j5, upd_ne (j := 33 + 6 * i + j) (by omega)]
        by_cases j3 : j = 3
        · subst j3
          rw [upd_at, upd_at]
        · rw [upd_ne j3, upd_ne (by omega), hP j hj]
theorem s_theyCough {s : Nat} (hs : s < 1024) (hk : HSk S R a) (hd : HD S I R b a N np nb nt) (hab : a + 15 ≤ b + 103) (hw : WF N np nb nt sec) (hQ : ∀ I' : hcI, Fh b a I I' → HD S I' R b a (coughA N s np) np nb nt → Q none S I' R z) : Cl g mX0_theyCough 0 0 0 S I R z [.ref a, .int (nI s)] Q := by
  refine Cl.go [some (.ref a), some (.int (nI s)), none] ?_
  refine v_iconst (v := 0) (q := 1) dX0_theyCough_0 (kk := ?_)
  refine v_istore2 (q := 2) dX0_theyCough_1 (kk := ?_)
  exact theyCough_loop hs hk hab hw hQ np 0 I (by omega) Fh.rfl hd
theorem coughA_zero {N : hN} : ∀ p, coughA N 0 p = N
  | 0 => rfl
  | p + 1 => by
    rw [coughA, coughA_zero p]
    unfold cough1
    rw [if_neg (by simp)]
theorem coughA_WF {N : hN} {np nb nt sec s : Nat} (h : WF N np nb nt sec) (hs : sec < 110000) : WF (upd (coughA N s np) 3 (nI (sec + 1))) np nb nt (sec + 1) := by
  have hnp := h.1.2
  have hC := coughA_CW (s := s) (by omega) h.2.2.2.2.2.2.2.2.2.1 np (Nat.le_refl _)
  have hfar : ∀ i, (i < 33 ∨ 93 ≤ i) → i ≠ 3 → upd (coughA N s np) 3 (nI (sec + 1)) i = N i := fun i hi h3 => by rw [upd_ne h3, coughA_ne np i hnp hi]
  have hb2 := h.2.1.2.2
  refine h.of (sec' := sec + 1) (fun i hi => hfar i (by omega) (by omega)) (hfar 1 (by omega) (by omega)) (hfar 2 (by omega) (by omega)) (hfar 8 (by omega) (by omega)) (hfar 6 (by omega) (by omega)) (hfar 7 (by omega) (by omega)) (fun k hk => hfar _ (by omega) (by omega)) ⟨by rw [upd_at], by omega⟩ ?_ ?_ (fun q hq => ?_)
  · obtain ⟨k, e, hk⟩ := h.2.2.2.2.1
    exact ⟨k, (hfar 4 (by omega) (by omega)).trans e, by omega⟩
  · obtain ⟨k, e, hk⟩ := h.2.2.2.2.2.1
    exact ⟨k, (hfar 5 (by omega) (by omega)).trans e, hk⟩
  · exact PW_congr ((hC q hq).1 hq) (fun j hj => upd_ne (by omega))
theorem pass_45 {s n : Nat} {I2 : hcI} {N2 : hN} {ld : Int32} (hk : HSk S R a) (hab : a + 15 ≤ b + 103) (hnb : nb ≤ 24) (hF : Fh b a I I2) (hd : HD S I2 R b a N2 np nb nt) (h3 : N2 3 = nI sec) (hQ : ∀ I' : hcI, Fh b a I I' → HD S I' R b a (upd (upd N2 3 (nI (sec + 1))) 5 (nI s)) np nb nt → Q (some (.int (nI n))) S I' R z) : V g mX0_passSecond 4 0 0 S I2 R z 45 [some (.ref a), some (.int ld), some (.int (nI s)), some (.int (nI n))] [] Q := by
  have hk' := hk
  obtain ⟨s0, -⟩ := hk'
  have e9 : I2 a 9 = nI sec := hd.1.2.2.2.2.2.1.trans h3
  refine v_aload_n (q := 46) dX0_passSecond_45 (kk := ?_)
  refine v_dup (q := 47) dX0_passSecond_46 (kk := ?_)
  refine v_getI (q := 50) fX0_54 (by assumption) (hd := dX0_passSecond_47) (kk := ?_)
  rw [e9]
  refine v_iconst (v := 1) (q := 51) dX0_passSecond_50 (kk := ?_)
  refine v_iadd (q := 52) dX0_passSecond_51 (kk := ?_)
  rw [nI_1]
  refine v_putI (q := 55) fX0_54 (by assumption) (hd := dX0_passSecond_52) (kk := ?_)
  refine v_aload_n (q := 56) dX0_passSecond_55 (kk := ?_)
  refine v_iload_n (q := 57) dX0_passSecond_56 (kk := ?_)
  refine v_putI (q := 60) fX0_60 (by assumption) (hd := dX0_passSecond_57) (kk := ?_)
  refine v_iload_n (q := 61) dX0_passSecond_60 (kk := ?_)
  refine v_iret dX0_passSecond_61 (hQ := ?_)
  exact hQ _ ((hF.trans (Fh.u (by omega) (by omega))).trans (Fh.u (by omega) (by omega))) ((hd.fld hab hnb (Or.inl ⟨rfl, rfl⟩)).fld hab hnb (Or.inr (Or.inr (Or.inl ⟨rfl, rfl⟩))))
theorem s_passSecond (hk : HSk S R a) (hd : HD S I R b a N np nb nt) (hab : a + 15 ≤ b + 103) (hw : WF N np nb nt sec) (hs : sec < 110000) (hQ : ∀ I' : hcI, Fh b a I I' → HD S I' R b a (secF N np nb nt sec) np nb nt → Q (some (.int (nI (pop10 (secS N np nb nt sec))))) S I' R z) : Cl g mX0_passSecond 4 0 0 S I R z [.ref a] Q := by
  have hk' := hk
  obtain ⟨s0, -⟩ := hk'
  have hnp := hw.1.2
  have hnb := hw.2.1.2.2
  have hb1 := hw.2.1.2.1
  have hlt := Nat.mod_lt sec (show nb > 0 by omega)
  have hwG := growA_WF hw np (Nat.le_refl _)
  have hl1 : growA N nt np (9 + sec % nb) = N (9 + sec % nb) := growA_ne np _ hnp (by omega)
  have hsl : secS N np nb nt sec < 2 ^ np := setA_lt np
  have h10 : secS N np nb nt sec < 1024 := Nat.lt_of_lt_of_le hsl (Nat.pow_le_pow_right (by omega) hnp)
  refine Cl.go [some (.ref a), none, none, none] ?_
  refine v_aload_n (q := 1) dX0_passSecond_0 (kk := ?_)
  refine v_iconst (v := 0) (q := 2) dX0_passSecond_1 (kk := ?_)
  refine v_cV1 (N := mX0_loudIn) (q := 5) lX0_141 iX0_loudIn kX0_loudIn (by assumption) dX0_passSecond_2 (s_loudIn (t := 0) hk hd hw (by omega) ?_)
  rw [Nat.add_zero, ← hl1]
  refine v_istore1 (q := 6) dX0_passSecond_5 (kk := ?_)
  refine v_aload_n (q := 7) dX0_passSecond_6 (kk := ?_)
  refine v_cV0 (N := mX0_throatsGrow) (q := 10) lX0_144 iX0_throatsGrow kX0_throatsGrow (by assumption) dX0_passSecond_7 (s_throats hk hd hab hw (fun I1 hF1 hd1 => ?_))
  refine v_aload_n (q := 11) dX0_passSecond_10 (kk := ?_)
  refine v_iload_n (q := 12) dX0_passSecond_11 (kk := ?_)
  refine v_cV1 (N := mX0_whoLetsGo) (q := 15) lX0_147 iX0_whoLetsGo kX0_whoLetsGo (by assumption) dX0_passSecond_12 (s_whoLetsGo hk hd1 hwG ?_)
  have es : setA (growA N nt np) np nb sec np = secS N np nb nt sec := rfl
  rw [es]
  refine v_istore2 (q := 16) dX0_passSecond_15 (kk := ?_)
  refine v_iload_n (q := 17) dX0_passSecond_16 (kk := ?_)
  refine v_cS1 (N := mJ6_bitCount_0f7a4) (q := 20) lX0_150 sJ6_bitCount_0f7a4 kJ6_bitCount_0f7a4 dX0_passSecond_17 (s_bitCount h10 ?_)
  refine v_istore3 (q := 21) dX0_passSecond_20 (kk := ?_)
  refine v_iload_n (q := 22) dX0_passSecond_21 (kk := ?_)
  have hp10 := pop_le _ h10
  refine v_if_le 45 (q := 25) dX0_passSecond_22 (kt := fun c => ?_) (kf := fun c => ?_)
  · have p0 : pop10 (secS N np nb nt sec) = 0 := by
      rcases Nat.eq_zero_or_pos (pop10 (secS N np nb nt sec)) with q | q
      · exact q
      · exact absurd c (Int32.not_le.mpr (show nI 0 < _ from (nI_ltI (by omega) (by omega)).mpr q))
    have z0 := hp10.2.mp p0
    refine pass_45 hk hab hnb hF1 hd1 hwG.2.2.2.1.1 (fun I' hF' hd' => hQ I' hF' (hd'.toN (fun i => ?_)))
    unfold secF
    rw [p0, if_neg (by omega), z0, coughA_zero]
    have e4 : upd (growA N nt np) 4 (N 4 + 0) = growA N nt np := by
      funext j
      by_cases ej : j = 4
      · subst ej
        rw [upd_at, growA_ne np 4 hnp (by omega)]
        exact Int32.add_zero _
      · rw [upd_ne ej]
    rw [e4]
  · have p0 : 0 < pop10 (secS N np nb nt sec) := (nI_ltI (a := 0) (by omega) (by omega)).mp (Int32.not_le.mp c)
    refine v_aload_n (q := 26) dX0_passSecond_25 (kk := ?_)
    refine v_iload_n (q := 27) dX0_passSecond_26 (kk := ?_)
    refine v_cV1 (N := mX0_theyCough) (q := 30) lX0_155 iX0_theyCough kX0_theyCough (by assumption) dX0_passSecond_27 (s_theyCough h10 hk hd1 hab hwG (fun I2 hF2 hd2 => ?_))
    refine v_aload_n (q := 31) dX0_passSecond_30 (kk := ?_)
    refine v_dup (q := 32) dX0_passSecond_31 (kk := ?_)
    refine v_getI (q := 35) fX0_57 (by assumption) (hd := dX0_passSecond_32) (kk := ?_)
    have e10 : I2 a 10 = N 4 := by
      rw [hd2.1.2.2.2.2.2.2.1, coughA_ne np 4 hnp (by omega), growA_ne np 4 hnp (by omega)]
    rw [e10]
    have hl2 : growA N nt np (9 + sec % nb) = coughA (growA N nt np) (secS N np nb nt sec) np (9 + sec % nb) := (coughA_ne np _ hnp (by omega)).symm
    rw [hl2]
    refine v_aload_n (q := 36) dX0_passSecond_35 (kk := ?_)
    refine v_iload_n (q := 37) dX0_passSecond_36 (kk := ?_)
    refine v_iload_n (q := 38) dX0_passSecond_37 (kk := ?_)
    refine v_cV2 (N := mX0_harmOf) (q := 41) lX0_159 iX0_harmOf kX0_harmOf (by assumption) dX0_passSecond_38 (s_harmOf hk hd2 ⟨by rw [coughA_ne np 8 hnp (by omega)]; exact hwG.2.2.1.1, hw.2.2.1.2⟩ (by rw [← hl2]; exact hwG.2.2.2.2.2.2.2.2.1 _ hlt) hp10.1 (fun I3 hI3 => ?_))
    refine v_iadd (q := 42) dX0_passSecond_41 (kk := ?_)
    refine v_putI (q := 45) fX0_57 (by assumption) (hd := dX0_passSecond_42) (kk := ?_)
    refine pass_45 (sec := sec) hk hab hnb (((hF1.trans hF2).trans (Fh.stk hI3)).trans (Fh.u (by omega) (by omega))) ((hd2.keepS hnp hab hI3).fld hab hnb (Or.inr (Or.inl ⟨rfl, rfl⟩))) ?_ (fun I' hF' hd' => hQ I' hF' (hd'.toN (fun i => ?_)))
    · rw [upd_ne (by omega), coughA_ne np 3 hnp (by omega)]
      exact hwG.2.2.2.1.1
    · unfold secF
      rw [if_pos p0]
theorem passSeconds_loop {n : Nat} (hk : HSk S R a) (hab : a + 15 ≤ b + 103) (hw : WF N np nb nt sec) (hs : sec + n ≤ 110000) (hQ : ∀ I' : hcI, Fh b a I I' → HD S I' R b a (secsF N np nb nt sec n) np nb nt → Q (some (.int (nI (secsC N np nb nt sec n)))) S I' R z) (k : Nat) : ∀ (i : Nat) (I' : hcI), i + k = n → Fh b a I I' → HD S I' R b a (secsF N np nb nt sec i) np nb nt → V g mX0_passSeconds 5 0 0 S I' R z 4 [some (.ref a), some (.int (nI n)), some (.int (nI (secsC N np nb nt sec i))), some (.int (nI i))] [] Q := by
  have hk' := hk
  obtain ⟨s0, -⟩ := hk'
  induction k with
  | zero =>
    intro i I' hi hF hd
    have e2 : i = n := by omega
    subst e2
    refine v_iload_n (q := 5) dX0_passSeconds_4 (kk := ?_)
    refine v_iload_n (q := 6) dX0_passSeconds_5 (kk := ?_)
    refine v_icmp_geT 22 dX0_passSeconds_6 (nI_le (Nat.le_refl _) (by omega)) (kt := ?_)
    refine v_iload_n (q := 23) dX0_passSeconds_22 (kk := ?_)
    refine v_iret dX0_passSeconds_23 (hQ := ?_)
    exact hQ I' hF hd
  | succ k ih =>
    intro i I' hi hF hd
    have hwi := secsF_WF hw i (by omega)
    refine v_iload_n (q := 5) dX0_passSeconds_4 (kk := ?_)
    refine v_iload_n (q := 6) dX0_passSeconds_5 (kk := ?_)
    refine v_icmp_geF (q := 9) (t := 22) dX0_passSeconds_6 (nI_ge (by omega) (by omega)) (kf := ?_)
    refine v_iload_n (q := 10) dX0_passSeconds_9 (kk := ?_)
    refine v_aload_n (q := 11) dX0_passSeconds_10 (kk := ?_)
    refine v_cV0 (N := mX0_passSecond) (q := 14) lX0_138 iX0_passSecond kX0_passSecond (by assumption) dX0_passSeconds_11 (s_passSecond hk hd hab hwi (by omega) (fun I2 hF2 hd2 => ?_))
    refine v_iadd (q := 15) dX0_passSeconds_14 (kk := ?_)
    rw [nI_add]
    refine v_istore2 (q := 16) dX0_passSeconds_15 (kk := ?_)
    refine v_iinc3 (q := 19) dX0_passSeconds_16 (hv := nI_1 i) (kk := ?_)
    refine v_goto 4 dX0_passSeconds_19 (kt := ?_)
    exact ih (i + 1) I2 (by omega) (hF.trans hF2) hd2
theorem s_passSeconds {n : Nat} (hk : HSk S R a) (hd : HD S I R b a N np nb nt) (hab : a + 15 ≤ b + 103) (hw : WF N np nb nt sec) (hs : sec + n ≤ 110000) (hQ : ∀ I' : hcI, Fh b a I I' → HD S I' R b a (secsF N np nb nt sec n) np nb nt → Q (some (.int (nI (secsC N np nb nt sec n)))) S I' R z) : Cl g mX0_passSeconds 5 0 0 S I R z [.ref a, .int (nI n)] Q := by
  refine Cl.go [some (.ref a), some (.int (nI n)), none, none] ?_
  refine v_iconst (v := 0) (q := 1) dX0_passSeconds_0 (kk := ?_)
  refine v_istore2 (q := 2) dX0_passSeconds_1 (kk := ?_)
  refine v_iconst (v := 0) (q := 3) dX0_passSeconds_2 (kk := ?_)
  refine v_istore3 (q := 4) dX0_passSeconds_3 (kk := ?_)
  exact passSeconds_loop hk hab hw hs hQ n 0 I (by omega) Fh.rfl hd
end H4
