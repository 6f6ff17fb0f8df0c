theorem fst0_before {f : Nat → Bool} : ∀ (n i p : Nat), fst0 f i n = some p → ∀ q, i ≤ q → q < p → f q = false
  | 0, i, p, h => by simp [fst0] at h
  | n + 1, i, p, h => by
    intro q h1 h2
    simp only [fst0] at h
    split at h
    next c => simp only [Option.some.injEq] at h; omega
    next c =>
      by_cases e : q = i
      · subst e
        simpa using c
      · exact fst0_before n (i + 1) p h q (by omega) h2
theorem pigeon : ∀ (n : Nat) (f : Nat → Nat), (∀ i, i ≤ n → f i < n) → ∃ i j, i < j ∧ j ≤ n ∧ f i = f j
  | 0, f, h => absurd (h 0 (by omega)) (by omega)
  | n + 1, f, h => by
    by_cases c : ∃ i, i ≤ n ∧ f i = f (n + 1)
    · obtain ⟨i, hi, e⟩ := c
      exact ⟨i, n + 1, by omega, by omega, e⟩
    · have hne : ∀ i, i ≤ n → f i ≠ f (n + 1) := fun i hi e => c ⟨i, hi, e⟩
      have hv := h (n + 1) (by omega)
      obtain ⟨i, j, hij, hj, e⟩ := pigeon n (fun i => if f i = n then f (n + 1) else f i) (fun i hi => by
        have h1 := h i (by omega)
        have h2 := hne i hi
        show (if f i = n then f (n + 1) else f i) < n
        split <;> omega)
      refine ⟨i, j, hij, by omega, ?_⟩
      have h1 := hne i (by omega)
      have h2 := hne j (by omega)
      split at e <;> split at e <;> omega
theorem frS_some {N : hN} {np s : Nat} (hnp : np < 30) (hs : s < 30) : ∃ k, fst0 (fun k => (whoF N np (nI ((s + k) % 30))).isNone) 0 30 = some k := by
  cases h : fst0 (fun k => (whoF N np (nI ((s + k) % 30))).isNone) 0 30 with
  | some k => exact ⟨k, rfl⟩
  | none =>
    exfalso
    have ha : ∀ k, k < 30 → ∃ p, p < np ∧ N (33 + 6 * p + 1) = nI ((s + k) % 30) := by
      intro k hk
      have h1 := fst0_none 30 0 h k (by omega) (by omega)
      cases h2 : whoF N np (nI ((s + k) % 30)) with
      | none => rw [h2] at h1; cases h1
      | some p =>
        have h3 := fst0_some np 0 p h2
        exact ⟨p, by omega, by simpa using h3.2.2⟩
    have hb : ∀ k, ∃ p, k < 30 → p < np ∧ N (33 + 6 * p + 1) = nI ((s + k) % 30) := fun k => by
      by_cases c : k < 30
      · obtain ⟨p, hp⟩ := ha k c
        exact ⟨p, fun _ => hp⟩
      · exact ⟨0, fun h => absurd h c⟩
    obtain ⟨f, hf⟩ := Classical.axiomOfChoice hb
    obtain ⟨i, j, hij, hj, e⟩ := pigeon np f (fun i hi => (hf i (by omega)).1)
    have h1 := (hf i (by omega)).2
    have h2 := (hf j (by omega)).2
    rw [e, h2] at h1
    have := (nI_eq (by omega) (by omega)).mp h1
    omega
theorem lotN_lo {N : hN} {i : Nat} (h : i ≠ 0) : lotN N i = N i := by
  unfold lotN
  rw [upd_ne h, upd_ne h, upd_ne h]
theorem lotsF_lo {N : hN} {np i : Nat} (h1 : 9 ≤ i) (h2 : i < 33) : ∀ n, lotsF N np n i = N i
  | 0 => rfl
  | n + 1 => by
    show lotF (lotsF N np n) (np + n) i = N i
    unfold lotF
    rw [comeF_ne (fun j hj => by omega) (by omega), lotN_lo (by omega)]
    exact lotsF_lo h1 h2 n
theorem XW.lots {N : hN} {np nb nt sec n : Nat} (h : XW N np nb nt sec) (hn : np + n ≤ 10) : XW (lotsF N np n) (np + n) nb nt sec := h.lo (lotsF_WF h.1 n hn) h.2.1 (fun i h1 h2 => lotsF_lo h1 h2 n)
def dealN (N : hN) (n : Int32) : Nat := min n.toNatClampNeg (10 - npN N)
def spDeal (N : hN) (n : Int32) : Int32 × hN := if 1 ≤ n ∧ n ≤ 10 then (nI (dealN N n), lotsF N (npN N) (dealN N n)) else (-1000000001, N)
section C4
variable {g : hcG} {S : hcS} {I : hcI} {R : hcR} {z : Nat} {Q : hcQ} {b m np nb nt sec : Nat} {N : hN}
theorem deal_loop {n : Nat} {x : Int32} (s0 : S b = some (6, 0)) (r0 : R b 0 = some (b + 1)) (hk1 : HSk S R (b + 1)) (hw : WF N np nb nt sec) (hn : np + n ≤ 10) (hQ : ∀ I' : hcI, Fa (b + 1) I I' → HD S I' R b (b + 1) (lotsF N np n) (np + n) nb nt → Q (some (.int (nI n))) S I' R z) (k : Nat) : ∀ (i : Nat) (I' : hcI), i + k = n → Fa (b + 1) I I' → HD S I' R b (b + 1) (lotsF N np i) (np + i) nb nt → V g mX6_deal 3 0 0 S I' R z 31 [some (.ref b), some (.int x), some (.int (nI n)), some (.int (nI i))] [] Q := by
  have sh := hk1.1
  induction k with
  | zero =>
    intro i I' hi hF hd
    obtain rfl : i = n := by omega
    refine v_iload_n (q := 32) dX6_deal_31 (kk := ?_)
    refine v_iload_n (q := 33) dX6_deal_32 (kk := ?_)
    refine v_icmp_geT 49 dX6_deal_33 (Int32.le_refl _) (kt := ?_)
    refine v_iload_n (q := 50) dX6_deal_49 (kk := ?_)
    refine v_iret dX6_deal_50 (hQ := ?_)
    exact hQ I' hF hd
  | succ k ih =>
    intro i I' hi hF hd
    refine v_iload_n (q := 32) dX6_deal_31 (kk := ?_)
    refine v_iload_n (q := 33) dX6_deal_32 (kk := ?_)
    refine v_icmp_geF (q := 36) (t := 49) dX6_deal_33 (fun h => by have := (nI_leI (by omega) (by omega)).mp h; omega) (kf := ?_)
    refine v_aload_n (q := 37) dX6_deal_36 (kk := ?_)
    refine v_getR (q := 40) fX6_12 (by assumption) (by assumption) (hd := dX6_deal_37) (kk := ?_)
    refine v_cV0 (N := mX0_comesByLot) (q := 43) lX6_132 iX0_comesByLot kX0_comesByLot (by assumption) dX6_deal_40 (s_comesByLot hk1 hd (by omega) (lotsF_WF hw i (by omega)) (by omega) (fun I2 hF2 hd2 => ?_))
    refine v_iinc3 (q := 46) dX6_deal_43 (hv := nI_1 i) (kk := ?_)
    refine v_goto 31 dX6_deal_46 (kt := ?_)
    exact ih (i + 1) I2 (by omega) (fun y hy => (hF2 y hy).trans (hF y hy)) hd2
theorem x_deal {n : Int32} (hx : XSk S R b) (hn : XN S I R b N) (hQ : ∀ I' : hcI, Fh b (b + 1) I I' → XN S I' R b (spDeal N n).2 → Q (some (.int (spDeal N n).1)) S I' R z) : Cl g mX6_deal 3 0 0 S I R z [.ref b, .int n] Q := by
  obtain ⟨⟨s0, r0, -⟩, ⟨hk1, -⟩, -⟩ := hx
  obtain ⟨np, nb, nt, sec, hw, hd⟩ := id hn
  obtain ⟨e1, e2, e3, e4⟩ := hw.e
  have sh := hk1.1
  have hnp := hw.1.1.2
  have d1 : I (b + 1) 4 = nI np := hd.1.1.trans hw.1.1.1
  refine Cl.go [some (.ref b), some (.int n), none, none] ?_
  have bad : ¬ (1 ≤ n ∧ n ≤ 10) → V g mX6_deal 3 0 0 S I R z 11 [some (.ref b), some (.int n), none, none] [] Q := by
    intro c
    have e : spDeal N n = (-1000000001, N) := by unfold spDeal; rw [if_neg c]
    rw [e] at hQ
    refine v_ldc (q := 13) cX6_55 dX6_deal_11 (kk := ?_)
    refine v_iret dX6_deal_13 (hQ := ?_)
    exact hQ I Fh.rfl hn
  refine v_iload_n (q := 1) dX6_deal_0 (kk := ?_)
  refine v_iconst (v := 1) (q := 2) dX6_deal_1 (kk := ?_)
  refine v_icmp_lt 11 (q := 5) dX6_deal_2 (kt := fun c1 => ?_) (kf := fun c1 => ?_)
  · exact bad (fun h => absurd h.1 (Int32.not_le.mpr c1))
  · refine v_iload_n (q := 6) dX6_deal_5 (kk := ?_)
    refine v_bipush (v := 10) (q := 8) dX6_deal_6 (kk := ?_)
    refine v_icmp_le 14 (q := 11) dX6_deal_8 (kt := fun c2 => ?_) (kf := fun c2 => ?_)
    · have c : 1 ≤ n ∧ n ≤ 10 := ⟨Int32.not_lt.mp c1, c2⟩
      obtain ⟨j, hj, rfl⟩ := nI_ofL (v := n) (lo := 1) (by decide) c.1
      have hj1 : 1 ≤ j := (nI_leI (a := 1) (by omega) hj).mp c.1
      have hj2 : j ≤ 10 := (nI_leI (b := 10) hj (by omega)).mp c.2
      have e : spDeal N (nI j) = (nI (min j (10 - np)), lotsF N np (min j (10 - np))) := by unfold spDeal dealN; rw [if_pos c, nI_clamp hj, e1]
      rw [e] at hQ
      have e9 : hc_min (nI j) (10 - nI np) = nI (min j (10 - np)) := by
        rw [show (10 : Int32) - nI np = nI (10 - np) from pk_sub (a := 10) hnp]
        unfold hc_min
        by_cases c4 : j ≤ 10 - np
        · rw [if_pos (nI_le c4 (by omega)), Nat.min_eq_left c4]
        · rw [if_neg (fun h => c4 ((nI_leI (by omega) (by omega)).mp h)), Nat.min_eq_right (by omega)]
      refine v_iload_n (q := 15) dX6_deal_14 (kk := ?_)
      refine v_bipush (v := 10) (q := 17) dX6_deal_15 (kk := ?_)
      refine v_aload_n (q := 18) dX6_deal_17 (kk := ?_)
      refine v_getR (q := 21) fX6_12 (by assumption) (by assumption) (hd := dX6_deal_18) (kk := ?_)
      refine v_getI (q := 24) fX6_61 (by assumption) (hd := dX6_deal_21) (kk := ?_)
      rw [d1]
      refine v_isub (q := 25) dX6_deal_24 (kk := ?_)
      refine v_cS2 (N := mJ9_min_7cf53) (q := 28) lX6_126 sJ9_min_7cf53 kJ9_min_7cf53 dX6_deal_25 (s_min ?_)
      rw [e9]
      refine v_istore2 (q := 29) dX6_deal_28 (kk := ?_)
      refine v_iconst (v := 0) (q := 30) dX6_deal_29 (kk := ?_)
      refine v_istore3 (q := 31) dX6_deal_30 (kk := ?_)
      exact deal_loop s0 r0 hk1 hw.1 (by omega) (fun I' hF' hd' => hQ I' hF'.h ⟨_, nb, nt, sec, hw.lots (by omega), hd'⟩) (min j (10 - np)) 0 I (by omega) (fun _ _ => rfl) hd
    · exact bad (fun h => c2 h.2)
theorem s_mdraw (hm : MG S R m) (hN : I (m + 1) = N) (hQ : ∀ I' : hcI, (∀ y, y ≠ m + 1 → I' y = I y) → I' (m + 1) = upd N 0 (drF (N 0)) → Q (some (.int (nI (dvF (drF (N 0)))))) S I' R z) : Cl g mX7_draw 0 0 0 S I R z [.ref m] Q := by
  have s0 := hm.s0
  have sn := hm.s_now
  have rn := hm.r_now
  refine Cl.go [some (.ref m)] ?_
  refine v_aload_n (q := 1) dX7_draw_0 (kk := ?_)
  refine v_getR (q := 4) fX7_9 (by assumption) (by assumption) (hd := dX7_draw_1) (kk := ?_)
  refine v_iconst (v := 0) (q := 5) dX7_draw_4 (kk := ?_)
  refine v_aload_n (q := 6) dX7_draw_5 (kk := ?_)
  refine v_getR (q := 9) fX7_9 (by assumption) (by assumption) (hd := dX7_draw_6) (kk := ?_)
  refine v_iconst (v := 0) (q := 10) dX7_draw_9 (kk := ?_)
  refine v_ialdE (q := 11) (0) (by rfl) (by assumption) (by omega) (by omega) (hd := dX7_draw_10) (kk := ?_)
  rw [hN]
  refine v_ldc (q := 13) cX7_141 dX7_draw_11 (kk := ?_)
  refine v_imul (q := 14) dX7_draw_13 (kk := ?_)
  refine v_sipush (v := 12345) (q := 17) dX7_draw_14 (kk := ?_)
  refine v_iadd (q := 18) dX7_draw_17 (kk := ?_)
  refine v_iastE (q := 19) (0) (by rfl) (by assumption) (by omega) (by omega) (hd := dX7_draw_18) (kk := ?_)
  refine v_aload_n (q := 20) dX7_draw_19 (kk := ?_)
  refine v_getR (q := 23) fX7_9 (by assumption) (by assumption) (hd := dX7_draw_20) (kk := ?_)
  refine v_iconst (v := 0) (q := 24) dX7_draw_23 (kk := ?_)
  refine v_ialdE (q := 25) (0) (by rfl) (by assumption) (by omega) (by omega) (hd := dX7_draw_24) (kk := ?_)
  have e2 : hc_u I (m + 1) 0 (N 0 * 1103515245 + 12345) (m + 1) 0 = drF (N 0) := by simp [hc_u, drF]
  rw [e2]
  refine v_bipush (v := 8) (q := 27) dX7_draw_25 (kk := ?_)
  refine v_iushr (q := 28) dX7_draw_27 (hv := dv_eq _) (kk := ?_)
  refine v_iret dX7_draw_28 (hQ := ?_)
  exact hQ _ (fun y hy => hc_u_ne hy) (by rw [hc_u_at, hN]; rfl)
theorem mfree_loop {s k : Nat} {x y u w : Int32} {o : Option Value} (hm : MG S R m) (hN : I (m + 1) = N) (h1 : N 1 = nI np) (hnp : np ≤ 10) (hs : s < 30) (hk : fst0 (fun k => (whoF N np (nI ((s + k) % 30))).isNone) 0 30 = some k) (hV : V g mX7_deal 2 0 0 S I R z 78 [some (.ref m), some (.int x), some (.int y), some (.int u), some (.int w), some (.int (nI ((s + k) % 30))), o] [] Q) (j : Nat) : ∀ i, i + j = k → V g mX7_deal 2 0 0 S I R z 57 [some (.ref m), some (.int x), some (.int y), some (.int u), some (.int w), some (.int (nI ((s + i) % 30))), o] [] Q := by
  have s0 := hm.s0
  have hk3 := fst0_some 30 0 k hk
  have hwho : I (m + 1) 1 = nI np := by rw [hN]; exact h1
  induction j with
  | zero =>
    intro i hi
    obtain rfl : i = k := by omega
    have h3 := hk3.2.2
    refine v_aload_n (q := 58) dX7_deal_57 (kk := ?_)
    refine v_iload (q := 60) dX7_deal_58 (kk := ?_)
    refine v_cV1 (N := mX7_whoOn) (q := 63) lX7_93 iX7_whoOn kX7_whoOn (by assumption) dX7_deal_60 (s_whoOn hm hwho hnp ?_)
    rw [hN]
    cases hf : whoF N np (nI ((s + i) % 30)) with
    | some p => rw [hf] at h3; cases h3
    | none =>
      refine v_if_ltT 78 dX7_deal_63 (by decide) (kt := ?_)
      exact hV
  | succ j ih =>
    intro i hi
    have h3 := fst0_before 30 0 k hk i (by omega) (by omega)
    refine v_aload_n (q := 58) dX7_deal_57 (kk := ?_)
    refine v_iload (q := 60) dX7_deal_58 (kk := ?_)
    refine v_cV1 (N := mX7_whoOn) (q := 63) lX7_93 iX7_whoOn kX7_whoOn (by assumption) dX7_deal_60 (s_whoOn hm hwho hnp ?_)
    rw [hN]
    cases hf : whoF N np (nI ((s + i) % 30)) with
    | none => rw [hf] at h3; cases h3
    | some p =>
      have hp := (fst0_some np 0 p hf).2.1
      refine v_if_ltF (q := 66) (t := 78) dX7_deal_63 (nI_pos (by omega)) (kf := ?_)
      refine v_iload (q := 68) dX7_deal_66 (kk := ?_)
      refine v_iconst (v := 1) (q := 69) dX7_deal_68 (kk := ?_)
      refine v_iadd (q := 70) dX7_deal_69 (kk := ?_)
      rw [nI_1]
      refine v_bipush (v := 30) (q := 72) dX7_deal_70 (kk := ?_)
      refine v_iremN (q := 73) (n := 30) (by omega) (by omega) (by omega) dX7_deal_72 (kk := ?_)
      rw [show ((s + i) % 30 + 1) % 30 = (s + (i + 1)) % 30 by omega]
      refine v_istore5 (q := 75) dX7_deal_73 (kk := ?_)
      refine v_goto 57 dX7_deal_75 (kt := ?_)
      exact ih (i + 1) (by omega)
theorem mdeal_loop {n : Nat} (hm : MG S R m) (hw : WF N np nb nt sec) (hn : n ≤ 10) (hQ : ∀ I' : hcI, Fm m I I' → I' (m + 1) = lotsF N np (min n (10 - np)) → Q (some (.int (nI (min n (10 - np))))) S I' R z) (k : Nat) : ∀ (i : Nat) (I' : hcI), i + k = min n (10 - np) → Fm m I I' → I' (m + 1) = lotsF N np i → V g mX7_deal 2 0 0 S I' R z 15 [some (.ref m), some (.int (nI n)), some (.int (nI i)), none, none, none, none] [] Q := by
  have s0 := hm.s0
  have sn := hm.s_now
  have rn := hm.r_now
  have hnp := hw.1.2
  induction k with
  | zero =>
    intro i I' hi hF hN'
    have fin : V g mX7_deal 2 0 0 S I' R z 95 [some (.ref m), some (.int (nI n)), some (.int (nI i)), none, none, none, none] [] Q := by
      refine v_iload_n (q := 96) dX7_deal_95 (kk := ?_)
      refine v_iret dX7_deal_96 (hQ := ?_)
      rw [show i = min n (10 - np) by omega] at hN' ⊢
      exact hQ I' hF hN'
    refine v_iload_n (q := 16) dX7_deal_15 (kk := ?_)
    refine v_iload_n (q := 17) dX7_deal_16 (kk := ?_)
    by_cases c : i = n
    · refine v_icmp_geT 95 dX7_deal_17 (by rw [c]; exact Int32.le_refl _) (kt := ?_)
      exact fin
    · refine v_icmp_geF (q := 20) (t := 95) dX7_deal_17 (fun h => by have := (nI_leI (by omega) (by omega)).mp h; omega) (kf := ?_)
      refine v_aload_n (q := 21) dX7_deal_20 (kk := ?_)
      refine v_getR (q := 24) fX7_9 (by assumption) (by assumption) (hd := dX7_deal_21) (kk := ?_)
      refine v_iconst (v := 1) (q := 25) dX7_deal_24 (kk := ?_)
      refine v_ialdE (q := 26) (1) (by rfl) (by assumption) (by omega) (by omega) (hd := dX7_deal_25) (kk := ?_)
      rw [hN', (lotsF_WF hw i (by omega)).1.1]
      refine v_bipush (v := 10) (q := 28) dX7_deal_26 (kk := ?_)
      refine v_icmp_geT 95 dX7_deal_28 (nI_le (a := 10) (by omega) (by omega)) (kt := ?_)
      exact fin
  | succ k ih =>
    intro i I' hi hF hN'
    have hwi := lotsF_WF hw i (by omega)
    have l1 := dvF_lt (drF (lotsF N np i 0))
    have l2 := dvF_lt (drF (drF (lotsF N np i 0)))
    have l3 := dvF_lt (drF (drF (drF (lotsF N np i 0))))
    refine v_iload_n (q := 16) dX7_deal_15 (kk := ?_)
    refine v_iload_n (q := 17) dX7_deal_16 (kk := ?_)
    refine v_icmp_geF (q := 20) (t := 95) dX7_deal_17 (fun h => by have := (nI_leI (by omega) (by omega)).mp h; omega) (kf := ?_)
    refine v_aload_n (q := 21) dX7_deal_20 (kk := ?_)
    refine v_getR (q := 24) fX7_9 (by assumption) (by assumption) (hd := dX7_deal_21) (kk := ?_)
    refine v_iconst (v := 1) (q := 25) dX7_deal_24 (kk := ?_)
    refine v_ialdE (q := 26) (1) (by rfl) (by assumption) (by omega) (by omega) (hd := dX7_deal_25) (kk := ?_)
    rw [hN', hwi.1.1]
    refine v_bipush (v := 10) (q := 28) dX7_deal_26 (kk := ?_)
    refine v_icmp_geF (q := 31) (t := 95) dX7_deal_28 (fun h => by have := (nI_leI (a := 10) (by omega) (by omega)).mp h; omega) (kf := ?_)
    refine v_aload_n (q := 32) dX7_deal_31 (kk := ?_)
    refine v_cV0 (N := mX7_draw) (q := 35) lX7_142 iX7_draw kX7_draw (by assumption) dX7_deal_32 (s_mdraw hm hN' (fun I1 hF1 hN1 => ?_))
    refine v_bipush (v := 6) (q := 37) dX7_deal_35 (kk := ?_)
    refine v_iremN (q := 38) (n := 6) (by omega) (by omega) (by omega) dX7_deal_37 (kk := ?_)
    refine v_istore3 (q := 39) dX7_deal_38 (kk := ?_)
    refine v_aload_n (q := 40) dX7_deal_39 (kk := ?_)
    refine v_cV0 (N := mX7_draw) (q := 43) lX7_142 iX7_draw kX7_draw (by assumption) dX7_deal_40 (s_mdraw hm hN1 (fun I2 hF2 hN2 => ?_))
    rw [upd_at] at hN2 ⊢
    refine v_bipush (v := 100) (q := 45) dX7_deal_43 (kk := ?_)
    refine v_iremN (q := 46) (n := 100) (by omega) (by omega) (by omega) dX7_deal_45 (kk := ?_)
    refine v_istore4 (q := 48) dX7_deal_46 (kk := ?_)
    refine v_aload_n (q := 49) dX7_deal_48 (kk := ?_)
    refine v_cV0 (N := mX7_draw) (q := 52) lX7_142 iX7_draw kX7_draw (by assumption) dX7_deal_49 (s_mdraw hm hN2 (fun I3 hF3 hN3 => ?_))
    rw [upd_at] at hN3 ⊢
    refine v_bipush (v := 30) (q := 54) dX7_deal_52 (kk := ?_)
    refine v_iremN (q := 55) (n := 30) (by omega) (by omega) (by omega) dX7_deal_54 (kk := ?_)
    refine v_istore5 (q := 57) dX7_deal_55 (kk := ?_)
    have hN3' : I3 (m + 1) = lotN (lotsF N np i) := hN3
    have hw3 : WF (lotN (lotsF N np i)) (np + i) nb nt sec := lotN_WF hwi
    have hs30 : dvF (drF (drF (drF (lotsF N np i 0)))) % 30 < 30 := Nat.mod_lt _ (by omega)
    obtain ⟨k3, hk3⟩ := frS_some (N := lotN (lotsF N np i)) (np := np + i) (by omega) hs30
    have hfr : frS (lotN (lotsF N np i)) (np + i) (dvF (drF (drF (drF (lotsF N np i 0)))) % 30) = (dvF (drF (drF (drF (lotsF N np i 0)))) % 30 + k3) % 30 := by
      unfold frS
      rw [hk3]
    have e0 : dvF (drF (drF (drF (lotsF N np i 0)))) % 30 = (dvF (drF (drF (drF (lotsF N np i 0)))) % 30 + 0) % 30 := by omega
    have go := mfree_loop (g := g) (z := z) (Q := Q) (x := nI n) (y := nI i) (u := nI (dvF (drF (lotsF N np i 0)) % 6)) (w := nI (dvF (drF (drF (lotsF N np i 0))) % 100)) (o := none) hm hN3' hw3.1.1 (by omega) hs30 hk3 ?_ k3 0 (by omega)
    · rw [← e0] at go
      exact go
    · rw [← hfr]
      refine v_aload_n (q := 79) dX7_deal_78 (kk := ?_)
      refine v_iload_n (q := 80) dX7_deal_79 (kk := ?_)
      refine v_iload (q := 82) dX7_deal_80 (kk := ?_)
      refine v_iload (q := 84) dX7_deal_82 (kk := ?_)
      refine v_cV3 (N := mX7_comes) (q := 87) lX7_99 iX7_comes kX7_comes (by assumption) dX7_deal_84 (s_mcomes hm hN3' hw3.1.1 (by omega) (fun I4 hF4 hN4 => ?_))
      refine v_istore6 (q := 89) dX7_deal_87 (kk := ?_)
      refine v_iinc2 (q := 92) dX7_deal_89 (hv := nI_1 i) (kk := ?_)
      refine v_goto 15 dX7_deal_92 (kt := ?_)
      refine v_drop3 (v_drop4 (v_drop5 (v_drop6 (ih (i + 1) I4 (by omega) (fun y a1 a2 a3 => ?_) hN4))))
      rw [hF4 y a1, hF3 y a1, hF2 y a1, hF1 y a1]
      exact hF y a1 a2 a3
theorem m_deal {n : Int32} (hm : MG S R m) (hN : I (m + 1) = N) (hn : MN N) (hQ : ∀ I' : hcI, Fm m I I' → I' (m + 1) = (spDeal N n).2 → Q (some (.int (spDeal N n).1)) S I' R z) : Cl g mX7_deal 2 0 0 S I R z [.ref m, .int n] Q := by
  have s0 := hm.s0
  obtain ⟨np, nb, nt, sec, hw⟩ := hn
  obtain ⟨e1, e2, e3, e4⟩ := hw.e
  refine Cl.go [some (.ref m), some (.int n), none, none, none, none, none] ?_
  refine v_iload_n (q := 1) dX7_deal_0 (kk := ?_)
  refine v_iconst (v := 1) (q := 2) dX7_deal_1 (kk := ?_)
  refine v_bipush (v := 10) (q := 4) dX7_deal_2 (kk := ?_)
  refine v_cS3 (N := mX7_in) (q := 7) lX7_76 sX7_in kX7_in dX7_deal_4 (s_in ?_)
  refine v_if_neB 13 (q := 10) dX7_deal_7 (kt := fun c => ?_) (kf := fun c => ?_)
  · obtain ⟨j, hj, rfl⟩ := nI_ofL (v := n) (lo := 1) (by decide) c.1
    have hj1 : 1 ≤ j := (nI_leI (a := 1) (by omega) hj).mp c.1
    have hj2 : j ≤ 10 := (nI_leI (b := 10) hj (by omega)).mp c.2
    have e : spDeal N (nI j) = (nI (min j (10 - np)), lotsF N np (min j (10 - np))) := by unfold spDeal dealN; rw [if_pos c, nI_clamp hj, e1]
    rw [e] at hQ
    refine v_iconst (v := 0) (q := 14) dX7_deal_13 (kk := ?_)
    refine v_istore2 (q := 15) dX7_deal_14 (kk := ?_)
    exact mdeal_loop hm hw.1 hj2 hQ (min j (10 - np)) 0 I (by omega) Fm.rfl hN
  · have e : spDeal N n = (-1000000001, N) := by unfold spDeal; rw [if_neg c]
    rw [e] at hQ
    refine v_ldc (q := 12) cX7_92 dX7_deal_10 (kk := ?_)
    refine v_iret dX7_deal_12 (hQ := ?_)
    exact hQ I Fm.rfl hN
end C4
