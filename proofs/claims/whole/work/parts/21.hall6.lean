def comeF (N : hN) (np : Nat) (k s w : Int32) : hN := fun i => if i = 33 + 6 * np then k else if i = 33 + 6 * np + 1 then s else if i = 33 + 6 * np + 2 then w else if i = 33 + 6 * np + 3 ∨ i = 33 + 6 * np + 4 ∨ i = 33 + 6 * np + 5 then 0 else if i = 1 then nI (np + 1) else N i
theorem comeF_ne {N : hN} {np i : Nat} {k s w : Int32} (h : ∀ j, j < 6 → i ≠ 33 + 6 * np + j) (h1 : i ≠ 1) : comeF N np k s w i = N i := by
  have a0 := h 0 (by omega)
  have a1 := h 1 (by omega)
  have a2 := h 2 (by omega)
  have a3 := h 3 (by omega)
  have a4 := h 4 (by omega)
  have a5 := h 5 (by omega)
  rw [Nat.add_zero] at a0
  simp [comeF, a0, a1, a2, a3, a4, a5, h1]
theorem comeF_1 {N : hN} {np : Nat} {k s w : Int32} : comeF N np k s w 1 = nI (np + 1) := by
  have a : ∀ j, 1 ≠ 33 + 6 * np + j := fun j => by omega
  have a0 : 1 ≠ 33 + 6 * np := by omega
  simp [comeF, a, a0]
theorem comeF_p {N : hN} {np : Nat} {k s w : Int32} : comeF N np k s w (33 + 6 * np) = k ∧ comeF N np k s w (33 + 6 * np + 1) = s ∧ comeF N np k s w (33 + 6 * np + 2) = w ∧ comeF N np k s w (33 + 6 * np + 3) = 0 ∧ comeF N np k s w (33 + 6 * np + 4) = 0 ∧ comeF N np k s w (33 + 6 * np + 5) = 0 := by
  refine ⟨?_, ?_, ?_, ?_, ?_, ?_⟩ <;> simp [comeF]
theorem comeF_WF {N : hN} {np nb nt sec k s w : Nat} (h : WF N np nb nt sec) (hnp : np < 10) (hk : k < 6) (hs : s < 30) (hw : w < 100) : WF (comeF N np (nI k) (nI s) (nI w)) (np + 1) nb nt sec := by
  obtain ⟨a1, a2, a3, a4, a5, a6, a7, a8, a9, a10, a11⟩ := h
  have hne : ∀ i, (i < 33 ∨ 93 ≤ i) → i ≠ 1 → comeF N np (nI k) (nI s) (nI w) i = N i := fun i hi h1 => comeF_ne (fun j hj => by omega) h1
  refine ⟨⟨comeF_1, by omega⟩, by rw [hne 2 (by omega) (by omega)]; exact a2, by rw [hne 8 (by omega) (by omega)]; exact a3, by rw [hne 3 (by omega) (by omega)]; exact a4, by rw [hne 4 (by omega) (by omega)]; exact a5, ?_, by rw [hne 6 (by omega) (by omega)]; exact a7, by rw [hne 7 (by omega) (by omega)]; exact a8, fun j hj => by rw [hne (9 + j) (by omega) (by omega)]; exact a9 j hj, fun p hp => ?_, fun t ht => ?_⟩
  · obtain ⟨x, e, hx⟩ := a6
    refine ⟨x, by rw [hne 5 (by omega) (by omega)]; exact e, ?_⟩
    rw [Nat.pow_succ]
    omega
  · by_cases e : p = np
    · subst e
      obtain ⟨c0, c1, c2, c3, c4, c5⟩ := comeF_p (N := N) (np := p) (k := nI k) (s := nI s) (w := nI w)
      exact ⟨⟨k, c0, hk⟩, ⟨s, c1, hs⟩, ⟨w, c2, hw⟩, ⟨0, c3, by omega⟩, ⟨0, c4, by omega⟩, ⟨0, c5, by omega⟩⟩
    · exact PW_congr (a10 p (by omega)) (fun j hj => comeF_ne (fun j' hj' => by omega) (by omega))
  · obtain ⟨key, cn, lv, q⟩ := a11 t ht
    exact ⟨key, cn, lv, TW_congr (fun i hi => hne i (by omega) (by omega)) q⟩
def drF (z : Int32) : Int32 := z * 1103515245 + 12345
def dvF (z : Int32) : Nat := z.toBitVec.toNat / 256
theorem dvF_lt (z : Int32) : dvF z < 2 ^ 24 := by
  unfold dvF
  have := z.toBitVec.isLt
  omega
theorem dv_eq (z : Int32) : (z.toUInt32 >>> ((8 : Int32).toUInt32 &&& Int32.toUInt32 31)).toInt32 = nI (dvF z) := by
  have h := pk_ushr z 8 8 (by decide)
  have h2 := dvF_lt z
  have e : (nI (dvF z)).toBitVec.toNat = dvF z := pk_tn (by omega)
  have : ∀ x y : Int32, x.toBitVec.toNat = y.toBitVec.toNat → x = y := fun x y hxy => Int32.toBitVec_inj.mp (BitVec.eq_of_toNat_eq hxy)
  refine this _ _ ?_
  rw [h, e]
  rfl
def frS (N : hN) (np s : Nat) : Nat := match fst0 (fun k => (whoF N np (nI ((s + k) % 30))).isNone) 0 30 with
  | none => s
  | some k => (s + k) % 30
theorem frS_lt {N : hN} {np s : Nat} (h : s < 30) : frS N np s < 30 := by
  unfold frS
  split
  · exact h
  · exact Nat.mod_lt _ (by omega)
def lotN (N : hN) : hN := upd (upd (upd N 0 (drF (N 0))) 0 (drF (drF (N 0)))) 0 (drF (drF (drF (N 0))))
def lotF (N : hN) (np : Nat) : hN := comeF (lotN N) np (nI (dvF (drF (N 0)) % 6)) (nI (frS (lotN N) np (dvF (drF (drF (drF (N 0)))) % 30))) (nI (dvF (drF (drF (N 0))) % 100))
theorem WF.z {N : hN} {np nb nt sec : Nat} {v : Int32} (h : WF N np nb nt sec) : WF (upd N 0 v) np nb nt sec := by
  have hne : ∀ i, i ≠ 0 → upd N 0 v i = N i := fun i hi => upd_ne hi
  refine h.of (fun i hi => hne i (by omega)) (hne 1 (by omega)) (hne 2 (by omega)) (hne 8 (by omega)) (hne 6 (by omega)) (hne 7 (by omega)) (fun k hk => hne _ (by omega)) ⟨by rw [hne 3 (by omega)]; exact h.2.2.2.1.1, h.2.2.2.1.2⟩ (by rw [hne 4 (by omega)]; exact h.2.2.2.2.1) (by rw [hne 5 (by omega)]; exact h.2.2.2.2.2.1) (fun p hp => PW_congr (h.2.2.2.2.2.2.2.2.2.1 p hp) (fun j hj => hne _ (by omega)))
theorem lotN_WF {N : hN} {np nb nt sec : Nat} (h : WF N np nb nt sec) : WF (lotN N) np nb nt sec := h.z.z.z
theorem lotF_WF {N : hN} {np nb nt sec : Nat} (h : WF N np nb nt sec) (hnp : np < 10) : WF (lotF N np) (np + 1) nb nt sec := comeF_WF (lotN_WF h) hnp (Nat.mod_lt _ (by omega)) (frS_lt (Nat.mod_lt _ (by omega))) (Nat.mod_lt _ (by omega))
def lotsF (N : hN) (np : Nat) : Nat → hN
  | 0 => N
  | n + 1 => lotF (lotsF N np n) (np + n)
theorem lotsF_WF {N : hN} {np nb nt sec : Nat} (h : WF N np nb nt sec) : ∀ n, np + n ≤ 10 → WF (lotsF N np n) (np + n) nb nt sec
  | 0, _ => h
  | n + 1, hn => lotF_WF (lotsF_WF h n (by omega)) (by omega)
def swapF (N : hN) (p q : Nat) : hN := upd (upd N (33 + 6 * p + 1) (N (33 + 6 * q + 1))) (33 + 6 * q + 1) (N (33 + 6 * p + 1))
section H6
variable {g : hcG} {S : hcS} {I : hcI} {R : hcR} {z : Nat} {Q : hcQ} {b a np nb nt sec : Nat} {N : hN}
theorem s_comes {k s w : Int32} (hk : HSk S R a) (hd : HD S I R b a N np nb nt) (hab : a + 15 ≤ b + 103) (hw : WF N np nb nt sec) (hnp : np < 10) (hQ : ∀ I' : hcI, Fa a I I' → HD S I' R b a (comeF N np k s w) (np + 1) nb nt → Q (some (.int (nI np))) S I' R z) : Cl g mX0_comes 1 0 0 S I R z [.ref a, .int k, .int s, .int w] Q := by
  have hk' := hk
  obtain ⟨s0, s1, s2, s3, s4, r0, r1, r2, r3, sp⟩ := hk'
  have e : I a 4 = nI np := hd.1.1.trans hw.1.1
  have hsp := (sp np hnp).1
  have hrp := (sp np hnp).2
  have hnb := hw.2.1.2.2
  refine Cl.go [some (.ref a), some (.int k), some (.int s), some (.int w)] ?_
  refine v_aload_n (q := 1) dX0_comes_0 (kk := ?_)
  refine v_getR (q := 4) fX0_11 (by assumption) (by assumption) (hd := dX0_comes_1) (kk := ?_)
  refine v_aload_n (q := 5) dX0_comes_4 (kk := ?_)
  refine v_getI (q := 8) fX0_44 (by assumption) (hd := dX0_comes_5) (kk := ?_)
  rw [e]
  refine v_aaldn (q := 9) (by assumption) (by assumption) (by omega) (by omega) (hd := dX0_comes_8) (kk := ?_)
  refine v_iload_n (q := 10) dX0_comes_9 (kk := ?_)
  refine v_iload_n (q := 11) dX0_comes_10 (kk := ?_)
  refine v_iload_n (q := 12) dX0_comes_11 (kk := ?_)
  refine v_cV3 (N := mX1_comesNew) (q := 15) lX0_70 iX1_comesNew kX1_comesNew (by assumption) dX0_comes_12 (s_Person_comesNew hsp (fun I1 hF p0 p1 p2 p3 p4 p5 => ?_))
  refine v_aload_n (q := 16) dX0_comes_15 (kk := ?_)
  refine v_dup (q := 17) dX0_comes_16 (kk := ?_)
  refine v_getI (q := 20) fX0_44 (by assumption) (hd := dX0_comes_17) (kk := ?_)
  rw [show I1 a 4 = nI np by rw [hF a (by omega)]; exact e]
  refine v_iconst (v := 1) (q := 21) dX0_comes_20 (kk := ?_)
  refine v_iadd (q := 22) dX0_comes_21 (kk := ?_)
  rw [nI_1]
  refine v_putI (q := 25) fX0_44 (by assumption) (hd := dX0_comes_22) (kk := ?_)
  refine v_aload_n (q := 26) dX0_comes_25 (kk := ?_)
  refine v_getI (q := 29) fX0_44 (by assumption) (hd := dX0_comes_26) (kk := ?_)
  have e2 : hc_u I1 a 4 (nI (np + 1)) a 4 = nI (np + 1) := by simp [hc_u]
  rw [e2]
  refine v_iconst (v := 1) (q := 30) dX0_comes_29 (kk := ?_)
  refine v_isub (q := 31) dX0_comes_30 (kk := ?_)
  rw [nI_pred]
  refine v_iret dX0_comes_31 (hQ := ?_)
  have hN : ∀ i, (i < 33 ∨ 93 ≤ i) → i ≠ 1 → comeF N np k s w i = N i := fun i hi h1 => comeF_ne (fun j hj => by omega) h1
  refine hQ _ (fun y hy => ?_) ⟨?_, fun j hj => ?_, fun p hp j hj => ?_, fun j hj => ?_, fun t ht => ?_⟩
  · rw [hc_u_ne (by omega)]
    exact hF y (by omega)
  · obtain ⟨d1, d2, d3, d4, d5, d6, d7, d8, d9⟩ := hd.1
    rw [comeF_1, hN 2 (by omega) (by omega), hN 8 (by omega) (by omega), hN 6 (by omega) (by omega), hN 7 (by omega) (by omega), hN 3 (by omega) (by omega), hN 4 (by omega) (by omega), hN 5 (by omega) (by omega), hN 0 (by omega) (by omega), hc_u_at, hF a (by omega)]
    simp [upd, d2, d3, d4, d5, d6, d7, d8, d9]
  · rw [hc_u_ne (by omega), hF _ (by omega), hN _ (by omega) (by omega)]
    exact hd.2.1 j hj
  · rw [hc_u_ne (by omega)]
    by_cases ep : p = np
    · subst ep
      obtain ⟨c0, c1, c2, c3, c4, c5⟩ := comeF_p (N := N) (np := p) (k := k) (s := s) (w := w)
      rcases hc_lt6 hj with rfl | rfl | rfl | rfl | rfl | rfl
      · rw [p0]; exact c0.symm
      · rw [p1, c1]
      · rw [p2, c2]
      · rw [p3, c3]
      · rw [p4, c4]
      · rw [p5, c5]
    · rw [hF _ (by omega), comeF_ne (fun j' hj' => by omega) (by omega)]
      exact hd.2.2.1 p (by omega) j hj
  · rw [hc_u_ne (by omega), hF _ (by omega), cntF_congr (fun i hi => hN i (by omega) (by omega))]
    exact hd.2.2.2.1 j hj
  · obtain ⟨x, hx, htx⟩ := hd.2.2.2.2 t ht
    exact ⟨x, hx, (htx.keep (fun y hy hy2 => by rw [hc_u_ne (by omega), hF y (by omega)])).toN (fun i hi => hN i (by omega) (by omega))⟩
theorem s_draw (hk : HSk S R a) (hd : HD S I R b a N np nb nt) (hab : a + 15 ≤ b + 103) (hw : WF N np nb nt sec) (hQ : ∀ I' : hcI, Fa a I I' → HD S I' R b a (upd N 0 (drF (N 0))) np nb nt → Q (some (.int (nI (dvF (drF (N 0)))))) S I' R z) : Cl g mX0_draw 0 0 0 S I R z [.ref a] Q := by
  have hk' := hk
  obtain ⟨s0, -⟩ := hk'
  have hnb := hw.2.1.2.2
  have e : I a 12 = N 0 := hd.1.2.2.2.2.2.2.2.2
  refine Cl.go [some (.ref a)] ?_
  refine v_aload_n (q := 1) dX0_draw_0 (kk := ?_)
  refine v_aload_n (q := 2) dX0_draw_1 (kk := ?_)
  refine v_getI (q := 5) fX0_40 (by assumption) (hd := dX0_draw_2) (kk := ?_)
  rw [e]
  refine v_ldc (q := 7) cX0_86 dX0_draw_5 (kk := ?_)
  refine v_imul (q := 8) dX0_draw_7 (kk := ?_)
  refine v_sipush (v := 12345) (q := 11) dX0_draw_8 (kk := ?_)
  refine v_iadd (q := 12) dX0_draw_11 (kk := ?_)
  refine v_putI (q := 15) fX0_40 (by assumption) (hd := dX0_draw_12) (kk := ?_)
  refine v_aload_n (q := 16) dX0_draw_15 (kk := ?_)
  refine v_getI (q := 19) fX0_40 (by assumption) (hd := dX0_draw_16) (kk := ?_)
  have e2 : hc_u I a 12 (N 0 * 1103515245 + 12345) a 12 = drF (N 0) := by simp [hc_u, drF]
  rw [e2]
  refine v_bipush (v := 8) (q := 21) dX0_draw_19 (kk := ?_)
  refine v_iushr (q := 22) dX0_draw_21 (hv := dv_eq _) (kk := ?_)
  refine v_iret dX0_draw_22 (hQ := ?_)
  exact hQ _ (fun y hy => hc_u_ne (by omega)) (hd.fld hab hnb (by omega))
theorem freeSeat_loop {s : Nat} (hk : HSk S R a) (hd : HD S I R b a N np nb nt) (hw : WF N np nb nt sec) (hs : s < 30) (k : Nat) : ∀ i, i + k = 30 → Q (some (.int (nI (match fst0 (fun k => (whoF N np (nI ((s + k) % 30))).isNone) i k with | none => s | some k => (s + k) % 30)))) S I R z → V g mX0_freeSeatFrom 1 0 0 S I R z 2 [some (.ref a), some (.int (nI s)), some (.int (nI i)), none] [] Q := by
  have hk' := hk
  obtain ⟨s0, -⟩ := hk'
  have hnp := hw.1.2
  induction k with
  | zero =>
    intro i hi hQ
    have e2 : i = 30 := by omega
    subst e2
    refine v_iload_n (q := 3) dX0_freeSeatFrom_2 (kk := ?_)
    refine v_bipush (v := 30) (q := 5) dX0_freeSeatFrom_3 (kk := ?_)
    refine v_icmp_geT 31 dX0_freeSeatFrom_5 (by decide) (kt := ?_)
    refine v_iload_n (q := 32) dX0_freeSeatFrom_31 (kk := ?_)
    refine v_iret dX0_freeSeatFrom_32 (hQ := ?_)
    exact hQ
  | succ k ih =>
    intro i hi hQ
    simp only [fst0] at hQ
    refine v_iload_n (q := 3) dX0_freeSeatFrom_2 (kk := ?_)
    refine v_bipush (v := 30) (q := 5) dX0_freeSeatFrom_3 (kk := ?_)
    refine v_icmp_geF (q := 8) (t := 31) dX0_freeSeatFrom_5 (nI_ge (b := 30) (by omega) (by omega)) (kf := ?_)
    refine v_iload_n (q := 9) dX0_freeSeatFrom_8 (kk := ?_)
    refine v_iload_n (q := 10) dX0_freeSeatFrom_9 (kk := ?_)
    refine v_iadd (q := 11) dX0_freeSeatFrom_10 (kk := ?_)
    rw [nI_add]
    refine v_bipush (v := 30) (q := 13) dX0_freeSeatFrom_11 (kk := ?_)
    refine v_iremN (q := 14) (a := s + i) (n := 30) (by omega) (by omega) (by omega) dX0_freeSeatFrom_13 (kk := ?_)
    refine v_istore3 (q := 15) dX0_freeSeatFrom_14 (kk := ?_)
    refine v_aload_n (q := 16) dX0_freeSeatFrom_15 (kk := ?_)
    refine v_iload_n (q := 17) dX0_freeSeatFrom_16 (kk := ?_)
    refine v_cV1 (N := mX0_whoSits) (q := 20) lX0_87 iX0_whoSits kX0_whoSits (by assumption) dX0_freeSeatFrom_17 (s_whoSits hk hd hw ?_)
    cases hf : whoF N np (nI ((s + i) % 30)) with
    | none =>
      rw [if_pos (by rw [hf]; rfl)] at hQ
      refine v_if_geF (q := 23) (t := 25) dX0_freeSeatFrom_20 (by decide) (kf := ?_)
      refine v_iload_n (q := 24) dX0_freeSeatFrom_23 (kk := ?_)
      refine v_iret dX0_freeSeatFrom_24 (hQ := ?_)
      exact hQ
    | some p =>
      rw [if_neg (by rw [hf]; simp)] at hQ
      have hp := (fst0_some np 0 p hf).2.1
      refine v_if_geT 25 dX0_freeSeatFrom_20 (nI_pos' (by omega)) (kt := ?_)
      refine v_iinc2 (q := 28) dX0_freeSeatFrom_25 (hv := nI_1 i) (kk := ?_)
      refine v_goto 2 dX0_freeSeatFrom_28 (kt := ?_)
      refine v_drop3 ?_
      exact ih (i + 1) (by omega) hQ
theorem s_freeSeat {s : Nat} (hk : HSk S R a) (hd : HD S I R b a N np nb nt) (hw : WF N np nb nt sec) (hs : s < 30) (hQ : Q (some (.int (nI (frS N np s)))) S I R z) : Cl g mX0_freeSeatFrom 1 0 0 S I R z [.ref a, .int (nI s)] Q := by
  refine Cl.go [some (.ref a), some (.int (nI s)), none, none] ?_
  refine v_iconst (v := 0) (q := 1) dX0_freeSeatFrom_0 (kk := ?_)
  refine v_istore2 (q := 2) dX0_freeSeatFrom_1 (kk := ?_)
  exact freeSeat_loop hk hd hw hs 30 0 (by omega) hQ
theorem s_comesByLot (hk : HSk S R a) (hd : HD S I R b a N np nb nt) (hab : a + 15 ≤ b + 103) (hw : WF N np nb nt sec) (hnp : np < 10) (hQ : ∀ I' : hcI, Fa a I I' → HD S I' R b a (lotF N np) (np + 1) nb nt → Q none S I' R z) : Cl g mX0_comesByLot 2 0 0 S I R z [.ref a] Q := by
  have hk' := hk
  obtain ⟨s0, -⟩ := hk'
  have l1 := dvF_lt (drF (N 0))
  have l2 := dvF_lt (drF (drF (N 0)))
  have l3 := dvF_lt (drF (drF (drF (N 0))))
  refine Cl.go [some (.ref a), none, none, none] ?_
  refine v_aload_n (q := 1) dX0_comesByLot_0 (kk := ?_)
  refine v_cV0 (N := mX0_draw) (q := 4) lX0_74 iX0_draw kX0_draw (by assumption) dX0_comesByLot_1 (s_draw hk hd hab hw (fun I1 hF1 hd1 => ?_))
  refine v_bipush (v := 6) (q := 6) dX0_comesByLot_4 (kk := ?_)
  refine v_iremN (q := 7) (n := 6) (by omega) (by omega) (by omega) dX0_comesByLot_6 (kk := ?_)
  refine v_istore1 (q := 8) dX0_comesByLot_7 (kk := ?_)
  refine v_aload_n (q := 9) dX0_comesByLot_8 (kk := ?_)
  refine v_cV0 (N := mX0_draw) (q := 12) lX0_74 iX0_draw kX0_draw (by assumption) dX0_comesByLot_9 (s_draw hk hd1 hab hw.z (fun I2 hF2 hd2 => ?_))
  rw [upd_at] at hd2 ⊢
  refine v_bipush (v := 100) (q := 14) dX0_comesByLot_12 (kk := ?_)
  refine v_iremN (q := 15) (n := 100) (by omega) (by omega) (by omega) dX0_comesByLot_14 (kk := ?_)
  refine v_istore2 (q := 16) dX0_comesByLot_15 (kk := ?_)
  refine v_aload_n (q := 17) dX0_comesByLot_16 (kk := ?_)
  refine v_aload_n (q := 18) dX0_comesByLot_17 (kk := ?_)
  refine v_cV0 (N := mX0_draw) (q := 21) lX0_74 iX0_draw kX0_draw (by assumption) dX0_comesByLot_18 (s_draw hk hd2 hab hw.z.z (fun I3 hF3 hd3 => ?_))
  rw [upd_at] at hd3 ⊢
  refine v_bipush (v := 30) (q := 23) dX0_comesByLot_21 (kk := ?_)
  refine v_iremN (q := 24) (n := 30) (by omega) (by omega) (by omega) dX0_comesByLot_23 (kk := ?_)
  have hw3 : WF (lotN N) np nb nt sec := hw.z.z.z
  refine v_cV1 (N := mX0_freeSeatFrom) (q := 27) lX0_78 iX0_freeSeatFrom kX0_freeSeatFrom (by assumption) dX0_comesByLot_24 (s_freeSeat hk hd3 hw3 (Nat.mod_lt _ (by omega)) ?_)
  refine v_istore3 (q := 28) dX0_comesByLot_27 (kk := ?_)
  refine v_aload_n (q := 29) dX0_comesByLot_28 (kk := ?_)
  refine v_iload_n (q := 30) dX0_comesByLot_29 (kk := ?_)
  refine v_iload_n (q := 31) dX0_comesByLot_30 (kk := ?_)
  refine v_iload_n (q := 32) dX0_comesByLot_31 (kk := ?_)
  refine v_cV3 (N := mX0_comes) (q := 35) lX0_82 iX0_comes kX0_comes (by assumption) dX0_comesByLot_32 (s_comes hk hd3 hab hw3 hnp (fun I4 hF4 hd4 => ?_))
  refine v_pop (q := 36) dX0_comesByLot_35 (kk := ?_)
  refine v_vret dX0_comesByLot_36 (hQ := ?_)
  refine hQ I4 (fun y hy => ?_) hd4
  rw [hF4 y hy, hF3 y hy, hF2 y hy, hF1 y hy]
theorem s_swapSeats {p q : Nat} (hk : HSk S R a) (hd : HD S I R b a N np nb nt) (hab : a + 15 ≤ b + 103) (hw : WF N np nb nt sec) (hp : p < np) (hq : q < np) (hpq : p ≠ q) (hQ : ∀ I' : hcI, Fa a I I' → HD S I' R b a (swapF N p q) np nb nt → Q none S I' R z) : Cl g mX0_swapSeats 0 0 0 S I R z [.ref a, .int (nI p), .int (nI q)] Q := by
  have hk' := hk
  obtain ⟨s0, s1, s2, s3, s4, r0, r1, r2, r3, sp⟩ := hk'
  have hnp := hw.1.2
  have hnb := hw.2.1.2.2
  have sa := (sp p (by omega)).1
  have ra := (sp p (by omega)).2
  have so := (sp q (by omega)).1
  have ro := (sp q (by omega)).2
  have eP := hd.2.2.1 p hp
  have eQ := hd.2.2.1 q hq
  refine Cl.go [some (.ref a), some (.int (nI p)), some (.int (nI q)), none] ?_
  refine v_aload_n (q := 1) dX0_swapSeats_0 (kk := ?_)
  refine v_getR (q := 4) fX0_11 (by assumption) (by assumption) (hd := dX0_swapSeats_1) (kk := ?_)
  refine v_iload_n (q := 5) dX0_swapSeats_4 (kk := ?_)
  refine v_aaldn (q := 6) (by assumption) ra (by omega) (by omega) (hd := dX0_swapSeats_5) (kk := ?_)
  refine v_getI (q := 9) fX0_67 (by assumption) (hd := dX0_swapSeats_6) (kk := ?_)
  rw [eP 1 (by omega)]
  refine v_istore3 (q := 10) dX0_swapSeats_9 (kk := ?_)
  refine v_aload_n (q := 11) dX0_swapSeats_10 (kk := ?_)
  refine v_getR (q := 14) fX0_11 (by assumption) (by assumption) (hd := dX0_swapSeats_11) (kk := ?_)
  refine v_iload_n (q := 15) dX0_swapSeats_14 (kk := ?_)
  refine v_aaldn (q := 16) (by assumption) ra (by omega) (by omega) (hd := dX0_swapSeats_15) (kk := ?_)
  refine v_aload_n (q := 17) dX0_swapSeats_16 (kk := ?_)
  refine v_getR (q := 20) fX0_11 (by assumption) (by assumption) (hd := dX0_swapSeats_17) (kk := ?_)
  refine v_iload_n (q := 21) dX0_swapSeats_20 (kk := ?_)
  refine v_aaldn (q := 22) (by assumption) ro (by omega) (by omega) (hd := dX0_swapSeats_21) (kk := ?_)
  refine v_getI (q := 25) fX0_67 (by assumption) (hd := dX0_swapSeats_22) (kk := ?_)
  rw [eQ 1 (by omega)]
  refine v_putI (q := 28) fX0_67 (by assumption) (hd := dX0_swapSeats_25) (kk := ?_)
  refine v_aload_n (q := 29) dX0_swapSeats_28 (kk := ?_)
  refine v_getR (q := 32) fX0_11 (by assumption) (by assumption) (hd := dX0_swapSeats_29) (kk := ?_)
  refine v_iload_n (q := 33) dX0_swapSeats_32 (kk := ?_)
  refine v_aaldn (q := 34) (by assumption) ro (by omega) (by omega) (hd := dX0_swapSeats_33) (kk := ?_)
  refine v_iload_n (q := 35) dX0_swapSeats_34 (kk := ?_)
  refine v_putI (q := 38) fX0_67 (by assumption) (hd := dX0_swapSeats_35) (kk := ?_)
  refine v_vret dX0_swapSeats_38 (hQ := ?_)
  refine hQ _ (fun y hy => by rw [hc_u_ne (by omega), hc_u_ne (by omega)]) ?_
  have h1 : HD S (hc_u I (a + 5 + p) 1 (N (33 + 6 * q + 1))) R b a (upd N (33 + 6 * p + 1) (N (33 + 6 * q + 1))) np nb nt := by
    refine hd.person (p := p) hab hp hnp hnb (fun y hy _ => hc_u_ne hy) (fun i hi => upd_ne (hi 1 (by omega))) (fun j hj => ?_)
    rw [hc_u_at]
    by_cases ej : j = 1
    · subst ej
      rw [upd_at, upd_at]
    · rw [upd_ne ej, upd_ne (by omega)]
      exact eP j hj
  refine h1.person (p := q) hab hq hnp hnb (fun y hy _ => hc_u_ne hy) (fun i hi => upd_ne (hi 1 (by omega))) (fun j hj => ?_)
  unfold swapF
  rw [hc_u_at]
  by_cases ej : j = 1
  · subst ej
    rw [upd_at, upd_at]
  · rw [upd_ne ej, upd_ne (j := 33 + 6 * q + j) (by omega)]
    exact h1.2.2.1 q hq j hj
end H6
theorem swapF_WF {N : hN} {np nb nt sec p q : Nat} (h : WF N np nb nt sec) (hp : p < np) (hq : q < np) (hpq : p ≠ q) : WF (swapF N p q) np nb nt sec := by
  have hnp := h.1.2
  have hnb := h.2.1.2.2
  have hne : ∀ i, i ≠ 33 + 6 * p + 1 → i ≠ 33 + 6 * q + 1 → swapF N p q i = N i := fun i h1 h2 => by
    unfold swapF
    rw [upd_ne h2, upd_ne h1]
  have ep : swapF N p q (33 + 6 * p + 1) = N (33 + 6 * q + 1) := by
    unfold swapF
    rw [upd_ne (by omega), upd_at]
  have eq : swapF N p q (33 + 6 * q + 1) = N (33 + 6 * p + 1) := by
    unfold swapF
    rw [upd_at]
  refine h.of (fun i hi => hne i (by omega) (by omega)) (hne 1 (by omega) (by omega)) (hne 2 (by omega) (by omega)) (hne 8 (by omega) (by omega)) (hne 6 (by omega) (by omega)) (hne 7 (by omega) (by omega)) (fun k hk => hne _ (by omega) (by omega)) ⟨by rw [hne 3 (by omega) (by omega)]; exact h.2.2.2.1.1, h.2.2.2.1.2⟩ (by rw [hne 4 (by omega) (by omega)]; exact h.2.2.2.2.1) (by rw [hne 5 (by omega) (by omega)]; exact h.2.2.2.2.2.1) (fun r hr => ?_)
  have hP := h.2.2.2.2.2.2.2.2.2.1 r hr
  by_cases e : r = p
  · subst e
    unfold PW
    rw [hne (33 + 6 * r) (by omega) (by omega), ep, hne (33 + 6 * r + 2) (by omega) (by omega), hne (33 + 6 * r + 3) (by omega) (by omega), hne (33 + 6 * r + 4) (by omega) (by omega), hne (33 + 6 * r + 5) (by omega) (by omega)]
    exact ⟨hP.1, (h.2.2.2.2.2.2.2.2.2.1 q hq).2.1, hP.2.2⟩
  · by_cases e2 : r = q
    · subst e2
      unfold PW
      rw [hne (33 + 6 * r) (by omega) (by omega), eq, hne (33 + 6 * r + 2) (by omega) (by omega), hne (33 + 6 * r + 3) (by omega) (by omega), hne (33 + 6 * r + 4) (by omega) (by omega), hne (33 + 6 * r + 5) (by omega) (by omega)]
      exact ⟨hP.1, (h.2.2.2.2.2.2.2.2.2.1 p hp).2.1, hP.2.2⟩
    · exact PW_congr hP (fun j hj => hne _ (by omega) (by omega))
