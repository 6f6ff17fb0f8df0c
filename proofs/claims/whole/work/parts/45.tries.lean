/-! the least of what is tried -/
def st (o : Option (Int32 × Int32)) (x v : Int32) : Option (Int32 × Int32) := match o with
  | none => some (x, v)
  | some (j, w) => if v < w then some (x, v) else some (j, w)
def amB (d : Int32) (o : Option (Int32 × Int32)) : Int32 := match o with
  | none => d
  | some (j, _) => j
def amL (d : Int32) (o : Option (Int32 × Int32)) : Int32 := match o with
  | none => d
  | some (_, w) => w
theorem st_lt {o : Option (Int32 × Int32)} {x v far : Int32} (h : v < amL far o) : st o x v = some (x, v) := by
  cases o with
  | none => rfl
  | some p =>
    obtain ⟨j, w⟩ := p
    exact if_pos h
theorem st_ge {o : Option (Int32 × Int32)} {x v far : Int32} (hv : v < far) (h : ¬ v < amL far o) : st o x v = o := by
  cases o with
  | none => exact absurd hv h
  | some p =>
    obtain ⟨j, w⟩ := p
    exact if_neg h
def sto (f : Nat → Int32) : Nat → Option (Int32 × Int32)
  | 0 => none
  | k + 1 => st (sto f k) (nI k) (f k)
theorem sto_some {f : Nat → Int32} : ∀ k, 0 < k → ∃ i w, sto f k = some (nI i, w) ∧ i < k
  | 0, h => by omega
  | 1, _ => ⟨0, f 0, rfl, by omega⟩
  | k + 2, _ => by
    obtain ⟨i, w, e, hi⟩ := sto_some (f := f) (k + 1) (by omega)
    by_cases c : f (k + 1) < w
    · exact ⟨k + 1, f (k + 1), by show st (sto f (k + 1)) _ _ = _; rw [e]; exact if_pos c, by omega⟩
    · exact ⟨i, w, by show st (sto f (k + 1)) _ _ = _; rw [e]; exact if_neg c, by omega⟩
theorem far_lt {v : Int32} {h : Nat} (e : v = nI h) (hh : h < 2147483647) : v < 2147483647 := by
  subst e
  exact nI_lt (b := 2147483647) hh (by omega)
theorem harm_lt {N : hN} {np nb nt sec n w : Nat} (h : WF N np nb nt sec) (hs : sec + n ≤ 110000) : behW np nb nt sec N n 1 < 2147483647 := by
  obtain ⟨k, e, hk⟩ := (secsF_WF h n hs).2.2.2.2.1
  refine far_lt (h := k) e ?_
  have : 9999 * (sec + n) ≤ 9999 * 110000 := Nat.mul_le_mul_left _ hs
  omega
theorem sumC_le {N : hN} {sec : Nat} : ∀ p, (∀ q, q < p → PW N q sec) → ∃ k, sumC N p = nI k ∧ k ≤ p * sec
  | 0, _ => ⟨0, rfl, by omega⟩
  | p + 1, h => by
    obtain ⟨k, e, hk⟩ := sumC_le p (fun q hq => h q (by omega))
    obtain ⟨j, ej, hj⟩ := (h p (by omega)).2.2.2.2.2
    refine ⟨k + j, ?_, ?_⟩
    · show sumC N p + N (33 + 6 * p + 5) = _
      rw [e, ej, nI_add]
    · rw [Nat.add_mul]
      omega
theorem cough_lt {N : hN} {np nb nt sec n : Nat} (h : WF N np nb nt sec) (hs : sec + n ≤ 110000) : behW np nb nt sec N n 0 < 2147483647 := by
  have hw := secsF_WF h n hs
  obtain ⟨k, e, hk⟩ := sumC_le np hw.2.2.2.2.2.2.2.2.2.1
  refine far_lt (h := k) e ?_
  have h1 : np * (sec + n) ≤ 10 * 110000 := Nat.mul_le_mul hw.1.2 hs
  omega
def rsF (np nb nt sec : Nat) (N : hN) (n k : Nat) : Int32 := behW np nb nt sec (upd N (9 + k) 0) n 1
def swF (np nb nt sec : Nat) (N : hN) (n k : Nat) : Int32 := behW np nb nt sec (upd N (33 + 6 * k + 4) 40) n 1
def spRest (N : hN) (n : Int32) : Int32 := if 1 ≤ n ∧ n ≤ 60 then amB 0 (sto (rsF (npN N) (nbN N) (ntN N) (scN N) N n.toNatClampNeg) (nbN N)) else -1000000001
def spSweet (N : hN) (n : Int32) : Int32 := if 1 ≤ n ∧ n ≤ 60 then amB (-1000000005) (sto (swF (npN N) (nbN N) (ntN N) (scN N) N n.toNatClampNeg) (npN N)) else -1000000001
theorem HD.keepT {S : hcS} {I I' : hcI} {R R' : hcR} {b np nb nt sec : Nat} {N : hN} (hd : HD S I R b (b + 1) N np nb nt) (hw : WF N np nb nt sec) (hF : Fh b (b + 31) I I') (hR : Fr b R R') : HD S I' R' b (b + 1) N np nb nt := (hd.keepR hR (by omega) (by omega)).keep hw.1.2 (fun y h1 h2 => hF y (by omega) (by unfold stk; omega)) (fun y h1 h2 => hF y (by omega) h2)
theorem Fh.becs {b : Nat} {I I' I'' : hcI} (h : Fh b (b + 31) I I') (h' : Fa (b + 31) I' I'') : Fh b (b + 31) I I'' := Fh.trans h h'.h
theorem nI_ne5 {k : Nat} (h : k < 2 ^ 31) : ¬ nI k = -1000000005 := fun e => by
  have := nI_pos h
  rw [e] at this
  exact this (by decide)
section T2
variable {g : hcG} {S : hcS} {I : hcI} {R : hcR} {z : Nat} {Q : hcQ} {b m np nb nt sec : Nat} {N : hN}
theorem rest_loop {n : Nat} {far : Int32} (hw : XW N np nb nt sec) (hd0 : HD S I R b (b + 1) N np nb nt) (hn : n ≤ 60) (hf : ∀ k, k < nb → rsF np nb nt sec N n k < far) (hQ : ∀ (I' : hcI) (R' : hcR), Fh b (b + 31) I I' → Fr b R R' → Q (some (.int (amB 0 (sto (rsF np nb nt sec N n) nb)))) S I' R' z) (k : Nat) : ∀ (i : Nat) (I1 : hcI) (R1 : hcR), i + k = nb → Fh b (b + 31) I I1 → Fr b R R1 → XSk S R1 b → V g mX6_rest 6 0 0 S I1 R1 z 22 [some (.ref b), some (.int (nI n)), some (.int (amB 0 (sto (rsF np nb nt sec N n) i))), some (.int (amL far (sto (rsF np nb nt sec N n) i))), some (.int (nI i))] [] Q := by
  have hnb := hw.1.2.1.2.2
  induction k with
  | zero =>
    intro i I1 R1 hi hF hR hx
    obtain rfl : i = nb := by omega
    have hd := hd0.keepT hw.1 hF hR
    have d2 : I1 (b + 1) 5 = nI i := hd.1.2.1.trans hw.1.2.1.1
    obtain ⟨⟨s0, r0, -, r2, -⟩, ⟨hk1, -, hk3⟩, -⟩ := hx
    have sh := hk1.1
    refine v_iload (q := 24) dX6_rest_22 (kk := ?_)
    refine v_aload_n (q := 25) dX6_rest_24 (kk := ?_)
    refine v_getR (q := 28) fX6_12 (by assumption) (by assumption) (hd := dX6_rest_25) (kk := ?_)
    refine v_getI (q := 31) fX6_144 (by assumption) (hd := dX6_rest_28) (kk := ?_)
    rw [d2]
    refine v_icmp_geT 93 dX6_rest_31 (Int32.le_refl _) (kt := ?_)
    refine v_iload_n (q := 94) dX6_rest_93 (kk := ?_)
    refine v_iret dX6_rest_94 (hQ := ?_)
    exact hQ I1 R1 hF hR
  | succ k ih =>
    intro i I1 R1 hi hF hR hx
    have hd := hd0.keepT hw.1 hF hR
    have d2 : I1 (b + 1) 5 = nI nb := hd.1.2.1.trans hw.1.2.1.1
    have hx' := hx
    obtain ⟨⟨s0, r0, -, r2, -⟩, ⟨hk1, -, hk3⟩, -⟩ := hx'
    have sh := hk1.1
    have sh3 := hk3.1
    refine v_iload (q := 24) dX6_rest_22 (kk := ?_)
    refine v_aload_n (q := 25) dX6_rest_24 (kk := ?_)
    refine v_getR (q := 28) fX6_12 (by assumption) (by assumption) (hd := dX6_rest_25) (kk := ?_)
    refine v_getI (q := 31) fX6_144 (by assumption) (hd := dX6_rest_28) (kk := ?_)
    rw [d2]
    refine v_icmp_geF (q := 34) (t := 93) dX6_rest_31 (fun h => by have := (nI_leI (by omega) (by omega)).mp h; omega) (kf := ?_)
    refine v_aload_n (q := 35) dX6_rest_34 (kk := ?_)
    refine v_getR (q := 38) fX6_19 (by assumption) (by assumption) (hd := dX6_rest_35) (kk := ?_)
    refine v_aload_n (q := 39) dX6_rest_38 (kk := ?_)
    refine v_getR (q := 42) fX6_12 (by assumption) (by assumption) (hd := dX6_rest_39) (kk := ?_)
    refine v_cV1 (N := mX0_becomes) (q := 45) lX6_159 iX0_becomes kX0_becomes (by assumption) dX6_rest_42 (s_Hall_becomes hk3 hk1 hd hw.1 (by omega) (by omega) (by omega) (fun I2 R2 hF2 hR2 hd2 => ?_))
    have hx2 : XSk S R2 b := hx.keepR hR2
    have hx2' := hx2
    obtain ⟨⟨-, r0', -, r2', -⟩, ⟨-, -, hk3'⟩, -⟩ := hx2'
    have s32 := hk3'.2.2.1
    have r31 := hk3'.2.2.2.2.2.2.1
    refine v_aload_n (q := 46) dX6_rest_45 (kk := ?_)
    refine v_getR (q := 49) fX6_19 (by assumption) (by assumption) (hd := dX6_rest_46) (kk := ?_)
    refine v_getR (q := 52) fX6_147 (by assumption) (by assumption) (hd := dX6_rest_49) (kk := ?_)
    refine v_iload (q := 54) dX6_rest_52 (kk := ?_)
    refine v_iconst (v := 0) (q := 55) dX6_rest_54 (kk := ?_)
    refine v_iastN (q := 56) (by assumption) (by omega) (by omega) (hd := dX6_rest_55) (kk := ?_)
    have hw1 : WF (upd N (9 + i) 0) np nb nt sec := (hw.l (v := 0) (by omega) (by omega)).1
    have hd3 : HD S (hc_u I2 (b + 31 + 2) i 0) R2 b (b + 31) (upd N (9 + i) 0) np nb nt := hd2.l (by omega) (by omega) hnb
    refine v_aload_n (q := 57) dX6_rest_56 (kk := ?_)
    refine v_getR (q := 60) fX6_19 (by assumption) (by assumption) (hd := dX6_rest_57) (kk := ?_)
    refine v_iload_n (q := 61) dX6_rest_60 (kk := ?_)
    refine v_cV1 (N := mX0_passSeconds) (q := 64) lX6_153 iX0_passSeconds kX0_passSeconds (by assumption) dX6_rest_61 (s_passSeconds hk3' hd3 (by omega) hw1 (by have := hw.2.1; omega) (fun I3 hF3 hd4 => ?_))
    have hF4 : Fh b (b + 31) I I3 := fun y h1 h2 => (hF3 y h1 h2).trans ((hc_u_ne (by omega)).trans ((hF2 y h1).trans (hF y h1 h2)))
    have hR4 : Fr b R R2 := Fr.trans hR hR2
    have e4 : I3 (b + 31) 10 = rsF np nb nt sec N n i := hd4.1.2.2.2.2.2.2.1
    have hs1 : sto (rsF np nb nt sec N n) (i + 1) = st (sto (rsF np nb nt sec N n) i) (nI i) (rsF np nb nt sec N n i) := rfl
    refine v_pop (q := 65) dX6_rest_64 (kk := ?_)
    refine v_aload_n (q := 66) dX6_rest_65 (kk := ?_)
    refine v_getR (q := 69) fX6_19 (by assumption) (by assumption) (hd := dX6_rest_66) (kk := ?_)
    refine v_getI (q := 72) fX6_166 (by assumption) (hd := dX6_rest_69) (kk := ?_)
    rw [e4]
    refine v_iload_n (q := 73) dX6_rest_72 (kk := ?_)
    have := ih (i + 1) I3 R2 (by omega) hF4 hR4 hx2
    refine v_icmp_ge 87 (q := 76) dX6_rest_73 (kt := fun c => ?_) (kf := fun c => ?_)
    · rw [hs1, st_ge (hf i (by omega)) (Int32.not_lt.mpr c)] at this
      refine v_iinc4 (q := 90) dX6_rest_87 (hv := nI_1 i) (kk := ?_)
      refine v_goto 22 dX6_rest_90 (kt := ?_)
      exact this
    · rw [hs1, st_lt (Int32.not_le.mp c)] at this
      refine v_aload_n (q := 77) dX6_rest_76 (kk := ?_)
      refine v_getR (q := 80) fX6_19 (by assumption) (by assumption) (hd := dX6_rest_77) (kk := ?_)
      refine v_getI (q := 83) fX6_166 (by assumption) (hd := dX6_rest_80) (kk := ?_)
      rw [e4]
      refine v_istore3 (q := 84) dX6_rest_83 (kk := ?_)
      refine v_iload (q := 86) dX6_rest_84 (kk := ?_)
      refine v_istore2 (q := 87) dX6_rest_86 (kk := ?_)
      refine v_iinc4 (q := 90) dX6_rest_87 (hv := nI_1 i) (kk := ?_)
      refine v_goto 22 dX6_rest_90 (kt := ?_)
      exact this
theorem x_rest {n : Int32} (hx : XSk S R b) (hn : XN S I R b N) (hQ : ∀ (I' : hcI) (R' : hcR), Fh b (b + 31) I I' → Fr b R R' → Q (some (.int (spRest N n))) S I' R' z) : Cl g mX6_rest 6 0 0 S I R z [.ref b, .int n] Q := by
  obtain ⟨np, nb, nt, sec, hw, hd⟩ := id hn
  obtain ⟨e1, e2, e3, e4⟩ := hw.e
  refine Cl.go [some (.ref b), some (.int n), none, none, none] ?_
  have bad : ¬ (1 ≤ n ∧ n ≤ 60) → V g mX6_rest 6 0 0 S I R z 11 [some (.ref b), some (.int n), none, none, none] [] Q := by
    intro c
    have e : spRest N n = -1000000001 := by unfold spRest; rw [if_neg c]
    rw [e] at hQ
    refine v_ldc (q := 13) cX6_55 dX6_rest_11 (kk := ?_)
    refine v_iret dX6_rest_13 (hQ := ?_)
    exact hQ I R Fh.rfl Fr.rfl
  refine v_iload_n (q := 1) dX6_rest_0 (kk := ?_)
  refine v_iconst (v := 1) (q := 2) dX6_rest_1 (kk := ?_)
  refine v_icmp_lt 11 (q := 5) dX6_rest_2 (kt := fun c1 => ?_) (kf := fun c1 => ?_)
  · exact bad (fun h => absurd h.1 (Int32.not_le.mpr c1))
  · refine v_iload_n (q := 6) dX6_rest_5 (kk := ?_)
    refine v_bipush (v := 60) (q := 8) dX6_rest_6 (kk := ?_)
    refine v_icmp_le 14 (q := 11) dX6_rest_8 (kt := fun c2 => ?_) (kf := fun c2 => ?_)
    · have c : 1 ≤ n ∧ n ≤ 60 := ⟨Int32.not_lt.mp c1, c2⟩
      obtain ⟨j, hj, rfl⟩ := nI_ofL (v := n) (lo := 1) (by decide) c.1
      have hj2 : j ≤ 60 := (nI_leI (b := 60) hj (by omega)).mp c.2
      have e : spRest N (nI j) = amB 0 (sto (rsF np nb nt sec N j) nb) := by unfold spRest; rw [if_pos c, nI_clamp hj, e1, e2, e3, e4]
      rw [e] at hQ
      clear e
      refine v_iconst (v := 0) (q := 15) dX6_rest_14 (kk := ?_)
      refine v_istore2 (q := 16) dX6_rest_15 (kk := ?_)
      refine v_ldc (q := 18) cX6_175 dX6_rest_16 (kk := ?_)
      refine v_istore3 (q := 19) dX6_rest_18 (kk := ?_)
      refine v_iconst (v := 0) (q := 20) dX6_rest_19 (kk := ?_)
      refine v_istore4 (q := 22) dX6_rest_20 (kk := ?_)
      exact rest_loop (far := 2147483647) hw hd hj2 (fun k hk => harm_lt (w := 0) (hw.l (v := 0) hk (by omega)).1 (by have := hw.2.1; omega)) hQ nb 0 I R (by omega) Fh.rfl Fr.rfl hx
    · exact bad (fun h => c2 h.2)
theorem mrest_loop {n : Nat} (hm : MG S R m) (hw : XW N np nb nt sec) (hn : n ≤ 60) (hB : ∀ k, k < 93 → I (m + 4) k = N k) (hQ : ∀ I' : hcI, Fm m I I' → I' (m + 1) = N → Q (some (.int (amB 0 (sto (rsF np nb nt sec N n) nb)))) S I' R z) (k : Nat) : ∀ (i : Nat) (I1 : hcI), i + k = nb → Fm m I I1 → I1 (m + 1) = N → V g mX7_rest 6 0 0 S I1 R z 24 [some (.ref m), some (.int (nI n)), some (.int (amB 0 (sto (rsF np nb nt sec N n) i))), some (.int (amL 0 (sto (rsF np nb nt sec N n) i))), some (.int (nI i)), none] [] Q := by
  have s0 := hm.s0
  have sn := hm.s_now
  have rn := hm.r_now
  have hnb := hw.1.2.1.2.2
  have h2 := hw.1.2.1.1
  induction k with
  | zero =>
    intro i I1 hi hF hN
    obtain rfl : i = nb := by omega
    refine v_iload (q := 26) dX7_rest_24 (kk := ?_)
    refine v_aload_n (q := 27) dX7_rest_26 (kk := ?_)
    refine v_getR (q := 30) fX7_9 (by assumption) (by assumption) (hd := dX7_rest_27) (kk := ?_)
    refine v_iconst (v := 2) (q := 31) dX7_rest_30 (kk := ?_)
    refine v_ialdE (q := 32) (2) (by rfl) (by assumption) (by omega) (by omega) (hd := dX7_rest_31) (kk := ?_)
    rw [hN, h2]
    refine v_icmp_geT 91 dX7_rest_32 (Int32.le_refl _) (kt := ?_)
    refine v_iload_n (q := 92) dX7_rest_91 (kk := ?_)
    refine v_iret dX7_rest_92 (hQ := ?_)
    exact hQ I1 hF hN
  | succ k ih =>
    intro i I1 hi hF hN
    have hw1 : WF (upd N (9 + i) 0) np nb nt sec := (hw.l (v := 0) (by omega) (by omega)).1
    refine v_iload (q := 26) dX7_rest_24 (kk := ?_)
    refine v_aload_n (q := 27) dX7_rest_26 (kk := ?_)
    refine v_getR (q := 30) fX7_9 (by assumption) (by assumption) (hd := dX7_rest_27) (kk := ?_)
    refine v_iconst (v := 2) (q := 31) dX7_rest_30 (kk := ?_)
    refine v_ialdE (q := 32) (2) (by rfl) (by assumption) (by omega) (by omega) (hd := dX7_rest_31) (kk := ?_)
    rw [hN, h2]
    refine v_icmp_geF (q := 35) (t := 91) dX7_rest_32 (fun h => by have := (nI_leI (by omega) (by omega)).mp h; omega) (kf := ?_)
    refine v_aload_n (q := 36) dX7_rest_35 (kk := ?_)
    refine v_getR (q := 39) fX7_9 (by assumption) (by assumption) (hd := dX7_rest_36) (kk := ?_)
    refine v_bipush (v := 9) (q := 41) dX7_rest_39 (kk := ?_)
    refine v_iload (q := 43) dX7_rest_41 (kk := ?_)
    refine v_iadd (q := 44) dX7_rest_43 (kk := ?_)
    refine v_iconst (v := 0) (q := 45) dX7_rest_44 (kk := ?_)
    refine v_iastE (q := 46) (9 + i) (nI_add 9 i) (by assumption) (by omega) (by omega) (hd := dX7_rest_45) (kk := ?_)
    refine v_aload_n (q := 47) dX7_rest_46 (kk := ?_)
    refine v_iload_n (q := 48) dX7_rest_47 (kk := ?_)
    refine v_iconst (v := 1) (q := 49) dX7_rest_48 (kk := ?_)
    refine v_cV2 (N := mX7_behindAll) (q := 52) lX7_171 iX7_behindAll kX7_behindAll (by assumption) dX7_rest_49 (s_behindAll (N := N) (w := 1) (by omega) hm (fun k hk => by rw [hc_u_ne (by omega), hF (m + 4) (by omega) (by omega) (by omega)]; exact hB k hk) (by rw [hc_u_at, hN]) (fun i' hi' => upd_ne (by omega)) hw1 (by have := hw.2.1; omega) (fun I2 hF2 hN2 => ?_))
    have hF3 : Fm m I I2 := fun y a1 a2 a3 => (hF2 y a1 a2 a3).trans ((hc_u_ne a1).trans (hF y a1 a2 a3))
    have hs1 : sto (rsF np nb nt sec N n) (i + 1) = st (sto (rsF np nb nt sec N n) i) (nI i) (rsF np nb nt sec N n i) := rfl
    have := ih (i + 1) I2 (by omega) hF3 hN2
    rw [show behW np nb nt sec (upd N (9 + i) 0) n 1 = rsF np nb nt sec N n i from rfl]
    have pick : sto (rsF np nb nt sec N n) (i + 1) = some (nI i, rsF np nb nt sec N n i) → V g mX7_rest 6 0 0 S I2 R z 65 [some (.ref m), some (.int (nI n)), some (.int (amB 0 (sto (rsF np nb nt sec N n) i))), some (.int (amL 0 (sto (rsF np nb nt sec N n) i))), some (.int (nI i)), some (.int (rsF np nb nt sec N n i))] [] Q := by
      intro e
      rw [e] at this
      refine v_iload (q := 67) dX7_rest_65 (kk := ?_)
      refine v_goto 71 dX7_rest_67 (kt := ?_)
      refine v_istore2 (q := 72) dX7_rest_71 (kk := ?_)
      refine v_iload_n (q := 73) dX7_rest_72 (kk := ?_)
      refine v_iload (q := 75) dX7_rest_73 (kk := ?_)
      refine v_icmp_neF (q := 78) (t := 83) dX7_rest_75 (rfl) (kf := ?_)
      refine v_iload (q := 80) dX7_rest_78 (kk := ?_)
      refine v_goto 84 dX7_rest_80 (kt := ?_)
      refine v_istore3 (q := 85) dX7_rest_84 (kk := ?_)
      refine v_iinc4 (q := 88) dX7_rest_85 (hv := nI_1 i) (kk := ?_)
      refine v_goto 24 dX7_rest_88 (kt := ?_)
      exact v_drop5 this
    refine v_istore5 (q := 54) dX7_rest_52 (kk := ?_)
    refine v_iload (q := 56) dX7_rest_54 (kk := ?_)
    by_cases c0 : i = 0
    · subst c0
      refine v_if_eqT 65 dX7_rest_56 (rfl) (kt := ?_)
      exact pick rfl
    · obtain ⟨i0, w0, e0, hi0⟩ := sto_some (f := rsF np nb nt sec N n) i (by omega)
      refine v_if_eqF (q := 59) (t := 65) dX7_rest_56 (fun h => by have := (nI_eq (b := 0) (by omega) (by omega)).mp h; omega) (kf := ?_)
      refine v_iload (q := 61) dX7_rest_59 (kk := ?_)
      refine v_iload_n (q := 62) dX7_rest_61 (kk := ?_)
      refine v_icmp_ge 70 (q := 65) dX7_rest_62 (kt := fun c => ?_) (kf := fun c => ?_)
      · rw [e0] at c
        have e1 : sto (rsF np nb nt sec N n) (i + 1) = sto (rsF np nb nt sec N n) i := by rw [hs1, e0]; exact if_neg (Int32.not_lt.mpr c)
        rw [e1] at this
        refine v_iload_n (q := 71) dX7_rest_70 (kk := ?_)
        refine v_istore2 (q := 72) dX7_rest_71 (kk := ?_)
        refine v_iload_n (q := 73) dX7_rest_72 (kk := ?_)
        refine v_iload (q := 75) dX7_rest_73 (kk := ?_)
        refine v_icmp_neT 83 dX7_rest_75 (fun h => by rw [e0] at h; have := (nI_eq (a := i0) (by omega) (by omega)).mp h; omega) (kt := ?_)
        refine v_iload_n (q := 84) dX7_rest_83 (kk := ?_)
        refine v_istore3 (q := 85) dX7_rest_84 (kk := ?_)
        refine v_iinc4 (q := 88) dX7_rest_85 (hv := nI_1 i) (kk := ?_)
        refine v_goto 24 dX7_rest_88 (kt := ?_)
        exact v_drop5 this
      · rw [e0] at c
        exact pick (by rw [hs1, e0]; exact if_pos (Int32.not_le.mp c))
theorem m_rest {n : Int32} (hm : MG S R m) (hN : I (m + 1) = N) (hn : MN N) (hQ : ∀ I' : hcI, Fk m I I' → I' (m + 1) = N → Q (some (.int (spRest N n))) S I' R z) : Cl g mX7_rest 6 0 0 S I R z [.ref m, .int n] Q := by
  have s0 := hm.s0
  obtain ⟨np, nb, nt, sec, hw⟩ := hn
  obtain ⟨e1, e2, e3, e4⟩ := hw.e
  refine Cl.go [some (.ref m), some (.int n), none, none, none, none] ?_
  refine v_iload_n (q := 1) dX7_rest_0 (kk := ?_)
  refine v_iconst (v := 1) (q := 2) dX7_rest_1 (kk := ?_)
  refine v_bipush (v := 60) (q := 4) dX7_rest_2 (kk := ?_)
  refine v_cS3 (N := mX7_in) (q := 7) lX7_76 sX7_in kX7_in dX7_rest_4 (s_in ?_)
  refine v_if_neB 13 (q := 10) dX7_rest_7 (kt := fun c => ?_) (kf := fun c => ?_)
  · obtain ⟨j, hj, rfl⟩ := nI_ofL (v := n) (lo := 1) (by decide) c.1
    have hj2 : j ≤ 60 := (nI_leI (b := 60) hj (by omega)).mp c.2
    have e : spRest N (nI j) = amB 0 (sto (rsF np nb nt sec N j) nb) := by unfold spRest; rw [if_pos c, nI_clamp hj, e1, e2, e3, e4]
    rw [e] at hQ
    clear e
    refine v_aload_n (q := 14) dX7_rest_13 (kk := ?_)
    refine v_cV0 (N := mX7_thinks) (q := 17) lX7_168 iX7_thinks kX7_thinks (by assumption) dX7_rest_14 (s_thinks hm hN (fun I1 hF1 hB => ?_))
    refine v_iconst (v := 0) (q := 18) dX7_rest_17 (kk := ?_)
    refine v_istore2 (q := 19) dX7_rest_18 (kk := ?_)
    refine v_iconst (v := 0) (q := 20) dX7_rest_19 (kk := ?_)
    refine v_istore3 (q := 21) dX7_rest_20 (kk := ?_)
    refine v_iconst (v := 0) (q := 22) dX7_rest_21 (kk := ?_)
    refine v_istore4 (q := 24) dX7_rest_22 (kk := ?_)
    exact mrest_loop hm hw hj2 hB (fun I' hF' hN' => hQ I' (fun y a1 a2 a3 a4 => (hF' y a1 a3 a4).trans (hF1 y a2)) hN') nb 0 I1 (by omega) Fm.rfl ((hF1 _ (by omega)).trans hN)
  · have e : spRest N n = -1000000001 := by unfold spRest; rw [if_neg c]
    rw [e] at hQ
    refine v_ldc (q := 12) cX7_92 dX7_rest_10 (kk := ?_)
    refine v_iret dX7_rest_12 (hQ := ?_)
    exact hQ I Fk.rfl hN
theorem sweet_loop {n : Nat} {far none5 : Int32} (hw : XW N np nb nt sec) (hd0 : HD S I R b (b + 1) N np nb nt) (hn : n ≤ 60) (hf : ∀ k, k < np → swF np nb nt sec N n k < far) (hQ : ∀ (I' : hcI) (R' : hcR), Fh b (b + 31) I I' → Fr b R R' → Q (some (.int (amB none5 (sto (swF np nb nt sec N n) np)))) S I' R' z) (k : Nat) : ∀ (i : Nat) (I1 : hcI) (R1 : hcR), i + k = np → Fh b (b + 31) I I1 → Fr b R R1 → XSk S R1 b → V g mX6_sweet 6 0 0 S I1 R1 z 23 [some (.ref b), some (.int (nI n)), some (.int (amB none5 (sto (swF np nb nt sec N n) i))), some (.int (amL far (sto (swF np nb nt sec N n) i))), some (.int (nI i))] [] Q := by
  have hnb := hw.1.2.1.2.2
  have hnp := hw.1.1.2
  induction k with
  | zero =>
    intro i I1 R1 hi hF hR hx
    obtain rfl : i = np := by omega
    have hd := hd0.keepT hw.1 hF hR
    have d2 : I1 (b + 1) 4 = nI i := hd.1.1.trans hw.1.1.1
    obtain ⟨⟨s0, r0, -, r2, -⟩, ⟨hk1, -, hk3⟩, -⟩ := hx
    have sh := hk1.1
    refine v_iload (q := 25) dX6_sweet_23 (kk := ?_)
    refine v_aload_n (q := 26) dX6_sweet_25 (kk := ?_)
    refine v_getR (q := 29) fX6_12 (by assumption) (by assumption) (hd := dX6_sweet_26) (kk := ?_)
    refine v_getI (q := 32) fX6_61 (by assumption) (hd := dX6_sweet_29) (kk := ?_)
    rw [d2]
    refine v_icmp_geT 98 dX6_sweet_32 (Int32.le_refl _) (kt := ?_)
    refine v_iload_n (q := 99) dX6_sweet_98 (kk := ?_)
    refine v_iret dX6_sweet_99 (hQ := ?_)
    exact hQ I1 R1 hF hR
  | succ k ih =>
    intro i I1 R1 hi hF hR hx
    have hd := hd0.keepT hw.1 hF hR
    have d2 : I1 (b + 1) 4 = nI np := hd.1.1.trans hw.1.1.1
    have hx' := hx
    obtain ⟨⟨s0, r0, -, r2, -⟩, ⟨hk1, -, hk3⟩, -⟩ := hx'
    have sh := hk1.1
    have sh3 := hk3.1
    refine v_iload (q := 25) dX6_sweet_23 (kk := ?_)
    refine v_aload_n (q := 26) dX6_sweet_25 (kk := ?_)
    refine v_getR (q := 29) fX6_12 (by assumption) (by assumption) (hd := dX6_sweet_26) (kk := ?_)
    refine v_getI (q := 32) fX6_61 (by assumption) (hd := dX6_sweet_29) (kk := ?_)
    rw [d2]
    refine v_icmp_geF (q := 35) (t := 98) dX6_sweet_32 (fun h => by have := (nI_leI (by omega) (by omega)).mp h; omega) (kf := ?_)
    refine v_aload_n (q := 36) dX6_sweet_35 (kk := ?_)
    refine v_getR (q := 39) fX6_19 (by assumption) (by assumption) (hd := dX6_sweet_36) (kk := ?_)
    refine v_aload_n (q := 40) dX6_sweet_39 (kk := ?_)
    refine v_getR (q := 43) fX6_12 (by assumption) (by assumption) (hd := dX6_sweet_40) (kk := ?_)
    refine v_cV1 (N := mX0_becomes) (q := 46) lX6_159 iX0_becomes kX0_becomes (by assumption) dX6_sweet_43 (s_Hall_becomes hk3 hk1 hd hw.1 (by omega) (by omega) (by omega) (fun I2 R2 hF2 hR2 hd2 => ?_))
    have hx2 : XSk S R2 b := hx.keepR hR2
    have hx2' := hx2
    obtain ⟨⟨-, r0', -, r2', -⟩, ⟨-, -, hk3'⟩, -⟩ := hx2'
    have hk3x := hk3'
    obtain ⟨-, s31, -, -, -, r30, -, -, -, sp⟩ := hk3x
    have hspp := (sp i (by omega)).1
    have hrpp := (sp i (by omega)).2
    refine v_aload_n (q := 47) dX6_sweet_46 (kk := ?_)
    refine v_getR (q := 50) fX6_19 (by assumption) (by assumption) (hd := dX6_sweet_47) (kk := ?_)
    refine v_getR (q := 53) fX6_74 (by assumption) (by assumption) (hd := dX6_sweet_50) (kk := ?_)
    refine v_iload (q := 55) dX6_sweet_53 (kk := ?_)
    refine v_aaldn (q := 56) (by assumption) (by assumption) (by omega) (by omega) (hd := dX6_sweet_55) (kk := ?_)
    refine v_bipush (v := 40) (q := 58) dX6_sweet_56 (kk := ?_)
    refine v_putI (q := 61) fX6_92 (by assumption) (hd := dX6_sweet_58) (kk := ?_)
    have hw1 : WF (upd N (33 + 6 * i + 4) 40) np nb nt sec := (hw.p (p := i) (j := 4) (v := 40) (by omega) (by omega)).1
    have hd3 : HD S (hc_u I2 (b + 31 + 5 + i) 4 40) R2 b (b + 31) (upd N (33 + 6 * i + 4) 40) np nb nt := hd2.p (by omega) (by omega) hnp hnb (by omega)
    refine v_aload_n (q := 62) dX6_sweet_61 (kk := ?_)
    refine v_getR (q := 65) fX6_19 (by assumption) (by assumption) (hd := dX6_sweet_62) (kk := ?_)
    refine v_iload_n (q := 66) dX6_sweet_65 (kk := ?_)
    refine v_cV1 (N := mX0_passSeconds) (q := 69) lX6_153 iX0_passSeconds kX0_passSeconds (by assumption) dX6_sweet_66 (s_passSeconds hk3' hd3 (by omega) hw1 (by have := hw.2.1; omega) (fun I3 hF3 hd4 => ?_))
    have hF4 : Fh b (b + 31) I I3 := fun y h1 h2 => (hF3 y h1 h2).trans ((hc_u_ne (by omega)).trans ((hF2 y h1).trans (hF y h1 h2)))
    have hR4 : Fr b R R2 := Fr.trans hR hR2
    have e4 : I3 (b + 31) 10 = swF np nb nt sec N n i := hd4.1.2.2.2.2.2.2.1
    have hs1 : sto (swF np nb nt sec N n) (i + 1) = st (sto (swF np nb nt sec N n) i) (nI i) (swF np nb nt sec N n i) := rfl
    refine v_pop (q := 70) dX6_sweet_69 (kk := ?_)
    refine v_aload_n (q := 71) dX6_sweet_70 (kk := ?_)
    refine v_getR (q := 74) fX6_19 (by assumption) (by assumption) (hd := dX6_sweet_71) (kk := ?_)
    refine v_getI (q := 77) fX6_166 (by assumption) (hd := dX6_sweet_74) (kk := ?_)
    rw [e4]
    refine v_iload_n (q := 78) dX6_sweet_77 (kk := ?_)
    have := ih (i + 1) I3 R2 (by omega) hF4 hR4 hx2
    refine v_icmp_ge 92 (q := 81) dX6_sweet_78 (kt := fun c => ?_) (kf := fun c => ?_)
    · rw [hs1, st_ge (hf i (by omega)) (Int32.not_lt.mpr c)] at this
      refine v_iinc4 (q := 95) dX6_sweet_92 (hv := nI_1 i) (kk := ?_)
      refine v_goto 23 dX6_sweet_95 (kt := ?_)
      exact this
    · rw [hs1, st_lt (Int32.not_le.mp c)] at this
      refine v_aload_n (q := 82) dX6_sweet_81 (kk := ?_)
      refine v_getR (q := 85) fX6_19 (by assumption) (by assumption) (hd := dX6_sweet_82) (kk := ?_)
      refine v_getI (q := 88) fX6_166 (by assumption) (hd := dX6_sweet_85) (kk := ?_)
      rw [e4]
      refine v_istore3 (q := 89) dX6_sweet_88 (kk := ?_)
      refine v_iload (q := 91) dX6_sweet_89 (kk := ?_)
      refine v_istore2 (q := 92) dX6_sweet_91 (kk := ?_)
      refine v_iinc4 (q := 95) dX6_sweet_92 (hv := nI_1 i) (kk := ?_)
      refine v_goto 23 dX6_sweet_95 (kt := ?_)
      exact this
theorem x_sweet {n : Int32} (hx : XSk S R b) (hn : XN S I R b N) (hQ : ∀ (I' : hcI) (R' : hcR), Fh b (b + 31) I I' → Fr b R R' → Q (some (.int (spSweet N n))) S I' R' z) : Cl g mX6_sweet 6 0 0 S I R z [.ref b, .int n] Q := by
  obtain ⟨np, nb, nt, sec, hw, hd⟩ := id hn
  obtain ⟨e1, e2, e3, e4⟩ := hw.e
  refine Cl.go [some (.ref b), some (.int n), none, none, none] ?_
  have bad : ¬ (1 ≤ n ∧ n ≤ 60) → V g mX6_sweet 6 0 0 S I R z 11 [some (.ref b), some (.int n), none, none, none] [] Q := by
    intro c
    have e : spSweet N n = -1000000001 := by unfold spSweet; rw [if_neg c]
    rw [e] at hQ
    refine v_ldc (q := 13) cX6_55 dX6_sweet_11 (kk := ?_)
    refine v_iret dX6_sweet_13 (hQ := ?_)
    exact hQ I R Fh.rfl Fr.rfl
  refine v_iload_n (q := 1) dX6_sweet_0 (kk := ?_)
  refine v_iconst (v := 1) (q := 2) dX6_sweet_1 (kk := ?_)
  refine v_icmp_lt 11 (q := 5) dX6_sweet_2 (kt := fun c1 => ?_) (kf := fun c1 => ?_)
  · exact bad (fun h => absurd h.1 (Int32.not_le.mpr c1))
  · refine v_iload_n (q := 6) dX6_sweet_5 (kk := ?_)
    refine v_bipush (v := 60) (q := 8) dX6_sweet_6 (kk := ?_)
    refine v_icmp_le 14 (q := 11) dX6_sweet_8 (kt := fun c2 => ?_) (kf := fun c2 => ?_)
    · have c : 1 ≤ n ∧ n ≤ 60 := ⟨Int32.not_lt.mp c1, c2⟩
      obtain ⟨j, hj, rfl⟩ := nI_ofL (v := n) (lo := 1) (by decide) c.1
      have hj2 : j ≤ 60 := (nI_leI (b := 60) hj (by omega)).mp c.2
      have e : spSweet N (nI j) = amB (-1000000005) (sto (swF np nb nt sec N j) np) := by unfold spSweet; rw [if_pos c, nI_clamp hj, e1, e2, e3, e4]
      rw [e] at hQ
      clear e
      refine v_ldc (q := 16) cX6_125 dX6_sweet_14 (kk := ?_)
      refine v_istore2 (q := 17) dX6_sweet_16 (kk := ?_)
      refine v_ldc (q := 19) cX6_175 dX6_sweet_17 (kk := ?_)
      refine v_istore3 (q := 20) dX6_sweet_19 (kk := ?_)
      refine v_iconst (v := 0) (q := 21) dX6_sweet_20 (kk := ?_)
      refine v_istore4 (q := 23) dX6_sweet_21 (kk := ?_)
      exact sweet_loop (far := 2147483647) hw hd hj2 (fun k hk => harm_lt (w := 0) (hw.p (p := k) (j := 4) (v := 40) hk (by omega)).1 (by have := hw.2.1; omega)) hQ np 0 I R (by omega) Fh.rfl Fr.rfl hx
    · exact bad (fun h => c2 h.2)
theorem msweet_loop {n : Nat} (hm : MG S R m) (hw : XW N np nb nt sec) (hn : n ≤ 60) (hB : ∀ k, k < 93 → I (m + 4) k = N k) (hQ : ∀ I' : hcI, Fm m I I' → I' (m + 1) = N → Q (some (.int (amB (-1000000005) (sto (swF np nb nt sec N n) np)))) S I' R z) (k : Nat) : ∀ (i : Nat) (I1 : hcI), i + k = np → Fm m I I1 → I1 (m + 1) = N → V g mX7_sweet 6 0 0 S I1 R z 25 [some (.ref m), some (.int (nI n)), some (.int (amB (-1000000005) (sto (swF np nb nt sec N n) i))), some (.int (amL 0 (sto (swF np nb nt sec N n) i))), some (.int (nI i)), none, none] [] Q := by
  have s0 := hm.s0
  have sn := hm.s_now
  have rn := hm.r_now
  have hnp := hw.1.1.2
  have h1 := hw.1.1.1
  induction k with
  | zero =>
    intro i I1 hi hF hN
    obtain rfl : i = np := by omega
    refine v_iload (q := 27) dX7_sweet_25 (kk := ?_)
    refine v_aload_n (q := 28) dX7_sweet_27 (kk := ?_)
    refine v_getR (q := 31) fX7_9 (by assumption) (by assumption) (hd := dX7_sweet_28) (kk := ?_)
    refine v_iconst (v := 1) (q := 32) dX7_sweet_31 (kk := ?_)
    refine v_ialdE (q := 33) (1) (by rfl) (by assumption) (by omega) (by omega) (hd := dX7_sweet_32) (kk := ?_)
    rw [hN, h1]
    refine v_icmp_geT 102 dX7_sweet_33 (Int32.le_refl _) (kt := ?_)
    refine v_iload_n (q := 103) dX7_sweet_102 (kk := ?_)
    refine v_iret dX7_sweet_103 (hQ := ?_)
    exact hQ I1 hF hN
  | succ k ih =>
    intro i I1 hi hF hN
    have hw1 : WF (upd N (33 + 6 * i + 4) 40) np nb nt sec := (hw.p (p := i) (j := 4) (v := 40) (by omega) (by omega)).1
    refine v_iload (q := 27) dX7_sweet_25 (kk := ?_)
    refine v_aload_n (q := 28) dX7_sweet_27 (kk := ?_)
    refine v_getR (q := 31) fX7_9 (by assumption) (by assumption) (hd := dX7_sweet_28) (kk := ?_)
    refine v_iconst (v := 1) (q := 32) dX7_sweet_31 (kk := ?_)
    refine v_ialdE (q := 33) (1) (by rfl) (by assumption) (by omega) (by omega) (hd := dX7_sweet_32) (kk := ?_)
    rw [hN, h1]
    refine v_icmp_geF (q := 36) (t := 102) dX7_sweet_33 (fun h => by have := (nI_leI (by omega) (by omega)).mp h; omega) (kf := ?_)
    refine v_aload_n (q := 37) dX7_sweet_36 (kk := ?_)
    refine v_iload (q := 39) dX7_sweet_37 (kk := ?_)
    refine v_iconst (v := 4) (q := 40) dX7_sweet_39 (kk := ?_)
    refine v_bipush (v := 40) (q := 42) dX7_sweet_40 (kk := ?_)
    refine v_cV3 (N := mX7_put) (q := 45) lX7_84 iX7_put kX7_put (by assumption) dX7_sweet_42 (s_put (p := i) (w := 4) (v := 40) hm (by omega) ?_)
    refine v_aload_n (q := 46) dX7_sweet_45 (kk := ?_)
    refine v_iload_n (q := 47) dX7_sweet_46 (kk := ?_)
    refine v_iconst (v := 1) (q := 48) dX7_sweet_47 (kk := ?_)
    refine v_cV2 (N := mX7_behindAll) (q := 51) lX7_171 iX7_behindAll kX7_behindAll (by assumption) dX7_sweet_48 (s_behindAll (N := N) (w := 1) (by omega) hm (fun k hk => by rw [hc_u_ne (by omega), hF (m + 4) (by omega) (by omega) (by omega)]; exact hB k hk) (by rw [hc_u_at, hN]) (fun i' hi' => upd_ne (by omega)) hw1 (by have := hw.2.1; omega) (fun I2 hF2 hN2 => ?_))
    have hF3 : Fm m I I2 := fun y a1 a2 a3 => (hF2 y a1 a2 a3).trans ((hc_u_ne a1).trans (hF y a1 a2 a3))
    have hs1 : sto (swF np nb nt sec N n) (i + 1) = st (sto (swF np nb nt sec N n) i) (nI i) (swF np nb nt sec N n i) := rfl
    have := ih (i + 1) I2 (by omega) hF3 hN2
    rw [show behW np nb nt sec (upd N (33 + 6 * i + 4) 40) n 1 = swF np nb nt sec N n i from rfl]
    have pick : sto (swF np nb nt sec N n) (i + 1) = some (nI i, swF np nb nt sec N n i) → V g mX7_sweet 6 0 0 S I2 R z 65 [some (.ref m), some (.int (nI n)), some (.int (amB (-1000000005) (sto (swF np nb nt sec N n) i))), some (.int (amL 0 (sto (swF np nb nt sec N n) i))), some (.int (nI i)), some (.int (swF np nb nt sec N n i)), none] [] Q := by
      intro e
      rw [e] at this
      refine v_iconst (v := 1) (q := 66) dX7_sweet_65 (kk := ?_)
      refine v_goto 70 dX7_sweet_66 (kt := ?_)
      refine v_istore6 (q := 72) dX7_sweet_70 (kk := ?_)
      refine v_iload (q := 74) dX7_sweet_72 (kk := ?_)
      refine v_if_eqF (q := 77) (t := 82) dX7_sweet_74 (by decide) (kf := ?_)
      refine v_iload (q := 79) dX7_sweet_77 (kk := ?_)
      refine v_goto 83 dX7_sweet_79 (kt := ?_)
      refine v_istore2 (q := 84) dX7_sweet_83 (kk := ?_)
      refine v_iload (q := 86) dX7_sweet_84 (kk := ?_)
      refine v_if_eqF (q := 89) (t := 94) dX7_sweet_86 (by decide) (kf := ?_)
      refine v_iload (q := 91) dX7_sweet_89 (kk := ?_)
      refine v_goto 95 dX7_sweet_91 (kt := ?_)
      refine v_istore3 (q := 96) dX7_sweet_95 (kk := ?_)
      refine v_iinc4 (q := 99) dX7_sweet_96 (hv := nI_1 i) (kk := ?_)
      refine v_goto 25 dX7_sweet_99 (kt := ?_)
      exact v_drop5 (v_drop6 this)
    refine v_istore5 (q := 53) dX7_sweet_51 (kk := ?_)
    refine v_iload_n (q := 54) dX7_sweet_53 (kk := ?_)
    refine v_ldc (q := 56) cX7_75 dX7_sweet_54 (kk := ?_)
    by_cases c0 : i = 0
    · subst c0
      refine v_icmp_eqT 65 dX7_sweet_56 (rfl) (kt := ?_)
      exact pick rfl
    · obtain ⟨i0, w0, e0, hi0⟩ := sto_some (f := swF np nb nt sec N n) i (by omega)
      have hne : ¬ amB (-1000000005) (sto (swF np nb nt sec N n) i) = -1000000005 := by
        rw [e0]
        exact nI_ne5 (by omega)
      refine v_icmp_eqF (q := 59) (t := 65) dX7_sweet_56 (hne) (kf := ?_)
      refine v_iload (q := 61) dX7_sweet_59 (kk := ?_)
      refine v_iload_n (q := 62) dX7_sweet_61 (kk := ?_)
      refine v_icmp_ge 69 (q := 65) dX7_sweet_62 (kt := fun c => ?_) (kf := fun c => ?_)
      · rw [e0] at c
        have e1 : sto (swF np nb nt sec N n) (i + 1) = sto (swF np nb nt sec N n) i := by rw [hs1, e0]; exact if_neg (Int32.not_lt.mpr c)
        rw [e1] at this
        refine v_iconst (v := 0) (q := 70) dX7_sweet_69 (kk := ?_)
        refine v_istore6 (q := 72) dX7_sweet_70 (kk := ?_)
        refine v_iload (q := 74) dX7_sweet_72 (kk := ?_)
        refine v_if_eqT 82 dX7_sweet_74 (rfl) (kt := ?_)
        refine v_iload_n (q := 83) dX7_sweet_82 (kk := ?_)
        refine v_istore2 (q := 84) dX7_sweet_83 (kk := ?_)
        refine v_iload (q := 86) dX7_sweet_84 (kk := ?_)
        refine v_if_eqT 94 dX7_sweet_86 (rfl) (kt := ?_)
        refine v_iload_n (q := 95) dX7_sweet_94 (kk := ?_)
        refine v_istore3 (q := 96) dX7_sweet_95 (kk := ?_)
        refine v_iinc4 (q := 99) dX7_sweet_96 (hv := nI_1 i) (kk := ?_)
        refine v_goto 25 dX7_sweet_99 (kt := ?_)
        exact v_drop5 (v_drop6 this)
      · rw [e0] at c
        exact pick (by rw [hs1, e0]; exact if_pos (Int32.not_le.mp c))
theorem m_sweet {n : Int32} (hm : MG S R m) (hN : I (m + 1) = N) (hn : MN N) (hQ : ∀ I' : hcI, Fk m I I' → I' (m + 1) = N → Q (some (.int (spSweet N n))) S I' R z) : Cl g mX7_sweet 6 0 0 S I R z [.ref m, .int n] Q := by
  have s0 := hm.s0
  obtain ⟨np, nb, nt, sec, hw⟩ := hn
  obtain ⟨e1, e2, e3, e4⟩ := hw.e
  refine Cl.go [some (.ref m), some (.int n), none, none, none, none, none] ?_
  refine v_iload_n (q := 1) dX7_sweet_0 (kk := ?_)
  refine v_iconst (v := 1) (q := 2) dX7_sweet_1 (kk := ?_)
  refine v_bipush (v := 60) (q := 4) dX7_sweet_2 (kk := ?_)
  refine v_cS3 (N := mX7_in) (q := 7) lX7_76 sX7_in kX7_in dX7_sweet_4 (s_in ?_)
  refine v_if_neB 13 (q := 10) dX7_sweet_7 (kt := fun c => ?_) (kf := fun c => ?_)
  · obtain ⟨j, hj, rfl⟩ := nI_ofL (v := n) (lo := 1) (by decide) c.1
    have hj2 : j ≤ 60 := (nI_leI (b := 60) hj (by omega)).mp c.2
    have e : spSweet N (nI j) = amB (-1000000005) (sto (swF np nb nt sec N j) np) := by unfold spSweet; rw [if_pos c, nI_clamp hj, e1, e2, e3, e4]
    rw [e] at hQ
    clear e
    refine v_aload_n (q := 14) dX7_sweet_13 (kk := ?_)
    refine v_cV0 (N := mX7_thinks) (q := 17) lX7_168 iX7_thinks kX7_thinks (by assumption) dX7_sweet_14 (s_thinks hm hN (fun I1 hF1 hB => ?_))
    refine v_ldc (q := 19) cX7_75 dX7_sweet_17 (kk := ?_)
    refine v_istore2 (q := 20) dX7_sweet_19 (kk := ?_)
    refine v_iconst (v := 0) (q := 21) dX7_sweet_20 (kk := ?_)
    refine v_istore3 (q := 22) dX7_sweet_21 (kk := ?_)
    refine v_iconst (v := 0) (q := 23) dX7_sweet_22 (kk := ?_)
    refine v_istore4 (q := 25) dX7_sweet_23 (kk := ?_)
    exact msweet_loop hm hw hj2 hB (fun I' hF' hN' => hQ I' (fun y a1 a2 a3 a4 => (hF' y a1 a3 a4).trans (hF1 y a2)) hN') np 0 I1 (by omega) Fm.rfl ((hF1 _ (by omega)).trans hN)
  · have e : spSweet N n = -1000000001 := by unfold spSweet; rw [if_neg c]
    rw [e] at hQ
    refine v_ldc (q := 12) cX7_92 dX7_sweet_10 (kk := ?_)
    refine v_iret dX7_sweet_12 (hQ := ?_)
    exact hQ I Fk.rfl hN
end T2
