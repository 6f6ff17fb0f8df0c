def cpF (ce : Nat → Int32) (f p t a n : Nat) : Nat → Int32 := fun i => if 24 * t + a ≤ i ∧ i < 24 * t + a + n then ce (24 * f + p + (i - (24 * t + a))) else ce i
def spCopy (so si ce : Nat → Int32) (f p t a n : Int32) : Int32 × hSh := if (0 ≤ f ∧ f < 4) ∧ (0 ≤ t ∧ t < 4) then (if so f.toNatClampNeg = -1 ∨ so t.toNatClampNeg = -1 then (-1000000011, so, si, ce) else if ¬ so f.toNatClampNeg = so t.toNatClampNeg then (-1000000012, so, si, ce) else if (0 ≤ p ∧ 0 ≤ a ∧ 0 ≤ n) ∧ p ≤ si f.toNatClampNeg - n ∧ a ≤ si t.toNatClampNeg - n then (n, so, si, cpF ce f.toNatClampNeg p.toNatClampNeg t.toNatClampNeg a.toNatClampNeg n.toNatClampNeg) else (-1000000013, so, si, ce)) else (-1000000001, so, si, ce)
theorem le_subN {x n : Int32} {s : Nat} (hs : s ≤ 24) (hn : 0 ≤ n) (hx : 0 ≤ x) (h : x ≤ nI s - n) : x.toNatClampNeg + n.toNatClampNeg ≤ s := by
  obtain ⟨j, hj, rfl⟩ := nI_of (x := n) (Int32.not_lt.mpr hn)
  obtain ⟨i, hi, rfl⟩ := nI_of (x := x) (Int32.not_lt.mpr hx)
  rw [nI_clamp hj, nI_clamp hi]
  by_cases c : j ≤ s
  · rw [pk_sub c] at h
    have := (nI_leI hi (by omega)).mp h
    omega
  · exfalso
    have e : nI s - nI j = - nI (j - s) := by
      rw [← pk_sub (show s ≤ j by omega), Int32.neg_sub]
    rw [e] at h
    have h2 := Int32.le_iff_toInt_le.mp h
    rw [nI_toInt hi, Int32.toInt_neg, nI_toInt (by omega)] at h2
    rw [Int.bmod_eq_of_le (by omega) (by omega)] at h2
    omega
theorem le_subN' {x n : Int32} {s : Nat} (hs : s ≤ 24) (hn : 0 ≤ n) (hx : 0 ≤ x) : x ≤ nI s - n ↔ (n ≤ nI s ∧ x ≤ nI s - n) := by
  refine ⟨fun h => ⟨?_, h⟩, fun h => h.2⟩
  have h1 := le_subN hs hn hx h
  obtain ⟨j, hj, rfl⟩ := nI_of (x := n) (Int32.not_lt.mpr hn)
  rw [nI_clamp hj] at h1
  exact nI_le (by omega) (by omega)
section T7
variable {g : hcG} {S : hcS} {I : hcI} {R : hcR} {z : Nat} {Q : hcQ} {b m np nb nt sec : Nat} {N : hN} {so si ce : Nat → Int32}
theorem pour_loop {a s : Nat} {x : Int32} {pl : Nat → Int32} (s0 : S b = some (6, 0)) (r0 : R b 0 = some (b + 1)) (hk1 : HSk S R (b + 1)) (hw : XW N np nb nt sec) (hra : RowAt S R a) (ha : b + 46 ≤ a ∧ a + 1 < b + 103) (hsz : I a 2 = nI s) (hs24 : s ≤ 24) (hpl : ∀ j, j < 24 → I (a + 1) j = pl j) (hQ : ∀ I' : hcI, Fh b (b + 1) I I' → HD S I' R b (b + 1) (prN N pl (min s nb)) np nb nt → Q (some (.int (nI (prC N pl (min s nb))))) S I' R z) (r : Nat) : ∀ (i : Nat) (I1 : hcI), i + r = min s nb → Fh b (b + 1) I I1 → HD S I1 R b (b + 1) (prN N pl i) np nb nt → V g mX6_pour 2 0 0 S I1 R z 34 [some (.ref b), some (.int x), some (.ref a), some (.int (nI (prC N pl i))), some (.int (nI i)), none] [] Q := by
  have hra' := hra
  obtain ⟨sa, sa1, ra0⟩ := hra'
  have hk1' := hk1
  obtain ⟨sh, -, s2, -, -, -, r1, -⟩ := hk1'
  have hnb := hw.1.2.1.2.2
  induction r with
  | zero =>
    intro i I1 hi hF hd
    obtain rfl : i = min s nb := by omega
    have e1 : I1 a 2 = nI s := by rw [hF a (by omega) (by unfold stk; omega)]; exact hsz
    have e2 : I1 (b + 1) 5 = nI nb := hd.1.2.1.trans (hw.pr _ (by omega)).1.2.1.1
    refine v_iload (q := 36) dX6_pour_34 (kk := ?_)
    refine v_aload_n (q := 37) dX6_pour_36 (kk := ?_)
    refine v_getI (q := 40) fX6_234 (by assumption) (hd := dX6_pour_37) (kk := ?_)
    rw [e1]
    by_cases c : s ≤ nb
    · refine v_icmp_geT 127 dX6_pour_40 (nI_le (by omega) (by omega)) (kt := ?_)
      refine v_iload_n (q := 128) dX6_pour_127 (kk := ?_)
      refine v_iret dX6_pour_128 (hQ := ?_)
      exact hQ I1 hF hd
    · refine v_icmp_geF (q := 43) (t := 127) dX6_pour_40 (fun h => by have := (nI_leI (by omega) (by omega)).mp h; omega) (kf := ?_)
      refine v_iload (q := 45) dX6_pour_43 (kk := ?_)
      refine v_aload_n (q := 46) dX6_pour_45 (kk := ?_)
      refine v_getR (q := 49) fX6_12 (by assumption) (by assumption) (hd := dX6_pour_46) (kk := ?_)
      refine v_getI (q := 52) fX6_144 (by assumption) (hd := dX6_pour_49) (kk := ?_)
      rw [e2]
      refine v_icmp_geT 127 dX6_pour_52 (nI_le (by omega) (by omega)) (kt := ?_)
      refine v_iload_n (q := 128) dX6_pour_127 (kk := ?_)
      refine v_iret dX6_pour_128 (hQ := ?_)
      exact hQ I1 hF hd
  | succ r ih =>
    intro i I1 hi hF hd
    have hwi := hw.pr (pl := pl) i (by omega)
    have hpc := prC_le (N := N) (pl := pl) i
    have hpn : prN N pl i (9 + i) = N (9 + i) := prN_at i (fun k hk => by omega)
    have e1 : I1 a 2 = nI s := by rw [hF a (by omega) (by unfold stk; omega)]; exact hsz
    have e2 : I1 (b + 1) 5 = nI nb := hd.1.2.1.trans hwi.1.2.1.1
    have e3 : I1 (a + 1) i = pl i := by rw [hF (a + 1) (by omega) (by unfold stk; omega)]; exact hpl i (by omega)
    have e4 : I1 (b + 1 + 2) i = N (9 + i) := (hd.2.1 i (by omega)).trans hpn
    have hs1 : prC N pl (i + 1) = prC N pl i + (if pvF N pl i = N (9 + i) then 0 else 1) := rfl
    have hs2 : prN N pl (i + 1) = upd (prN N pl i) (9 + i) (pvF N pl i) := rfl
    refine v_iload (q := 36) dX6_pour_34 (kk := ?_)
    refine v_aload_n (q := 37) dX6_pour_36 (kk := ?_)
    refine v_getI (q := 40) fX6_234 (by assumption) (hd := dX6_pour_37) (kk := ?_)
    rw [e1]
    refine v_icmp_geF (q := 43) (t := 127) dX6_pour_40 (fun h => by have := (nI_leI (by omega) (by omega)).mp h; omega) (kf := ?_)
    refine v_iload (q := 45) dX6_pour_43 (kk := ?_)
    refine v_aload_n (q := 46) dX6_pour_45 (kk := ?_)
    refine v_getR (q := 49) fX6_12 (by assumption) (by assumption) (hd := dX6_pour_46) (kk := ?_)
    refine v_getI (q := 52) fX6_144 (by assumption) (hd := dX6_pour_49) (kk := ?_)
    rw [e2]
    refine v_icmp_geF (q := 55) (t := 127) dX6_pour_52 (fun h => by have := (nI_leI (by omega) (by omega)).mp h; omega) (kf := ?_)
    refine v_aload_n (q := 56) dX6_pour_55 (kk := ?_)
    refine v_iload (q := 58) dX6_pour_56 (kk := ?_)
    refine v_cV1 (N := mX3_isNumber) (q := 61) lX6_241 iX3_isNumber kX3_isNumber (by assumption) dX6_pour_58 (s_Row_isNumber hra (by omega) ?_)
    rw [e3]
    have tail : V g mX6_pour 2 0 0 S I1 R z 89 [some (.ref b), some (.int x), some (.ref a), some (.int (nI (prC N pl i))), some (.int (nI i)), none] [.int (pvF N pl i)] Q := by
      refine v_istore5 (q := 91) dX6_pour_89 (kk := ?_)
      refine v_iload (q := 93) dX6_pour_91 (kk := ?_)
      refine v_aload_n (q := 94) dX6_pour_93 (kk := ?_)
      refine v_getR (q := 97) fX6_12 (by assumption) (by assumption) (hd := dX6_pour_94) (kk := ?_)
      refine v_getR (q := 100) fX6_147 (by assumption) (by assumption) (hd := dX6_pour_97) (kk := ?_)
      refine v_iload (q := 102) dX6_pour_100 (kk := ?_)
      refine v_ialdN (q := 103) (by assumption) (by omega) (by omega) (hd := dX6_pour_102) (kk := ?_)
      rw [e4]
      refine v_icmp_eq 121 (q := 106) dX6_pour_103 (kt := fun c => ?_) (kf := fun c => ?_)
      · rw [if_pos c] at hs1
        have hd2 : HD S I1 R b (b + 1) (prN N pl (i + 1)) np nb nt := by
          rw [hs2, c, ← hpn]
          exact hd.toN (fun j => by
            by_cases e : j = 9 + i
            · rw [e, upd_at]
            · rw [upd_ne e])
        have := ih (i + 1) I1 (by omega) hF hd2
        rw [hs1] at this
        refine v_iinc4 (q := 124) dX6_pour_121 (hv := nI_1 i) (kk := ?_)
        refine v_goto 34 dX6_pour_124 (kt := ?_)
        exact v_drop5 this
      · rw [if_neg c] at hs1
        have hd2 : HD S (hc_u I1 (b + 1 + 2) i (pvF N pl i)) R b (b + 1) (prN N pl (i + 1)) np nb nt := by
          rw [hs2]
          exact hd.l (by omega) (by omega) hnb
        have := ih (i + 1) _ (by omega) (hF.trans (Fh.u (by omega) (by omega))) hd2
        rw [hs1] at this
        refine v_aload_n (q := 107) dX6_pour_106 (kk := ?_)
        refine v_getR (q := 110) fX6_12 (by assumption) (by assumption) (hd := dX6_pour_107) (kk := ?_)
        refine v_getR (q := 113) fX6_147 (by assumption) (by assumption) (hd := dX6_pour_110) (kk := ?_)
        refine v_iload (q := 115) dX6_pour_113 (kk := ?_)
        refine v_iload (q := 117) dX6_pour_115 (kk := ?_)
        refine v_iastN (q := 118) (by assumption) (by omega) (by omega) (hd := dX6_pour_117) (kk := ?_)
        refine v_iinc3 (q := 121) dX6_pour_118 (hv := nI_1 (prC N pl i)) (kk := ?_)
        refine v_iinc4 (q := 124) dX6_pour_121 (hv := nI_1 i) (kk := ?_)
        refine v_goto 34 dX6_pour_124 (kt := ?_)
        exact v_drop5 this
    refine v_if_eqB 79 (q := 64) dX6_pour_61 (kt := fun c => ?_) (kf := fun c => ?_)
    · have e5 : pvF N pl i = N (9 + i) := if_pos (Classical.not_not.mp c)
      rw [e5] at tail
      refine v_aload_n (q := 80) dX6_pour_79 (kk := ?_)
      refine v_getR (q := 83) fX6_12 (by assumption) (by assumption) (hd := dX6_pour_80) (kk := ?_)
      refine v_getR (q := 86) fX6_147 (by assumption) (by assumption) (hd := dX6_pour_83) (kk := ?_)
      refine v_iload (q := 88) dX6_pour_86 (kk := ?_)
      refine v_ialdN (q := 89) (by assumption) (by omega) (by omega) (hd := dX6_pour_88) (kk := ?_)
      rw [e4]
      exact tail
    · have e5 : pvF N pl i = hc_max 0 (hc_min (pl i) 99) := (if_neg c).trans (held_wi (pl i) (hi := 99) (by omega)).symm
      rw [e5] at tail
      refine v_aload_n (q := 65) dX6_pour_64 (kk := ?_)
      refine v_getR (q := 68) fX6_236 (by assumption) (by assumption) (hd := dX6_pour_65) (kk := ?_)
      refine v_iload (q := 70) dX6_pour_68 (kk := ?_)
      refine v_ialdN (q := 71) (by assumption) (by omega) (by omega) (hd := dX6_pour_70) (kk := ?_)
      rw [e3]
      refine v_bipush (v := 99) (q := 73) dX6_pour_71 (kk := ?_)
      refine v_cS2 (N := mX6_held) (q := 76) lX6_244 sX6_held kX6_held dX6_pour_73 (s_held ?_)
      refine v_goto 89 dX6_pour_76 (kt := ?_)
      exact tail
theorem x_pour {sh : Int32} (hx : XSk S R b) (hn : XN S I R b N) (hsw : SW so si) (hsc : SHc I b so si ce) (hQ : ∀ I' : hcI, Fh b (b + 1) I I' → XN S I' R b (spPour N so si ce sh).2 → Q (some (.int (spPour N so si ce sh).1)) S I' R z) : Cl g mX6_pour 2 0 0 S I R z [.ref b, .int sh] Q := by
  obtain ⟨⟨s0, r0, -, r2, -, r4, -⟩, ⟨hk1, -⟩, -, ⟨s49, h49⟩, -⟩ := hx
  obtain ⟨np, nb, nt, sec, hw, hd⟩ := id hn
  obtain ⟨e1, e2, e3, e4⟩ := hw.e
  refine Cl.go [some (.ref b), some (.int sh), none, none, none, none] ?_
  refine v_iload_n (q := 1) dX6_pour_0 (kk := ?_)
  refine v_iconst (v := 4) (q := 2) dX6_pour_1 (kk := ?_)
  refine v_cS2 (N := mX6_within) (q := 5) lX6_51 sX6_within kX6_within dX6_pour_2 (s_within ?_)
  refine v_if_neB 11 (q := 8) dX6_pour_5 (kt := fun c1 => ?_) (kf := fun c1 => ?_)
  · obtain ⟨k, rfl, hk⟩ := nI_of6 (n := 4) rfl (by omega) c1
    obtain ⟨rk, hra⟩ := h49 k hk
    have sa := hra.1
    obtain ⟨q1, q2, q3⟩ := hsc k hk
    obtain ⟨-, s, es, hs24⟩ := hsw k hk
    have e : spPour N so si ce (nI k) = if so k = -1 then (-1000000011, N) else (nI (prC N (fun j => ce (24 * k + j)) (min s nb)), prN N (fun j => ce (24 * k + j)) (min s nb)) := by unfold spPour; rw [if_pos c1, e2, nI_clamp (by omega), es, nI_clamp (by omega)]
    rw [e] at hQ
    clear e
    refine v_aload_n (q := 12) dX6_pour_11 (kk := ?_)
    refine v_getR (q := 15) fX6_31 (by assumption) (by assumption) (hd := dX6_pour_12) (kk := ?_)
    refine v_iload_n (q := 16) dX6_pour_15 (kk := ?_)
    refine v_aaldn (q := 17) (by assumption) (by assumption) (by omega) (by omega) (hd := dX6_pour_16) (kk := ?_)
    refine v_astore2 (q := 18) dX6_pour_17 (kk := ?_)
    refine v_aload_n (q := 19) dX6_pour_18 (kk := ?_)
    refine v_getI (q := 22) fX6_183 (by assumption) (hd := dX6_pour_19) (kk := ?_)
    rw [q1]
    refine v_iconst (v := (-1)) (q := 23) dX6_pour_22 (kk := ?_)
    refine v_icmp_ne 29 (q := 26) dX6_pour_23 (kt := fun c2 => ?_) (kf := fun c2 => ?_)
    · rw [if_neg c2] at hQ
      refine v_iconst (v := 0) (q := 30) dX6_pour_29 (kk := ?_)
      refine v_istore3 (q := 31) dX6_pour_30 (kk := ?_)
      refine v_iconst (v := 0) (q := 32) dX6_pour_31 (kk := ?_)
      refine v_istore4 (q := 34) dX6_pour_32 (kk := ?_)
      exact pour_loop (pl := fun j => ce (24 * k + j)) s0 r0 hk1 hw hra (by omega) (q2.trans es) hs24 (fun j hj => by rw [show b + 53 + 2 * k + 1 = b + 54 + 2 * k by omega]; exact q3 j hj) (fun I' hF' hd' => hQ I' hF' ⟨np, nb, nt, sec, hw.pr _ (by omega), hd'⟩) (min s nb) 0 I (by omega) Fh.rfl hd
    · rw [if_pos c2] at hQ
      refine v_ldc (q := 28) cX6_186 dX6_pour_26 (kk := ?_)
      refine v_iret dX6_pour_28 (hQ := ?_)
      exact hQ I Fh.rfl hn
  · have e : spPour N so si ce sh = (-1000000001, N) := by unfold spPour; rw [if_neg c1]
    rw [e] at hQ
    refine v_ldc (q := 10) cX6_55 dX6_pour_8 (kk := ?_)
    refine v_iret dX6_pour_10 (hQ := ?_)
    exact hQ I Fh.rfl hn
theorem mpour_loop {k s : Nat} (hk : k < 4) (hm : MG S R m) (hw : XW N np nb nt sec) (hsz : I (m + 14) k = nI s) (hs24 : s ≤ 24) (hc : I (m + 15) = ce) (hQ : ∀ I' : hcI, Fm m I I' → I' (m + 1) = prN N (fun j => ce (24 * k + j)) (min s nb) → Q (some (.int (nI (prC N (fun j => ce (24 * k + j)) (min s nb))))) S I' R z) (r : Nat) : ∀ (i : Nat) (I1 : hcI), i + r = min s nb → Fm m I I1 → I1 (m + 1) = prN N (fun j => ce (24 * k + j)) i → V g mX7_pour 2 0 0 S I1 R z 26 [some (.ref m), some (.int (nI k)), some (.int (nI (prC N (fun j => ce (24 * k + j)) i))), some (.int (nI i)), none, none] [] Q := by
  have s0 := hm.s0
  have sn := hm.s_now
  have rn := hm.r_now
  have sz := hm.s_sizes
  have rz := hm.r_sizes
  have sc := hm.s_cells
  have rc := hm.r_cells
  have hnb := hw.1.2.1.2.2
  induction r with
  | zero =>
    intro i I1 hi hF hN
    obtain rfl : i = min s nb := by omega
    have e2 : prN N (fun j => ce (24 * k + j)) (min s nb) 2 = nI nb := (hw.pr _ (by omega)).1.2.1.1
    refine v_iload_n (q := 27) dX7_pour_26 (kk := ?_)
    refine v_aload_n (q := 28) dX7_pour_27 (kk := ?_)
    refine v_getR (q := 31) fX7_51 (by assumption) (by assumption) (hd := dX7_pour_28) (kk := ?_)
    refine v_iload_n (q := 32) dX7_pour_31 (kk := ?_)
    refine v_ialdE (q := 33) (k) (by rfl) (by assumption) (by omega) (by omega) (hd := dX7_pour_32) (kk := ?_)
    rw [hF (m + 14) (by omega) (by omega) (by omega), hsz]
    by_cases c : s ≤ nb
    · refine v_icmp_geT 117 dX7_pour_33 (nI_le (by omega) (by omega)) (kt := ?_)
      refine v_iload_n (q := 118) dX7_pour_117 (kk := ?_)
      refine v_iret dX7_pour_118 (hQ := ?_)
      exact hQ I1 hF hN
    · refine v_icmp_geF (q := 36) (t := 117) dX7_pour_33 (fun h => by have := (nI_leI (by omega) (by omega)).mp h; omega) (kf := ?_)
      refine v_iload_n (q := 37) dX7_pour_36 (kk := ?_)
      refine v_aload_n (q := 38) dX7_pour_37 (kk := ?_)
      refine v_getR (q := 41) fX7_9 (by assumption) (by assumption) (hd := dX7_pour_38) (kk := ?_)
      refine v_iconst (v := 2) (q := 42) dX7_pour_41 (kk := ?_)
      refine v_ialdE (q := 43) (2) (by rfl) (by assumption) (by omega) (by omega) (hd := dX7_pour_42) (kk := ?_)
      rw [hN, e2]
      refine v_icmp_geT 117 dX7_pour_43 (nI_le (by omega) (by omega)) (kt := ?_)
      refine v_iload_n (q := 118) dX7_pour_117 (kk := ?_)
      refine v_iret dX7_pour_118 (hQ := ?_)
      exact hQ I1 hF hN
  | succ r ih =>
    intro i I1 hi hF hN
    have hwi := hw.pr (pl := fun j => ce (24 * k + j)) i (by omega)
    have hpc := prC_le (N := N) (pl := fun j => ce (24 * k + j)) i
    have hpn : prN N (fun j => ce (24 * k + j)) i (9 + i) = N (9 + i) := prN_at i (fun k hk => by omega)
    have e2 : prN N (fun j => ce (24 * k + j)) i 2 = nI nb := hwi.1.2.1.1
    have hs1 : prC N (fun j => ce (24 * k + j)) (i + 1) = prC N (fun j => ce (24 * k + j)) i + (if pvF N (fun j => ce (24 * k + j)) i = N (9 + i) then 0 else 1) := rfl
    have hs2 : prN N (fun j => ce (24 * k + j)) (i + 1) = upd (prN N (fun j => ce (24 * k + j)) i) (9 + i) (pvF N (fun j => ce (24 * k + j)) i) := rfl
    have hix : (9 : Int32) + nI i = nI (9 + i) := nI_add 9 i
    refine v_iload_n (q := 27) dX7_pour_26 (kk := ?_)
    refine v_aload_n (q := 28) dX7_pour_27 (kk := ?_)
    refine v_getR (q := 31) fX7_51 (by assumption) (by assumption) (hd := dX7_pour_28) (kk := ?_)
    refine v_iload_n (q := 32) dX7_pour_31 (kk := ?_)
    refine v_ialdE (q := 33) (k) (by rfl) (by assumption) (by omega) (by omega) (hd := dX7_pour_32) (kk := ?_)
    rw [hF (m + 14) (by omega) (by omega) (by omega), hsz]
    refine v_icmp_geF (q := 36) (t := 117) dX7_pour_33 (fun h => by have := (nI_leI (by omega) (by omega)).mp h; omega) (kf := ?_)
    refine v_iload_n (q := 37) dX7_pour_36 (kk := ?_)
    refine v_aload_n (q := 38) dX7_pour_37 (kk := ?_)
    refine v_getR (q := 41) fX7_9 (by assumption) (by assumption) (hd := dX7_pour_38) (kk := ?_)
    refine v_iconst (v := 2) (q := 42) dX7_pour_41 (kk := ?_)
    refine v_ialdE (q := 43) (2) (by rfl) (by assumption) (by omega) (by omega) (hd := dX7_pour_42) (kk := ?_)
    rw [hN, e2]
    refine v_icmp_geF (q := 46) (t := 117) dX7_pour_43 (fun h => by have := (nI_leI (by omega) (by omega)).mp h; omega) (kf := ?_)
    refine v_aload_n (q := 47) dX7_pour_46 (kk := ?_)
    refine v_getR (q := 50) fX7_54 (by assumption) (by assumption) (hd := dX7_pour_47) (kk := ?_)
    refine v_bipush (v := 24) (q := 52) dX7_pour_50 (kk := ?_)
    refine v_iload_n (q := 53) dX7_pour_52 (kk := ?_)
    refine v_imul (q := 54) dX7_pour_53 (kk := ?_)
    refine v_iload_n (q := 55) dX7_pour_54 (kk := ?_)
    refine v_iadd (q := 56) dX7_pour_55 (kk := ?_)
    refine v_ialdE (q := 57) (24 * k + i) (by rw [show (24 : Int32) = nI 24 from rfl, pk_mul, nI_add]) (by assumption) (by omega) (by omega) (hd := dX7_pour_56) (kk := ?_)
    rw [hF (m + 15) (by omega) (by omega) (by omega), hc]
    have tail : V g mX7_pour 2 0 0 S I1 R z 86 [some (.ref m), some (.int (nI k)), some (.int (nI (prC N (fun j => ce (24 * k + j)) i))), some (.int (nI i)), some (.int (ce (24 * k + i))), none] [.int (pvF N (fun j => ce (24 * k + j)) i)] Q := by
      have hN3 : hc_u I1 (m + 1) (9 + i) (pvF N (fun j => ce (24 * k + j)) i) (m + 1) = prN N (fun j => ce (24 * k + j)) (i + 1) := by rw [hc_u_at, hN, hs2]
      have := ih (i + 1) _ (by omega) (hF.trans Fm.u) hN3
      refine v_istore5 (q := 88) dX7_pour_86 (kk := ?_)
      refine v_iload_n (q := 89) dX7_pour_88 (kk := ?_)
      refine v_aload_n (q := 90) dX7_pour_89 (kk := ?_)
      refine v_bipush (v := 9) (q := 92) dX7_pour_90 (kk := ?_)
      refine v_iload_n (q := 93) dX7_pour_92 (kk := ?_)
      refine v_iadd (q := 94) dX7_pour_93 (kk := ?_)
      refine v_iload (q := 96) dX7_pour_94 (kk := ?_)
      refine v_cV2 (N := mX7_becomes) (q := 99) lX7_135 iX7_becomes kX7_becomes (by assumption) dX7_pour_96 (s_mbecomes (k := 9 + i) hm hix (by omega) ?_)
      rw [hN, hpn]
      refine v_iload (q := 101) dX7_pour_99 (kk := ?_)
      refine v_icmp_ne 108 (q := 104) dX7_pour_101 (kt := fun c => ?_) (kf := fun c => ?_)
      · rw [hs1, if_neg (fun h => c h.symm)] at this
        refine v_iconst (v := 1) (q := 109) dX7_pour_108 (kk := ?_)
        refine v_iadd (q := 110) dX7_pour_109 (kk := ?_)
        rw [nI_1]
        refine v_istore2 (q := 111) dX7_pour_110 (kk := ?_)
        refine v_iinc3 (q := 114) dX7_pour_111 (hv := nI_1 i) (kk := ?_)
        refine v_goto 26 dX7_pour_114 (kt := ?_)
        exact v_drop4 (v_drop5 this)
      · rw [hs1, if_pos c.symm] at this
        refine v_iconst (v := 0) (q := 105) dX7_pour_104 (kk := ?_)
        refine v_goto 109 dX7_pour_105 (kt := ?_)
        refine v_iadd (q := 110) dX7_pour_109 (kk := ?_)
        rw [Int32.add_zero]
        refine v_istore2 (q := 111) dX7_pour_110 (kk := ?_)
        refine v_iinc3 (q := 114) dX7_pour_111 (hv := nI_1 i) (kk := ?_)
        refine v_goto 26 dX7_pour_114 (kt := ?_)
        exact v_drop4 (v_drop5 this)
    refine v_istore4 (q := 59) dX7_pour_57 (kk := ?_)
    refine v_iload (q := 61) dX7_pour_59 (kk := ?_)
    refine v_ldc (q := 63) cX7_75 dX7_pour_61 (kk := ?_)
    refine v_icmp_ne 78 (q := 66) dX7_pour_63 (kt := fun c => ?_) (kf := fun c => ?_)
    · have e5 : pvF N (fun j => ce (24 * k + j)) i = hc_wi (ce (24 * k + i)) 0 99 := if_neg c
      rw [e5] at tail
      refine v_iload (q := 80) dX7_pour_78 (kk := ?_)
      refine v_iconst (v := 0) (q := 81) dX7_pour_80 (kk := ?_)
      refine v_bipush (v := 99) (q := 83) dX7_pour_81 (kk := ?_)
      refine v_cS3 (N := mX7_within) (q := 86) lX7_109 sX7_within kX7_within dX7_pour_83 (s_mwithin ?_)
      exact tail
    · have e5 : pvF N (fun j => ce (24 * k + j)) i = N (9 + i) := if_pos c
      rw [e5] at tail
      refine v_aload_n (q := 67) dX7_pour_66 (kk := ?_)
      refine v_getR (q := 70) fX7_9 (by assumption) (by assumption) (hd := dX7_pour_67) (kk := ?_)
      refine v_bipush (v := 9) (q := 72) dX7_pour_70 (kk := ?_)
      refine v_iload_n (q := 73) dX7_pour_72 (kk := ?_)
      refine v_iadd (q := 74) dX7_pour_73 (kk := ?_)
      refine v_ialdE (q := 75) (9 + i) hix (by assumption) (by omega) (by omega) (hd := dX7_pour_74) (kk := ?_)
      rw [hN, hpn]
      refine v_goto 86 dX7_pour_75 (kt := ?_)
      exact tail
theorem m_pour {sh : Int32} (hm : MG S R m) (hN : I (m + 1) = N) (hn : MN N) (hsw : SW so si) (hsm : SHm I m so si ce) (hQ : ∀ I' : hcI, Fm m I I' → I' (m + 1) = (spPour N so si ce sh).2 → Q (some (.int (spPour N so si ce sh).1)) S I' R z) : Cl g mX7_pour 2 0 0 S I R z [.ref m, .int sh] Q := by
  have s0 := hm.s0
  have ss := hm.s_sorts
  have rs := hm.r_sorts
  obtain ⟨np, nb, nt, sec, hw⟩ := hn
  obtain ⟨e1, e2, e3, e4⟩ := hw.e
  obtain ⟨q1, q2, q3⟩ := hsm
  refine Cl.go [some (.ref m), some (.int sh), none, none, none, none] ?_
  refine v_iload_n (q := 1) dX7_pour_0 (kk := ?_)
  refine v_cS1 (N := mX7_isSheet) (q := 4) lX7_174 sX7_isSheet kX7_isSheet dX7_pour_1 (s_isSheet ?_)
  refine v_if_neB 10 (q := 7) dX7_pour_4 (kt := fun c1 => ?_) (kf := fun c1 => ?_)
  · obtain ⟨k, rfl, hk⟩ := nI_of6 (n := 4) rfl (by omega) c1
    obtain ⟨-, s, es, hs24⟩ := hsw k hk
    have e : spPour N so si ce (nI k) = if so k = -1 then (-1000000011, N) else (nI (prC N (fun j => ce (24 * k + j)) (min s nb)), prN N (fun j => ce (24 * k + j)) (min s nb)) := by unfold spPour; rw [if_pos c1, e2, nI_clamp (by omega), es, nI_clamp (by omega)]
    rw [e] at hQ
    clear e
    refine v_aload_n (q := 11) dX7_pour_10 (kk := ?_)
    refine v_getR (q := 14) fX7_48 (by assumption) (by assumption) (hd := dX7_pour_11) (kk := ?_)
    refine v_iload_n (q := 15) dX7_pour_14 (kk := ?_)
    refine v_ialdE (q := 16) (k) (by rfl) (by assumption) (by omega) (by omega) (hd := dX7_pour_15) (kk := ?_)
    rw [q1]
    refine v_if_ge 22 (q := 19) dX7_pour_16 (kt := fun c2 => ?_) (kf := fun c2 => ?_)
    · rw [if_neg (fun h => absurd ((hsw.neg hk).mpr h) (Int32.not_lt.mpr c2))] at hQ
      refine v_iconst (v := 0) (q := 23) dX7_pour_22 (kk := ?_)
      refine v_istore2 (q := 24) dX7_pour_23 (kk := ?_)
      refine v_iconst (v := 0) (q := 25) dX7_pour_24 (kk := ?_)
      refine v_istore3 (q := 26) dX7_pour_25 (kk := ?_)
      exact mpour_loop (ce := ce) hk hm hw (by rw [q2]; exact es) hs24 q3 hQ (min s nb) 0 I (by omega) Fm.rfl hN
    · rw [if_pos ((hsw.neg hk).mp (Int32.not_le.mp c2))] at hQ
      refine v_ldc (q := 21) cX7_177 dX7_pour_19 (kk := ?_)
      refine v_iret dX7_pour_21 (hQ := ?_)
      exact hQ I Fm.rfl hN
  · have e : spPour N so si ce sh = (-1000000001, N) := by unfold spPour; rw [if_neg c1]
    rw [e] at hQ
    refine v_ldc (q := 9) cX7_92 dX7_pour_7 (kk := ?_)
    refine v_iret dX7_pour_9 (hQ := ?_)
    exact hQ I Fm.rfl hN
end T7
