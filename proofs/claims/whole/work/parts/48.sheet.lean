/-! sheet, mark, reads, pour -/
abbrev hSh : Type := (Nat → Int32) × (Nat → Int32) × (Nat → Int32)
def Fs (b : Nat) (I I' : hcI) : Prop := ∀ y, (y < b + 53 ∨ b + 61 ≤ y) → I' y = I y
theorem Fs.rfl {b : Nat} {I : hcI} : Fs b I I := fun _ _ => Eq.refl _
def Fsm (m : Nat) (I I' : hcI) : Prop := ∀ y, y ≠ m + 13 → y ≠ m + 14 → y ≠ m + 15 → y ≠ m + 20 → I' y = I y
theorem Fsm.rfl {m : Nat} {I : hcI} : Fsm m I I := fun _ _ _ _ _ => Eq.refl _
def zrF (ce : Nat → Int32) (k : Nat) : Nat → Int32 := fun i => if 24 * k ≤ i ∧ i < 24 * k + 24 then 0 else ce i
def spSheet (so si ce : Nat → Int32) (sh s n : Int32) : Int32 × hSh := if (0 ≤ sh ∧ sh < 4) ∧ (-1 ≤ s ∧ s ≤ 1) then (if s = -1 then (0, upd so sh.toNatClampNeg (-1), upd si sh.toNatClampNeg 0, zrF ce sh.toNatClampNeg) else if 24 < n then (-1000000001, so, si, ce) else if n < 0 then (-1000000014, so, si, ce) else (n, upd so sh.toNatClampNeg s, upd si sh.toNatClampNeg n, zrF ce sh.toNatClampNeg)) else (-1000000001, so, si, ce)
def spMark (so si ce : Nat → Int32) (sh p v : Int32) : Int32 × hSh := if 0 ≤ sh ∧ sh < 4 then (if so sh.toNatClampNeg = -1 then (-1000000011, so, si, ce) else if ¬ (0 ≤ p ∧ p < si sh.toNatClampNeg) then (-1000000013, so, si, ce) else if so sh.toNatClampNeg = 0 then (if v = -1000000005 then (-1000000012, so, si, ce) else (1, so, si, upd ce (24 * sh.toNatClampNeg + p.toNatClampNeg) v.toInt16.toInt32)) else if ¬ v = -1000000005 ∧ ¬ (-99999 ≤ v ∧ v ≤ 99999) then (-1000000001, so, si, ce) else (1, so, si, upd ce (24 * sh.toNatClampNeg + p.toNatClampNeg) v)) else (-1000000001, so, si, ce)
def rdF (N : hN) (nb sec : Nat) (pl : Nat → Int32) (s : Nat) : Option Nat := fst0 (fun k => decide (¬ pl k = -1000000005) && decide (¬ pl k = N (9 + (sec + k) % nb))) 0 s
def spReads (N : hN) (so si ce : Nat → Int32) (sh : Int32) : Int32 := if 0 ≤ sh ∧ sh < 4 then (if so sh.toNatClampNeg = -1 then -1000000011 else hc_5 (rdF N (nbN N) (scN N) (fun j => ce (24 * sh.toNatClampNeg + j)) (si sh.toNatClampNeg).toNatClampNeg)) else -1000000001
def pvF (N : hN) (pl : Nat → Int32) (j : Nat) : Int32 := if pl j = -1000000005 then N (9 + j) else hc_wi (pl j) 0 99
def prN (N : hN) (pl : Nat → Int32) : Nat → hN
  | 0 => N
  | j + 1 => upd (prN N pl j) (9 + j) (pvF N pl j)
def prC (N : hN) (pl : Nat → Int32) : Nat → Nat
  | 0 => 0
  | j + 1 => prC N pl j + (if pvF N pl j = N (9 + j) then 0 else 1)
theorem prC_le {N : hN} {pl : Nat → Int32} : ∀ j, prC N pl j ≤ j
  | 0 => Nat.le_refl _
  | j + 1 => by
    have := prC_le (N := N) (pl := pl) j
    simp only [prC]
    split <;> omega
theorem prN_at {N : hN} {pl : Nat → Int32} {i : Nat} : ∀ j, (∀ k, k < j → i ≠ 9 + k) → prN N pl j i = N i
  | 0, _ => rfl
  | j + 1, h => by
    show upd (prN N pl j) (9 + j) (pvF N pl j) i = N i
    rw [upd_ne (h j (by omega))]
    exact prN_at j (fun k hk => h k (by omega))
theorem pvF_ok {N : hN} {np nb nt sec j : Nat} {pl : Nat → Int32} (h : WF N np nb nt sec) (hj : j < nb) : ∃ v, pvF N pl j = nI v ∧ v < 100 := by
  unfold pvF
  split
  · exact h.2.2.2.2.2.2.2.2.1 j hj
  · obtain ⟨k, e, hk⟩ := wi_nI (pl j) (hi := 99) (by omega)
    exact ⟨k, e, by omega⟩
theorem XW.pr {N : hN} {np nb nt sec : Nat} {pl : Nat → Int32} (h : XW N np nb nt sec) : ∀ j, j ≤ nb → XW (prN N pl j) np nb nt sec
  | 0, _ => h
  | j + 1, hj => by
    obtain ⟨v, e, hv⟩ := pvF_ok (pl := pl) h.1 (show j < nb by omega)
    show XW (upd (prN N pl j) (9 + j) (pvF N pl j)) np nb nt sec
    rw [e]
    exact (h.pr j (by omega)).l (by omega) hv
def spPour (N : hN) (so si ce : Nat → Int32) (sh : Int32) : Int32 × hN := if 0 ≤ sh ∧ sh < 4 then (if so sh.toNatClampNeg = -1 then (-1000000011, N) else (nI (prC N (fun j => ce (24 * sh.toNatClampNeg + j)) (min (si sh.toNatClampNeg).toNatClampNeg (nbN N))), prN N (fun j => ce (24 * sh.toNatClampNeg + j)) (min (si sh.toNatClampNeg).toNatClampNeg (nbN N)))) else (-1000000001, N)
section T5
variable {g : hcG} {S : hcS} {I : hcI} {R : hcR} {z : Nat} {Q : hcQ} {b m np nb nt sec : Nat} {N : hN} {so si ce : Nat → Int32}
theorem SHc.clear {I' : hcI} {k : Nat} {s n : Int32} (h : SHc I b so si ce) (hk : k < 4) (hF : ∀ x, x ≠ b + 53 + 2 * k → x ≠ b + 53 + 2 * k + 1 → I' x = I x) (h0 : ∀ j, j < 24 → I' (b + 53 + 2 * k + 1) j = 0) (h1 : I' (b + 53 + 2 * k) 1 = s) (h2 : I' (b + 53 + 2 * k) 2 = n) : SHc I' b (upd so k s) (upd si k n) (zrF ce k) := by
  intro i hi
  by_cases e : i = k
  · subst e
    refine ⟨by rw [upd_at]; exact h1, by rw [upd_at]; exact h2, fun j hj => ?_⟩
    rw [show b + 54 + 2 * i = b + 53 + 2 * i + 1 by omega, h0 j hj]
    unfold zrF
    rw [if_pos (by omega)]
  · obtain ⟨q1, q2, q3⟩ := h i hi
    refine ⟨by rw [hF _ (by omega) (by omega), upd_ne e]; exact q1, by rw [hF _ (by omega) (by omega), upd_ne e]; exact q2, fun j hj => ?_⟩
    rw [hF _ (by omega) (by omega), q3 j hj]
    unfold zrF
    rw [if_neg (by omega)]
theorem SHc.put {k p : Nat} {v : Int32} (h : SHc I b so si ce) (hk : k < 4) (hp : p < 24) : SHc (hc_u I (b + 53 + 2 * k + 1) p v) b so si (upd ce (24 * k + p) v) := by
  intro i hi
  obtain ⟨q1, q2, q3⟩ := h i hi
  refine ⟨by rw [hc_u_ne (by omega)]; exact q1, by rw [hc_u_ne (by omega)]; exact q2, fun j hj => ?_⟩
  by_cases e : i = k
  · subst e
    rw [show b + 54 + 2 * i = b + 53 + 2 * i + 1 by omega, hc_u_at]
    by_cases e2 : j = p
    · rw [e2, upd_at, upd_at]
    · rw [upd_ne e2, upd_ne (by omega), show b + 53 + 2 * i + 1 = b + 54 + 2 * i by omega]
      exact q3 j hj
  · rw [hc_u_ne (by omega), upd_ne (by omega)]
    exact q3 j hj
theorem x_sheet {sh s n : Int32} (hx : XSk S R b) (hsc : SHc I b so si ce) (hQ : ∀ I' : hcI, Fs b I I' → SHc I' b (spSheet so si ce sh s n).2.1 (spSheet so si ce sh s n).2.2.1 (spSheet so si ce sh s n).2.2.2 → Q (some (.int (spSheet so si ce sh s n).1)) S I' R z) : Cl g mX6_sheet 1 0 0 S I R z [.ref b, .int sh, .int s, .int n] Q := by
  obtain ⟨⟨s0, r0, -, r2, -, r4, -⟩, -, -, ⟨s49, h49⟩, -⟩ := hx
  refine Cl.go [some (.ref b), some (.int sh), some (.int s), some (.int n)] ?_
  have bad : ¬ ((0 ≤ sh ∧ sh < 4) ∧ (-1 ≤ s ∧ s ≤ 1)) → V g mX6_sheet 1 0 0 S I R z 18 [some (.ref b), some (.int sh), some (.int s), some (.int n)] [] Q := by
    intro c
    have e : spSheet so si ce sh s n = (-1000000001, so, si, ce) := by unfold spSheet; rw [if_neg c]
    rw [e] at hQ
    refine v_ldc (q := 20) cX6_55 dX6_sheet_18 (kk := ?_)
    refine v_iret dX6_sheet_20 (hQ := ?_)
    exact hQ I Fs.rfl hsc
  refine v_iload_n (q := 1) dX6_sheet_0 (kk := ?_)
  refine v_iconst (v := 4) (q := 2) dX6_sheet_1 (kk := ?_)
  refine v_cS2 (N := mX6_within) (q := 5) lX6_51 sX6_within kX6_within dX6_sheet_2 (s_within ?_)
  refine v_if_eqB 18 (q := 8) dX6_sheet_5 (kt := fun c1 => ?_) (kf := fun c1 => ?_)
  · exact bad (fun h => c1 h.1)
  · refine v_iload_n (q := 9) dX6_sheet_8 (kk := ?_)
    refine v_iconst (v := (-1)) (q := 10) dX6_sheet_9 (kk := ?_)
    refine v_icmp_lt 18 (q := 13) dX6_sheet_10 (kt := fun c2 => ?_) (kf := fun c2 => ?_)
    · exact bad (fun h => absurd h.2.1 (Int32.not_le.mpr c2))
    · refine v_iload_n (q := 14) dX6_sheet_13 (kk := ?_)
      refine v_iconst (v := 1) (q := 15) dX6_sheet_14 (kk := ?_)
      refine v_icmp_le 21 (q := 18) dX6_sheet_15 (kt := fun c3 => ?_) (kf := fun c3 => ?_)
      · have c : (0 ≤ sh ∧ sh < 4) ∧ (-1 ≤ s ∧ s ≤ 1) := ⟨c1, Int32.not_lt.mp c2, c3⟩
        obtain ⟨k, rfl, hk⟩ := nI_of6 (n := 4) rfl (by omega) c1
        obtain ⟨rk, hra⟩ := h49 k hk
        have sa := hra.1
        refine v_iload_n (q := 22) dX6_sheet_21 (kk := ?_)
        refine v_iconst (v := (-1)) (q := 23) dX6_sheet_22 (kk := ?_)
        refine v_icmp_ne 39 (q := 26) dX6_sheet_23 (kt := fun c4 => ?_) (kf := fun c4 => ?_)
        · refine v_iload_n (q := 40) dX6_sheet_39 (kk := ?_)
          refine v_bipush (v := 24) (q := 42) dX6_sheet_40 (kk := ?_)
          refine v_icmp_le 48 (q := 45) dX6_sheet_42 (kt := fun c5 => ?_) (kf := fun c5 => ?_)
          · refine v_iload_n (q := 49) dX6_sheet_48 (kk := ?_)
            refine v_if_ge 55 (q := 52) dX6_sheet_49 (kt := fun c6 => ?_) (kf := fun c6 => ?_)
            · have e : spSheet so si ce (nI k) s n = (n, upd so k s, upd si k n, zrF ce k) := by unfold spSheet; rw [if_pos c, if_neg c4, if_neg (Int32.not_lt.mpr c5), if_neg (Int32.not_lt.mpr c6), nI_clamp (by omega)]
              rw [e] at hQ
              clear e
              refine v_aload_n (q := 56) dX6_sheet_55 (kk := ?_)
              refine v_getR (q := 59) fX6_31 (by assumption) (by assumption) (hd := dX6_sheet_56) (kk := ?_)
              refine v_iload_n (q := 60) dX6_sheet_59 (kk := ?_)
              refine v_aaldn (q := 61) (by assumption) (by assumption) (by omega) (by omega) (hd := dX6_sheet_60) (kk := ?_)
              refine v_iload_n (q := 62) dX6_sheet_61 (kk := ?_)
              refine v_iload_n (q := 63) dX6_sheet_62 (kk := ?_)
              refine v_cV2 (N := mX3_clears) (q := 66) lX6_230 iX3_clears kX3_clears (by assumption) dX6_sheet_63 (s_Row_clears hra (fun I' hF h0 h1 h2 => ?_))
              refine v_iload_n (q := 67) dX6_sheet_66 (kk := ?_)
              refine v_iret dX6_sheet_67 (hQ := ?_)
              exact hQ I' (fun y hy => hF y (by omega) (by omega)) (hsc.clear hk hF h0 h1 h2)
            · have e : spSheet so si ce (nI k) s n = (-1000000014, so, si, ce) := by unfold spSheet; rw [if_pos c, if_neg c4, if_neg (Int32.not_lt.mpr c5), if_pos (Int32.not_le.mp c6)]
              rw [e] at hQ
              refine v_ldc (q := 54) cX6_233 dX6_sheet_52 (kk := ?_)
              refine v_iret dX6_sheet_54 (hQ := ?_)
              exact hQ I Fs.rfl hsc
          · have e : spSheet so si ce (nI k) s n = (-1000000001, so, si, ce) := by unfold spSheet; rw [if_pos c, if_neg c4, if_pos (Int32.not_le.mp c5)]
            rw [e] at hQ
            refine v_ldc (q := 47) cX6_55 dX6_sheet_45 (kk := ?_)
            refine v_iret dX6_sheet_47 (hQ := ?_)
            exact hQ I Fs.rfl hsc
        · have e : spSheet so si ce (nI k) s n = (0, upd so k (-1), upd si k 0, zrF ce k) := by unfold spSheet; rw [if_pos c, if_pos c4, nI_clamp (by omega)]
          rw [e] at hQ
          clear e
          refine v_aload_n (q := 27) dX6_sheet_26 (kk := ?_)
          refine v_getR (q := 30) fX6_31 (by assumption) (by assumption) (hd := dX6_sheet_27) (kk := ?_)
          refine v_iload_n (q := 31) dX6_sheet_30 (kk := ?_)
          refine v_aaldn (q := 32) (by assumption) (by assumption) (by omega) (by omega) (hd := dX6_sheet_31) (kk := ?_)
          refine v_iconst (v := (-1)) (q := 33) dX6_sheet_32 (kk := ?_)
          refine v_iconst (v := 0) (q := 34) dX6_sheet_33 (kk := ?_)
          refine v_cV2 (N := mX3_clears) (q := 37) lX6_230 iX3_clears kX3_clears (by assumption) dX6_sheet_34 (s_Row_clears hra (fun I' hF h0 h1 h2 => ?_))
          refine v_iconst (v := 0) (q := 38) dX6_sheet_37 (kk := ?_)
          refine v_iret dX6_sheet_38 (hQ := ?_)
          exact hQ I' (fun y hy => hF y (by omega) (by omega)) (hsc.clear hk hF h0 h1 h2)
      · exact bad (fun h => c3 h.2.2)
theorem msheet_loop {k : Nat} {s n v : Int32} (hk : k < 4) (hm : MG S R m) (hsz : I (m + 14) k = v) (hc : I (m + 15) = ce) (hQ : ∀ I' : hcI, (∀ y, y ≠ m + 15 → I' y = I y) → I' (m + 15) = zrF ce k → Q (some (.int v)) S I' R z) (r : Nat) : ∀ (i : Nat) (I1 : hcI), i + r = 24 → (∀ y, y ≠ m + 15 → I1 y = I y) → (∀ j, I1 (m + 15) j = if 24 * k ≤ j ∧ j < 24 * k + i then 0 else ce j) → V g mX7_sheet 2 0 0 S I1 R z 65 [some (.ref m), some (.int (nI k)), some (.int s), some (.int n), some (.int (nI i))] [] Q := by
  have s0 := hm.s0
  have sz := hm.s_sizes
  have rz := hm.r_sizes
  have sc := hm.s_cells
  have rc := hm.r_cells
  induction r with
  | zero =>
    intro i I1 hi hF h1
    obtain rfl : i = 24 := by omega
    refine v_iload (q := 67) dX7_sheet_65 (kk := ?_)
    refine v_bipush (v := 24) (q := 69) dX7_sheet_67 (kk := ?_)
    refine v_icmp_geT 91 dX7_sheet_69 (Int32.le_refl _) (kt := ?_)
    refine v_aload_n (q := 92) dX7_sheet_91 (kk := ?_)
    refine v_getR (q := 95) fX7_51 (by assumption) (by assumption) (hd := dX7_sheet_92) (kk := ?_)
    refine v_iload_n (q := 96) dX7_sheet_95 (kk := ?_)
    refine v_ialdE (q := 97) (k) (by rfl) (by assumption) (by omega) (by omega) (hd := dX7_sheet_96) (kk := ?_)
    rw [hF (m + 14) (by omega), hsz]
    refine v_iret dX7_sheet_97 (hQ := ?_)
    exact hQ I1 hF (funext h1)
  | succ r ih =>
    intro i I1 hi hF h1
    refine v_iload (q := 67) dX7_sheet_65 (kk := ?_)
    refine v_bipush (v := 24) (q := 69) dX7_sheet_67 (kk := ?_)
    refine v_icmp_geF (q := 72) (t := 91) dX7_sheet_69 (fun h => by have := (nI_leI (a := 24) (by omega) (by omega)).mp h; omega) (kf := ?_)
    refine v_aload_n (q := 73) dX7_sheet_72 (kk := ?_)
    refine v_getR (q := 76) fX7_54 (by assumption) (by assumption) (hd := dX7_sheet_73) (kk := ?_)
    refine v_bipush (v := 24) (q := 78) dX7_sheet_76 (kk := ?_)
    refine v_iload_n (q := 79) dX7_sheet_78 (kk := ?_)
    refine v_imul (q := 80) dX7_sheet_79 (kk := ?_)
    refine v_iload (q := 82) dX7_sheet_80 (kk := ?_)
    refine v_iadd (q := 83) dX7_sheet_82 (kk := ?_)
    refine v_iconst (v := 0) (q := 84) dX7_sheet_83 (kk := ?_)
    refine v_iastE (q := 85) (24 * k + i) (by rw [show (24 : Int32) = nI 24 from rfl, pk_mul, nI_add]) (by assumption) (by omega) (by omega) (hd := dX7_sheet_84) (kk := ?_)
    refine v_iinc4 (q := 88) dX7_sheet_85 (hv := nI_1 i) (kk := ?_)
    refine v_goto 65 dX7_sheet_88 (kt := ?_)
    refine ih (i + 1) _ (by omega) (fun y hy => (hc_u_ne hy).trans (hF y hy)) (fun j => ?_)
    rw [hc_u_at]
    by_cases e : j = 24 * k + i
    · rw [e, upd_at, if_pos (by omega)]
    · rw [upd_ne e, h1 j]
      by_cases c : 24 * k ≤ j ∧ j < 24 * k + i
      · rw [if_pos c, if_pos (by omega)]
      · rw [if_neg c, if_neg (by omega)]
theorem m_sheet {sh s n : Int32} (hm : MG S R m) (hsm : SHm I m so si ce) (hQ : ∀ I' : hcI, Fsm m I I' → SHm I' m (spSheet so si ce sh s n).2.1 (spSheet so si ce sh s n).2.2.1 (spSheet so si ce sh s n).2.2.2 → Q (some (.int (spSheet so si ce sh s n).1)) S I' R z) : Cl g mX7_sheet 2 0 0 S I R z [.ref m, .int sh, .int s, .int n] Q := by
  have s0 := hm.s0
  have ss := hm.s_sorts
  have rs := hm.r_sorts
  have sz := hm.s_sizes
  have rz := hm.r_sizes
  have hsm' := hsm
  obtain ⟨q1, q2, q3⟩ := hsm'
  refine Cl.go [some (.ref m), some (.int sh), some (.int s), some (.int n), none] ?_
  have bad : spSheet so si ce sh s n = (-1000000001, so, si, ce) → V g mX7_sheet 2 0 0 S I R z 26 [some (.ref m), some (.int sh), some (.int s), some (.int n), none] [] Q := by
    intro e
    rw [e] at hQ
    refine v_ldc (q := 28) cX7_92 dX7_sheet_26 (kk := ?_)
    refine v_iret dX7_sheet_28 (hQ := ?_)
    exact hQ I Fsm.rfl hsm
  refine v_iload_n (q := 1) dX7_sheet_0 (kk := ?_)
  refine v_cS1 (N := mX7_isSheet) (q := 4) lX7_174 sX7_isSheet kX7_isSheet dX7_sheet_1 (s_isSheet ?_)
  refine v_if_eqB 26 (q := 7) dX7_sheet_4 (kt := fun c1 => ?_) (kf := fun c1 => ?_)
  · exact bad (by unfold spSheet; rw [if_neg (fun h => c1 h.1)])
  · refine v_iload_n (q := 8) dX7_sheet_7 (kk := ?_)
    refine v_iconst (v := (-1)) (q := 9) dX7_sheet_8 (kk := ?_)
    refine v_iconst (v := 1) (q := 10) dX7_sheet_9 (kk := ?_)
    refine v_cS3 (N := mX7_in) (q := 13) lX7_76 sX7_in kX7_in dX7_sheet_10 (s_in ?_)
    refine v_if_eqB 26 (q := 16) dX7_sheet_13 (kt := fun c2 => ?_) (kf := fun c2 => ?_)
    · exact bad (by unfold spSheet; rw [if_neg (fun h => c2 h.2)])
    · have c : (0 ≤ sh ∧ sh < 4) ∧ (-1 ≤ s ∧ s ≤ 1) := ⟨c1, c2⟩
      obtain ⟨k, rfl, hk⟩ := nI_of6 (n := 4) rfl (by omega) c1
      have hs0 : s < 0 ↔ s = -1 := by
        constructor
        · intro h
          have a1 := Int32.le_iff_toInt_le.mp c2.1
          have a2 := Int32.lt_iff_toInt_lt.mp h
          refine Int32.toInt_inj.mp ?_
          rw [show (-1 : Int32).toInt = -1 from rfl] at a1 ⊢
          rw [show (0 : Int32).toInt = 0 from rfl] at a2
          omega
        · intro h
          rw [h]
          decide
      have fin : ∀ v, spSheet so si ce (nI k) s n = (v, upd so k s, upd si k v, zrF ce k) → (s < 0 → v = 0) → (¬ s < 0 → v = n) → V g mX7_sheet 2 0 0 S I R z 40 [some (.ref m), some (.int (nI k)), some (.int s), some (.int n), none] [] Q := by
        intro v e h1 h2
        rw [e] at hQ
        clear e
        refine v_aload_n (q := 41) dX7_sheet_40 (kk := ?_)
        refine v_getR (q := 44) fX7_48 (by assumption) (by assumption) (hd := dX7_sheet_41) (kk := ?_)
        refine v_iload_n (q := 45) dX7_sheet_44 (kk := ?_)
        refine v_iload_n (q := 46) dX7_sheet_45 (kk := ?_)
        refine v_iastE (q := 47) (k) (by rfl) (by assumption) (by omega) (by omega) (hd := dX7_sheet_46) (kk := ?_)
        refine v_aload_n (q := 48) dX7_sheet_47 (kk := ?_)
        refine v_getR (q := 51) fX7_51 (by assumption) (by assumption) (hd := dX7_sheet_48) (kk := ?_)
        refine v_iload_n (q := 52) dX7_sheet_51 (kk := ?_)
        refine v_iload_n (q := 53) dX7_sheet_52 (kk := ?_)
        have tail : V g mX7_sheet 2 0 0 S (hc_u I (m + 13) k s) R z 61 [some (.ref m), some (.int (nI k)), some (.int s), some (.int n), none] [.int v, .int (nI k), .ref (m + 14)] Q := by
          refine v_iastE (q := 62) (k) (by rfl) (by assumption) (by omega) (by omega) (hd := dX7_sheet_61) (kk := ?_)
          refine v_iconst (v := 0) (q := 63) dX7_sheet_62 (kk := ?_)
          refine v_istore4 (q := 65) dX7_sheet_63 (kk := ?_)
          refine msheet_loop (ce := ce) (v := v) hk hm (by rw [hc_u_at, upd_at]) (by rw [hc_u_ne (by omega), hc_u_ne (by omega)]; exact q3) (fun I' hF hc => ?_) 24 0 _ (by omega) (fun _ _ => rfl) (fun j => by rw [hc_u_ne (by omega), hc_u_ne (by omega), q3, if_neg (by omega)])
          refine hQ I' (fun y a1 a2 a3 a4 => (hF y a3).trans ((hc_u_ne a2).trans (hc_u_ne a1))) ⟨?_, ?_, hc⟩
          · rw [hF _ (by omega), hc_u_ne (by omega), hc_u_at, q1]
          · rw [hF _ (by omega), hc_u_at, hc_u_ne (by omega), q2]
        refine v_if_ge 60 (q := 56) dX7_sheet_53 (kt := fun c5 => ?_) (kf := fun c5 => ?_)
        · rw [h2 (Int32.not_lt.mpr c5)] at tail
          refine v_iload_n (q := 61) dX7_sheet_60 (kk := ?_)
          exact tail
        · rw [h1 (Int32.not_le.mp c5)] at tail
          refine v_iconst (v := 0) (q := 57) dX7_sheet_56 (kk := ?_)
          refine v_goto 61 dX7_sheet_57 (kt := ?_)
          exact tail
      refine v_iload_n (q := 17) dX7_sheet_16 (kk := ?_)
      refine v_if_lt 29 (q := 20) dX7_sheet_17 (kt := fun c3 => ?_) (kf := fun c3 => ?_)
      · have h3 := hs0.mp c3
        refine v_iload_n (q := 30) dX7_sheet_29 (kk := ?_)
        refine v_if_ltT 40 dX7_sheet_30 (c3) (kt := ?_)
        exact fin 0 (by unfold spSheet; rw [if_pos c, if_pos h3, h3, nI_clamp (by omega)]) (fun _ => rfl) (fun h => absurd c3 h)
      · have h3 : ¬ s = -1 := fun h => c3 (hs0.mpr h)
        refine v_iload_n (q := 21) dX7_sheet_20 (kk := ?_)
        refine v_bipush (v := 24) (q := 23) dX7_sheet_21 (kk := ?_)
        refine v_icmp_le 29 (q := 26) dX7_sheet_23 (kt := fun c5 => ?_) (kf := fun c5 => ?_)
        · refine v_iload_n (q := 30) dX7_sheet_29 (kk := ?_)
          refine v_if_ltF (q := 33) (t := 40) dX7_sheet_30 (c3) (kf := ?_)
          refine v_iload_n (q := 34) dX7_sheet_33 (kk := ?_)
          refine v_if_ge 40 (q := 37) dX7_sheet_34 (kt := fun c6 => ?_) (kf := fun c6 => ?_)
          · exact fin n (by unfold spSheet; rw [if_pos c, if_neg h3, if_neg (Int32.not_lt.mpr c5), if_neg (Int32.not_lt.mpr c6), nI_clamp (by omega)]) (fun h => absurd h c3) (fun _ => rfl)
          · have e : spSheet so si ce (nI k) s n = (-1000000014, so, si, ce) := by unfold spSheet; rw [if_pos c, if_neg h3, if_neg (Int32.not_lt.mpr c5), if_pos (Int32.not_le.mp c6)]
            rw [e] at hQ
            refine v_ldc (q := 39) cX7_250 dX7_sheet_37 (kk := ?_)
            refine v_iret dX7_sheet_39 (hQ := ?_)
            exact hQ I Fsm.rfl hsm
        · exact bad (by unfold spSheet; rw [if_pos c, if_neg h3, if_pos (Int32.not_le.mp c5)])
end T5
