/-! check, count -/
def ckF (np nb nt sec : Nat) (N : hN) (te : Nat → Int32) (wt s : Nat) : Nat → Nat → Int32
  | _, 0 => if 2 * s < wt then nI (1 + 2 * s) else 0
  | i, r + 1 => if ¬ (2 * i < wt ∧ te (2 * i) = nI (fsS N np nb nt sec i)) then nI (1 + 2 * i) else if ¬ (2 * i + 1 < wt ∧ te (2 * i + 1) = secsF N np nb nt sec (i + 1) 4) then nI (2 + 2 * i) else ckF np nb nt sec N te wt s (i + 1) r
def spCheck (im : Bool) (N : hN) (te : Nat → Int32) (wt : Nat) (n : Int32) : Int32 := if 1 ≤ n ∧ n ≤ 30 then (if im = true then ckF (npN N) (nbN N) (ntN N) (scN N) N te wt (runN N n) 0 (runN N n) else -1000000002) else -1000000001
theorem runN_le {N : hN} {np nb nt sec : Nat} {n : Int32} (h : XW N np nb nt sec) (hn : 1 ≤ n ∧ n ≤ 30) : ∃ s, runN N n = s ∧ s ≤ 30 ∧ sec + s ≤ 99999 ∧ hc_min n (99999 - nI sec) = nI s ∧ hc_wi (99999 - nI sec) 0 n = nI s := by
  obtain ⟨h1, h2, h3⟩ := run_n h ⟨hn.1, Int32.le_trans hn.2 (by decide)⟩
  refine ⟨runN N n, rfl, ?_, h3, h1, h2⟩
  have h4 : hc_min n (99999 - nI sec) ≤ n := by
    unfold hc_min
    split
    · exact Int32.le_refl _
    · next c => exact Int32.le_of_lt (Int32.not_le.mp c)
  rw [h1] at h4
  exact (nI_leI (b := 30) (by omega) (by omega)).mp (Int32.le_trans h4 hn.2)
section T12
variable {g : hcG} {S : hcS} {I : hcI} {R : hcR} {z : Nat} {Q : hcQ} {b m np nb nt sec wt : Nat} {N : hN} {te : Nat → Int32}
theorem nI2 (i : Nat) : (2 : Int32) * nI i = nI (2 * i) := pk_mul 2 i
theorem s_waitedAt {i : Nat} {v : Int32} (hx : XSk S R b) (hw : wt ≤ 60) (hi : i < 60) (h52 : ∀ j, j < wt → I (b + 52) j = te j) (hQ : Q (some (.int (hc_b (i < wt ∧ te i = v)))) S I R z) : Cl g mX6_waitedAt 0 0 0 S I R z [.ref b, .int (nI i), .int (nI wt), .int v] Q := by
  obtain ⟨⟨s0, r0, -, r2, -, r4, r5, r6, r7⟩, -, -, -, -, ⟨s51, s52⟩⟩ := hx
  refine Cl.go [some (.ref b), some (.int (nI i)), some (.int (nI wt)), some (.int v)] ?_
  have no : ¬ (i < wt ∧ te i = v) → V g mX6_waitedAt 0 0 0 S I R z 25 [some (.ref b), some (.int (nI i)), some (.int (nI wt)), some (.int v)] [] Q := by
    intro c
    rw [hc_bf c] at hQ
    refine v_iconst (v := 0) (q := 26) dX6_waitedAt_25 (kk := ?_)
    refine v_zret dX6_waitedAt_26 rfl (hQ := ?_)
    exact hQ
  refine v_iload_n (q := 1) dX6_waitedAt_0 (kk := ?_)
  refine v_iload_n (q := 2) dX6_waitedAt_1 (kk := ?_)
  by_cases c1 : i < wt
  · refine v_icmp_geF (q := 5) (t := 25) dX6_waitedAt_2 (fun h => by have := (nI_leI (by omega) (by omega)).mp h; omega) (kf := ?_)
    refine v_iload_n (q := 6) dX6_waitedAt_5 (kk := ?_)
    refine v_bipush (v := 60) (q := 8) dX6_waitedAt_6 (kk := ?_)
    refine v_icmp_geF (q := 11) (t := 25) dX6_waitedAt_8 (fun h => by have := (nI_leI (a := 60) (by omega) (by omega)).mp h; omega) (kf := ?_)
    refine v_aload_n (q := 12) dX6_waitedAt_11 (kk := ?_)
    refine v_getR (q := 15) fX6_45 (by assumption) (by assumption) (hd := dX6_waitedAt_12) (kk := ?_)
    refine v_iload_n (q := 16) dX6_waitedAt_15 (kk := ?_)
    refine v_ialdN (q := 17) (by assumption) (by omega) (by omega) (hd := dX6_waitedAt_16) (kk := ?_)
    rw [h52 i c1]
    refine v_iload_n (q := 18) dX6_waitedAt_17 (kk := ?_)
    refine v_icmp_ne 25 (q := 21) dX6_waitedAt_18 (kt := fun c2 => ?_) (kf := fun c2 => ?_)
    · exact no (fun h => c2 h.2)
    · rw [hc_bt ⟨c1, c2⟩] at hQ
      refine v_iconst (v := 1) (q := 22) dX6_waitedAt_21 (kk := ?_)
      refine v_goto 26 dX6_waitedAt_22 (kt := ?_)
      refine v_zret dX6_waitedAt_26 rfl (hQ := ?_)
      exact hQ
  · refine v_icmp_geT 25 dX6_waitedAt_2 (nI_le (by omega) (by omega)) (kt := ?_)
    exact no (fun h => c1 h.1)
theorem fnt_loop {s : Nat} {R1 : hcR} (hx : XSk S R1 b) (hw60 : wt ≤ 60) (h52 : ∀ j, j < wt → I (b + 52) j = te j) (hw : WF N np nb nt sec) (hs : s ≤ 30) (hss : sec + s ≤ 99999) (k : Nat) : ∀ (i : Nat) (I1 : hcI), i + k = s → Fh b (b + 31) I I1 → HD S I1 R1 b (b + 31) (secsF N np nb nt sec i) np nb nt → (∀ I' : hcI, Fh b (b + 31) I I' → Q (some (.int (ckF np nb nt sec N te wt s i k))) S I' R1 z) → V g mX6_firstNotTold 5 0 0 S I1 R1 z 13 [some (.ref b), some (.int (nI wt)), some (.int (nI s)), some (.int (nI i)), none] [] Q := by
  have hx' := hx
  obtain ⟨⟨s0, r0, r1, r2, -⟩, ⟨hk1, hk2, hk3⟩, -⟩ := hx'
  have sh3 := hk3.1
  induction k with
  | zero =>
    intro i I1 hi hF hd hQ
    obtain rfl : i = s := by omega
    unfold ckF at hQ
    refine v_iload_n (q := 14) dX6_firstNotTold_13 (kk := ?_)
    refine v_iload_n (q := 15) dX6_firstNotTold_14 (kk := ?_)
    refine v_icmp_geT 78 dX6_firstNotTold_15 (Int32.le_refl _) (kt := ?_)
    refine v_iload_n (q := 79) dX6_firstNotTold_78 (kk := ?_)
    refine v_iconst (v := 2) (q := 80) dX6_firstNotTold_79 (kk := ?_)
    refine v_iload_n (q := 81) dX6_firstNotTold_80 (kk := ?_)
    refine v_imul (q := 82) dX6_firstNotTold_81 (kk := ?_)
    rw [nI2]
    by_cases c : 2 * i < wt
    · rw [if_pos c] at hQ
      refine v_icmp_leF (q := 85) (t := 93) dX6_firstNotTold_82 (fun h => by have := (nI_leI (by omega) (by omega)).mp h; omega) (kf := ?_)
      refine v_iconst (v := 1) (q := 86) dX6_firstNotTold_85 (kk := ?_)
      refine v_iconst (v := 2) (q := 87) dX6_firstNotTold_86 (kk := ?_)
      refine v_iload_n (q := 88) dX6_firstNotTold_87 (kk := ?_)
      refine v_imul (q := 89) dX6_firstNotTold_88 (kk := ?_)
      rw [nI2]
      refine v_iadd (q := 90) dX6_firstNotTold_89 (kk := ?_)
      rw [show (1 : Int32) + nI (2 * i) = nI (1 + 2 * i) from nI_add 1 (2 * i)]
      refine v_goto 94 dX6_firstNotTold_90 (kt := ?_)
      refine v_iret dX6_firstNotTold_94 (hQ := ?_)
      exact hQ I1 hF
    · rw [if_neg c] at hQ
      refine v_icmp_leT 93 dX6_firstNotTold_82 (nI_le (by omega) (by omega)) (kt := ?_)
      refine v_iconst (v := 0) (q := 94) dX6_firstNotTold_93 (kk := ?_)
      refine v_iret dX6_firstNotTold_94 (hQ := ?_)
      exact hQ I1 hF
  | succ k ih =>
    intro i I1 hi hF hd hQ
    unfold ckF at hQ
    have hwi := secsF_WF hw i (by omega)
    refine v_iload_n (q := 14) dX6_firstNotTold_13 (kk := ?_)
    refine v_iload_n (q := 15) dX6_firstNotTold_14 (kk := ?_)
    refine v_icmp_geF (q := 18) (t := 78) dX6_firstNotTold_15 (fun h => by have := (nI_leI (by omega) (by omega)).mp h; omega) (kf := ?_)
    refine v_aload_n (q := 19) dX6_firstNotTold_18 (kk := ?_)
    refine v_getR (q := 22) fX6_19 (by assumption) (by assumption) (hd := dX6_firstNotTold_19) (kk := ?_)
    refine v_cV0 (N := mX0_passSecond) (q := 25) lX6_172 iX0_passSecond kX0_passSecond (by assumption) dX6_firstNotTold_22 (s_passSecond hk3 hd (by omega) hwi (by omega) (fun I2 hF2 hd2 => ?_))
    have hd3 : HD S I2 R1 b (b + 31) (secsF N np nb nt sec (i + 1)) np nb nt := hd2
    have hF3 := hF.trans hF2
    have h52' : ∀ j, j < wt → I2 (b + 52) j = te j := fun j hj => by rw [hF3 (b + 52) (by omega) (by unfold stk; omega)]; exact h52 j hj
    rw [show pop10 (secS (secsF N np nb nt sec i) np nb nt (sec + i)) = fsS N np nb nt sec i from rfl]
    refine v_istore4 (q := 27) dX6_firstNotTold_25 (kk := ?_)
    refine v_aload_n (q := 28) dX6_firstNotTold_27 (kk := ?_)
    refine v_iconst (v := 2) (q := 29) dX6_firstNotTold_28 (kk := ?_)
    refine v_iload_n (q := 30) dX6_firstNotTold_29 (kk := ?_)
    refine v_imul (q := 31) dX6_firstNotTold_30 (kk := ?_)
    rw [nI2]
    refine v_iload_n (q := 32) dX6_firstNotTold_31 (kk := ?_)
    refine v_iload (q := 34) dX6_firstNotTold_32 (kk := ?_)
    refine v_cV3 (N := mX6_waitedAt) (q := 37) lX6_292 iX6_waitedAt kX6_waitedAt (by assumption) dX6_firstNotTold_34 (s_waitedAt hx hw60 (show 2 * i < 60 by omega) h52' ?_)
    refine v_if_neB 46 (q := 40) dX6_firstNotTold_37 (kt := fun c1 => ?_) (kf := fun c1 => ?_)
    · rw [if_neg (fun h => h c1)] at hQ
      refine v_aload_n (q := 47) dX6_firstNotTold_46 (kk := ?_)
      refine v_iconst (v := 2) (q := 48) dX6_firstNotTold_47 (kk := ?_)
      refine v_iload_n (q := 49) dX6_firstNotTold_48 (kk := ?_)
      refine v_imul (q := 50) dX6_firstNotTold_49 (kk := ?_)
      rw [nI2]
      refine v_iconst (v := 1) (q := 51) dX6_firstNotTold_50 (kk := ?_)
      refine v_iadd (q := 52) dX6_firstNotTold_51 (kk := ?_)
      rw [nI_1]
      refine v_iload_n (q := 53) dX6_firstNotTold_52 (kk := ?_)
      refine v_aload_n (q := 54) dX6_firstNotTold_53 (kk := ?_)
      refine v_getR (q := 57) fX6_19 (by assumption) (by assumption) (hd := dX6_firstNotTold_54) (kk := ?_)
      refine v_getI (q := 60) fX6_166 (by assumption) (hd := dX6_firstNotTold_57) (kk := ?_)
      rw [hd3.1.2.2.2.2.2.2.1]
      refine v_cV3 (N := mX6_waitedAt) (q := 63) lX6_292 iX6_waitedAt kX6_waitedAt (by assumption) dX6_firstNotTold_60 (s_waitedAt hx hw60 (show 2 * i + 1 < 60 by omega) h52' ?_)
      refine v_if_neB 72 (q := 66) dX6_firstNotTold_63 (kt := fun c2 => ?_) (kf := fun c2 => ?_)
      · rw [if_neg (fun h => h c2)] at hQ
        refine v_iinc3 (q := 75) dX6_firstNotTold_72 (hv := nI_1 i) (kk := ?_)
        refine v_goto 13 dX6_firstNotTold_75 (kt := ?_)
        exact v_drop4 (ih (i + 1) I2 (by omega) hF3 hd3 hQ)
      · rw [if_pos c2] at hQ
        refine v_iconst (v := 2) (q := 67) dX6_firstNotTold_66 (kk := ?_)
        refine v_iconst (v := 2) (q := 68) dX6_firstNotTold_67 (kk := ?_)
        refine v_iload_n (q := 69) dX6_firstNotTold_68 (kk := ?_)
        refine v_imul (q := 70) dX6_firstNotTold_69 (kk := ?_)
        rw [nI2]
        refine v_iadd (q := 71) dX6_firstNotTold_70 (kk := ?_)
        rw [show (2 : Int32) + nI (2 * i) = nI (2 + 2 * i) from nI_add 2 (2 * i)]
        refine v_iret dX6_firstNotTold_71 (hQ := ?_)
        exact hQ I2 hF3
    · rw [if_pos c1] at hQ
      refine v_iconst (v := 1) (q := 41) dX6_firstNotTold_40 (kk := ?_)
      refine v_iconst (v := 2) (q := 42) dX6_firstNotTold_41 (kk := ?_)
      refine v_iload_n (q := 43) dX6_firstNotTold_42 (kk := ?_)
      refine v_imul (q := 44) dX6_firstNotTold_43 (kk := ?_)
      rw [nI2]
      refine v_iadd (q := 45) dX6_firstNotTold_44 (kk := ?_)
      rw [show (1 : Int32) + nI (2 * i) = nI (1 + 2 * i) from nI_add 1 (2 * i)]
      refine v_iret dX6_firstNotTold_45 (hQ := ?_)
      exact hQ I2 hF3
theorem s_fnt {s : Nat} (hx : XSk S R b) (hw60 : wt ≤ 60) (h52 : ∀ j, j < wt → I (b + 52) j = te j) (hw : WF N np nb nt sec) (hd : HD S I R b (b + 16) N np nb nt) (hs : s ≤ 30) (hss : sec + s ≤ 99999) (hQ : ∀ (I' : hcI) (R' : hcR), Fh b (b + 31) I I' → Fr b R R' → Q (some (.int (ckF np nb nt sec N te wt s 0 s))) S I' R' z) : Cl g mX6_firstNotTold 5 0 0 S I R z [.ref b, .int (nI wt), .int (nI s)] Q := by
  have hx' := hx
  obtain ⟨⟨s0, r0, r1, r2, -⟩, ⟨hk1, hk2, hk3⟩, -⟩ := hx'
  have sh2 := hk2.1
  have sh3 := hk3.1
  refine Cl.go [some (.ref b), some (.int (nI wt)), some (.int (nI s)), none, none] ?_
  refine v_aload_n (q := 1) dX6_firstNotTold_0 (kk := ?_)
  refine v_getR (q := 4) fX6_19 (by assumption) (by assumption) (hd := dX6_firstNotTold_1) (kk := ?_)
  refine v_aload_n (q := 5) dX6_firstNotTold_4 (kk := ?_)
  refine v_getR (q := 8) fX6_16 (by assumption) (by assumption) (hd := dX6_firstNotTold_5) (kk := ?_)
  refine v_cV1 (N := mX0_becomes) (q := 11) lX6_159 iX0_becomes kX0_becomes (by assumption) dX6_firstNotTold_8 (s_Hall_becomes hk3 hk2 hd hw (by omega) (by omega) (by omega) (fun I1 R1 hF1 hR1 hd1 => ?_))
  refine v_iconst (v := 0) (q := 12) dX6_firstNotTold_11 (kk := ?_)
  refine v_istore3 (q := 13) dX6_firstNotTold_12 (kk := ?_)
  exact fnt_loop (I := I) (hx.keepR hR1) hw60 h52 hw hs hss s 0 I1 (by omega) hF1.h hd1 (fun I' hF' => hQ I' R1 hF' hR1)
theorem x_check {Ni : hN} {im : Bool} {n : Int32} (hx : XSk S R b) (h8 : I b 8 = hc_z im) (h10 : I b 10 = nI wt) (hw60 : wt ≤ 60) (h52 : ∀ j, j < wt → I (b + 52) j = te j) (hi : im = true → XI S I R b Ni) (hQ : ∀ (I' : hcI) (R' : hcR), (∀ y, y ≠ b → (y < b + 31 ∨ b + 46 ≤ y) → ¬ stk b y → I' y = I y) → I' b = upd (I b) 10 0 → Fr b R R' → Q (some (.int (spCheck im Ni te wt n))) S I' R' z) : Cl g mX6_check 6 0 0 S I R z [.ref b, .int n] Q := by
  have hx' := hx
  obtain ⟨⟨s0, r0, r1, r2, -⟩, ⟨hk1, hk2, hk3⟩, -⟩ := hx'
  have sh2 := hk2.1
  have q0 : ∀ y, y ≠ b → (y < b + 31 ∨ b + 46 ≤ y) → ¬ stk b y → hc_u I b 10 0 y = I y := fun y h _ _ => hc_u_ne h
  have q1 : hc_u I b 10 0 b = upd (I b) 10 0 := hc_u_at
  refine Cl.go [some (.ref b), some (.int n), none] ?_
  have bad : ¬ (1 ≤ n ∧ n ≤ 30) → V g mX6_check 6 0 0 S (hc_u I b 10 0) R z 21 [some (.ref b), some (.int n), some (.int (nI wt))] [] Q := by
    intro c
    have e : spCheck im Ni te wt n = -1000000001 := by unfold spCheck; rw [if_neg c]
    rw [e] at hQ
    refine v_ldc (q := 23) cX6_55 dX6_check_21 (kk := ?_)
    refine v_iret dX6_check_23 (hQ := ?_)
    exact hQ _ R q0 q1 Fr.rfl
  refine v_aload_n (q := 1) dX6_check_0 (kk := ?_)
  refine v_getI (q := 4) fX6_276 (by assumption) (hd := dX6_check_1) (kk := ?_)
  rw [h10]
  refine v_istore2 (q := 5) dX6_check_4 (kk := ?_)
  refine v_aload_n (q := 6) dX6_check_5 (kk := ?_)
  refine v_iconst (v := 0) (q := 7) dX6_check_6 (kk := ?_)
  refine v_putI (q := 10) fX6_276 (by assumption) (hd := dX6_check_7) (kk := ?_)
  refine v_iload_n (q := 11) dX6_check_10 (kk := ?_)
  refine v_iconst (v := 1) (q := 12) dX6_check_11 (kk := ?_)
  refine v_icmp_lt 21 (q := 15) dX6_check_12 (kt := fun c1 => ?_) (kf := fun c1 => ?_)
  · exact bad (fun h => absurd h.1 (Int32.not_le.mpr c1))
  · refine v_iload_n (q := 16) dX6_check_15 (kk := ?_)
    refine v_bipush (v := 30) (q := 18) dX6_check_16 (kk := ?_)
    refine v_icmp_le 24 (q := 21) dX6_check_18 (kt := fun c2 => ?_) (kf := fun c2 => ?_)
    · have c : 1 ≤ n ∧ n ≤ 30 := ⟨Int32.not_lt.mp c1, c2⟩
      refine v_aload_n (q := 25) dX6_check_24 (kk := ?_)
      refine v_getI (q := 28) fX6_279 (by assumption) (hd := dX6_check_25) (kk := ?_)
      rw [q1, upd_ne (by omega), h8]
      refine v_if_eqZ 47 (q := 31) dX6_check_28 (kt := fun c3 => ?_) (kf := fun c3 => ?_)
      · have e : spCheck im Ni te wt n = -1000000002 := by unfold spCheck; rw [if_pos c, c3]; rfl
        rw [e] at hQ
        refine v_ldc (q := 49) cX6_60 dX6_check_47 (kk := ?_)
        refine v_iret dX6_check_49 (hQ := ?_)
        exact hQ _ R q0 q1 Fr.rfl
      · obtain ⟨np, nb, nt, sec, hw, hd⟩ := hi c3
        obtain ⟨e1, e2, e3, e4⟩ := hw.e
        have hd' : HD S (hc_u I b 10 0) R b (b + 16) Ni np nb nt := hd.keep hw.1.1.2 (fun y h1 h2 => hc_u_ne (by omega)) (fun y h1 h2 => hc_u_ne (by omega))
        have h52' : ∀ j, j < wt → hc_u I b 10 0 (b + 52) j = te j := fun j hj => by rw [hc_u_ne (by omega)]; exact h52 j hj
        obtain ⟨s, es, hs30, hss, hmin, -⟩ := runN_le hw c
        have e : spCheck im Ni te wt n = ckF np nb nt sec Ni te wt s 0 s := by unfold spCheck; rw [if_pos c, if_pos c3, e1, e2, e3, e4, es]
        rw [e] at hQ
        obtain ⟨P, hP⟩ : ∃ P : Nat → Prop, P = fun k => sec + k ≤ 99999 ∧ hc_min n (99999 - nI sec) = nI k := ⟨_, rfl⟩
        have heq : P s := by rw [hP]; exact ⟨hss, hmin⟩
        have hss0 : ∀ k, P k → sec + k ≤ 99999 := fun k hk => by rw [hP] at hk; exact hk.1
        have hmi0 : ∀ k, P k → hc_min n (99999 - nI sec) = nI k := fun k hk => by rw [hP] at hk; exact hk.2
        clear e es hmin hss hP
        refine v_aload_n (q := 32) dX6_check_31 (kk := ?_)
        refine v_iload_n (q := 33) dX6_check_32 (kk := ?_)
        refine v_aload_n (q := 34) dX6_check_33 (kk := ?_)
        refine v_getR (q := 37) fX6_16 (by assumption) (by assumption) (hd := dX6_check_34) (kk := ?_)
        refine v_iload_n (q := 38) dX6_check_37 (kk := ?_)
        refine v_cV1 (N := mX0_upToTheLast) (q := 41) lX6_150 iX0_upToTheLast kX0_upToTheLast (by assumption) dX6_check_38 (s_upTo hk2 hd' hw.1 ?_)
        rw [hmi0 s heq]
        refine v_cV2 (N := mX6_firstNotTold) (q := 44) lX6_283 iX6_firstNotTold kX6_firstNotTold (by assumption) dX6_check_41 (s_fnt hx hw60 h52' hw.1 hd' hs30 (hss0 s heq) (fun I' R' hF' hR' => ?_))
        refine v_goto 49 dX6_check_44 (kt := ?_)
        refine v_iret dX6_check_49 (hQ := ?_)
        exact hQ I' R' (fun y h1 h2 h3 => (hF' y (by omega) h3).trans (q0 y h1 h2 h3)) ((hF' b (by omega) (by unfold stk; omega)).trans q1) hR'
    · exact bad (fun h => c2 h.2)
theorem mchk_loop {Ni : hN} {s : Nat} {x : Int32} (hm : MG S R m) (hw60 : wt ≤ 60) (h21 : I (m + 21) = te) (h3 : I (m + 3) = N) (hw : WF Ni np nb nt sec) (hs : s ≤ 30) (hss : sec + s ≤ 99999) (k : Nat) : ∀ (i : Nat) (I1 : hcI), i + k = s → 2 * i ≤ wt → Fm m I I1 → I1 (m + 1) = secsF Ni np nb nt sec i → (∀ I' : hcI, Fm m I I' → I' (m + 1) = N → Q (some (.int (ckF np nb nt sec Ni te wt s i k))) S I' R z) → V g mX7_check 4 0 0 S I1 R z 78 [some (.ref m), some (.int x), some (.int (nI wt)), some (.int (nI (2 * s))), some (.int (nI (2 * i))), some (.int (nI i)), none] [] Q := by
  have s0 := hm.s0
  have sn := hm.s_now
  have rn := hm.r_now
  have sa := hm.s_aside
  have ra := hm.r_aside
  have st := hm.s_tells
  have rt := hm.r_tells
  have fin : ∀ (c : Nat) (I1 : hcI) (v : Int32) (o5 o6 : Option Value), Fm m I I1 → c ≤ 61 → v = (if c = wt ∧ c = 2 * s then 0 else nI (1 + c)) → (∀ I' : hcI, Fm m I I' → I' (m + 1) = N → Q (some (.int v)) S I' R z) → V g mX7_check 4 0 0 S I1 R z 178 [some (.ref m), some (.int x), some (.int (nI wt)), some (.int (nI (2 * s))), some (.int (nI c)), o5, o6] [] Q := by
    intro c I1 v o5 o6 hF hc hv hQ
    subst hv
    refine v_aload_n (q := 179) dX7_check_178 (kk := ?_)
    refine v_getR (q := 182) fX7_16 (by assumption) (by assumption) (hd := dX7_check_179) (kk := ?_)
    refine v_aload_n (q := 183) dX7_check_182 (kk := ?_)
    refine v_getR (q := 186) fX7_9 (by assumption) (by assumption) (hd := dX7_check_183) (kk := ?_)
    refine v_cS2 (N := mX7_copyAll) (q := 189) lX7_263 sX7_copyAll kX7_copyAll dX7_check_186 (s_copyAll (by omega) sa sn (fun I2 hF2 h2 => ?_))
    rw [hF (m + 3) (by omega) (by omega) (by omega), h3] at h2
    have hF3 : Fm m I I2 := fun y a1 a2 a3 => (hF2 y a1).trans (hF y a1 a2 a3)
    have out : ¬ (c = wt ∧ c = 2 * s) → V g mX7_check 4 0 0 S I2 R z 205 [some (.ref m), some (.int x), some (.int (nI wt)), some (.int (nI (2 * s))), some (.int (nI c)), o5, o6] [] Q := by
      intro cc
      rw [if_neg cc] at hQ
      refine v_iconst (v := 1) (q := 206) dX7_check_205 (kk := ?_)
      refine v_iload (q := 208) dX7_check_206 (kk := ?_)
      refine v_iadd (q := 209) dX7_check_208 (kk := ?_)
      rw [show (1 : Int32) + nI c = nI (1 + c) from nI_add 1 c]
      refine v_iret dX7_check_209 (hQ := ?_)
      exact hQ I2 hF3 h2
    refine v_iload (q := 191) dX7_check_189 (kk := ?_)
    refine v_iload_n (q := 192) dX7_check_191 (kk := ?_)
    by_cases c1 : c = wt
    · refine v_icmp_neF (q := 195) (t := 205) dX7_check_192 (by rw [c1]) (kf := ?_)
      refine v_iload (q := 197) dX7_check_195 (kk := ?_)
      refine v_iload_n (q := 198) dX7_check_197 (kk := ?_)
      by_cases c2 : c = 2 * s
      · rw [if_pos ⟨c1, c2⟩] at hQ
        refine v_icmp_neF (q := 201) (t := 205) dX7_check_198 (by rw [c2]) (kf := ?_)
        refine v_iconst (v := 0) (q := 202) dX7_check_201 (kk := ?_)
        refine v_goto 209 dX7_check_202 (kt := ?_)
        refine v_iret dX7_check_209 (hQ := ?_)
        exact hQ I2 hF3 h2
      · refine v_icmp_neT 205 dX7_check_198 (fun h => c2 ((nI_eq (by omega) (by omega)).mp h)) (kt := ?_)
        exact out (fun h => c2 h.2)
    · refine v_icmp_neT 205 dX7_check_192 (fun h => c1 ((nI_eq (by omega) (by omega)).mp h)) (kt := ?_)
      exact out (fun h => c1 h.1)
  induction k with
  | zero =>
    intro i I1 hi h2i hF hN hQ
    obtain rfl : i = s := by omega
    unfold ckF at hQ
    refine v_iconst (v := 2) (q := 79) dX7_check_78 (kk := ?_)
    refine v_iload (q := 81) dX7_check_79 (kk := ?_)
    refine v_imul (q := 82) dX7_check_81 (kk := ?_)
    rw [nI2]
    refine v_iload_n (q := 83) dX7_check_82 (kk := ?_)
    refine v_icmp_geT 178 dX7_check_83 (Int32.le_refl _) (kt := ?_)
    refine fin (2 * i) I1 _ _ _ hF (by omega) ?_ hQ
    by_cases c : 2 * i < wt
    · rw [if_pos c, if_neg (by omega)]
    · rw [if_neg c, if_pos (by omega)]
  | succ k ih =>
    intro i I1 hi h2i hF hN hQ
    unfold ckF at hQ
    have hwi := secsF_WF hw i (by omega)
    refine v_iconst (v := 2) (q := 79) dX7_check_78 (kk := ?_)
    refine v_iload (q := 81) dX7_check_79 (kk := ?_)
    refine v_imul (q := 82) dX7_check_81 (kk := ?_)
    rw [nI2]
    refine v_iload_n (q := 83) dX7_check_82 (kk := ?_)
    refine v_icmp_geF (q := 86) (t := 178) dX7_check_83 (fun h => by have := (nI_leI (by omega) (by omega)).mp h; omega) (kf := ?_)
    refine v_iload (q := 88) dX7_check_86 (kk := ?_)
    refine v_iconst (v := 2) (q := 89) dX7_check_88 (kk := ?_)
    refine v_iload (q := 91) dX7_check_89 (kk := ?_)
    refine v_imul (q := 92) dX7_check_91 (kk := ?_)
    rw [nI2]
    refine v_icmp_neF (q := 95) (t := 178) dX7_check_92 (rfl) (kf := ?_)
    refine v_aload_n (q := 96) dX7_check_95 (kk := ?_)
    refine v_cV0 (N := mX7_second) (q := 99) lX7_152 iX7_second kX7_second (by assumption) dX7_check_96 (s_second hm hN hwi (by omega) (fun I2 hF2 hN2 => ?_))
    have hN3 : I2 (m + 1) = secsF Ni np nb nt sec (i + 1) := hN2
    have hF3 := hF.trans hF2
    have h21' : I2 (m + 21) = te := (hF3 _ (by omega) (by omega) (by omega)).trans h21
    rw [show pop10 (secS (secsF Ni np nb nt sec i) np nb nt (sec + i)) = fsS Ni np nb nt sec i from rfl]
    generalize hfs : nI (fsS Ni np nb nt sec i) = fs
    rw [hfs] at hQ
    /- behind the loop's body, with what is right so far -/
    have more : ∀ (c : Nat), c ≤ 61 → c ≠ 2 * (i + 1) → c ≠ 2 * s → (∀ I' : hcI, Fm m I I' → I' (m + 1) = N → Q (some (.int (nI (1 + c)))) S I' R z) → V g mX7_check 4 0 0 S I2 R z 172 [some (.ref m), some (.int x), some (.int (nI wt)), some (.int (nI (2 * s))), some (.int (nI c)), some (.int (nI i)), some (.int fs)] [] Q := by
      intro c hc hne hn2 hQ
      refine v_iinc5 (q := 175) dX7_check_172 (hv := nI_1 i) (kk := ?_)
      refine v_goto 78 dX7_check_175 (kt := ?_)
      refine v_iconst (v := 2) (q := 79) dX7_check_78 (kk := ?_)
      refine v_iload (q := 81) dX7_check_79 (kk := ?_)
      refine v_imul (q := 82) dX7_check_81 (kk := ?_)
      rw [nI2]
      refine v_iload_n (q := 83) dX7_check_82 (kk := ?_)
      by_cases c3 : i + 1 = s
      · refine v_icmp_geT 178 dX7_check_83 (by rw [c3]; exact Int32.le_refl _) (kt := ?_)
        exact fin c I2 _ _ _ hF3 hc (by rw [if_neg (fun h => hn2 h.2)]) hQ
      · refine v_icmp_geF (q := 86) (t := 178) dX7_check_83 (fun h => by have := (nI_leI (by omega) (by omega)).mp h; omega) (kf := ?_)
        refine v_iload (q := 88) dX7_check_86 (kk := ?_)
        refine v_iconst (v := 2) (q := 89) dX7_check_88 (kk := ?_)
        refine v_iload (q := 91) dX7_check_89 (kk := ?_)
        refine v_imul (q := 92) dX7_check_91 (kk := ?_)
        rw [nI2]
        refine v_icmp_neT 178 dX7_check_92 (fun h => hne ((nI_eq (by omega) (by omega)).mp h)) (kt := ?_)
        exact fin c I2 _ _ _ hF3 hc (by rw [if_neg (fun h => hn2 h.2)]) hQ
    have no1 : ¬ (2 * i < wt ∧ te (2 * i) = fs) → V g mX7_check 4 0 0 S I2 R z 125 [some (.ref m), some (.int x), some (.int (nI wt)), some (.int (nI (2 * s))), some (.int (nI (2 * i))), some (.int (nI i)), some (.int fs)] [.int (nI (2 * i))] Q := by
      intro c
      rw [if_pos c] at hQ
      refine v_iconst (v := 0) (q := 126) dX7_check_125 (kk := ?_)
      refine v_iadd (q := 127) dX7_check_126 (kk := ?_)
      rw [Int32.add_zero]
      refine v_istore4 (q := 129) dX7_check_127 (kk := ?_)
      refine v_iload (q := 131) dX7_check_129 (kk := ?_)
      refine v_iload (q := 133) dX7_check_131 (kk := ?_)
      refine v_iconst (v := 2) (q := 134) dX7_check_133 (kk := ?_)
      refine v_iload (q := 136) dX7_check_134 (kk := ?_)
      refine v_imul (q := 137) dX7_check_136 (kk := ?_)
      rw [nI2]
      refine v_iconst (v := 1) (q := 138) dX7_check_137 (kk := ?_)
      refine v_iadd (q := 139) dX7_check_138 (kk := ?_)
      rw [nI_1]
      refine v_icmp_neT 168 dX7_check_139 (fun h => by have := (nI_eq (by omega) (by omega)).mp h; omega) (kt := ?_)
      refine v_iconst (v := 0) (q := 169) dX7_check_168 (kk := ?_)
      refine v_iadd (q := 170) dX7_check_169 (kk := ?_)
      rw [Int32.add_zero]
      refine v_istore4 (q := 172) dX7_check_170 (kk := ?_)
      exact more (2 * i) (by omega) (by omega) (by omega) hQ
    refine v_istore6 (q := 101) dX7_check_99 (kk := ?_)
    refine v_iload (q := 103) dX7_check_101 (kk := ?_)
    refine v_iload (q := 105) dX7_check_103 (kk := ?_)
    refine v_iload_n (q := 106) dX7_check_105 (kk := ?_)
    by_cases c1 : 2 * i < wt
    · refine v_icmp_geF (q := 109) (t := 125) dX7_check_106 (fun h => by have := (nI_leI (by omega) (by omega)).mp h; omega) (kf := ?_)
      refine v_aload_n (q := 110) dX7_check_109 (kk := ?_)
      refine v_getR (q := 113) fX7_72 (by assumption) (by assumption) (hd := dX7_check_110) (kk := ?_)
      refine v_iload (q := 115) dX7_check_113 (kk := ?_)
      refine v_ialdE (q := 116) (2 * i) (by rfl) (by assumption) (by omega) (by omega) (hd := dX7_check_115) (kk := ?_)
      rw [h21']
      refine v_iload (q := 118) dX7_check_116 (kk := ?_)
      refine v_icmp_ne 125 (q := 121) dX7_check_118 (kt := fun c2 => ?_) (kf := fun c2 => ?_)
      · exact no1 (fun h => c2 h.2)
      · rw [if_neg (fun h => h ⟨c1, c2⟩)] at hQ
        have no2 : ¬ (2 * i + 1 < wt ∧ te (2 * i + 1) = secsF Ni np nb nt sec (i + 1) 4) → V g mX7_check 4 0 0 S I2 R z 168 [some (.ref m), some (.int x), some (.int (nI wt)), some (.int (nI (2 * s))), some (.int (nI (2 * i + 1))), some (.int (nI i)), some (.int fs)] [.int (nI (2 * i + 1))] Q := by
          intro c
          rw [if_pos c] at hQ
          refine v_iconst (v := 0) (q := 169) dX7_check_168 (kk := ?_)
          refine v_iadd (q := 170) dX7_check_169 (kk := ?_)
          rw [Int32.add_zero]
          refine v_istore4 (q := 172) dX7_check_170 (kk := ?_)
          exact more (2 * i + 1) (by omega) (by omega) (by omega) (by rw [show 1 + (2 * i + 1) = 2 + 2 * i by omega]; exact hQ)
        refine v_iconst (v := 1) (q := 122) dX7_check_121 (kk := ?_)
        refine v_goto 126 dX7_check_122 (kt := ?_)
        refine v_iadd (q := 127) dX7_check_126 (kk := ?_)
        rw [nI_1]
        refine v_istore4 (q := 129) dX7_check_127 (kk := ?_)
        refine v_iload (q := 131) dX7_check_129 (kk := ?_)
        refine v_iload (q := 133) dX7_check_131 (kk := ?_)
        refine v_iconst (v := 2) (q := 134) dX7_check_133 (kk := ?_)
        refine v_iload (q := 136) dX7_check_134 (kk := ?_)
        refine v_imul (q := 137) dX7_check_136 (kk := ?_)
        rw [nI2]
        refine v_iconst (v := 1) (q := 138) dX7_check_137 (kk := ?_)
        refine v_iadd (q := 139) dX7_check_138 (kk := ?_)
        rw [nI_1]
        refine v_icmp_neF (q := 142) (t := 168) dX7_check_139 (rfl) (kf := ?_)
        refine v_iload (q := 144) dX7_check_142 (kk := ?_)
        refine v_iload_n (q := 145) dX7_check_144 (kk := ?_)
        by_cases c3 : 2 * i + 1 < wt
        · refine v_icmp_geF (q := 148) (t := 168) dX7_check_145 (fun h => by have := (nI_leI (by omega) (by omega)).mp h; omega) (kf := ?_)
          refine v_aload_n (q := 149) dX7_check_148 (kk := ?_)
          refine v_getR (q := 152) fX7_72 (by assumption) (by assumption) (hd := dX7_check_149) (kk := ?_)
          refine v_iload (q := 154) dX7_check_152 (kk := ?_)
          refine v_ialdE (q := 155) (2 * i + 1) (by rfl) (by assumption) (by omega) (by omega) (hd := dX7_check_154) (kk := ?_)
          rw [h21']
          refine v_aload_n (q := 156) dX7_check_155 (kk := ?_)
          refine v_getR (q := 159) fX7_9 (by assumption) (by assumption) (hd := dX7_check_156) (kk := ?_)
          refine v_iconst (v := 4) (q := 160) dX7_check_159 (kk := ?_)
          refine v_ialdE (q := 161) (4) (by rfl) (by assumption) (by omega) (by omega) (hd := dX7_check_160) (kk := ?_)
          rw [hN3]
          refine v_icmp_ne 168 (q := 164) dX7_check_161 (kt := fun c4 => ?_) (kf := fun c4 => ?_)
          · exact no2 (fun h => c4 h.2)
          · rw [if_neg (fun h => h ⟨c3, c4⟩)] at hQ
            have := ih (i + 1) I2 (by omega) (by omega) hF3 hN3 hQ
            refine v_iconst (v := 1) (q := 165) dX7_check_164 (kk := ?_)
            refine v_goto 169 dX7_check_165 (kt := ?_)
            refine v_iadd (q := 170) dX7_check_169 (kk := ?_)
            rw [nI_1]
            refine v_istore4 (q := 172) dX7_check_170 (kk := ?_)
            refine v_iinc5 (q := 175) dX7_check_172 (hv := nI_1 i) (kk := ?_)
            refine v_goto 78 dX7_check_175 (kt := ?_)
            exact v_drop6 this
        · refine v_icmp_geT 168 dX7_check_145 (nI_le (by omega) (by omega)) (kt := ?_)
          exact no2 (fun h => c3 h.1)
    · refine v_icmp_geT 125 dX7_check_106 (nI_le (by omega) (by omega)) (kt := ?_)
      exact no1 (fun h => c1 h.1)
theorem m_check {Ni : hN} {im : Bool} {n : Int32} (hm : MG S R m) (hN : I (m + 1) = N) (h3 : I m 3 = hc_z im) (h32 : I m 32 = nI wt) (hw60 : wt ≤ 60) (h21 : I (m + 21) = te) (hi : im = true → MN Ni ∧ I (m + 2) = Ni) (hQ : ∀ I' : hcI, (∀ y, y ≠ m → y ≠ m + 1 → y ≠ m + 3 → y ≠ m + 11 → y ≠ m + 12 → I' y = I y) → I' m = upd (I m) 32 0 → I' (m + 1) = N → Q (some (.int (spCheck im Ni te wt n))) S I' R z) : Cl g mX7_check 4 0 0 S I R z [.ref m, .int n] Q := by
  have s0 := hm.s0
  have sn := hm.s_now
  have rn := hm.r_now
  have sa := hm.s_aside
  have ra := hm.r_aside
  have si := hm.s_image
  have ri := hm.r_image
  have q0 : ∀ y, y ≠ m → y ≠ m + 1 → y ≠ m + 3 → y ≠ m + 11 → y ≠ m + 12 → hc_u I m 32 0 y = I y := fun y h _ _ _ _ => hc_u_ne h
  have q1 : hc_u I m 32 0 m = upd (I m) 32 0 := hc_u_at
  have q2 : hc_u I m 32 0 (m + 1) = N := by rw [hc_u_ne (by omega)]; exact hN
  refine Cl.go [some (.ref m), some (.int n), none, none, none, none, none] ?_
  refine v_aload_n (q := 1) dX7_check_0 (kk := ?_)
  refine v_getI (q := 4) fX7_256 (by assumption) (hd := dX7_check_1) (kk := ?_)
  rw [h32]
  refine v_istore2 (q := 5) dX7_check_4 (kk := ?_)
  refine v_aload_n (q := 6) dX7_check_5 (kk := ?_)
  refine v_iconst (v := 0) (q := 7) dX7_check_6 (kk := ?_)
  refine v_putI (q := 10) fX7_256 (by assumption) (hd := dX7_check_7) (kk := ?_)
  refine v_iload_n (q := 11) dX7_check_10 (kk := ?_)
  refine v_iconst (v := 1) (q := 12) dX7_check_11 (kk := ?_)
  refine v_bipush (v := 30) (q := 14) dX7_check_12 (kk := ?_)
  refine v_cS3 (N := mX7_in) (q := 17) lX7_76 sX7_in kX7_in dX7_check_14 (s_in ?_)
  refine v_if_neB 23 (q := 20) dX7_check_17 (kt := fun c => ?_) (kf := fun c => ?_)
  · refine v_aload_n (q := 24) dX7_check_23 (kk := ?_)
    refine v_getI (q := 27) fX7_259 (by assumption) (hd := dX7_check_24) (kk := ?_)
    rw [q1, upd_ne (by omega), h3]
    refine v_if_neZ 33 (q := 30) dX7_check_27 (kt := fun c3 => ?_) (kf := fun c3 => ?_)
    · obtain ⟨⟨np, nb, nt, sec, hw⟩, hI⟩ := hi c3
      obtain ⟨e1, e2, e3, e4⟩ := hw.e
      obtain ⟨s, es, hs30, hss, -, hwi⟩ := runN_le hw c
      have e : spCheck im Ni te wt n = ckF np nb nt sec Ni te wt s 0 s := by unfold spCheck; rw [if_pos c, if_pos c3, e1, e2, e3, e4, es]
      rw [e] at hQ
      have hsec := hw.1.2.2.2.1.1
      obtain ⟨P, hP⟩ : ∃ P : Nat → Prop, P = fun k => sec + k ≤ 99999 ∧ hc_wi (99999 - nI sec) 0 n = nI k := ⟨_, rfl⟩
      have heq : P s := by rw [hP]; exact ⟨hss, hwi⟩
      have hss0 : ∀ k, P k → sec + k ≤ 99999 := fun k hk => by rw [hP] at hk; exact hk.1
      have hwi0 : ∀ k, P k → hc_wi (99999 - nI sec) 0 n = nI k := fun k hk => by rw [hP] at hk; exact hk.2
      clear e es hwi hss hP
      refine v_aload_n (q := 34) dX7_check_33 (kk := ?_)
      refine v_getR (q := 37) fX7_9 (by assumption) (by assumption) (hd := dX7_check_34) (kk := ?_)
      refine v_aload_n (q := 38) dX7_check_37 (kk := ?_)
      refine v_getR (q := 41) fX7_16 (by assumption) (by assumption) (hd := dX7_check_38) (kk := ?_)
      refine v_cS2 (N := mX7_copyAll) (q := 44) lX7_263 sX7_copyAll kX7_copyAll dX7_check_41 (s_copyAll (by omega) sn sa (fun I1 hF1 h1 => ?_))
      refine v_aload_n (q := 45) dX7_check_44 (kk := ?_)
      refine v_getR (q := 48) fX7_13 (by assumption) (by assumption) (hd := dX7_check_45) (kk := ?_)
      refine v_aload_n (q := 49) dX7_check_48 (kk := ?_)
      refine v_getR (q := 52) fX7_9 (by assumption) (by assumption) (hd := dX7_check_49) (kk := ?_)
      refine v_cS2 (N := mX7_copyAll) (q := 55) lX7_263 sX7_copyAll kX7_copyAll dX7_check_52 (s_copyAll (by omega) si sn (fun I2 hF2 h2 => ?_))
      have hN2 : I2 (m + 1) = Ni := by rw [h2, hF1 _ (by omega), hc_u_ne (by omega)]; exact hI
      have hA2 : I2 (m + 3) = N := by rw [hF2 _ (by omega), h1]; exact q2
      have hT2 : I2 (m + 21) = te := by rw [hF2 _ (by omega), hF1 _ (by omega), hc_u_ne (by omega)]; exact h21
      refine v_iconst (v := 2) (q := 56) dX7_check_55 (kk := ?_)
      refine v_ldc (q := 58) cX7_155 dX7_check_56 (kk := ?_)
      refine v_aload_n (q := 59) dX7_check_58 (kk := ?_)
      refine v_getR (q := 62) fX7_9 (by assumption) (by assumption) (hd := dX7_check_59) (kk := ?_)
      refine v_iconst (v := 3) (q := 63) dX7_check_62 (kk := ?_)
      refine v_ialdE (q := 64) (3) (by rfl) (by assumption) (by omega) (by omega) (hd := dX7_check_63) (kk := ?_)
      rw [hN2, hsec]
      refine v_isub (q := 65) dX7_check_64 (kk := ?_)
      refine v_iconst (v := 0) (q := 66) dX7_check_65 (kk := ?_)
      refine v_iload_n (q := 67) dX7_check_66 (kk := ?_)
      refine v_cS3 (N := mX7_within) (q := 70) lX7_109 sX7_within kX7_within dX7_check_67 (s_mwithin ?_)
      rw [hwi0 s heq]
      refine v_imul (q := 71) dX7_check_70 (kk := ?_)
      rw [nI2]
      refine v_istore3 (q := 72) dX7_check_71 (kk := ?_)
      refine v_iconst (v := 0) (q := 73) dX7_check_72 (kk := ?_)
      refine v_istore4 (q := 75) dX7_check_73 (kk := ?_)
      refine v_iconst (v := 0) (q := 76) dX7_check_75 (kk := ?_)
      refine v_istore5 (q := 78) dX7_check_76 (kk := ?_)
      refine mchk_loop (I := I2) hm hw60 hT2 hA2 hw.1 hs30 (hss0 s heq) s 0 I2 (by omega) (by omega) Fm.rfl hN2 (fun I' hF' hN' => hQ I' (fun y a0 a1 a3 a11 a12 => ?_) ?_ hN')
      · rw [hF' y a1 a11 a12, hF2 y a1, hF1 y a3]
        exact q0 y a0 a1 a3 a11 a12
      · rw [hF' m (by omega) (by omega) (by omega), hF2 m (by omega), hF1 m (by omega)]
        exact q1
    · have e : spCheck im Ni te wt n = -1000000002 := by unfold spCheck; rw [if_pos c, c3]; rfl
      rw [e] at hQ
      refine v_ldc (q := 32) cX7_97 dX7_check_30 (kk := ?_)
      refine v_iret dX7_check_32 (hQ := ?_)
      exact hQ _ q0 q1 q2
  · have e : spCheck im Ni te wt n = -1000000001 := by unfold spCheck; rw [if_neg c]
    rw [e] at hQ
    refine v_ldc (q := 22) cX7_92 dX7_check_20 (kk := ?_)
    refine v_iret dX7_check_22 (hQ := ?_)
    exact hQ _ q0 q1 q2
end T12
