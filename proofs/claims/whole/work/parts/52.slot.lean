/-! the slots -/
def SL1 (I : hcI) (b s : Nat) (ho hA hB hl : Nat → Int32) : Prop :=
  I (b + 61 + 4 * s) 0 = ho s ∧ (ho s = 0 ∨ ho s = 1 ∨ ho s = 2 ∨ ho s = 3) ∧
  (ho s = 1 → ∃ k, k < 6 ∧ I (b + 62 + 4 * s) 0 = nI k ∧ hA s = nI k ∧ hB s = hc_worth k (I (b + 62 + 4 * s) 2) (I (b + 62 + 4 * s) 1)) ∧
  (ho s = 2 → ∃ n, n ≤ 24 ∧ hA s = nI n ∧ I (b + 63 + 4 * s) 2 = nI n ∧ ∀ j, j < n → I (b + 63 + 4 * s + 1) j = hl (24 * s + j)) ∧
  (ho s = 3 → I (b + 61 + 4 * s) 3 = hA s)
def SLc (I : hcI) (b : Nat) (ho hA hB hl : Nat → Int32) : Prop := ∀ s, s < 5 → SL1 I b s ho hA hB hl
def SLm (I : hcI) (m : Nat) (ho hA hB hl : Nat → Int32) : Prop := I (m + 16) = ho ∧ I (m + 17) = hA ∧ I (m + 18) = hB ∧ I (m + 19) = hl
theorem SL1.keep {I I' : hcI} {b s : Nat} {ho hA hB hl ho' hA' hB' hl' : Nat → Int32} (h : SL1 I b s ho hA hB hl) (h0 : ho' s = ho s) (h1 : hA' s = hA s) (h2 : hB' s = hB s) (h3 : ∀ j, j < 24 → hl' (24 * s + j) = hl (24 * s + j)) (hF : ∀ y, b + 61 + 4 * s ≤ y → y < b + 65 + 4 * s → I' y = I y) : SL1 I' b s ho' hA' hB' hl' := by
  unfold SL1 at h ⊢
  rw [hF (b + 61 + 4 * s) (by omega) (by omega), hF (b + 62 + 4 * s) (by omega) (by omega), hF (b + 63 + 4 * s) (by omega) (by omega), hF (b + 63 + 4 * s + 1) (by omega) (by omega), h0, h1, h2]
  obtain ⟨a1, a2, a3, a4, a5⟩ := h
  refine ⟨a1, a2, a3, fun e => ?_, a5⟩
  obtain ⟨n, q1, q2, q3, q4⟩ := a4 e
  exact ⟨n, q1, q2, q3, fun j hj => by rw [h3 j (by omega)]; exact q4 j hj⟩
theorem SLc.keep {I I' : hcI} {b : Nat} {ho hA hB hl : Nat → Int32} (h : SLc I b ho hA hB hl) (hF : ∀ y, b + 61 ≤ y → y < b + 81 → I' y = I y) : SLc I' b ho hA hB hl := fun s hs => (h s hs).keep rfl rfl rfl (fun _ _ => rfl) (fun y h1 h2 => hF y (by omega) (by omega))
def hlF (ce hl : Nat → Int32) (s k : Nat) : Nat → Int32 := fun i => if 24 * s ≤ i ∧ i < 24 * s + 24 then ce (24 * k + (i - 24 * s)) else hl i
abbrev hSl : Type := (Nat → Int32) × (Nat → Int32) × (Nat → Int32) × (Nat → Int32)
def spLay (N : hN) (so si ce ho hA hB hl : Nat → Int32) (sl th k : Int32) : Int32 × hSl :=
  if (0 ≤ sl ∧ sl < 5) ∧ (0 ≤ th ∧ th < 4) ∧ (th = 1 → 0 ≤ k ∧ k < nI (npN N)) ∧ (th = 2 → 0 ≤ k ∧ k < 4) then
    (if th = 1 then (ho sl.toNatClampNeg, upd ho sl.toNatClampNeg 1, upd hA sl.toNatClampNeg (N (33 + 6 * k.toNatClampNeg)), upd hB sl.toNatClampNeg (hc_worth (kdN N k.toNatClampNeg) (N (33 + 6 * k.toNatClampNeg + 2)) (N (33 + 6 * k.toNatClampNeg + 1))), hl)
     else if th = 2 then (if so k.toNatClampNeg = -1 then (-1000000011, ho, hA, hB, hl) else (ho sl.toNatClampNeg, upd ho sl.toNatClampNeg 2, upd hA sl.toNatClampNeg (si k.toNatClampNeg), upd hB sl.toNatClampNeg 0, hlF ce hl sl.toNatClampNeg k.toNatClampNeg))
     else (ho sl.toNatClampNeg, upd ho sl.toNatClampNeg th, upd hA sl.toNatClampNeg k, upd hB sl.toNatClampNeg 0, hl))
  else (-1000000001, ho, hA, hB, hl)
def spAsk (ho hA hB : Nat → Int32) (sl k : Int32) : Int32 := if (0 ≤ sl ∧ sl < 5) ∧ (0 ≤ k ∧ k < 6) then (if ho sl.toNatClampNeg = 0 then -1000000011 else if ho sl.toNatClampNeg = 1 ∧ undB (hA sl.toNatClampNeg).toNatClampNeg k = true then hB sl.toNatClampNeg else -1000000012) else -1000000001
def spItem (ho hA hl : Nat → Int32) (sl p : Int32) : Int32 := if 0 ≤ sl ∧ sl < 5 then (if ho sl.toNatClampNeg = 0 then -1000000011 else if ¬ ho sl.toNatClampNeg = 2 then -1000000012 else if 0 ≤ p ∧ p < hA sl.toNatClampNeg then (if hl (24 * sl.toNatClampNeg + p.toNatClampNeg) = -1000000005 then -1000000012 else hl (24 * sl.toNatClampNeg + p.toNatClampNeg)) else -1000000013) else -1000000001
def spRemains (ho hA : Nat → Int32) (sl n : Int32) : Int32 := if 0 ≤ sl ∧ sl < 5 then (if ho sl.toNatClampNeg = 0 then -1000000011 else if ¬ ho sl.toNatClampNeg = 3 then -1000000012 else if n = 0 then -1000000002 else hA sl.toNatClampNeg - hA sl.toNatClampNeg / n * n) else -1000000001
def Fl (b : Nat) (I I' : hcI) : Prop := ∀ y, (y < b + 61 ∨ b + 81 ≤ y) → I' y = I y
theorem Fl.rfl {b : Nat} {I : hcI} : Fl b I I := fun _ _ => Eq.refl _
def Flm (m : Nat) (I I' : hcI) : Prop := ∀ y, y ≠ m + 16 → y ≠ m + 17 → y ≠ m + 18 → y ≠ m + 19 → I' y = I y
theorem Flm.rfl {m : Nat} {I : hcI} : Flm m I I := fun _ _ _ _ _ => Eq.refl _
theorem rem_m1 (x : Int32) : x - x / (-1) * (-1) = 0 := by
  have h : x / (-1) = -x := by
    refine Int32.toInt_inj.mp ?_
    rw [Int32.toInt_div]
    show Int.bmod (Int.tdiv x.toInt (-1)) (2 ^ 32) = _
    rw [Int.tdiv_neg, Int.tdiv_one]
    exact (Int32.toInt_neg x).symm
  rw [h, Int32.mul_neg, Int32.mul_one, Int32.neg_neg, Int32.sub_self]
section T9
variable {g : hcG} {S : hcS} {I : hcI} {R : hcR} {z : Nat} {Q : hcQ} {b m np nb nt sec : Nat} {N : hN} {so si ce ho hA hB hl : Nat → Int32}
theorem s_isSlot {s : Int32} (hQ : Q (some (.int (hc_b (0 ≤ s ∧ s < 5)))) S I R z) : Cl g mX7_isSlot 1 0 0 S I R z [.int s] Q := by
  refine Cl.go [some (.int s)] ?_
  refine v_iload_n (q := 1) dX7_isSlot_0 (kk := ?_)
  refine v_iconst (v := 0) (q := 2) dX7_isSlot_1 (kk := ?_)
  refine v_iconst (v := 4) (q := 3) dX7_isSlot_2 (kk := ?_)
  refine v_cS3 (N := mX7_in) (q := 6) lX7_76 sX7_in kX7_in dX7_isSlot_3 (s_in0 5 5 rfl rfl (by omega) ?_)
  refine v_zret dX7_isSlot_6 hc_nz (hQ := ?_)
  exact hQ
theorem x_ask {sl k : Int32} (hx : XSk S R b) (hsl : SLc I b ho hA hB hl) (hQ : Q (some (.int (spAsk ho hA hB sl k))) S I R z) : Cl g mX6_ask 1 0 0 S I R z [.ref b, .int sl, .int k] Q := by
  obtain ⟨⟨s0, r0, -, r2, -, r4, r5, -⟩, -, -, -, ⟨s50, h50⟩, -⟩ := hx
  refine Cl.go [some (.ref b), some (.int sl), some (.int k), none] ?_
  have bad : ¬ ((0 ≤ sl ∧ sl < 5) ∧ (0 ≤ k ∧ k < 6)) → V g mX6_ask 1 0 0 S I R z 17 [some (.ref b), some (.int sl), some (.int k), none] [] Q := by
    intro c
    have e : spAsk ho hA hB sl k = -1000000001 := by unfold spAsk; rw [if_neg c]
    rw [e] at hQ
    refine v_ldc (q := 19) cX6_55 dX6_ask_17 (kk := ?_)
    refine v_iret dX6_ask_19 (hQ := ?_)
    exact hQ
  refine v_iload_n (q := 1) dX6_ask_0 (kk := ?_)
  refine v_iconst (v := 5) (q := 2) dX6_ask_1 (kk := ?_)
  refine v_cS2 (N := mX6_within) (q := 5) lX6_51 sX6_within kX6_within dX6_ask_2 (s_within ?_)
  refine v_if_eqB 17 (q := 8) dX6_ask_5 (kt := fun c1 => ?_) (kf := fun c1 => ?_)
  · exact bad (fun h => c1 h.1)
  · refine v_iload_n (q := 9) dX6_ask_8 (kk := ?_)
    refine v_bipush (v := 6) (q := 11) dX6_ask_9 (kk := ?_)
    refine v_cS2 (N := mX6_within) (q := 14) lX6_51 sX6_within kX6_within dX6_ask_11 (s_within ?_)
    refine v_if_neB 20 (q := 17) dX6_ask_14 (kt := fun c2 => ?_) (kf := fun c2 => ?_)
    · obtain ⟨s, rfl, hs⟩ := nI_of6 (n := 5) rfl (by omega) c1
      obtain ⟨w1, w2, w3, w4, w5, w6⟩ := h50 s hs
      obtain ⟨a1, a2, a3, a4, a5⟩ := hsl s hs
      have e : spAsk ho hA hB (nI s) k = if ho s = 0 then -1000000011 else if ho s = 1 ∧ undB (hA s).toNatClampNeg k = true then hB s else -1000000012 := by
        unfold spAsk
        rw [if_pos ⟨c1, c2⟩, nI_clamp (by omega)]
      rw [e] at hQ
      clear e
      refine v_aload_n (q := 21) dX6_ask_20 (kk := ?_)
      refine v_getR (q := 24) fX6_37 (by assumption) (by assumption) (hd := dX6_ask_21) (kk := ?_)
      refine v_iload_n (q := 25) dX6_ask_24 (kk := ?_)
      refine v_aaldn (q := 26) (by assumption) (by assumption) (by omega) (by omega) (hd := dX6_ask_25) (kk := ?_)
      refine v_astore3 (q := 27) dX6_ask_26 (kk := ?_)
      refine v_aload_n (q := 28) dX6_ask_27 (kk := ?_)
      refine v_getI (q := 31) fX6_256 (by assumption) (hd := dX6_ask_28) (kk := ?_)
      rw [a1]
      refine v_if_ne 37 (q := 34) dX6_ask_31 (kt := fun c3 => ?_) (kf := fun c3 => ?_)
      · rw [if_neg c3] at hQ
        refine v_aload_n (q := 38) dX6_ask_37 (kk := ?_)
        refine v_getI (q := 41) fX6_256 (by assumption) (hd := dX6_ask_38) (kk := ?_)
        rw [a1]
        refine v_iconst (v := 1) (q := 42) dX6_ask_41 (kk := ?_)
        refine v_icmp_ne 56 (q := 45) dX6_ask_42 (kt := fun c4 => ?_) (kf := fun c4 => ?_)
        · rw [if_neg (fun h => c4 h.1)] at hQ
          refine v_ldc (q := 58) cX6_115 dX6_ask_56 (kk := ?_)
          refine v_iret dX6_ask_58 (hQ := ?_)
          exact hQ
        · obtain ⟨kk, hk6, b1, b2, b3⟩ := a3 c4
          rw [b2, nI_clamp (by omega)] at hQ
          refine v_aload_n (q := 46) dX6_ask_45 (kk := ?_)
          refine v_getR (q := 49) fX6_259 (by assumption) (by assumption) (hd := dX6_ask_46) (kk := ?_)
          refine v_iload_n (q := 50) dX6_ask_49 (kk := ?_)
          refine v_cV1 (N := mX1_isOf) (q := 53) lX6_112 iX1_isOf kX1_isOf (by assumption) dX6_ask_50 (s_Person_isOf (k := kk) w5 hk6 b1 (fun hu => ?_) (fun hu => ?_))
          · rw [if_pos ⟨c4, und_B.mp hu⟩, b3] at hQ
            refine v_if_neT 59 dX6_ask_53 (by decide) (kt := ?_)
            refine v_aload_n (q := 60) dX6_ask_59 (kk := ?_)
            refine v_getR (q := 63) fX6_259 (by assumption) (by assumption) (hd := dX6_ask_60) (kk := ?_)
            refine v_cV0 (N := mX1_worth) (q := 66) lX6_108 iX1_worth kX1_worth (by assumption) dX6_ask_63 (s_Person_worth (k := kk) w5 hk6 b1 ?_)
            refine v_iret dX6_ask_66 (hQ := ?_)
            exact hQ
          · rw [if_neg (fun h => hu (und_B.mpr h.2))] at hQ
            refine v_if_neF (q := 56) (t := 59) dX6_ask_53 (rfl) (kf := ?_)
            refine v_ldc (q := 58) cX6_115 dX6_ask_56 (kk := ?_)
            refine v_iret dX6_ask_58 (hQ := ?_)
            exact hQ
      · rw [if_pos c3] at hQ
        refine v_ldc (q := 36) cX6_186 dX6_ask_34 (kk := ?_)
        refine v_iret dX6_ask_36 (hQ := ?_)
        exact hQ
    · exact bad (fun h => c2 h.2)
theorem m_ask {sl k : Int32} (hm : MG S R m) (hA6 : ∀ s, s < 5 → ho s = 1 → ∃ j, j < 6 ∧ hA s = nI j) (hsm : SLm I m ho hA hB hl) (hQ : Q (some (.int (spAsk ho hA hB sl k))) S I R z) : Cl g mX7_ask 2 0 0 S I R z [.ref m, .int sl, .int k] Q := by
  have s0 := hm.s0
  have sh := hm.s_holds
  have rh := hm.r_holds
  have sa := hm.s_holdsA
  have ra := hm.r_holdsA
  have sb := hm.s_holdsB
  have rb := hm.r_holdsB
  obtain ⟨q1, q2, q3, q4⟩ := hsm
  refine Cl.go [some (.ref m), some (.int sl), some (.int k)] ?_
  have bad : ¬ ((0 ≤ sl ∧ sl < 5) ∧ (0 ≤ k ∧ k < 6)) → V g mX7_ask 2 0 0 S I R z 16 [some (.ref m), some (.int sl), some (.int k)] [] Q := by
    intro c
    have e : spAsk ho hA hB sl k = -1000000001 := by unfold spAsk; rw [if_neg c]
    rw [e] at hQ
    refine v_ldc (q := 18) cX7_92 dX7_ask_16 (kk := ?_)
    refine v_iret dX7_ask_18 (hQ := ?_)
    exact hQ
  refine v_iload_n (q := 1) dX7_ask_0 (kk := ?_)
  refine v_cS1 (N := mX7_isSlot) (q := 4) lX7_253 sX7_isSlot kX7_isSlot dX7_ask_1 (s_isSlot ?_)
  refine v_if_eqB 16 (q := 7) dX7_ask_4 (kt := fun c1 => ?_) (kf := fun c1 => ?_)
  · exact bad (fun h => c1 h.1)
  · refine v_iload_n (q := 8) dX7_ask_7 (kk := ?_)
    refine v_iconst (v := 0) (q := 9) dX7_ask_8 (kk := ?_)
    refine v_iconst (v := 5) (q := 10) dX7_ask_9 (kk := ?_)
    refine v_cS3 (N := mX7_in) (q := 13) lX7_76 sX7_in kX7_in dX7_ask_10 (s_in0 6 6 rfl rfl (by omega) ?_)
    refine v_if_neB 19 (q := 16) dX7_ask_13 (kt := fun c2 => ?_) (kf := fun c2 => ?_)
    · obtain ⟨s, rfl, hs⟩ := nI_of6 (n := 5) rfl (by omega) c1
      have e : spAsk ho hA hB (nI s) k = if ho s = 0 then -1000000011 else if ho s = 1 ∧ undB (hA s).toNatClampNeg k = true then hB s else -1000000012 := by
        unfold spAsk
        rw [if_pos ⟨c1, c2⟩, nI_clamp (by omega)]
      rw [e] at hQ
      clear e
      have kind : ¬ (ho s = 1 ∧ undB (hA s).toNatClampNeg k = true) → ¬ ho s = 0 → V g mX7_ask 2 0 0 S I R z 63 [some (.ref m), some (.int (nI s)), some (.int k)] [] Q := by
        intro c c0
        rw [if_neg c0, if_neg c] at hQ
        refine v_ldc (q := 65) cX7_134 dX7_ask_63 (kk := ?_)
        refine v_iret dX7_ask_65 (hQ := ?_)
        exact hQ
      refine v_aload_n (q := 20) dX7_ask_19 (kk := ?_)
      refine v_getR (q := 23) fX7_57 (by assumption) (by assumption) (hd := dX7_ask_20) (kk := ?_)
      refine v_iload_n (q := 24) dX7_ask_23 (kk := ?_)
      refine v_ialdE (q := 25) (s) (by rfl) (by assumption) (by omega) (by omega) (hd := dX7_ask_24) (kk := ?_)
      rw [q1]
      refine v_if_ne 31 (q := 28) dX7_ask_25 (kt := fun c3 => ?_) (kf := fun c3 => ?_)
      · refine v_aload_n (q := 32) dX7_ask_31 (kk := ?_)
        refine v_getR (q := 35) fX7_57 (by assumption) (by assumption) (hd := dX7_ask_32) (kk := ?_)
        refine v_iload_n (q := 36) dX7_ask_35 (kk := ?_)
        refine v_ialdE (q := 37) (s) (by rfl) (by assumption) (by omega) (by omega) (hd := dX7_ask_36) (kk := ?_)
        rw [q1]
        refine v_iconst (v := 1) (q := 38) dX7_ask_37 (kk := ?_)
        refine v_icmp_ne 63 (q := 41) dX7_ask_38 (kt := fun c4 => ?_) (kf := fun c4 => ?_)
        · exact kind (fun h => c4 h.1) c3
        · obtain ⟨kk, hk6, b2⟩ := hA6 s hs c4
          refine v_aload_n (q := 42) dX7_ask_41 (kk := ?_)
          refine v_getR (q := 45) fX7_60 (by assumption) (by assumption) (hd := dX7_ask_42) (kk := ?_)
          refine v_iload_n (q := 46) dX7_ask_45 (kk := ?_)
          refine v_ialdE (q := 47) (s) (by rfl) (by assumption) (by omega) (by omega) (hd := dX7_ask_46) (kk := ?_)
          rw [q2, b2]
          refine v_iload_n (q := 48) dX7_ask_47 (kk := ?_)
          refine v_cS2 (N := mX7_isUnder) (q := 51) lX7_130 sX7_isUnder kX7_isUnder dX7_ask_48 (s_isUnder hk6 ?_)
          refine v_if_eqZ 63 (q := 54) dX7_ask_51 (kt := fun c5 => ?_) (kf := fun c5 => ?_)
          · exact kind (fun h => by rw [b2, nI_clamp (by omega)] at h; rw [h.2] at c5; cases c5) c3
          · rw [if_neg c3, b2, nI_clamp (by omega), if_pos ⟨c4, c5⟩] at hQ
            refine v_aload_n (q := 55) dX7_ask_54 (kk := ?_)
            refine v_getR (q := 58) fX7_63 (by assumption) (by assumption) (hd := dX7_ask_55) (kk := ?_)
            refine v_iload_n (q := 59) dX7_ask_58 (kk := ?_)
            refine v_ialdE (q := 60) (s) (by rfl) (by assumption) (by omega) (by omega) (hd := dX7_ask_59) (kk := ?_)
            rw [q3]
            refine v_goto 65 dX7_ask_60 (kt := ?_)
            refine v_iret dX7_ask_65 (hQ := ?_)
            exact hQ
      · rw [if_pos c3] at hQ
        refine v_ldc (q := 30) cX7_177 dX7_ask_28 (kk := ?_)
        refine v_iret dX7_ask_30 (hQ := ?_)
        exact hQ
    · exact bad (fun h => c2 h.2)
theorem x_item {sl p : Int32} (hx : XSk S R b) (hsl : SLc I b ho hA hB hl) (hQ : Q (some (.int (spItem ho hA hl sl p))) S I R z) : Cl g mX6_item 1 0 0 S I R z [.ref b, .int sl, .int p] Q := by
  obtain ⟨⟨s0, r0, -, r2, -, r4, r5, -⟩, -, -, -, ⟨s50, h50⟩, -⟩ := hx
  refine Cl.go [some (.ref b), some (.int sl), some (.int p), none] ?_
  refine v_iload_n (q := 1) dX6_item_0 (kk := ?_)
  refine v_iconst (v := 5) (q := 2) dX6_item_1 (kk := ?_)
  refine v_cS2 (N := mX6_within) (q := 5) lX6_51 sX6_within kX6_within dX6_item_2 (s_within ?_)
  refine v_if_neB 11 (q := 8) dX6_item_5 (kt := fun c1 => ?_) (kf := fun c1 => ?_)
  · obtain ⟨s, rfl, hs⟩ := nI_of6 (n := 5) rfl (by omega) c1
    obtain ⟨w1, w2, w3, w4, w5, w6⟩ := h50 s hs
    have w6' := w6
    obtain ⟨x1, x2, x3⟩ := w6'
    obtain ⟨a1, a2, a3, a4, a5⟩ := hsl s hs
    have e : spItem ho hA hl (nI s) p = if ho s = 0 then -1000000011 else if ¬ ho s = 2 then -1000000012 else if 0 ≤ p ∧ p < hA s then (if hl (24 * s + p.toNatClampNeg) = -1000000005 then -1000000012 else hl (24 * s + p.toNatClampNeg)) else -1000000013 := by
      unfold spItem
      rw [if_pos c1, nI_clamp (by omega)]
    rw [e] at hQ
    clear e
    refine v_aload_n (q := 12) dX6_item_11 (kk := ?_)
    refine v_getR (q := 15) fX6_37 (by assumption) (by assumption) (hd := dX6_item_12) (kk := ?_)
    refine v_iload_n (q := 16) dX6_item_15 (kk := ?_)
    refine v_aaldn (q := 17) (by assumption) (by assumption) (by omega) (by omega) (hd := dX6_item_16) (kk := ?_)
    refine v_astore3 (q := 18) dX6_item_17 (kk := ?_)
    refine v_aload_n (q := 19) dX6_item_18 (kk := ?_)
    refine v_getI (q := 22) fX6_256 (by assumption) (hd := dX6_item_19) (kk := ?_)
    rw [a1]
    refine v_if_ne 28 (q := 25) dX6_item_22 (kt := fun c3 => ?_) (kf := fun c3 => ?_)
    · rw [if_neg c3] at hQ
      refine v_aload_n (q := 29) dX6_item_28 (kk := ?_)
      refine v_getI (q := 32) fX6_256 (by assumption) (hd := dX6_item_29) (kk := ?_)
      rw [a1]
      refine v_iconst (v := 2) (q := 33) dX6_item_32 (kk := ?_)
      refine v_icmp_eq 39 (q := 36) dX6_item_33 (kt := fun c4 => ?_) (kf := fun c4 => ?_)
      · rw [if_neg (fun h => h c4)] at hQ
        obtain ⟨n, hn, b1, b2, b3⟩ := a4 c4
        rw [b1] at hQ
        refine v_iload_n (q := 40) dX6_item_39 (kk := ?_)
        refine v_aload_n (q := 41) dX6_item_40 (kk := ?_)
        refine v_getR (q := 44) fX6_266 (by assumption) (by assumption) (hd := dX6_item_41) (kk := ?_)
        refine v_getI (q := 47) fX6_234 (by assumption) (hd := dX6_item_44) (kk := ?_)
        rw [b2]
        refine v_cS2 (N := mX6_within) (q := 50) lX6_51 sX6_within kX6_within dX6_item_47 (s_within ?_)
        refine v_if_neB 56 (q := 53) dX6_item_50 (kt := fun c5 => ?_) (kf := fun c5 => ?_)
        · rw [if_pos c5] at hQ
          obtain ⟨j, rfl, hj⟩ := nI_of6 (n := n) rfl (by omega) c5
          rw [nI_clamp (by omega)] at hQ
          refine v_aload_n (q := 57) dX6_item_56 (kk := ?_)
          refine v_getR (q := 60) fX6_266 (by assumption) (by assumption) (hd := dX6_item_57) (kk := ?_)
          refine v_iload_n (q := 61) dX6_item_60 (kk := ?_)
          refine v_cV1 (N := mX3_isNumber) (q := 64) lX6_241 iX3_isNumber kX3_isNumber (by assumption) dX6_item_61 (s_Row_isNumber w6 (by omega) ?_)
          rw [b3 j hj]
          refine v_if_eqB 79 (q := 67) dX6_item_64 (kt := fun c6 => ?_) (kf := fun c6 => ?_)
          · rw [if_pos (Classical.not_not.mp c6)] at hQ
            refine v_ldc (q := 81) cX6_115 dX6_item_79 (kk := ?_)
            refine v_iret dX6_item_81 (hQ := ?_)
            exact hQ
          · rw [if_neg c6] at hQ
            refine v_aload_n (q := 68) dX6_item_67 (kk := ?_)
            refine v_getR (q := 71) fX6_266 (by assumption) (by assumption) (hd := dX6_item_68) (kk := ?_)
            refine v_getR (q := 74) fX6_236 (by assumption) (by assumption) (hd := dX6_item_71) (kk := ?_)
            refine v_iload_n (q := 75) dX6_item_74 (kk := ?_)
            refine v_ialdN (q := 76) (by assumption) (by omega) (by omega) (hd := dX6_item_75) (kk := ?_)
            rw [b3 j hj]
            refine v_goto 81 dX6_item_76 (kt := ?_)
            refine v_iret dX6_item_81 (hQ := ?_)
            exact hQ
        · rw [if_neg c5] at hQ
          refine v_ldc (q := 55) cX6_235 dX6_item_53 (kk := ?_)
          refine v_iret dX6_item_55 (hQ := ?_)
          exact hQ
      · rw [if_pos c4] at hQ
        refine v_ldc (q := 38) cX6_115 dX6_item_36 (kk := ?_)
        refine v_iret dX6_item_38 (hQ := ?_)
        exact hQ
    · rw [if_pos c3] at hQ
      refine v_ldc (q := 27) cX6_186 dX6_item_25 (kk := ?_)
      refine v_iret dX6_item_27 (hQ := ?_)
      exact hQ
  · have e : spItem ho hA hl sl p = -1000000001 := by unfold spItem; rw [if_neg c1]
    rw [e] at hQ
    refine v_ldc (q := 10) cX6_55 dX6_item_8 (kk := ?_)
    refine v_iret dX6_item_10 (hQ := ?_)
    exact hQ
theorem m_item {sl p : Int32} (hm : MG S R m) (hA24 : ∀ s, s < 5 → ho s = 2 → ∃ n, n ≤ 24 ∧ hA s = nI n) (hsm : SLm I m ho hA hB hl) (hQ : Q (some (.int (spItem ho hA hl sl p))) S I R z) : Cl g mX7_item 2 0 0 S I R z [.ref m, .int sl, .int p] Q := by
  have s0 := hm.s0
  have sh := hm.s_holds
  have rh := hm.r_holds
  have sa := hm.s_holdsA
  have ra := hm.r_holdsA
  have sb := hm.s_heldCells
  have rb := hm.r_heldCells
  obtain ⟨q1, q2, q3, q4⟩ := hsm
  refine Cl.go [some (.ref m), some (.int sl), some (.int p), none] ?_
  refine v_iload_n (q := 1) dX7_item_0 (kk := ?_)
  refine v_cS1 (N := mX7_isSlot) (q := 4) lX7_253 sX7_isSlot kX7_isSlot dX7_item_1 (s_isSlot ?_)
  refine v_if_neB 10 (q := 7) dX7_item_4 (kt := fun c1 => ?_) (kf := fun c1 => ?_)
  · obtain ⟨s, rfl, hs⟩ := nI_of6 (n := 5) rfl (by omega) c1
    have e : spItem ho hA hl (nI s) p = if ho s = 0 then -1000000011 else if ¬ ho s = 2 then -1000000012 else if 0 ≤ p ∧ p < hA s then (if hl (24 * s + p.toNatClampNeg) = -1000000005 then -1000000012 else hl (24 * s + p.toNatClampNeg)) else -1000000013 := by
      unfold spItem
      rw [if_pos c1, nI_clamp (by omega)]
    rw [e] at hQ
    clear e
    refine v_aload_n (q := 11) dX7_item_10 (kk := ?_)
    refine v_getR (q := 14) fX7_57 (by assumption) (by assumption) (hd := dX7_item_11) (kk := ?_)
    refine v_iload_n (q := 15) dX7_item_14 (kk := ?_)
    refine v_ialdE (q := 16) (s) (by rfl) (by assumption) (by omega) (by omega) (hd := dX7_item_15) (kk := ?_)
    rw [q1]
    refine v_if_ne 22 (q := 19) dX7_item_16 (kt := fun c3 => ?_) (kf := fun c3 => ?_)
    · rw [if_neg c3] at hQ
      refine v_aload_n (q := 23) dX7_item_22 (kk := ?_)
      refine v_getR (q := 26) fX7_57 (by assumption) (by assumption) (hd := dX7_item_23) (kk := ?_)
      refine v_iload_n (q := 27) dX7_item_26 (kk := ?_)
      refine v_ialdE (q := 28) (s) (by rfl) (by assumption) (by omega) (by omega) (hd := dX7_item_27) (kk := ?_)
      rw [q1]
      refine v_iconst (v := 2) (q := 29) dX7_item_28 (kk := ?_)
      refine v_icmp_eq 35 (q := 32) dX7_item_29 (kt := fun c4 => ?_) (kf := fun c4 => ?_)
      · rw [if_neg (fun h => h c4)] at hQ
        obtain ⟨n, hn, b1⟩ := hA24 s hs c4
        rw [b1] at hQ
        refine v_iload_n (q := 36) dX7_item_35 (kk := ?_)
        refine v_iconst (v := 0) (q := 37) dX7_item_36 (kk := ?_)
        refine v_aload_n (q := 38) dX7_item_37 (kk := ?_)
        refine v_getR (q := 41) fX7_60 (by assumption) (by assumption) (hd := dX7_item_38) (kk := ?_)
        refine v_iload_n (q := 42) dX7_item_41 (kk := ?_)
        refine v_ialdE (q := 43) (s) (by rfl) (by assumption) (by omega) (by omega) (hd := dX7_item_42) (kk := ?_)
        rw [q2, b1]
        refine v_iconst (v := 1) (q := 44) dX7_item_43 (kk := ?_)
        refine v_isub (q := 45) dX7_item_44 (kk := ?_)
        refine v_cS3 (N := mX7_in) (q := 48) lX7_76 sX7_in kX7_in dX7_item_45 (s_in0 n (nI n) rfl rfl (by omega) ?_)
        refine v_if_neB 54 (q := 51) dX7_item_48 (kt := fun c5 => ?_) (kf := fun c5 => ?_)
        · rw [if_pos c5] at hQ
          obtain ⟨j, rfl, hj⟩ := nI_of6 (n := n) rfl (by omega) c5
          rw [nI_clamp (by omega)] at hQ
          refine v_aload_n (q := 55) dX7_item_54 (kk := ?_)
          refine v_getR (q := 58) fX7_66 (by assumption) (by assumption) (hd := dX7_item_55) (kk := ?_)
          refine v_bipush (v := 24) (q := 60) dX7_item_58 (kk := ?_)
          refine v_iload_n (q := 61) dX7_item_60 (kk := ?_)
          refine v_imul (q := 62) dX7_item_61 (kk := ?_)
          refine v_iload_n (q := 63) dX7_item_62 (kk := ?_)
          refine v_iadd (q := 64) dX7_item_63 (kk := ?_)
          refine v_ialdE (q := 65) (24 * s + j) (by rw [show (24 : Int32) = nI 24 from rfl, pk_mul, nI_add]) (by assumption) (by omega) (by omega) (hd := dX7_item_64) (kk := ?_)
          rw [q4]
          refine v_istore3 (q := 66) dX7_item_65 (kk := ?_)
          refine v_iload_n (q := 67) dX7_item_66 (kk := ?_)
          refine v_ldc (q := 69) cX7_75 dX7_item_67 (kk := ?_)
          refine v_icmp_ne 77 (q := 72) dX7_item_69 (kt := fun c6 => ?_) (kf := fun c6 => ?_)
          · rw [if_neg c6] at hQ
            refine v_iload_n (q := 78) dX7_item_77 (kk := ?_)
            refine v_iret dX7_item_78 (hQ := ?_)
            exact hQ
          · rw [if_pos c6] at hQ
            refine v_ldc (q := 74) cX7_134 dX7_item_72 (kk := ?_)
            refine v_goto 78 dX7_item_74 (kt := ?_)
            refine v_iret dX7_item_78 (hQ := ?_)
            exact hQ
        · rw [if_neg c5] at hQ
          refine v_ldc (q := 53) cX7_251 dX7_item_51 (kk := ?_)
          refine v_iret dX7_item_53 (hQ := ?_)
          exact hQ
      · rw [if_pos c4] at hQ
        refine v_ldc (q := 34) cX7_134 dX7_item_32 (kk := ?_)
        refine v_iret dX7_item_34 (hQ := ?_)
        exact hQ
    · rw [if_pos c3] at hQ
      refine v_ldc (q := 21) cX7_177 dX7_item_19 (kk := ?_)
      refine v_iret dX7_item_21 (hQ := ?_)
      exact hQ
  · have e : spItem ho hA hl sl p = -1000000001 := by unfold spItem; rw [if_neg c1]
    rw [e] at hQ
    refine v_ldc (q := 9) cX7_92 dX7_item_7 (kk := ?_)
    refine v_iret dX7_item_9 (hQ := ?_)
    exact hQ
theorem x_remains {sl n : Int32} (hx : XSk S R b) (hsl : SLc I b ho hA hB hl) (hQ : Q (some (.int (spRemains ho hA sl n))) S I R z) : Cl g mX6_remains 1 0 0 S I R z [.ref b, .int sl, .int n] Q := by
  obtain ⟨⟨s0, r0, -, r2, -, r4, r5, -⟩, -, -, -, ⟨s50, h50⟩, -⟩ := hx
  refine Cl.go [some (.ref b), some (.int sl), some (.int n), none] ?_
  refine v_iload_n (q := 1) dX6_remains_0 (kk := ?_)
  refine v_iconst (v := 5) (q := 2) dX6_remains_1 (kk := ?_)
  refine v_cS2 (N := mX6_within) (q := 5) lX6_51 sX6_within kX6_within dX6_remains_2 (s_within ?_)
  refine v_if_neB 11 (q := 8) dX6_remains_5 (kt := fun c1 => ?_) (kf := fun c1 => ?_)
  · obtain ⟨s, rfl, hs⟩ := nI_of6 (n := 5) rfl (by omega) c1
    obtain ⟨w1, w2, w3, w4, w5, w6⟩ := h50 s hs
    obtain ⟨a1, a2, a3, a4, a5⟩ := hsl s hs
    have e : spRemains ho hA (nI s) n = if ho s = 0 then -1000000011 else if ¬ ho s = 3 then -1000000012 else if n = 0 then -1000000002 else hA s - hA s / n * n := by
      unfold spRemains
      rw [if_pos c1, nI_clamp (by omega)]
    rw [e] at hQ
    clear e
    refine v_aload_n (q := 12) dX6_remains_11 (kk := ?_)
    refine v_getR (q := 15) fX6_37 (by assumption) (by assumption) (hd := dX6_remains_12) (kk := ?_)
    refine v_iload_n (q := 16) dX6_remains_15 (kk := ?_)
    refine v_aaldn (q := 17) (by assumption) (by assumption) (by omega) (by omega) (hd := dX6_remains_16) (kk := ?_)
    refine v_astore3 (q := 18) dX6_remains_17 (kk := ?_)
    refine v_aload_n (q := 19) dX6_remains_18 (kk := ?_)
    refine v_getI (q := 22) fX6_256 (by assumption) (hd := dX6_remains_19) (kk := ?_)
    rw [a1]
    refine v_if_ne 28 (q := 25) dX6_remains_22 (kt := fun c3 => ?_) (kf := fun c3 => ?_)
    · rw [if_neg c3] at hQ
      refine v_aload_n (q := 29) dX6_remains_28 (kk := ?_)
      refine v_getI (q := 32) fX6_256 (by assumption) (hd := dX6_remains_29) (kk := ?_)
      rw [a1]
      refine v_iconst (v := 3) (q := 33) dX6_remains_32 (kk := ?_)
      refine v_icmp_eq 39 (q := 36) dX6_remains_33 (kt := fun c4 => ?_) (kf := fun c4 => ?_)
      · rw [if_neg (fun h => h c4)] at hQ
        refine v_iload_n (q := 40) dX6_remains_39 (kk := ?_)
        refine v_if_ne 48 (q := 43) dX6_remains_40 (kt := fun c5 => ?_) (kf := fun c5 => ?_)
        · rw [if_neg c5] at hQ
          refine v_aload_n (q := 49) dX6_remains_48 (kk := ?_)
          refine v_getI (q := 52) fX6_273 (by assumption) (hd := dX6_remains_49) (kk := ?_)
          rw [a5 c4]
          refine v_iload_n (q := 53) dX6_remains_52 (kk := ?_)
          refine v_irem (q := 54) dX6_remains_53 c5 (kk := ?_)
          refine v_iret dX6_remains_54 (hQ := ?_)
          exact hQ
        · rw [if_pos c5] at hQ
          refine v_ldc (q := 45) cX6_60 dX6_remains_43 (kk := ?_)
          refine v_goto 54 dX6_remains_45 (kt := ?_)
          refine v_iret dX6_remains_54 (hQ := ?_)
          exact hQ
      · rw [if_pos c4] at hQ
        refine v_ldc (q := 38) cX6_115 dX6_remains_36 (kk := ?_)
        refine v_iret dX6_remains_38 (hQ := ?_)
        exact hQ
    · rw [if_pos c3] at hQ
      refine v_ldc (q := 27) cX6_186 dX6_remains_25 (kk := ?_)
      refine v_iret dX6_remains_27 (hQ := ?_)
      exact hQ
  · have e : spRemains ho hA sl n = -1000000001 := by unfold spRemains; rw [if_neg c1]
    rw [e] at hQ
    refine v_ldc (q := 10) cX6_55 dX6_remains_8 (kk := ?_)
    refine v_iret dX6_remains_10 (hQ := ?_)
    exact hQ
theorem m_remains {sl n : Int32} (hm : MG S R m) (hsm : SLm I m ho hA hB hl) (hQ : Q (some (.int (spRemains ho hA sl n))) S I R z) : Cl g mX7_remains 2 0 0 S I R z [.ref m, .int sl, .int n] Q := by
  have s0 := hm.s0
  have sh := hm.s_holds
  have rh := hm.r_holds
  have sa := hm.s_holdsA
  have ra := hm.r_holdsA
  obtain ⟨q1, q2, q3, q4⟩ := hsm
  refine Cl.go [some (.ref m), some (.int sl), some (.int n)] ?_
  refine v_iload_n (q := 1) dX7_remains_0 (kk := ?_)
  refine v_cS1 (N := mX7_isSlot) (q := 4) lX7_253 sX7_isSlot kX7_isSlot dX7_remains_1 (s_isSlot ?_)
  refine v_if_neB 10 (q := 7) dX7_remains_4 (kt := fun c1 => ?_) (kf := fun c1 => ?_)
  · obtain ⟨s, rfl, hs⟩ := nI_of6 (n := 5) rfl (by omega) c1
    have e : spRemains ho hA (nI s) n = if ho s = 0 then -1000000011 else if ¬ ho s = 3 then -1000000012 else if n = 0 then -1000000002 else hA s - hA s / n * n := by
      unfold spRemains
      rw [if_pos c1, nI_clamp (by omega)]
    rw [e] at hQ
    clear e
    refine v_aload_n (q := 11) dX7_remains_10 (kk := ?_)
    refine v_getR (q := 14) fX7_57 (by assumption) (by assumption) (hd := dX7_remains_11) (kk := ?_)
    refine v_iload_n (q := 15) dX7_remains_14 (kk := ?_)
    refine v_ialdE (q := 16) (s) (by rfl) (by assumption) (by omega) (by omega) (hd := dX7_remains_15) (kk := ?_)
    rw [q1]
    refine v_if_ne 22 (q := 19) dX7_remains_16 (kt := fun c3 => ?_) (kf := fun c3 => ?_)
    · rw [if_neg c3] at hQ
      refine v_aload_n (q := 23) dX7_remains_22 (kk := ?_)
      refine v_getR (q := 26) fX7_57 (by assumption) (by assumption) (hd := dX7_remains_23) (kk := ?_)
      refine v_iload_n (q := 27) dX7_remains_26 (kk := ?_)
      refine v_ialdE (q := 28) (s) (by rfl) (by assumption) (by omega) (by omega) (hd := dX7_remains_27) (kk := ?_)
      rw [q1]
      refine v_iconst (v := 3) (q := 29) dX7_remains_28 (kk := ?_)
      refine v_icmp_eq 35 (q := 32) dX7_remains_29 (kt := fun c4 => ?_) (kf := fun c4 => ?_)
      · rw [if_neg (fun h => h c4)] at hQ
        refine v_iload_n (q := 36) dX7_remains_35 (kk := ?_)
        refine v_if_ne 44 (q := 39) dX7_remains_36 (kt := fun c5 => ?_) (kf := fun c5 => ?_)
        · rw [if_neg c5] at hQ
          refine v_iload_n (q := 45) dX7_remains_44 (kk := ?_)
          refine v_iconst (v := (-1)) (q := 46) dX7_remains_45 (kk := ?_)
          refine v_icmp_ne 53 (q := 49) dX7_remains_46 (kt := fun c6 => ?_) (kf := fun c6 => ?_)
          · refine v_aload_n (q := 54) dX7_remains_53 (kk := ?_)
            refine v_getR (q := 57) fX7_60 (by assumption) (by assumption) (hd := dX7_remains_54) (kk := ?_)
            refine v_iload_n (q := 58) dX7_remains_57 (kk := ?_)
            refine v_ialdE (q := 59) (s) (by rfl) (by assumption) (by omega) (by omega) (hd := dX7_remains_58) (kk := ?_)
            rw [q2]
            refine v_iload_n (q := 60) dX7_remains_59 (kk := ?_)
            refine v_irem (q := 61) dX7_remains_60 c5 (kk := ?_)
            refine v_iret dX7_remains_61 (hQ := ?_)
            exact hQ
          · rw [c6, rem_m1] at hQ
            refine v_iconst (v := 0) (q := 50) dX7_remains_49 (kk := ?_)
            refine v_goto 61 dX7_remains_50 (kt := ?_)
            refine v_iret dX7_remains_61 (hQ := ?_)
            exact hQ
        · rw [if_pos c5] at hQ
          refine v_ldc (q := 41) cX7_97 dX7_remains_39 (kk := ?_)
          refine v_goto 61 dX7_remains_41 (kt := ?_)
          refine v_iret dX7_remains_61 (hQ := ?_)
          exact hQ
      · rw [if_pos c4] at hQ
        refine v_ldc (q := 34) cX7_134 dX7_remains_32 (kk := ?_)
        refine v_iret dX7_remains_34 (hQ := ?_)
        exact hQ
    · rw [if_pos c3] at hQ
      refine v_ldc (q := 21) cX7_177 dX7_remains_19 (kk := ?_)
      refine v_iret dX7_remains_21 (hQ := ?_)
      exact hQ
  · have e : spRemains ho hA sl n = -1000000001 := by unfold spRemains; rw [if_neg c1]
    rw [e] at hQ
    refine v_ldc (q := 9) cX7_92 dX7_remains_7 (kk := ?_)
    refine v_iret dX7_remains_9 (hQ := ?_)
    exact hQ
end T9
