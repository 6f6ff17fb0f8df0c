theorem ky_sb : ∀ i, i < 3 → slN i = 4 ∧ ∀ j, j < 4 → sbN i j = kyB (4 * i + j) := by decide
theorem ksF_0 {k : Nat} (hk : k < 5) : ksF k = 0 ↔ k = 1 := by
  have : k = 0 ∨ k = 1 ∨ k = 2 ∨ k = 3 ∨ k = 4 := by omega
  rcases this with rfl | rfl | rfl | rfl | rfl <;> decide
theorem ksF_1 {k : Nat} (hk : k < 5) : ksF k = 1 ↔ k = 2 := by
  have : k = 0 ∨ k = 1 ∨ k = 2 ∨ k = 3 ∨ k = 4 := by omega
  rcases this with rfl | rfl | rfl | rfl | rfl <;> decide
theorem ksF_3 {k : Nat} (hk : k < 5) : ksF k = 3 ↔ k = 0 := by
  have : k = 0 ∨ k = 1 ∨ k = 2 ∨ k = 3 ∨ k = 4 := by omega
  rcases this with rfl | rfl | rfl | rfl | rfl <;> decide
section L15
variable {g : hcG} {S : hcS} {I : hcI} {R : hcR} {z : Nat} {Q : hcQ} {r c cd tl p : Nat} {tp : Nat → Int32} {e : Int32}
theorem word_loop {i q : Nat} (hr : RE S I R r c cd tl tp) (hi : i < 3) (h4 : I r 4 = nI q) (hq : q + 4 ≤ tl) (hQ : Q (some (.int (hc_z (eqC tp q i 4)))) S I R z) (n : Nat) : ∀ j, j + n = 4 → eqC tp q i j = true → V g mX2_isWord 4 0 0 S I R z 27 [some (.ref r), some (.ref (g.2.2.1 i)), some (.int (nI j))] [] Q := by
  obtain ⟨⟨s0, r1, scd, r2, sc, n1, n2, n3⟩, h3, htl, hb, hc⟩ := hr
  obtain ⟨k1, k2⟩ := ky_sb i hi
  have hi6 : i < 6 := by omega
  induction n with
  | zero =>
    intro j hj he
    obtain rfl : j = 4 := by omega
    rw [he] at hQ
    refine v_iload_n (q := 28) dX2_isWord_27 (kk := ?_)
    refine v_aload_n (q := 29) dX2_isWord_28 (kk := ?_)
    refine v_cT0 (N := mJ0_length_8abf5) (q := 32) lX2_88 iJ0_length_8abf5 kJ0_length_8abf5 (by assumption) dX2_isWord_29 (s_length hi6 ?_)
    rw [k1]
    refine v_icmp_geT 62 dX2_isWord_32 (Int32.le_refl _) (kt := ?_)
    refine v_iconst (v := 1) (q := 63) dX2_isWord_62 (kk := ?_)
    refine v_zret dX2_isWord_63 rfl (hQ := ?_)
    exact hQ
  | succ n ih =>
    intro j hj he
    obtain ⟨b1, b2⟩ := hb (q + j) (by omega)
    have hk := kyB_lt (4 * i + j) (by omega)
    have hch := sb_ch _ b2 _ hk
    refine v_iload_n (q := 28) dX2_isWord_27 (kk := ?_)
    refine v_aload_n (q := 29) dX2_isWord_28 (kk := ?_)
    refine v_cT0 (N := mJ0_length_8abf5) (q := 32) lX2_88 iJ0_length_8abf5 kJ0_length_8abf5 (by assumption) dX2_isWord_29 (s_length hi6 ?_)
    rw [k1]
    refine v_icmp_geF (q := 35) (t := 62) dX2_isWord_32 (fun h => by have := (nI_leI (by omega) (by omega)).mp h; omega) (kf := ?_)
    refine v_aload_n (q := 36) dX2_isWord_35 (kk := ?_)
    refine v_getR (q := 39) fX2_15 (by assumption) (by assumption) (hd := dX2_isWord_36) (kk := ?_)
    refine v_aload_n (q := 40) dX2_isWord_39 (kk := ?_)
    refine v_getI (q := 43) fX2_71 (by assumption) (hd := dX2_isWord_40) (kk := ?_)
    rw [h4]
    refine v_iload_n (q := 44) dX2_isWord_43 (kk := ?_)
    refine v_iadd (q := 45) dX2_isWord_44 (kk := ?_)
    rw [nI_add]
    refine v_baldN (q := 46) sc (show q + j < 96 by omega) (by omega) dX2_isWord_45 (kk := ?_)
    rw [hc _ (by omega)]
    refine v_aload_n (q := 47) dX2_isWord_46 (kk := ?_)
    refine v_iload_n (q := 48) dX2_isWord_47 (kk := ?_)
    refine v_cT1 (N := mJ0_charAt_5068e) (q := 51) lX2_93 iJ0_charAt_5068e kJ0_charAt_5068e (by assumption) dX2_isWord_48 (s_charAt hi6 (by omega) ?_)
    rw [k2 j (by omega)]
    by_cases d : tbF tp (q + j) = kyB (4 * i + j)
    · refine v_icmp_eqT 56 dX2_isWord_51 (hch.mpr d) (kt := ?_)
      refine v_iinc2 (q := 59) dX2_isWord_56 (hv := nI_1 j) (kk := ?_)
      refine v_goto 27 dX2_isWord_59 (kt := ?_)
      refine ih (j + 1) (by omega) ?_
      simp only [eqC]
      rw [he, decide_eq_true d]
      rfl
    · have hf : eqC tp q i (j + 1) = false := by
        simp only [eqC]
        rw [he, decide_eq_false d]
        rfl
      rw [eqC_f hf 4 (by omega)] at hQ
      refine v_icmp_eqF (q := 54) (t := 56) dX2_isWord_51 (fun h => d (hch.mp h)) (kf := ?_)
      refine v_iconst (v := 0) (q := 55) dX2_isWord_54 (kk := ?_)
      refine v_zret dX2_isWord_55 rfl (hQ := ?_)
      exact hQ
theorem s_isWord {i : Nat} (hr : RE S I R r c cd tl tp) (hp : p ≤ tl) (ht : TKc I r tp tl p e) (hi : i < 3) (hQ : Q (some (.int (hc_z (decide (lxK tp tl p e = 1 ∧ lxR tp tl p - lxQ tp tl p = 4) && eqC tp (lxQ tp tl p) i 4)))) S I R z) : Cl g mX2_isWord 4 0 0 S I R z [.ref r, .ref (g.2.2.1 i)] Q := by
  have hr' := hr
  obtain ⟨⟨s0, r1, scd, r2, sc, n1, n2, n3⟩, h3, htl, hb, hc⟩ := hr'
  obtain ⟨t4, t5, t6, hLI⟩ := ht
  obtain ⟨k1, k2⟩ := ky_sb i hi
  have hi6 : i < 6 := by omega
  have hk5 := lxK_lt (tp := tp) (tl := tl) (p := p) (e := e)
  have hs5 := ksF_lt (k := lxK tp tl p e)
  have hR := lxR_le (tp := tp) hp
  refine Cl.go [some (.ref r), some (.ref (g.2.2.1 i)), none] ?_
  have no : ¬ (lxK tp tl p e = 1 ∧ lxR tp tl p - lxQ tp tl p = 4) → V g mX2_isWord 4 0 0 S I R z 23 [some (.ref r), some (.ref (g.2.2.1 i)), none] [] Q := by
    intro cc
    rw [decide_eq_false cc] at hQ
    refine v_iconst (v := 0) (q := 24) dX2_isWord_23 (kk := ?_)
    refine v_zret dX2_isWord_24 rfl (hQ := ?_)
    exact hQ
  refine v_aload_n (q := 1) dX2_isWord_0 (kk := ?_)
  refine v_getI (q := 4) fX2_32 (by assumption) (hd := dX2_isWord_1) (kk := ?_)
  rw [t6]
  by_cases c1 : lxK tp tl p e = 1
  · refine v_if_neF (q := 7) (t := 23) dX2_isWord_4 (by rw [(ksF_0 hk5).mpr c1]; rfl) (kf := ?_)
    refine v_aload_n (q := 8) dX2_isWord_7 (kk := ?_)
    refine v_getI (q := 11) fX2_29 (by assumption) (hd := dX2_isWord_8) (kk := ?_)
    rw [t5]
    refine v_aload_n (q := 12) dX2_isWord_11 (kk := ?_)
    refine v_getI (q := 15) fX2_71 (by assumption) (hd := dX2_isWord_12) (kk := ?_)
    rw [t4]
    refine v_isub (q := 16) dX2_isWord_15 (kk := ?_)
    rw [pk_sub hR.1]
    refine v_aload_n (q := 17) dX2_isWord_16 (kk := ?_)
    refine v_cT0 (N := mJ0_length_8abf5) (q := 20) lX2_88 iJ0_length_8abf5 kJ0_length_8abf5 (by assumption) dX2_isWord_17 (s_length hi6 ?_)
    rw [k1]
    by_cases c2 : lxR tp tl p - lxQ tp tl p = 4
    · rw [decide_eq_true ⟨c1, c2⟩] at hQ
      refine v_icmp_eqT 25 dX2_isWord_20 (by rw [c2]) (kt := ?_)
      refine v_iconst (v := 0) (q := 26) dX2_isWord_25 (kk := ?_)
      refine v_istore2 (q := 27) dX2_isWord_26 (kk := ?_)
      exact word_loop hr hi t4 (by omega) hQ 4 0 (by omega) rfl
    · refine v_icmp_eqF (q := 23) (t := 25) dX2_isWord_20 (fun h => c2 ((nI_eq (by omega) (by omega)).mp h)) (kf := ?_)
      exact no (fun h => c2 h.2)
  · refine v_if_neT 23 dX2_isWord_4 (fun h => c1 ((ksF_0 hk5).mp ((nI_eq (b := 0) (by omega) (by omega)).mp h))) (kt := ?_)
    exact no (fun h => c1 h.1)
theorem s_takeKey (hr : RE S I R r c cd tl tp) (ht : TKc I r tp tl 0 (-1)) (h0 : ¬ 0 ≤ I r 0) (hno : kyF tp tl = none → Q none S (hc_u I r 0 (nI (lxQ tp tl 0))) R z) (hyes : ∀ w, kyF tp tl = some w → ∀ I' : hcI, (∀ y, y ≠ r → I' y = I y) → (∀ j, ¬ (4 ≤ j ∧ j ≤ 7) → I' r j = I r j) → I' r 7 = nI w → TKc I' r tp tl (lxR tp tl 0) (lxE tp tl 0 (-1)) → Q none S I' R z) : Cl g mX2_takeKey 5 0 0 S I R z [.ref r] Q := by
  have s0 := hr.1.1
  have kf : kyF tp tl = if lxK tp tl 0 (-1) = 1 ∧ lxR tp tl 0 - lxQ tp tl 0 = 4 then (if eqC tp (lxQ tp tl 0) 0 4 = true then some 0 else if eqC tp (lxQ tp tl 0) 1 4 = true then some 1 else if eqC tp (lxQ tp tl 0) 2 4 = true then some 2 else none) else none := rfl
  have yes : ∀ w, kyF tp tl = some w → V g mX2_takeKey 5 0 0 S (hc_u I r 7 (nI w)) R z 56 [some (.ref r)] [] Q := by
    intro w hw
    obtain ⟨⟨hk1, hk4⟩, hk3⟩ := kyF_some hw
    have f2 : ∀ j, j ≠ 7 → hc_u I r 7 (nI w) r j = I r j := fun j hj => by rw [hc_u_at, upd_ne hj]
    obtain ⟨⟨q0, q1, q2, q3, q4, n1, n2, n3⟩, h3, htl, hb, hc⟩ := hr
    refine v_aload_n (q := 57) dX2_takeKey_56 (kk := ?_)
    refine v_cV0 (N := mX2_goOn) (q := 60) lX2_44 iX2_goOn kX2_goOn (by assumption) dX2_takeKey_57 (s_goOnT (c := c) (cd := cd) ⟨⟨q0, q1, q2, q3, q4, n1, n2, n3⟩, (f2 3 (by omega)).trans h3, htl, hb, fun j hj => by rw [hc_u_ne n1]; exact hc j hj⟩ (by omega) (ht.of (fun j a b => f2 j (by omega))) (Or.inl hk1) (fun I2 hM2 ht2 => ?_))
    refine v_vret dX2_takeKey_60 (hQ := ?_)
    refine hyes w hw I2 (fun y hy => (hM2.1 y hy).trans (hc_u_ne hy)) (fun j hj => (hM2.2 j (by omega)).trans (f2 j (by omega))) ?_ ht2
    rw [hM2.2 7 (by omega), hc_u_at, upd_at]
  refine Cl.go [some (.ref r)] ?_
  refine v_aload_n (q := 1) dX2_takeKey_0 (kk := ?_)
  refine v_ldcS 0 (q := 3) (by decide) dX2_takeKey_1 (kk := ?_)
  refine v_cV1 (N := mX2_isWord) (q := 6) lX2_80 iX2_isWord kX2_isWord (by assumption) dX2_takeKey_3 (s_isWord (i := 0) hr (by omega) ht (by omega) ?_)
  refine v_if_eqZ 17 (q := 9) dX2_takeKey_6 (kt := fun c0 => ?_) (kf := fun c0 => ?_)
  · refine v_aload_n (q := 18) dX2_takeKey_17 (kk := ?_)
    refine v_ldcS 1 (q := 20) (by decide) dX2_takeKey_18 (kk := ?_)
    refine v_cV1 (N := mX2_isWord) (q := 23) lX2_80 iX2_isWord kX2_isWord (by assumption) dX2_takeKey_20 (s_isWord (i := 1) hr (by omega) ht (by omega) ?_)
    refine v_if_eqZ 34 (q := 26) dX2_takeKey_23 (kt := fun c1 => ?_) (kf := fun c1 => ?_)
    · refine v_aload_n (q := 35) dX2_takeKey_34 (kk := ?_)
      refine v_ldcS 2 (q := 37) (by decide) dX2_takeKey_35 (kk := ?_)
      refine v_cV1 (N := mX2_isWord) (q := 40) lX2_80 iX2_isWord kX2_isWord (by assumption) dX2_takeKey_37 (s_isWord (i := 2) hr (by omega) ht (by omega) ?_)
      refine v_if_eqZ 51 (q := 43) dX2_takeKey_40 (kt := fun c2 => ?_) (kf := fun c2 => ?_)
      · refine v_aload_n (q := 52) dX2_takeKey_51 (kk := ?_)
        refine v_cV0 (N := mX2_isFault) (q := 55) lX2_54 iX2_isFault kX2_isFault (by assumption) dX2_takeKey_52 (s_isFault s0 (fun _ => ?_) (fun h => absurd h h0))
        refine v_vret dX2_takeKey_55 (hQ := ?_)
        rw [ht.1]
        refine hno ?_
        rw [kf]
        split
        next hh =>
          rw [decide_eq_true hh, Bool.true_and] at c0 c1 c2
          rw [c0, c1, c2]
          rfl
        next => rfl
      · rw [Bool.and_eq_true] at c2
        have hh := of_decide_eq_true c2.1
        rw [decide_eq_true hh, Bool.true_and] at c0 c1
        have hw : kyF tp tl = some 2 := by rw [kf, if_pos hh, c0, c1, c2.2]; rfl
        refine v_aload_n (q := 44) dX2_takeKey_43 (kk := ?_)
        refine v_iconst (v := 2) (q := 45) dX2_takeKey_44 (kk := ?_)
        refine v_putI (q := 48) fX2_59 (by assumption) (hd := dX2_takeKey_45) (kk := ?_)
        refine v_goto 56 dX2_takeKey_48 (kt := ?_)
        exact yes 2 hw
    · rw [Bool.and_eq_true] at c1
      have hh := of_decide_eq_true c1.1
      rw [decide_eq_true hh, Bool.true_and] at c0
      have hw : kyF tp tl = some 1 := by rw [kf, if_pos hh, c0, c1.2]; rfl
      refine v_aload_n (q := 27) dX2_takeKey_26 (kk := ?_)
      refine v_iconst (v := 1) (q := 28) dX2_takeKey_27 (kk := ?_)
      refine v_putI (q := 31) fX2_59 (by assumption) (hd := dX2_takeKey_28) (kk := ?_)
      refine v_goto 56 dX2_takeKey_31 (kt := ?_)
      exact yes 1 hw
  · rw [Bool.and_eq_true] at c0
    have hh := of_decide_eq_true c0.1
    have hw : kyF tp tl = some 0 := by rw [kf, if_pos hh, c0.2]; rfl
    refine v_aload_n (q := 10) dX2_takeKey_9 (kk := ?_)
    refine v_iconst (v := 0) (q := 11) dX2_takeKey_10 (kk := ?_)
    refine v_putI (q := 14) fX2_59 (by assumption) (hd := dX2_takeKey_11) (kk := ?_)
    refine v_goto 56 dX2_takeKey_14 (kt := ?_)
    exact yes 0 hw
end L15
