theorem sb_ch : ∀ t, t < 256 → ∀ k, k < 128 → (sb t = nI k ↔ t = k) := by decide +kernel
theorem sb_lo : ∀ t, t < 128 → sb t = nI t := by decide +kernel
/-- the Reader at r, its codes at cd, its bytes at c -/
def RE (S : hcS) (I : hcI) (R : hcR) (r c cd tl : Nat) (tp : Nat → Int32) : Prop := (S r = some (2, 0) ∧ R r 1 = some cd ∧ S cd = some (10, 96) ∧ R r 2 = some c ∧ S c = some (8, 96) ∧ c ≠ r ∧ cd ≠ r ∧ cd ≠ c) ∧ I r 3 = nI tl ∧ tl ≤ 96 ∧ TBt tp tl ∧ ∀ j, j < tl → I c j = sb (tbF tp j)
section L5
variable {g : hcG} {S : hcS} {I : hcI} {R : hcR} {z : Nat} {Q : hcQ} {r c cd tl : Nat} {tp : Nat → Int32}
theorem s_isFault (s0 : S r = some (2, 0)) (h0 : ¬ 0 ≤ I r 0 → Q none S (hc_u I r 0 (I r 4)) R z) (h1 : 0 ≤ I r 0 → Q none S I R z) : Cl g mX2_isFault 0 0 0 S I R z [.ref r] Q := by
  refine Cl.go [some (.ref r)] ?_
  refine v_aload_n (q := 1) dX2_isFault_0 (kk := ?_)
  refine v_getI (q := 4) fX2_35 (by assumption) (hd := dX2_isFault_1) (kk := ?_)
  refine v_if_ge 15 (q := 7) dX2_isFault_4 (kt := fun cc => ?_) (kf := fun cc => ?_)
  · refine v_vret dX2_isFault_15 (hQ := ?_)
    exact h1 cc
  · refine v_aload_n (q := 8) dX2_isFault_7 (kk := ?_)
    refine v_aload_n (q := 9) dX2_isFault_8 (kk := ?_)
    refine v_getI (q := 12) fX2_71 (by assumption) (hd := dX2_isFault_9) (kk := ?_)
    refine v_putI (q := 15) fX2_35 (by assumption) (hd := dX2_isFault_12) (kk := ?_)
    refine v_vret dX2_isFault_15 (hQ := ?_)
    exact h0 cc
theorem s_isSign {s q k : Nat} (hr : RE S I R r c cd tl tp) (hk : k < 128) (hs : s < 5) (h6 : I r 6 = nI s) (h4 : I r 4 = nI q) (hq : s = 2 → q < tl) (hQ : Q (some (.int (hc_b (s = 2 ∧ tbF tp q = k)))) S I R z) : Cl g mX2_isSign 0 0 0 S I R z [.ref r, .int (nI k)] Q := by
  obtain ⟨⟨s0, r1, scd, r2, sc, n1, n2, n3⟩, h3, htl, hb, hc⟩ := hr
  refine Cl.go [some (.ref r), some (.int (nI k))] ?_
  have no : ¬ (s = 2 ∧ tbF tp q = k) → V g mX2_isSign 0 0 0 S I R z 25 [some (.ref r), some (.int (nI k))] [] Q := by
    intro cc
    rw [hc_bf cc] at hQ
    refine v_iconst (v := 0) (q := 26) dX2_isSign_25 (kk := ?_)
    refine v_zret dX2_isSign_26 rfl (hQ := ?_)
    exact hQ
  refine v_aload_n (q := 1) dX2_isSign_0 (kk := ?_)
  refine v_getI (q := 4) fX2_32 (by assumption) (hd := dX2_isSign_1) (kk := ?_)
  rw [h6]
  refine v_iconst (v := 2) (q := 5) dX2_isSign_4 (kk := ?_)
  by_cases c1 : s = 2
  · have hq' := hq c1
    obtain ⟨b1, b2⟩ := hb q hq'
    have hch := sb_ch _ b2 k hk
    refine v_icmp_neF (q := 8) (t := 25) dX2_isSign_5 (by rw [c1]; rfl) (kf := ?_)
    refine v_aload_n (q := 9) dX2_isSign_8 (kk := ?_)
    refine v_getR (q := 12) fX2_15 (by assumption) (by assumption) (hd := dX2_isSign_9) (kk := ?_)
    refine v_aload_n (q := 13) dX2_isSign_12 (kk := ?_)
    refine v_getI (q := 16) fX2_71 (by assumption) (hd := dX2_isSign_13) (kk := ?_)
    rw [h4]
    refine v_baldN (q := 17) sc (show q < 96 by omega) (by omega) dX2_isSign_16 (kk := ?_)
    rw [hc q hq']
    refine v_iload_n (q := 18) dX2_isSign_17 (kk := ?_)
    by_cases c2 : tbF tp q = k
    · rw [hc_bt ⟨c1, c2⟩] at hQ
      refine v_icmp_neF (q := 21) (t := 25) dX2_isSign_18 (hch.mpr c2) (kf := ?_)
      refine v_iconst (v := 1) (q := 22) dX2_isSign_21 (kk := ?_)
      refine v_goto 26 dX2_isSign_22 (kt := ?_)
      refine v_zret dX2_isSign_26 rfl (hQ := ?_)
      exact hQ
    · refine v_icmp_neT 25 dX2_isSign_18 (fun h => c2 (hch.mp h)) (kt := ?_)
      exact no (fun h => c2 h.2)
  · refine v_icmp_neT 25 dX2_isSign_5 (fun h => c1 ((nI_eq (b := 2) (by omega) (by omega)).mp h)) (kt := ?_)
    exact no (fun h => c1 h.1)
theorem s_write {w : Nat} {v : Int32} (hr : RE S I R r c cd tl tp) (h8 : I r 8 = nI w) (hw : w < 96) (hQ : Q none S (hc_u (hc_u I cd w v) r 8 (nI (w + 1))) R z) : Cl g mX2_write 0 0 0 S I R z [.ref r, .int v] Q := by
  obtain ⟨⟨s0, r1, scd, r2, sc, n1, n2, n3⟩, h3, htl, hb, hc⟩ := hr
  refine Cl.go [some (.ref r), some (.int v)] ?_
  refine v_aload_n (q := 1) dX2_write_0 (kk := ?_)
  refine v_getI (q := 4) fX2_38 (by assumption) (hd := dX2_write_1) (kk := ?_)
  rw [h8]
  refine v_bipush (v := 96) (q := 6) dX2_write_4 (kk := ?_)
  refine v_icmp_geF (q := 9) (t := 29) dX2_write_6 (fun h => by have := (nI_leI (a := 96) (by omega) (by omega)).mp h; omega) (kf := ?_)
  refine v_aload_n (q := 10) dX2_write_9 (kk := ?_)
  refine v_getR (q := 13) fX2_9 (by assumption) (by assumption) (hd := dX2_write_10) (kk := ?_)
  refine v_aload_n (q := 14) dX2_write_13 (kk := ?_)
  refine v_getI (q := 17) fX2_38 (by assumption) (hd := dX2_write_14) (kk := ?_)
  rw [h8]
  refine v_iload_n (q := 18) dX2_write_17 (kk := ?_)
  refine v_iastE (q := 19) (w) (by rfl) (by assumption) (by omega) (by omega) (hd := dX2_write_18) (kk := ?_)
  refine v_aload_n (q := 20) dX2_write_19 (kk := ?_)
  refine v_dup (q := 21) dX2_write_20 (kk := ?_)
  refine v_getI (q := 24) fX2_38 (by assumption) (hd := dX2_write_21) (kk := ?_)
  rw [hc_u_ne n2.symm, h8]
  refine v_iconst (v := 1) (q := 25) dX2_write_24 (kk := ?_)
  refine v_iadd (q := 26) dX2_write_25 (kk := ?_)
  rw [nI_1]
  refine v_putI (q := 29) fX2_38 (by assumption) (hd := dX2_write_26) (kk := ?_)
  refine v_vret dX2_write_29 (hQ := ?_)
  exact hQ
theorem numAt_loop {q e : Nat} (hr : RE S I R r c cd tl tp) (h5 : I r 5 = nI e) (he : e ≤ tl) (hqe : e - q ≤ 4) (hfg : ∀ j, q ≤ j → j < e → bFg (tbF tp j) = true) (hQ : Q (some (.int (nI (numF tp q (e - q))))) S I R z) (n : Nat) : ∀ i, i + n = e → q ≤ i → V g mX2_numberAtHand 0 0 0 S I R z 7 [some (.ref r), some (.int (nI (numF tp q (i - q)))), some (.int (nI i))] [] Q := by
  have hr' := hr
  obtain ⟨⟨s0, r1, scd, r2, sc, n1, n2, n3⟩, h3, htl, hb, hc⟩ := hr'
  induction n with
  | zero =>
    intro i hi hqi
    obtain rfl : i = e := by omega
    refine v_iload_n (q := 8) dX2_numberAtHand_7 (kk := ?_)
    refine v_aload_n (q := 9) dX2_numberAtHand_8 (kk := ?_)
    refine v_getI (q := 12) fX2_29 (by assumption) (hd := dX2_numberAtHand_9) (kk := ?_)
    rw [h5]
    refine v_icmp_geT 36 dX2_numberAtHand_12 (Int32.le_refl _) (kt := ?_)
    refine v_iload_n (q := 37) dX2_numberAtHand_36 (kk := ?_)
    refine v_iret dX2_numberAtHand_37 (hQ := ?_)
    exact hQ
  | succ n ih =>
    intro i hi hqi
    obtain ⟨b1, b2⟩ := hb i (by omega)
    have cf : 48 ≤ tbF tp i ∧ tbF tp i ≤ 57 := by simpa [bFg] using hfg i hqi (by omega)
    have e1 : numF tp q (i + 1 - q) = 10 * numF tp q (i - q) + (tbF tp i - 48) := by
      rw [show i + 1 - q = (i - q) + 1 by omega]
      simp only [numF]
      rw [show q + (i - q) = i by omega]
    have := ih (i + 1) (by omega) (by omega)
    rw [e1] at this
    refine v_iload_n (q := 8) dX2_numberAtHand_7 (kk := ?_)
    refine v_aload_n (q := 9) dX2_numberAtHand_8 (kk := ?_)
    refine v_getI (q := 12) fX2_29 (by assumption) (hd := dX2_numberAtHand_9) (kk := ?_)
    rw [h5]
    refine v_icmp_geF (q := 15) (t := 36) dX2_numberAtHand_12 (fun h => by have := (nI_leI (by omega) (by omega)).mp h; omega) (kf := ?_)
    refine v_bipush (v := 10) (q := 17) dX2_numberAtHand_15 (kk := ?_)
    refine v_iload_n (q := 18) dX2_numberAtHand_17 (kk := ?_)
    refine v_imul (q := 19) dX2_numberAtHand_18 (kk := ?_)
    refine v_aload_n (q := 20) dX2_numberAtHand_19 (kk := ?_)
    refine v_getR (q := 23) fX2_15 (by assumption) (by assumption) (hd := dX2_numberAtHand_20) (kk := ?_)
    refine v_iload_n (q := 24) dX2_numberAtHand_23 (kk := ?_)
    refine v_baldN (q := 25) sc (show i < 96 by omega) (by omega) dX2_numberAtHand_24 (kk := ?_)
    rw [hc i (by omega), sb_lo _ (by omega)]
    refine v_iadd (q := 26) dX2_numberAtHand_25 (kk := ?_)
    refine v_bipush (v := 48) (q := 28) dX2_numberAtHand_26 (kk := ?_)
    refine v_isub (q := 29) dX2_numberAtHand_28 (kk := ?_)
    rw [show (10 : Int32) * nI (numF tp q (i - q)) + nI (tbF tp i) - 48 = nI (10 * numF tp q (i - q) + (tbF tp i - 48)) by
      rw [show (10 : Int32) = nI 10 from rfl, pk_mul, nI_add, show (48 : Int32) = nI 48 from rfl, pk_sub (by omega)]
      congr 1
      omega]
    refine v_istore1 (q := 30) dX2_numberAtHand_29 (kk := ?_)
    refine v_iinc2 (q := 33) dX2_numberAtHand_30 (hv := nI_1 i) (kk := ?_)
    refine v_goto 7 dX2_numberAtHand_33 (kt := ?_)
    exact this
theorem s_numAt {q e : Nat} (hr : RE S I R r c cd tl tp) (h4 : I r 4 = nI q) (h5 : I r 5 = nI e) (hq : q ≤ e) (he : e ≤ tl) (hqe : e - q ≤ 4) (hfg : ∀ j, q ≤ j → j < e → bFg (tbF tp j) = true) (hQ : Q (some (.int (nI (numF tp q (e - q))))) S I R z) : Cl g mX2_numberAtHand 0 0 0 S I R z [.ref r] Q := by
  have s0 := hr.1.1
  refine Cl.go [some (.ref r), none, none] ?_
  refine v_iconst (v := 0) (q := 1) dX2_numberAtHand_0 (kk := ?_)
  refine v_istore1 (q := 2) dX2_numberAtHand_1 (kk := ?_)
  refine v_aload_n (q := 3) dX2_numberAtHand_2 (kk := ?_)
  refine v_getI (q := 6) fX2_71 (by assumption) (hd := dX2_numberAtHand_3) (kk := ?_)
  rw [h4]
  refine v_istore2 (q := 7) dX2_numberAtHand_6 (kk := ?_)
  have := numAt_loop (g := g) hr h5 he hqe hfg hQ (e - q) q (by omega) (Nat.le_refl _)
  rw [show q - q = 0 by omega] at this
  exact this
end L5
