def Fa (a : Nat) (I I' : hcI) : Prop := ∀ y, (y < a ∨ a + 15 ≤ y) → I' y = I y
theorem Fa.h {b a : Nat} {I I' : hcI} (h : Fa a I I') : Fh b a I I' := fun y hy _ => h y hy
theorem HSk.keepR {S : hcS} {R R' : hcR} {a c : Nat} (h : HSk S R a) (hR : ∀ x, x ≠ c → R' x = R x) (h0 : c ≠ a) (h1 : c ≠ a + 1) : HSk S R' a := by
  obtain ⟨s0, s1, s2, s3, s4, r0, r1, r2, r3, sp⟩ := h
  refine ⟨s0, s1, s2, s3, s4, by rw [hR a h0.symm]; exact r0, by rw [hR a h0.symm]; exact r1, by rw [hR a h0.symm]; exact r2, by rw [hR a h0.symm]; exact r3, fun p hp => ⟨(sp p hp).1, by rw [hR _ h1.symm]; exact (sp p hp).2⟩⟩
theorem TxAt.keepR {S : hcS} {I : hcI} {R R' : hcR} {b x c : Nat} {N : hN} {t : Nat} (h : TxAt S I R b x N t) (hR : ∀ x, x ≠ c → R' x = R x) (hc : c < b + 103) : TxAt S I R' b x N t := by
  obtain ⟨q, key, cn, lv, a1, a2, a3, a4, a5, a6, a7, a8, a9⟩ := h
  have e := hR x (by omega)
  exact ⟨q, key, cn, lv, a1, a2, a3, a4, by rw [e]; exact a5, by rw [e]; exact a6, a7, a8, a9⟩
theorem HD.keepR {S : hcS} {I : hcI} {R R' : hcR} {b a c : Nat} {N : hN} {np nb nt : Nat} (h : HD S I R b a N np nb nt) (hR : ∀ x, x ≠ c → R' x = R x) (hc : c < b + 103) (h3 : c ≠ a + 3) : HD S I R' b a N np nb nt := by
  obtain ⟨q1, q2, q3, q4, q5⟩ := h
  refine ⟨q1, q2, q3, q4, fun t ht => ?_⟩
  obtain ⟨x, hx, htx⟩ := q5 t ht
  exact ⟨x, by rw [hR _ h3.symm]; exact hx, htx.keepR hR hc⟩
section H5
variable {g : hcG} {S : hcS} {I : hcI} {R : hcR} {z : Nat} {Q : hcQ} {b a o np nb nt sec : Nat} {N : hN}
theorem becomes_1 {I0 : hcI} (hk : HSk S R a) (hko : HSk S R o) (hd : HD S I0 R b o N np nb nt) (hw : WF N np nb nt sec) (hao : a + 15 ≤ o ∨ o + 15 ≤ a) (k : Nat) : ∀ (i : Nat) (I' : hcI), i + k = np → Fa a I0 I' → (∀ p, p < i → ∀ j, j < 6 → I' (a + 5 + p) j = N (33 + 6 * p + j)) → (∀ I2 : hcI, Fa a I0 I2 → (∀ p, p < np → ∀ j, j < 6 → I2 (a + 5 + p) j = N (33 + 6 * p + j)) → V g mX0_becomes 1 0 0 S I2 R z 31 [some (.ref a), some (.ref o), some (.int (nI np))] [] Q) → V g mX0_becomes 1 0 0 S I' R z 2 [some (.ref a), some (.ref o), some (.int (nI i))] [] Q := by
  obtain ⟨s0, s1, s2, s3, s4, r0, r1, r2, r3, sp⟩ := hk
  obtain ⟨t0, t1, t2, t3, t4, u0, u1, u2, u3, tp⟩ := hko
  have hnp := hw.1.2
  induction k with
  | zero =>
    intro i I' hi hF hP hK
    have e2 : i = np := by omega
    subst e2
    have e : I' o 4 = nI i := by rw [hF o (by omega), hd.1.1]; exact hw.1.1
    refine v_iload_n (q := 3) dX0_becomes_2 (kk := ?_)
    refine v_aload_n (q := 4) dX0_becomes_3 (kk := ?_)
    refine v_getI (q := 7) fX0_44 (by assumption) (hd := dX0_becomes_4) (kk := ?_)
    rw [e]
    refine v_icmp_geT 31 dX0_becomes_7 (nI_le (Nat.le_refl _) (by omega)) (kt := ?_)
    exact hK I' hF hP
  | succ k ih =>
    intro i I' hi hF hP hK
    have e : I' o 4 = nI np := by rw [hF o (by omega), hd.1.1]; exact hw.1.1
    have sa := (sp i (by omega)).1
    have ra := (sp i (by omega)).2
    have so := (tp i (by omega)).1
    have ro := (tp i (by omega)).2
    refine v_iload_n (q := 3) dX0_becomes_2 (kk := ?_)
    refine v_aload_n (q := 4) dX0_becomes_3 (kk := ?_)
    refine v_getI (q := 7) fX0_44 (by assumption) (hd := dX0_becomes_4) (kk := ?_)
    rw [e]
    refine v_icmp_geF (q := 10) (t := 31) dX0_becomes_7 (nI_ge (by omega) (by omega)) (kf := ?_)
    refine v_aload_n (q := 11) dX0_becomes_10 (kk := ?_)
    refine v_getR (q := 14) fX0_11 (by assumption) (by assumption) (hd := dX0_becomes_11) (kk := ?_)
    refine v_iload_n (q := 15) dX0_becomes_14 (kk := ?_)
    refine v_aaldn (q := 16) (by assumption) (by assumption) (by omega) (by omega) (hd := dX0_becomes_15) (kk := ?_)
    refine v_aload_n (q := 17) dX0_becomes_16 (kk := ?_)
    refine v_getR (q := 20) fX0_11 (by assumption) (by assumption) (hd := dX0_becomes_17) (kk := ?_)
    refine v_iload_n (q := 21) dX0_becomes_20 (kk := ?_)
    refine v_aaldn (q := 22) (by assumption) (by assumption) (by omega) (by omega) (hd := dX0_becomes_21) (kk := ?_)
    refine v_cV1 (N := mX1_becomes) (q := 25) lX0_47 iX1_becomes kX1_becomes (by assumption) dX0_becomes_22 (s_Person_becomes sa so (fun I2 h1 h2 => ?_))
    refine v_iinc2 (q := 28) dX0_becomes_25 (hv := nI_1 i) (kk := ?_)
    refine v_goto 2 dX0_becomes_28 (kt := ?_)
    refine ih (i + 1) I2 (by omega) (fun y hy => ?_) (fun p hp j hj => ?_) hK
    · rw [h1 y (by omega)]
      exact hF y hy
    · by_cases ep : p = i
      · subst ep
        rw [h2 j hj, hF _ (by omega), hd.2.2.1 p (by omega) j hj]
      · rw [h1 _ (by omega)]
        exact hP p (by omega) j hj
theorem becomes_2 {I0 : hcI} (hk : HSk S R a) (hko : HSk S R o) (hd : HD S I0 R b o N np nb nt) (hw : WF N np nb nt sec) (hao : a + 15 ≤ o ∨ o + 15 ≤ a) (k : Nat) : ∀ (i : Nat) (I' : hcI), i + k = nb → Fa a I0 I' → (∀ p, p < np → ∀ j, j < 6 → I' (a + 5 + p) j = N (33 + 6 * p + j)) → (∀ j, j < i → I' (a + 2) j = N (9 + j)) → (∀ I2 : hcI, Fa a I0 I2 → (∀ p, p < np → ∀ j, j < 6 → I2 (a + 5 + p) j = N (33 + 6 * p + j)) → (∀ j, j < nb → I2 (a + 2) j = N (9 + j)) → V g mX0_becomes 1 0 0 S I2 R z 59 [some (.ref a), some (.ref o), some (.int (nI nb))] [] Q) → V g mX0_becomes 1 0 0 S I' R z 33 [some (.ref a), some (.ref o), some (.int (nI i))] [] Q := by
  obtain ⟨s0, s1, s2, s3, s4, r0, r1, r2, r3, sp⟩ := hk
  obtain ⟨t0, t1, t2, t3, t4, u0, u1, u2, u3, tp⟩ := hko
  have hnb := hw.2.1.2.2
  have hnp := hw.1.2
  induction k with
  | zero =>
    intro i I' hi hF hP hL hK
    have e2 : i = nb := by omega
    subst e2
    have e : I' o 5 = nI i := by rw [hF o (by omega), hd.1.2.1]; exact hw.2.1.1
    refine v_iload_n (q := 34) dX0_becomes_33 (kk := ?_)
    refine v_aload_n (q := 35) dX0_becomes_34 (kk := ?_)
    refine v_getI (q := 38) fX0_30 (by assumption) (hd := dX0_becomes_35) (kk := ?_)
    rw [e]
    refine v_icmp_geT 59 dX0_becomes_38 (nI_le (Nat.le_refl _) (by omega)) (kt := ?_)
    exact hK I' hF hP hL
  | succ k ih =>
    intro i I' hi hF hP hL hK
    have e : I' o 5 = nI nb := by rw [hF o (by omega), hd.1.2.1]; exact hw.2.1.1
    refine v_iload_n (q := 34) dX0_becomes_33 (kk := ?_)
    refine v_aload_n (q := 35) dX0_becomes_34 (kk := ?_)
    refine v_getI (q := 38) fX0_30 (by assumption) (hd := dX0_becomes_35) (kk := ?_)
    rw [e]
    refine v_icmp_geF (q := 41) (t := 59) dX0_becomes_38 (nI_ge (by omega) (by omega)) (kf := ?_)
    refine v_aload_n (q := 42) dX0_becomes_41 (kk := ?_)
    refine v_getR (q := 45) fX0_17 (by assumption) (by assumption) (hd := dX0_becomes_42) (kk := ?_)
    refine v_iload_n (q := 46) dX0_becomes_45 (kk := ?_)
    refine v_aload_n (q := 47) dX0_becomes_46 (kk := ?_)
    refine v_getR (q := 50) fX0_17 (by assumption) (by assumption) (hd := dX0_becomes_47) (kk := ?_)
    refine v_iload_n (q := 51) dX0_becomes_50 (kk := ?_)
    refine v_ialdN (q := 52) (by assumption) (by omega) (by omega) (hd := dX0_becomes_51) (kk := ?_)
    refine v_iastN (q := 53) (by assumption) (by omega) (by omega) (hd := dX0_becomes_52) (kk := ?_)
    refine v_iinc2 (q := 56) dX0_becomes_53 (hv := nI_1 i) (kk := ?_)
    refine v_goto 33 dX0_becomes_56 (kt := ?_)
    refine ih (i + 1) _ (by omega) (fun y hy => ?_) (fun p hp j hj => ?_) (fun j hj => ?_) hK
    · rw [hc_u_ne (by omega)]
      exact hF y hy
    · rw [hc_u_ne (by omega)]
      exact hP p hp j hj
    · rw [hc_u_at]
      by_cases ej : j = i
      · subst ej
        rw [upd_at, hF _ (by omega), hd.2.1 j (by omega)]
      · rw [upd_ne ej]
        exact hL j (by omega)
theorem becomes_3 {I' : hcI} (hk : HSk S R a) (hko : HSk S R o) (h8 : I' o 6 = nI nt) (hnt : nt ≤ 14) (hx : ∀ t, t < nt → ∃ x, R (o + 3) t = some x ∧ S x = some (5, 0)) (hao : a + 15 ≤ o ∨ o + 15 ≤ a) (k : Nat) : ∀ (i : Nat) (R' : hcR), i + k = nt → (∀ x, x ≠ a + 3 → R' x = R x) → (∀ t, t < i → R' (a + 3) t = R (o + 3) t) → (∀ R2 : hcR, (∀ x, x ≠ a + 3 → R2 x = R x) → (∀ t, t < nt → R2 (a + 3) t = R (o + 3) t) → V g mX0_becomes 1 0 0 S I' R2 z 87 [some (.ref a), some (.ref o), some (.int (nI nt))] [] Q) → V g mX0_becomes 1 0 0 S I' R' z 61 [some (.ref a), some (.ref o), some (.int (nI i))] [] Q := by
  induction k with
  | zero =>
    intro i R' hi hF hT hK
    have e2 : i = nt := by omega
    subst e2
    obtain ⟨s0, s1, s2, s3, s4, r0, r1, r2, r3, sp⟩ := hk.keepR hF (by omega) (by omega)
    obtain ⟨t0, t1, t2, t3, t4, u0, u1, u2, u3, tp⟩ := hko.keepR hF (by omega) (by omega)
    refine v_iload_n (q := 62) dX0_becomes_61 (kk := ?_)
    refine v_aload_n (q := 63) dX0_becomes_62 (kk := ?_)
    refine v_getI (q := 66) fX0_51 (by assumption) (hd := dX0_becomes_63) (kk := ?_)
    rw [h8]
    refine v_icmp_geT 87 dX0_becomes_66 (nI_le (Nat.le_refl _) (by omega)) (kt := ?_)
    exact hK R' hF hT
  | succ k ih =>
    intro i R' hi hF hT hK
    obtain ⟨s0, s1, s2, s3, s4, r0, r1, r2, r3, sp⟩ := hk.keepR hF (by omega) (by omega)
    obtain ⟨t0, t1, t2, t3, t4, u0, u1, u2, u3, tp⟩ := hko.keepR hF (by omega) (by omega)
    obtain ⟨x, hx1, hx2⟩ := hx i (by omega)
    have hx3 : R' (o + 3) i = some x := by rw [hF _ (by omega)]; exact hx1
    refine v_iload_n (q := 62) dX0_becomes_61 (kk := ?_)
    refine v_aload_n (q := 63) dX0_becomes_62 (kk := ?_)
    refine v_getI (q := 66) fX0_51 (by assumption) (hd := dX0_becomes_63) (kk := ?_)
    rw [h8]
    refine v_icmp_geF (q := 69) (t := 87) dX0_becomes_66 (nI_ge (by omega) (by omega)) (kf := ?_)
    refine v_aload_n (q := 70) dX0_becomes_69 (kk := ?_)
    refine v_getR (q := 73) fX0_23 (by assumption) (by assumption) (hd := dX0_becomes_70) (kk := ?_)
    refine v_iload_n (q := 74) dX0_becomes_73 (kk := ?_)
    refine v_aload_n (q := 75) dX0_becomes_74 (kk := ?_)
    refine v_getR (q := 78) fX0_23 (by assumption) (by assumption) (hd := dX0_becomes_75) (kk := ?_)
    refine v_iload_n (q := 79) dX0_becomes_78 (kk := ?_)
    refine v_aaldn (q := 80) (by assumption) (by assumption) (by omega) (by omega) (hd := dX0_becomes_79) (kk := ?_)
    refine v_aast (q := 81) (by assumption) (by assumption) (vp_in_nI (by omega) (by omega)) (hd := dX0_becomes_80) (kk := ?_)
    rw [nI_clamp (by omega)]
    refine v_iinc2 (q := 84) dX0_becomes_81 (hv := nI_1 i) (kk := ?_)
    refine v_goto 61 dX0_becomes_84 (kt := ?_)
    refine ih (i + 1) _ (by omega) (fun y hy => ?_) (fun t ht => ?_) hK
    · rw [hc_ur_ne hy]
      exact hF y hy
    · rw [hc_ur_at]
      by_cases et : t = i
      · subst et
        simp only [va_up, if_true]
        exact hx1.symm
      · simp only [va_up, et, if_false]
        exact hT t (by omega)
theorem becomes_4 {I0 : hcI} {Rx : hcR} (hk : HSk S Rx a) (hko : HSk S Rx o) (hc : ∀ k, k < 3 → I0 (o + 4) k = hc_o (cntF N k nt)) (hao : a + 15 ≤ o ∨ o + 15 ≤ a) (k : Nat) : ∀ (i : Nat) (I' : hcI), i + k = 3 → (∀ y, y ≠ a + 4 → I' y = I0 y) → (∀ j, j < i → I' (a + 4) j = hc_o (cntF N j nt)) → (∀ I2 : hcI, (∀ y, y ≠ a + 4 → I2 y = I0 y) → (∀ j, j < 3 → I2 (a + 4) j = hc_o (cntF N j nt)) → V g mX0_becomes 1 0 0 S I2 Rx z 112 [some (.ref a), some (.ref o), some (.int (nI 3))] [] Q) → V g mX0_becomes 1 0 0 S I' Rx z 89 [some (.ref a), some (.ref o), some (.int (nI i))] [] Q := by
  obtain ⟨s0, s1, s2, s3, s4, r0, r1, r2, r3, sp⟩ := hk
  obtain ⟨t0, t1, t2, t3, t4, u0, u1, u2, u3, tp⟩ := hko
  induction k with
  | zero =>
    intro i I' hi hF hC hK
    have e2 : i = 3 := by omega
    subst e2
    refine v_iload_n (q := 90) dX0_becomes_89 (kk := ?_)
    refine v_iconst (v := 3) (q := 91) dX0_becomes_90 (kk := ?_)
    refine v_icmp_geT 112 dX0_becomes_91 (by decide) (kt := ?_)
    exact hK I' hF hC
  | succ k ih =>
    intro i I' hi hF hC hK
    refine v_iload_n (q := 90) dX0_becomes_89 (kk := ?_)
    refine v_iconst (v := 3) (q := 91) dX0_becomes_90 (kk := ?_)
    refine v_icmp_geF (q := 94) (t := 112) dX0_becomes_91 (nI_ge (b := 3) (by omega) (by omega)) (kf := ?_)
    refine v_aload_n (q := 95) dX0_becomes_94 (kk := ?_)
    refine v_getR (q := 98) fX0_27 (by assumption) (by assumption) (hd := dX0_becomes_95) (kk := ?_)
    refine v_iload_n (q := 99) dX0_becomes_98 (kk := ?_)
    refine v_aload_n (q := 100) dX0_becomes_99 (kk := ?_)
    refine v_getR (q := 103) fX0_27 (by assumption) (by assumption) (hd := dX0_becomes_100) (kk := ?_)
    refine v_iload_n (q := 104) dX0_becomes_103 (kk := ?_)
    refine v_ialdN (q := 105) (by assumption) (by omega) (by omega) (hd := dX0_becomes_104) (kk := ?_)
    refine v_iastN (q := 106) (by assumption) (by omega) (by omega) (hd := dX0_becomes_105) (kk := ?_)
    refine v_iinc2 (q := 109) dX0_becomes_106 (hv := nI_1 i) (kk := ?_)
    refine v_goto 89 dX0_becomes_109 (kt := ?_)
    refine ih (i + 1) _ (by omega) (fun y hy => ?_) (fun j hj => ?_) hK
    · rw [hc_u_ne hy]
      exact hF y hy
    · rw [hc_u_at]
      by_cases ej : j = i
      · subst ej
        rw [upd_at, hF _ (by omega), hc j (by omega)]
      · rw [upd_ne ej]
        exact hC j (by omega)
theorem s_Hall_becomes (hk : HSk S R a) (hko : HSk S R o) (hd : HD S I R b o N np nb nt) (hw : WF N np nb nt sec) (hao : a + 15 ≤ o ∨ o + 15 ≤ a) (hab : a + 15 ≤ b + 103) (hob : o + 15 ≤ b + 103) (hQ : ∀ (I' : hcI) (R' : hcR), Fa a I I' → (∀ x, x ≠ a + 3 → R' x = R x) → HD S I' R' b a N np nb nt → Q none S I' R' z) : Cl g mX0_becomes 1 0 0 S I R z [.ref a, .ref o] Q := by
  have hnp := hw.1.2
  have hnb := hw.2.1.2.2
  have hnt := hw.2.2.1.2
  refine Cl.go [some (.ref a), some (.ref o), none] ?_
  refine v_iconst (v := 0) (q := 1) dX0_becomes_0 (kk := ?_)
  refine v_istore2 (q := 2) dX0_becomes_1 (kk := ?_)
  refine becomes_1 hk hko hd hw hao np 0 I (by omega) (fun _ _ => rfl) (fun p hp => by omega) (fun I1 hF1 hP1 => ?_)
  refine v_iconst (v := 0) (q := 32) dX0_becomes_31 (kk := ?_)
  refine v_istore2 (q := 33) dX0_becomes_32 (kk := ?_)
  refine becomes_2 hk hko hd hw hao nb 0 I1 (by omega) hF1 hP1 (fun p hp => by omega) (fun I2 hF2 hP2 hL2 => ?_)
  refine v_iconst (v := 0) (q := 60) dX0_becomes_59 (kk := ?_)
  refine v_istore2 (q := 61) dX0_becomes_60 (kk := ?_)
  have h8 : I2 o 6 = nI nt := by rw [hF2 o (by omega), hd.1.2.2.1]; exact hw.2.2.1.1
  refine becomes_3 hk hko h8 hnt (fun t ht => ?_) hao nt 0 R (by omega) (fun _ _ => rfl) (fun t ht => by omega) (fun R1 hR1 hT1 => ?_)
  · obtain ⟨x, hx, -, key, cn, lv, -, q, -⟩ := hd.2.2.2.2 t ht
    exact ⟨x, hx, q⟩
  refine v_iconst (v := 0) (q := 88) dX0_becomes_87 (kk := ?_)
  refine v_istore2 (q := 89) dX0_becomes_88 (kk := ?_)
  have hka := hk.keepR hR1 (by omega) (by omega)
  have hkb := hko.keepR hR1 (by omega) (by omega)
  refine becomes_4 (I0 := I2) (N := N) (nt := nt) hka hkb (fun k hk => ?_) hao 3 0 I2 (by omega) (fun _ _ => rfl) (fun t ht => by omega) (fun I3 hF3 hC3 => ?_)
  · rw [hF2 _ (by omega)]
    exact hd.2.2.2.1 k hk
  obtain ⟨s0, s1, s2, s3, s4, r0, r1, r2, r3, sp⟩ := hka
  obtain ⟨t0, t1, t2, t3, t4, u0, u1, u2, u3, tp⟩ := hkb
  have hne : a ≠ o := by omega
  have ho : ∀ j, I3 o j = I o j := fun j => by rw [hF3 o (by omega), hF2 o (by omega)]
  refine v_aload_n (q := 113) dX0_becomes_112 (kk := ?_)
  refine v_aload_n (q := 114) dX0_becomes_113 (kk := ?_)
  refine v_getI (q := 117) fX0_44 (by assumption) (hd := dX0_becomes_114) (kk := ?_)
  refine v_putI (q := 120) fX0_44 (by assumption) (hd := dX0_becomes_117) (kk := ?_)
  refine v_aload_n (q := 121) dX0_becomes_120 (kk := ?_)
  refine v_aload_n (q := 122) dX0_becomes_121 (kk := ?_)
  refine v_getI (q := 125) fX0_30 (by assumption) (hd := dX0_becomes_122) (kk := ?_)
  refine v_putI (q := 128) fX0_30 (by assumption) (hd := dX0_becomes_125) (kk := ?_)
  refine v_aload_n (q := 129) dX0_becomes_128 (kk := ?_)
  refine v_aload_n (q := 130) dX0_becomes_129 (kk := ?_)
  refine v_getI (q := 133) fX0_51 (by assumption) (hd := dX0_becomes_130) (kk := ?_)
  refine v_putI (q := 136) fX0_51 (by assumption) (hd := dX0_becomes_133) (kk := ?_)
  refine v_aload_n (q := 137) dX0_becomes_136 (kk := ?_)
  refine v_aload_n (q := 138) dX0_becomes_137 (kk := ?_)
  refine v_getI (q := 141) fX0_34 (by assumption) (hd := dX0_becomes_138) (kk := ?_)
  refine v_putI (q := 144) fX0_34 (by assumption) (hd := dX0_becomes_141) (kk := ?_)
  refine v_aload_n (q := 145) dX0_becomes_144 (kk := ?_)
  refine v_aload_n (q := 146) dX0_becomes_145 (kk := ?_)
  refine v_getI (q := 149) fX0_37 (by assumption) (hd := dX0_becomes_146) (kk := ?_)
  refine v_putI (q := 152) fX0_37 (by assumption) (hd := dX0_becomes_149) (kk := ?_)
  refine v_aload_n (q := 153) dX0_becomes_152 (kk := ?_)
  refine v_aload_n (q := 154) dX0_becomes_153 (kk := ?_)
  refine v_getI (q := 157) fX0_54 (by assumption) (hd := dX0_becomes_154) (kk := ?_)
  refine v_putI (q := 160) fX0_54 (by assumption) (hd := dX0_becomes_157) (kk := ?_)
  refine v_aload_n (q := 161) dX0_becomes_160 (kk := ?_)
  refine v_aload_n (q := 162) dX0_becomes_161 (kk := ?_)
  refine v_getI (q := 165) fX0_57 (by assumption) (hd := dX0_becomes_162) (kk := ?_)
  refine v_putI (q := 168) fX0_57 (by assumption) (hd := dX0_becomes_165) (kk := ?_)
  refine v_aload_n (q := 169) dX0_becomes_168 (kk := ?_)
  refine v_aload_n (q := 170) dX0_becomes_169 (kk := ?_)
  refine v_getI (q := 173) fX0_60 (by assumption) (hd := dX0_becomes_170) (kk := ?_)
  refine v_putI (q := 176) fX0_60 (by assumption) (hd := dX0_becomes_173) (kk := ?_)
  refine v_aload_n (q := 177) dX0_becomes_176 (kk := ?_)
  refine v_aload_n (q := 178) dX0_becomes_177 (kk := ?_)
  refine v_getI (q := 181) fX0_40 (by assumption) (hd := dX0_becomes_178) (kk := ?_)
  refine v_putI (q := 184) fX0_40 (by assumption) (hd := dX0_becomes_181) (kk := ?_)
  refine v_vret dX0_becomes_184 (hQ := ?_)
  refine hQ _ R1 (fun y hy => ?_) hR1 ?_
  · simp only [hc_u_ne (show y ≠ a by omega)]
    rw [hF3 y (by omega), hF2 y hy]
  · have hoa : o ≠ a := fun h => hne h.symm
    obtain ⟨d1, d2, d3, d4, d5, d6, d7, d8, d9⟩ := hd.1
    refine ⟨?_, fun k hk => ?_, fun p hp j hj => ?_, fun k hk => ?_, fun t ht => ?_⟩
    · simp [hc_u, hoa, ho, d1, d2, d3, d4, d5, d6, d7, d8, d9]
    · simp only [hc_u_ne (show a + 2 ≠ a by omega)]
      rw [hF3 _ (by omega)]
      exact hL2 k hk
    · simp only [hc_u_ne (show a + 5 + p ≠ a by omega)]
      rw [hF3 _ (by omega)]
      exact hP2 p hp j hj
    · simp only [hc_u_ne (show a + 4 ≠ a by omega)]
      exact hC3 k hk
    · obtain ⟨x, hx, htx⟩ := hd.2.2.2.2 t ht
      refine ⟨x, (hT1 t ht).trans hx, ?_⟩
      refine (htx.keepR hR1 (by omega)).keep (fun y hy hy2 => ?_)
      simp only [hc_u_ne (show y ≠ a by omega)]
      rw [hF3 y (by omega), hF2 y (by omega)]
end H5
