section T10
variable {g : hcG} {S : hcS} {I : hcI} {R : hcR} {z : Nat} {Q : hcQ} {b m np nb nt sec : Nat} {N : hN} {so si ce ho hA hB hl : Nat → Int32}
theorem rowBec_loop {a o s : Nat} (hao : a ≠ o ∧ a ≠ o + 1 ∧ a + 1 ≠ o) (ha : RowAt S R a) (hr : RowAt S R o) (hsz : I o 2 = nI s) (hs : s ≤ 24) (hQ : ∀ I' : hcI, (∀ x, x ≠ a → x ≠ a + 1 → I' x = I x) → (∀ j, j < s → I' (a + 1) j = I (o + 1) j) → I' a 2 = nI s → Q none S I' R z) (r : Nat) : ∀ (i : Nat) (I1 : hcI), i + r = s → (∀ x, x ≠ a + 1 → I1 x = I x) → (∀ j, j < i → I1 (a + 1) j = I (o + 1) j) → V g mX3_becomes 0 0 0 S I1 R z 2 [some (.ref a), some (.ref o), some (.int (nI i))] [] Q := by
  obtain ⟨a1, a2, a3⟩ := ha
  obtain ⟨o1, o2, o3⟩ := hr
  have hne : a + 1 ≠ o + 1 := by omega
  induction r with
  | zero =>
    intro i I1 hi hF h1
    obtain rfl : i = s := by omega
    have e : I1 o 2 = nI i := by rw [hF o (by omega)]; exact hsz
    refine v_iload_n (q := 3) dX3_becomes_2 (kk := ?_)
    refine v_aload_n (q := 4) dX3_becomes_3 (kk := ?_)
    refine v_getI (q := 7) fX3_19 (by assumption) (hd := dX3_becomes_4) (kk := ?_)
    rw [e]
    refine v_icmp_geT 28 dX3_becomes_7 (Int32.le_refl _) (kt := ?_)
    refine v_aload_n (q := 29) dX3_becomes_28 (kk := ?_)
    refine v_aload_n (q := 30) dX3_becomes_29 (kk := ?_)
    refine v_getI (q := 33) fX3_15 (by assumption) (hd := dX3_becomes_30) (kk := ?_)
    refine v_putI (q := 36) fX3_15 (by assumption) (hd := dX3_becomes_33) (kk := ?_)
    refine v_aload_n (q := 37) dX3_becomes_36 (kk := ?_)
    refine v_aload_n (q := 38) dX3_becomes_37 (kk := ?_)
    refine v_getI (q := 41) fX3_19 (by assumption) (hd := dX3_becomes_38) (kk := ?_)
    refine v_putI (q := 44) fX3_19 (by assumption) (hd := dX3_becomes_41) (kk := ?_)
    refine v_vret dX3_becomes_44 (hQ := ?_)
    refine hQ _ (fun x h2 h3 => ?_) (fun j hj => ?_) ?_
    · rw [hc_u_ne h2, hc_u_ne h2]
      exact hF x h3
    · rw [hc_u_ne (by omega), hc_u_ne (by omega)]
      exact h1 j hj
    · rw [hc_u_at, upd_at, hc_u_ne (by omega)]
      exact e
  | succ r ih =>
    intro i I1 hi hF h1
    have e : I1 o 2 = nI s := by rw [hF o (by omega)]; exact hsz
    refine v_iload_n (q := 3) dX3_becomes_2 (kk := ?_)
    refine v_aload_n (q := 4) dX3_becomes_3 (kk := ?_)
    refine v_getI (q := 7) fX3_19 (by assumption) (hd := dX3_becomes_4) (kk := ?_)
    rw [e]
    refine v_icmp_geF (q := 10) (t := 28) dX3_becomes_7 (fun h => by have := (nI_leI (by omega) (by omega)).mp h; omega) (kf := ?_)
    refine v_aload_n (q := 11) dX3_becomes_10 (kk := ?_)
    refine v_getR (q := 14) fX3_9 (by assumption) (by assumption) (hd := dX3_becomes_11) (kk := ?_)
    refine v_iload_n (q := 15) dX3_becomes_14 (kk := ?_)
    refine v_aload_n (q := 16) dX3_becomes_15 (kk := ?_)
    refine v_getR (q := 19) fX3_9 (by assumption) (by assumption) (hd := dX3_becomes_16) (kk := ?_)
    refine v_iload_n (q := 20) dX3_becomes_19 (kk := ?_)
    refine v_ialdN (q := 21) (by assumption) (by omega) (by omega) (hd := dX3_becomes_20) (kk := ?_)
    rw [hF (o + 1) (by omega)]
    refine v_iastN (q := 22) (by assumption) (by omega) (by omega) (hd := dX3_becomes_21) (kk := ?_)
    refine v_iinc2 (q := 25) dX3_becomes_22 (hv := nI_1 i) (kk := ?_)
    refine v_goto 2 dX3_becomes_25 (kt := ?_)
    refine ih (i + 1) _ (by omega) (fun x hx => (hc_u_ne hx).trans (hF x hx)) (fun j hj => ?_)
    rw [hc_u_at]
    by_cases e : j = i
    · rw [e, upd_at]
    · rw [upd_ne e]
      exact h1 j (by omega)
theorem s_Row_becomes {a o s : Nat} (hao : a ≠ o ∧ a ≠ o + 1 ∧ a + 1 ≠ o) (ha : RowAt S R a) (hr : RowAt S R o) (hsz : I o 2 = nI s) (hs : s ≤ 24) (hQ : ∀ I' : hcI, (∀ x, x ≠ a → x ≠ a + 1 → I' x = I x) → (∀ j, j < s → I' (a + 1) j = I (o + 1) j) → I' a 2 = nI s → Q none S I' R z) : Cl g mX3_becomes 0 0 0 S I R z [.ref a, .ref o] Q := by
  refine Cl.go [some (.ref a), some (.ref o), none] ?_
  refine v_iconst (v := 0) (q := 1) dX3_becomes_0 (kk := ?_)
  refine v_istore2 (q := 2) dX3_becomes_1 (kk := ?_)
  exact rowBec_loop hao ha hr hsz hs hQ s 0 I (by omega) (fun _ _ => rfl) (fun _ _ => by omega)
theorem SLc.set {I' : hcI} {s : Nat} {ho' hA' hB' hl' : Nat → Int32} (h : SLc I b ho hA hB hl) (h1 : SL1 I' b s ho' hA' hB' hl') (h0 : ∀ i, i ≠ s → ho' i = ho i ∧ hA' i = hA i ∧ hB' i = hB i) (h3 : ∀ i, ¬ (24 * s ≤ i ∧ i < 24 * s + 24) → hl' i = hl i) (hF : ∀ y, (y < b + 61 + 4 * s ∨ b + 65 + 4 * s ≤ y) → I' y = I y) : SLc I' b ho' hA' hB' hl' := by
  intro i hi
  by_cases e : i = s
  · subst e
    exact h1
  · obtain ⟨e1, e2, e3⟩ := h0 i e
    exact (h i hi).keep e1 e2 e3 (fun j hj => h3 _ (by omega)) (fun y h4 h5 => hF y (by omega))
theorem x_lay {sl th k : Int32} (hx : XSk S R b) (hn : XN S I R b N) (hsw : SW so si) (hsc : SHc I b so si ce) (hsl : SLc I b ho hA hB hl) (hQ : ∀ I' : hcI, Fl b I I' → SLc I' b (spLay N so si ce ho hA hB hl sl th k).2.1 (spLay N so si ce ho hA hB hl sl th k).2.2.1 (spLay N so si ce ho hA hB hl sl th k).2.2.2.1 (spLay N so si ce ho hA hB hl sl th k).2.2.2.2 → Q (some (.int (spLay N so si ce ho hA hB hl sl th k).1)) S I' R z) : Cl g mX6_lay 2 0 0 S I R z [.ref b, .int sl, .int th, .int k] Q := by
  obtain ⟨⟨s0, r0, -, r2, -, r4, r5, -⟩, ⟨hk1, -⟩, -, ⟨s49, h49⟩, ⟨s50, h50⟩, -⟩ := hx
  obtain ⟨np, nb, nt, sec, hw, hd⟩ := id hn
  obtain ⟨e1, e2, e3, e4⟩ := hw.e
  have hnp := hw.1.1.2
  have hk1' := hk1
  obtain ⟨sh, s1, -, -, -, q0, -, -, -, sp⟩ := hk1'
  refine Cl.go [some (.ref b), some (.int sl), some (.int th), some (.int k), none, none] ?_
  have badE : ¬ ((0 ≤ sl ∧ sl < 5) ∧ (0 ≤ th ∧ th < 4) ∧ (th = 1 → 0 ≤ k ∧ k < nI np) ∧ (th = 2 → 0 ≤ k ∧ k < 4)) → spLay N so si ce ho hA hB hl sl th k = (-1000000001, ho, hA, hB, hl) := fun c => by
    unfold spLay
    rw [e1, if_neg c]
  have bad1 : ¬ ((0 ≤ sl ∧ sl < 5) ∧ (0 ≤ th ∧ th < 4)) → V g mX6_lay 2 0 0 S I R z 16 [some (.ref b), some (.int sl), some (.int th), some (.int k), none, none] [] Q := by
    intro c
    rw [badE (fun h => c ⟨h.1, h.2.1⟩)] at hQ
    refine v_ldc (q := 18) cX6_55 dX6_lay_16 (kk := ?_)
    refine v_iret dX6_lay_18 (hQ := ?_)
    exact hQ I Fl.rfl hsl
  have bad2 : ¬ ((th = 1 → 0 ≤ k ∧ k < nI np) ∧ (th = 2 → 0 ≤ k ∧ k < 4)) → V g mX6_lay 2 0 0 S I R z 48 [some (.ref b), some (.int sl), some (.int th), some (.int k), none, none] [] Q := by
    intro c
    rw [badE (fun h => c h.2.2)] at hQ
    refine v_ldc (q := 50) cX6_55 dX6_lay_48 (kk := ?_)
    refine v_iret dX6_lay_50 (hQ := ?_)
    exact hQ I Fl.rfl hsl
  refine v_iload_n (q := 1) dX6_lay_0 (kk := ?_)
  refine v_iconst (v := 5) (q := 2) dX6_lay_1 (kk := ?_)
  refine v_cS2 (N := mX6_within) (q := 5) lX6_51 sX6_within kX6_within dX6_lay_2 (s_within ?_)
  refine v_if_eqB 16 (q := 8) dX6_lay_5 (kt := fun c1 => ?_) (kf := fun c1 => ?_)
  · exact bad1 (fun h => c1 h.1)
  · refine v_iload_n (q := 9) dX6_lay_8 (kk := ?_)
    refine v_iconst (v := 4) (q := 10) dX6_lay_9 (kk := ?_)
    refine v_cS2 (N := mX6_within) (q := 13) lX6_51 sX6_within kX6_within dX6_lay_10 (s_within ?_)
    refine v_if_neB 19 (q := 16) dX6_lay_13 (kt := fun c2 => ?_) (kf := fun c2 => ?_)
    · obtain ⟨s, rfl, hs⟩ := nI_of6 (n := 5) rfl (by omega) c1
      obtain ⟨w1, w2, w3, w4, w5, w6⟩ := h50 s hs
      have w6' := w6
      obtain ⟨x1, x2, x3⟩ := w6'
      obtain ⟨a1, -⟩ := hsl s hs
      refine v_iload_n (q := 20) dX6_lay_19 (kk := ?_)
      refine v_iconst (v := 1) (q := 21) dX6_lay_20 (kk := ?_)
      by_cases t1 : th = 1
      · subst t1
        refine v_icmp_neF (q := 24) (t := 35) dX6_lay_21 (rfl) (kf := ?_)
        refine v_aload_n (q := 25) dX6_lay_24 (kk := ?_)
        refine v_getR (q := 28) fX6_12 (by assumption) (by assumption) (hd := dX6_lay_25) (kk := ?_)
        refine v_iload_n (q := 29) dX6_lay_28 (kk := ?_)
        refine v_cV1 (N := mX0_has) (q := 32) lX6_70 iX0_has kX0_has (by assumption) dX6_lay_29 (s_has hk1 hd hw.1 ?_)
        refine v_if_eqB 48 (q := 35) dX6_lay_32 (kt := fun c3 => ?_) (kf := fun c3 => ?_)
        · exact bad2 (fun h => c3 (h.1 rfl))
        · obtain ⟨j, rfl, hj⟩ := nI_of6 (n := np) rfl (by omega) c3
          have hspp := (sp j (by omega)).1
          have hrpp := (sp j (by omega)).2
          have hP := hd.2.2.1 j hj
          obtain ⟨⟨kk, ek, hk6⟩, -⟩ := hw.1.2.2.2.2.2.2.2.2.2.1 j hj
          have e : spLay N so si ce ho hA hB hl (nI s) 1 (nI j) = (ho s, upd ho s 1, upd hA s (N (33 + 6 * j)), upd hB s (hc_worth kk (N (33 + 6 * j + 2)) (N (33 + 6 * j + 1))), hl) := by
            unfold spLay
            rw [e1, if_pos ⟨c1, c2, fun _ => c3, fun h => absurd h (by decide)⟩, if_pos rfl, nI_clamp (by omega), nI_clamp (by omega), kdN_e ek hk6]
          rw [e] at hQ
          clear e
          dsimp only at hQ
          refine v_iload_n (q := 36) dX6_lay_35 (kk := ?_)
          refine v_iconst (v := 2) (q := 37) dX6_lay_36 (kk := ?_)
          refine v_icmp_neT 51 dX6_lay_37 (by decide) (kt := ?_)
          refine v_iload_n (q := 52) dX6_lay_51 (kk := ?_)
          refine v_iconst (v := 2) (q := 53) dX6_lay_52 (kk := ?_)
          refine v_icmp_neT 72 dX6_lay_53 (by decide) (kt := ?_)
          refine v_aload_n (q := 73) dX6_lay_72 (kk := ?_)
          refine v_getR (q := 76) fX6_37 (by assumption) (by assumption) (hd := dX6_lay_73) (kk := ?_)
          refine v_iload_n (q := 77) dX6_lay_76 (kk := ?_)
          refine v_aaldn (q := 78) (by assumption) (by assumption) (by omega) (by omega) (hd := dX6_lay_77) (kk := ?_)
          refine v_astore4 (q := 80) dX6_lay_78 (kk := ?_)
          refine v_aload (q := 82) dX6_lay_80 (kk := ?_)
          refine v_getI (q := 85) fX6_256 (by assumption) (hd := dX6_lay_82) (kk := ?_)
          rw [a1]
          refine v_istore5 (q := 87) dX6_lay_85 (kk := ?_)
          refine v_aload (q := 89) dX6_lay_87 (kk := ?_)
          refine v_iload_n (q := 90) dX6_lay_89 (kk := ?_)
          refine v_putI (q := 93) fX6_256 (by assumption) (hd := dX6_lay_90) (kk := ?_)
          refine v_iload_n (q := 94) dX6_lay_93 (kk := ?_)
          refine v_iconst (v := 1) (q := 95) dX6_lay_94 (kk := ?_)
          refine v_icmp_neF (q := 98) (t := 118) dX6_lay_95 (rfl) (kf := ?_)
          refine v_aload (q := 100) dX6_lay_98 (kk := ?_)
          refine v_getR (q := 103) fX6_259 (by assumption) (by assumption) (hd := dX6_lay_100) (kk := ?_)
          refine v_aload_n (q := 104) dX6_lay_103 (kk := ?_)
          refine v_getR (q := 107) fX6_12 (by assumption) (by assumption) (hd := dX6_lay_104) (kk := ?_)
          refine v_getR (q := 110) fX6_74 (by assumption) (by assumption) (hd := dX6_lay_107) (kk := ?_)
          refine v_iload_n (q := 111) dX6_lay_110 (kk := ?_)
          refine v_aaldn (q := 112) (by assumption) (by assumption) (by omega) (by omega) (hd := dX6_lay_111) (kk := ?_)
          refine v_cV1 (N := mX1_becomes) (q := 115) lX6_263 iX1_becomes kX1_becomes (by assumption) dX6_lay_112 (s_Person_becomes w5 hspp (fun I2 hF2 h2 => ?_))
          refine v_goto 151 dX6_lay_115 (kt := ?_)
          refine v_iload (q := 153) dX6_lay_151 (kk := ?_)
          refine v_iret dX6_lay_153 (hQ := ?_)
          have hI : ∀ y, y ≠ b + 62 + 4 * s → y ≠ b + 61 + 4 * s → I2 y = I y := fun y h1 h3 => (hF2 y h1).trans (hc_u_ne h3)
          have hp6 : ∀ i, i < 6 → I2 (b + 62 + 4 * s) i = N (33 + 6 * j + i) := fun i hi => by rw [h2 i hi, hc_u_ne (by omega)]; exact hP i hi
          refine hQ I2 (fun y hy => hI y (by omega) (by omega)) (hsl.set (s := s) ⟨?_, ?_, fun _ => ⟨kk, hk6, ?_, ?_, ?_⟩, fun h => ?_, fun h => ?_⟩ (fun i hi => ⟨upd_ne hi, upd_ne hi, upd_ne hi⟩) (fun i _ => rfl) (fun y hy => hI y (by omega) (by omega)))
          · rw [hF2 _ (by omega), hc_u_at, upd_at, upd_at]
          · rw [upd_at]; exact Or.inr (Or.inl rfl)
          · rw [hp6 0 (by omega)]; exact ek
          · rw [upd_at]; exact ek
          · rw [upd_at, hp6 1 (by omega), hp6 2 (by omega)]
          · rw [upd_at] at h; exact absurd h (by decide)
          · rw [upd_at] at h; exact absurd h (by decide)
      · refine v_icmp_neT 35 dX6_lay_21 (t1) (kt := ?_)
        refine v_iload_n (q := 36) dX6_lay_35 (kk := ?_)
        refine v_iconst (v := 2) (q := 37) dX6_lay_36 (kk := ?_)
        by_cases t2 : th = 2
        · subst t2
          refine v_icmp_neF (q := 40) (t := 51) dX6_lay_37 (rfl) (kf := ?_)
          refine v_iload_n (q := 41) dX6_lay_40 (kk := ?_)
          refine v_iconst (v := 4) (q := 42) dX6_lay_41 (kk := ?_)
          refine v_cS2 (N := mX6_within) (q := 45) lX6_51 sX6_within kX6_within dX6_lay_42 (s_within ?_)
          refine v_if_neB 51 (q := 48) dX6_lay_45 (kt := fun c3 => ?_) (kf := fun c3 => ?_)
          · obtain ⟨j, rfl, hj⟩ := nI_of6 (n := 4) rfl (by omega) c3
            obtain ⟨rk, hra⟩ := h49 j hj
            have hra' := hra
            obtain ⟨sa, sa1, ra0⟩ := hra'
            obtain ⟨q1, q2, q3⟩ := hsc j hj
            obtain ⟨-, zs, es, hs24⟩ := hsw j hj
            have e : spLay N so si ce ho hA hB hl (nI s) 2 (nI j) = if so j = -1 then (-1000000011, ho, hA, hB, hl) else (ho s, upd ho s 2, upd hA s (si j), upd hB s 0, hlF ce hl s j) := by
              unfold spLay
              rw [e1, if_pos ⟨c1, c2, fun h => absurd h (by decide), fun _ => c3⟩, if_neg (by decide), if_pos rfl, nI_clamp (by omega), nI_clamp (by omega)]
            rw [e] at hQ
            clear e
            refine v_iload_n (q := 52) dX6_lay_51 (kk := ?_)
            refine v_iconst (v := 2) (q := 53) dX6_lay_52 (kk := ?_)
            refine v_icmp_neF (q := 56) (t := 72) dX6_lay_53 (rfl) (kf := ?_)
            refine v_aload_n (q := 57) dX6_lay_56 (kk := ?_)
            refine v_getR (q := 60) fX6_31 (by assumption) (by assumption) (hd := dX6_lay_57) (kk := ?_)
            refine v_iload_n (q := 61) dX6_lay_60 (kk := ?_)
            refine v_aaldn (q := 62) (by assumption) (by assumption) (by omega) (by omega) (hd := dX6_lay_61) (kk := ?_)
            refine v_getI (q := 65) fX6_183 (by assumption) (hd := dX6_lay_62) (kk := ?_)
            rw [q1]
            refine v_iconst (v := (-1)) (q := 66) dX6_lay_65 (kk := ?_)
            refine v_icmp_ne 72 (q := 69) dX6_lay_66 (kt := fun c4 => ?_) (kf := fun c4 => ?_)
            · rw [if_neg c4] at hQ
              dsimp only at hQ
              refine v_aload_n (q := 73) dX6_lay_72 (kk := ?_)
              refine v_getR (q := 76) fX6_37 (by assumption) (by assumption) (hd := dX6_lay_73) (kk := ?_)
              refine v_iload_n (q := 77) dX6_lay_76 (kk := ?_)
              refine v_aaldn (q := 78) (by assumption) (by assumption) (by omega) (by omega) (hd := dX6_lay_77) (kk := ?_)
              refine v_astore4 (q := 80) dX6_lay_78 (kk := ?_)
              refine v_aload (q := 82) dX6_lay_80 (kk := ?_)
              refine v_getI (q := 85) fX6_256 (by assumption) (hd := dX6_lay_82) (kk := ?_)
              rw [a1]
              refine v_istore5 (q := 87) dX6_lay_85 (kk := ?_)
              refine v_aload (q := 89) dX6_lay_87 (kk := ?_)
              refine v_iload_n (q := 90) dX6_lay_89 (kk := ?_)
              refine v_putI (q := 93) fX6_256 (by assumption) (hd := dX6_lay_90) (kk := ?_)
              refine v_iload_n (q := 94) dX6_lay_93 (kk := ?_)
              refine v_iconst (v := 1) (q := 95) dX6_lay_94 (kk := ?_)
              refine v_icmp_neT 118 dX6_lay_95 (by decide) (kt := ?_)
              refine v_iload_n (q := 119) dX6_lay_118 (kk := ?_)
              refine v_iconst (v := 2) (q := 120) dX6_lay_119 (kk := ?_)
              refine v_icmp_neF (q := 123) (t := 140) dX6_lay_120 (rfl) (kf := ?_)
              refine v_aload (q := 125) dX6_lay_123 (kk := ?_)
              refine v_getR (q := 128) fX6_266 (by assumption) (by assumption) (hd := dX6_lay_125) (kk := ?_)
              refine v_aload_n (q := 129) dX6_lay_128 (kk := ?_)
              refine v_getR (q := 132) fX6_31 (by assumption) (by assumption) (hd := dX6_lay_129) (kk := ?_)
              refine v_iload_n (q := 133) dX6_lay_132 (kk := ?_)
              refine v_aaldn (q := 134) (by assumption) (by assumption) (by omega) (by omega) (hd := dX6_lay_133) (kk := ?_)
              refine v_cV1 (N := mX3_becomes) (q := 137) lX6_270 iX3_becomes kX3_becomes (by assumption) dX6_lay_134 (s_Row_becomes (s := zs) (by omega) w6 hra (by rw [hc_u_ne (by omega), q2]; exact es) hs24 (fun I2 hF2 h2 h3 => ?_))
              refine v_goto 151 dX6_lay_137 (kt := ?_)
              refine v_iload (q := 153) dX6_lay_151 (kk := ?_)
              refine v_iret dX6_lay_153 (hQ := ?_)
              have hI : ∀ y, y ≠ b + 63 + 4 * s → y ≠ b + 63 + 4 * s + 1 → y ≠ b + 61 + 4 * s → I2 y = I y := fun y h1 h3 h4 => (hF2 y h1 h3).trans (hc_u_ne h4)
              refine hQ I2 (fun y hy => hI y (by omega) (by omega) (by omega)) (hsl.set (s := s) ⟨?_, ?_, fun h => ?_, fun _ => ⟨zs, hs24, ?_, h3, fun i hi => ?_⟩, fun h => ?_⟩ (fun i hi => ⟨upd_ne hi, upd_ne hi, upd_ne hi⟩) (fun i hi => ?_) (fun y hy => hI y (by omega) (by omega) (by omega)))
              · rw [hF2 _ (by omega) (by omega), hc_u_at, upd_at, upd_at]
              · rw [upd_at]; exact Or.inr (Or.inr (Or.inl rfl))
              · rw [upd_at] at h; exact absurd h (by decide)
              · rw [upd_at]; exact es
              · rw [h2 i hi, hc_u_ne (by omega), show b + 53 + 2 * j + 1 = b + 54 + 2 * j by omega, q3 i (by omega)]
                unfold hlF
                rw [if_pos (by omega)]
                congr 1
                omega
              · rw [upd_at] at h; exact absurd h (by decide)
              · unfold hlF
                rw [if_neg hi]
            · rw [if_pos c4] at hQ
              refine v_ldc (q := 71) cX6_186 dX6_lay_69 (kk := ?_)
              refine v_iret dX6_lay_71 (hQ := ?_)
              exact hQ I Fl.rfl hsl
          · exact bad2 (fun h => c3 (h.2 rfl))
        · have e : spLay N so si ce ho hA hB hl (nI s) th k = (ho s, upd ho s th, upd hA s k, upd hB s 0, hl) := by
            unfold spLay
            rw [e1, if_pos ⟨c1, c2, fun h => absurd h t1, fun h => absurd h t2⟩, if_neg t1, if_neg t2, nI_clamp (by omega)]
          rw [e] at hQ
          clear e
          dsimp only at hQ
          have t03 : th = 0 ∨ th = 3 := by
            obtain ⟨j, rfl, hj⟩ := nI_of6 (n := 4) rfl (by omega) c2
            have : j = 0 ∨ j = 1 ∨ j = 2 ∨ j = 3 := by omega
            rcases this with rfl | rfl | rfl | rfl
            · exact Or.inl rfl
            · exact absurd rfl t1
            · exact absurd rfl t2
            · exact Or.inr rfl
          refine v_icmp_neT 51 dX6_lay_37 (t2) (kt := ?_)
          refine v_iload_n (q := 52) dX6_lay_51 (kk := ?_)
          refine v_iconst (v := 2) (q := 53) dX6_lay_52 (kk := ?_)
          refine v_icmp_neT 72 dX6_lay_53 (t2) (kt := ?_)
          refine v_aload_n (q := 73) dX6_lay_72 (kk := ?_)
          refine v_getR (q := 76) fX6_37 (by assumption) (by assumption) (hd := dX6_lay_73) (kk := ?_)
          refine v_iload_n (q := 77) dX6_lay_76 (kk := ?_)
          refine v_aaldn (q := 78) (by assumption) (by assumption) (by omega) (by omega) (hd := dX6_lay_77) (kk := ?_)
          refine v_astore4 (q := 80) dX6_lay_78 (kk := ?_)
          refine v_aload (q := 82) dX6_lay_80 (kk := ?_)
          refine v_getI (q := 85) fX6_256 (by assumption) (hd := dX6_lay_82) (kk := ?_)
          rw [a1]
          refine v_istore5 (q := 87) dX6_lay_85 (kk := ?_)
          refine v_aload (q := 89) dX6_lay_87 (kk := ?_)
          refine v_iload_n (q := 90) dX6_lay_89 (kk := ?_)
          refine v_putI (q := 93) fX6_256 (by assumption) (hd := dX6_lay_90) (kk := ?_)
          refine v_iload_n (q := 94) dX6_lay_93 (kk := ?_)
          refine v_iconst (v := 1) (q := 95) dX6_lay_94 (kk := ?_)
          refine v_icmp_neT 118 dX6_lay_95 (t1) (kt := ?_)
          refine v_iload_n (q := 119) dX6_lay_118 (kk := ?_)
          refine v_iconst (v := 2) (q := 120) dX6_lay_119 (kk := ?_)
          refine v_icmp_neT 140 dX6_lay_120 (t2) (kt := ?_)
          refine v_iload_n (q := 141) dX6_lay_140 (kk := ?_)
          refine v_iconst (v := 3) (q := 142) dX6_lay_141 (kk := ?_)
          rcases t03 with rfl | rfl
          · refine v_icmp_neT 151 dX6_lay_142 (by decide) (kt := ?_)
            refine v_iload (q := 153) dX6_lay_151 (kk := ?_)
            refine v_iret dX6_lay_153 (hQ := ?_)
            refine hQ _ (fun y hy => hc_u_ne (by omega)) (hsl.set (s := s) ⟨?_, ?_, fun h => ?_, fun h => ?_, fun h => ?_⟩ (fun i hi => ⟨upd_ne hi, upd_ne hi, upd_ne hi⟩) (fun i _ => rfl) (fun y hy => hc_u_ne (by omega)))
            · rw [hc_u_at, upd_at, upd_at]
            · rw [upd_at]; exact Or.inl rfl
            · rw [upd_at] at h; exact absurd h (by decide)
            · rw [upd_at] at h; exact absurd h (by decide)
            · rw [upd_at] at h; exact absurd h (by decide)
          · refine v_icmp_neF (q := 145) (t := 151) dX6_lay_142 (rfl) (kf := ?_)
            refine v_aload (q := 147) dX6_lay_145 (kk := ?_)
            refine v_iload_n (q := 148) dX6_lay_147 (kk := ?_)
            refine v_putI (q := 151) fX6_273 (by assumption) (hd := dX6_lay_148) (kk := ?_)
            refine v_iload (q := 153) dX6_lay_151 (kk := ?_)
            refine v_iret dX6_lay_153 (hQ := ?_)
            refine hQ _ (fun y hy => (hc_u_ne (by omega)).trans (hc_u_ne (by omega))) (hsl.set (s := s) ⟨?_, ?_, fun h => ?_, fun h => ?_, fun h => ?_⟩ (fun i hi => ⟨upd_ne hi, upd_ne hi, upd_ne hi⟩) (fun i _ => rfl) (fun y hy => (hc_u_ne (by omega)).trans (hc_u_ne (by omega))))
            · rw [hc_u_at, upd_ne (by omega), hc_u_at, upd_at, upd_at]
            · rw [upd_at]; exact Or.inr (Or.inr (Or.inr rfl))
            · rw [upd_at] at h; exact absurd h (by decide)
            · rw [upd_at] at h; exact absurd h (by decide)
            · rw [hc_u_at, upd_at, upd_at]
    · exact bad1 (fun h => c2 h.2)
theorem mlay_loop {s j : Nat} {x : Int32} (hs : s < 5) (hj : j < 4) (hm : MG S R m) (hc : I (m + 15) = ce) (hh : I (m + 19) = hl) (hQ : ∀ I' : hcI, (∀ y, y ≠ m + 19 → I' y = I y) → I' (m + 19) = hlF ce hl s j → Q (some (.int x)) S I' R z) (r : Nat) : ∀ (i : Nat) (I1 : hcI), i + r = 24 → (∀ y, y ≠ m + 19 → I1 y = I y) → (∀ k, I1 (m + 19) k = if 24 * s ≤ k ∧ k < 24 * s + i then ce (24 * j + (k - 24 * s)) else hl k) → V g mX7_lay 2 0 0 S I1 R z 134 [some (.ref m), some (.int (nI s)), some (.int 2), some (.int (nI j)), some (.int x), some (.int (nI i))] [] Q := by
  have s0 := hm.s0
  have sc := hm.s_cells
  have rc := hm.r_cells
  have sh := hm.s_heldCells
  have rh := hm.r_heldCells
  induction r with
  | zero =>
    intro i I1 hi hF h1
    obtain rfl : i = 24 := by omega
    refine v_iload (q := 136) dX7_lay_134 (kk := ?_)
    refine v_bipush (v := 24) (q := 138) dX7_lay_136 (kk := ?_)
    refine v_icmp_geT 176 dX7_lay_138 (Int32.le_refl _) (kt := ?_)
    refine v_iload (q := 178) dX7_lay_176 (kk := ?_)
    refine v_iret dX7_lay_178 (hQ := ?_)
    exact hQ I1 hF (funext h1)
  | succ r ih =>
    intro i I1 hi hF h1
    refine v_iload (q := 136) dX7_lay_134 (kk := ?_)
    refine v_bipush (v := 24) (q := 138) dX7_lay_136 (kk := ?_)
    refine v_icmp_geF (q := 141) (t := 176) dX7_lay_138 (fun h => by have := (nI_leI (a := 24) (by omega) (by omega)).mp h; omega) (kf := ?_)
    refine v_iload_n (q := 142) dX7_lay_141 (kk := ?_)
    refine v_iconst (v := 2) (q := 143) dX7_lay_142 (kk := ?_)
    refine v_icmp_neF (q := 146) (t := 176) dX7_lay_143 (rfl) (kf := ?_)
    refine v_aload_n (q := 147) dX7_lay_146 (kk := ?_)
    refine v_getR (q := 150) fX7_66 (by assumption) (by assumption) (hd := dX7_lay_147) (kk := ?_)
    refine v_bipush (v := 24) (q := 152) dX7_lay_150 (kk := ?_)
    refine v_iload_n (q := 153) dX7_lay_152 (kk := ?_)
    refine v_imul (q := 154) dX7_lay_153 (kk := ?_)
    refine v_iload (q := 156) dX7_lay_154 (kk := ?_)
    refine v_iadd (q := 157) dX7_lay_156 (kk := ?_)
    refine v_aload_n (q := 158) dX7_lay_157 (kk := ?_)
    refine v_getR (q := 161) fX7_54 (by assumption) (by assumption) (hd := dX7_lay_158) (kk := ?_)
    refine v_bipush (v := 24) (q := 163) dX7_lay_161 (kk := ?_)
    refine v_iload_n (q := 164) dX7_lay_163 (kk := ?_)
    refine v_imul (q := 165) dX7_lay_164 (kk := ?_)
    refine v_iload (q := 167) dX7_lay_165 (kk := ?_)
    refine v_iadd (q := 168) dX7_lay_167 (kk := ?_)
    refine v_ialdE (q := 169) (24 * j + i) (by rw [show (24 : Int32) = nI 24 from rfl, pk_mul, nI_add]) (by assumption) (by omega) (by omega) (hd := dX7_lay_168) (kk := ?_)
    rw [hF (m + 15) (by omega), hc]
    refine v_iastE (q := 170) (24 * s + i) (by rw [show (24 : Int32) = nI 24 from rfl, pk_mul, nI_add]) (by assumption) (by omega) (by omega) (hd := dX7_lay_169) (kk := ?_)
    refine v_iinc5 (q := 173) dX7_lay_170 (hv := nI_1 i) (kk := ?_)
    refine v_goto 134 dX7_lay_173 (kt := ?_)
    refine ih (i + 1) _ (by omega) (fun y hy => (hc_u_ne hy).trans (hF y hy)) (fun k => ?_)
    rw [hc_u_at]
    by_cases e : k = 24 * s + i
    · rw [e, upd_at, if_pos (by omega)]
      congr 1
      omega
    · rw [upd_ne e, h1 k]
      by_cases c : 24 * s ≤ k ∧ k < 24 * s + i
      · rw [if_pos c, if_pos (by omega)]
      · rw [if_neg c, if_neg (by omega)]
theorem m_lay {sl th k : Int32} (hm : MG S R m) (hN : I (m + 1) = N) (hn : MN N) (hsw : SW so si) (hsm : SHm I m so si ce) (hsl : SLm I m ho hA hB hl) (hQ : ∀ I' : hcI, Flm m I I' → SLm I' m (spLay N so si ce ho hA hB hl sl th k).2.1 (spLay N so si ce ho hA hB hl sl th k).2.2.1 (spLay N so si ce ho hA hB hl sl th k).2.2.2.1 (spLay N so si ce ho hA hB hl sl th k).2.2.2.2 → Q (some (.int (spLay N so si ce ho hA hB hl sl th k).1)) S I' R z) : Cl g mX7_lay 2 0 0 S I R z [.ref m, .int sl, .int th, .int k] Q := by
  have s0 := hm.s0
  have ss := hm.s_sorts
  have rs := hm.r_sorts
  have sz := hm.s_sizes
  have rz := hm.r_sizes
  have sh := hm.s_holds
  have rh := hm.r_holds
  have sA := hm.s_holdsA
  have rA := hm.r_holdsA
  have sB := hm.s_holdsB
  have rB := hm.r_holdsB
  obtain ⟨np, nb, nt, sec, hw⟩ := hn
  obtain ⟨e1, e2, e3, e4⟩ := hw.e
  obtain ⟨q1, q2, q3⟩ := hsm
  have hsl' := hsl
  obtain ⟨v1, v2, v3, v4⟩ := hsl'
  have hnp := hw.1.1.2
  have h1 := hw.1.1.1
  refine Cl.go [some (.ref m), some (.int sl), some (.int th), some (.int k), none, none] ?_
  have bad : ¬ ((0 ≤ sl ∧ sl < 5) ∧ (0 ≤ th ∧ th < 4) ∧ (th = 1 → 0 ≤ k ∧ k < nI np) ∧ (th = 2 → 0 ≤ k ∧ k < 4)) → V g mX7_lay 2 0 0 S I R z 41 [some (.ref m), some (.int sl), some (.int th), some (.int k), none, none] [] Q := by
    intro c
    have e : spLay N so si ce ho hA hB hl sl th k = (-1000000001, ho, hA, hB, hl) := by
      unfold spLay
      rw [e1, if_neg c]
    rw [e] at hQ
    refine v_ldc (q := 43) cX7_92 dX7_lay_41 (kk := ?_)
    refine v_iret dX7_lay_43 (hQ := ?_)
    exact hQ I Flm.rfl hsl
  refine v_iload_n (q := 1) dX7_lay_0 (kk := ?_)
  refine v_cS1 (N := mX7_isSlot) (q := 4) lX7_253 sX7_isSlot kX7_isSlot dX7_lay_1 (s_isSlot ?_)
  refine v_if_eqB 41 (q := 7) dX7_lay_4 (kt := fun c1 => ?_) (kf := fun c1 => ?_)
  · exact bad (fun h => c1 h.1)
  · refine v_iload_n (q := 8) dX7_lay_7 (kk := ?_)
    refine v_iconst (v := 0) (q := 9) dX7_lay_8 (kk := ?_)
    refine v_iconst (v := 3) (q := 10) dX7_lay_9 (kk := ?_)
    refine v_cS3 (N := mX7_in) (q := 13) lX7_76 sX7_in kX7_in dX7_lay_10 (s_in0 4 4 rfl rfl (by omega) ?_)
    refine v_if_eqB 41 (q := 16) dX7_lay_13 (kt := fun c2 => ?_) (kf := fun c2 => ?_)
    · exact bad (fun h => c2 h.2.1)
    · obtain ⟨s, rfl, hs⟩ := nI_of6 (n := 5) rfl (by omega) c1
      have tail0 : ∀ (t : Int32) (A B : Int32), ¬ t = 2 → (∀ I' : hcI, Flm m I I' → SLm I' m (upd ho s t) (upd hA s A) (upd hB s B) hl → Q (some (.int (ho s))) S I' R z) → ∀ I1 : hcI, Flm m I I1 → SLm I1 m (upd ho s t) (upd hA s A) (upd hB s B) hl → V g mX7_lay 2 0 0 S I1 R z 131 [some (.ref m), some (.int (nI s)), some (.int t), some (.int k), some (.int (ho s)), none] [] Q := by
        intro t A B ht hQ I1 hF hs1
        refine v_iconst (v := 0) (q := 132) dX7_lay_131 (kk := ?_)
        refine v_istore5 (q := 134) dX7_lay_132 (kk := ?_)
        refine v_iload (q := 136) dX7_lay_134 (kk := ?_)
        refine v_bipush (v := 24) (q := 138) dX7_lay_136 (kk := ?_)
        refine v_icmp_geF (q := 141) (t := 176) dX7_lay_138 (by decide) (kf := ?_)
        refine v_iload_n (q := 142) dX7_lay_141 (kk := ?_)
        refine v_iconst (v := 2) (q := 143) dX7_lay_142 (kk := ?_)
        refine v_icmp_neT 176 dX7_lay_143 (ht) (kt := ?_)
        refine v_iload (q := 178) dX7_lay_176 (kk := ?_)
        refine v_iret dX7_lay_178 (hQ := ?_)
        exact hQ I1 hF hs1
      refine v_iload_n (q := 17) dX7_lay_16 (kk := ?_)
      refine v_iconst (v := 1) (q := 18) dX7_lay_17 (kk := ?_)
      by_cases t1 : th = 1
      · subst t1
        refine v_icmp_neF (q := 21) (t := 29) dX7_lay_18 (rfl) (kf := ?_)
        refine v_aload_n (q := 22) dX7_lay_21 (kk := ?_)
        refine v_iload_n (q := 23) dX7_lay_22 (kk := ?_)
        refine v_cV1 (N := mX7_isOne) (q := 26) lX7_118 iX7_isOne kX7_isOne (by assumption) dX7_lay_23 (s_isOne hm (by rw [hN]; exact h1) hnp ?_)
        refine v_if_eqB 41 (q := 29) dX7_lay_26 (kt := fun c3 => ?_) (kf := fun c3 => ?_)
        · exact bad (fun h => c3 (h.2.2.1 rfl))
        · obtain ⟨j, rfl, hj⟩ := nI_of6 (n := np) rfl (by omega) c3
          obtain ⟨⟨kk, ek, hk6⟩, -⟩ := hw.1.2.2.2.2.2.2.2.2.2.1 j hj
          have e : spLay N so si ce ho hA hB hl (nI s) 1 (nI j) = (ho s, upd ho s 1, upd hA s (N (33 + 6 * j)), upd hB s (hc_worth kk (N (33 + 6 * j + 2)) (N (33 + 6 * j + 1))), hl) := by
            unfold spLay
            rw [e1, if_pos ⟨c1, c2, fun _ => c3, fun h => absurd h (by decide)⟩, if_pos rfl, nI_clamp (by omega), nI_clamp (by omega), kdN_e ek hk6]
          rw [e] at hQ
          clear e
          dsimp only at hQ
          refine v_iload_n (q := 30) dX7_lay_29 (kk := ?_)
          refine v_iconst (v := 2) (q := 31) dX7_lay_30 (kk := ?_)
          refine v_icmp_neT 44 dX7_lay_31 (by decide) (kt := ?_)
          refine v_iload_n (q := 45) dX7_lay_44 (kk := ?_)
          refine v_iconst (v := 2) (q := 46) dX7_lay_45 (kk := ?_)
          refine v_icmp_neT 61 dX7_lay_46 (by decide) (kt := ?_)
          refine v_aload_n (q := 62) dX7_lay_61 (kk := ?_)
          refine v_getR (q := 65) fX7_57 (by assumption) (by assumption) (hd := dX7_lay_62) (kk := ?_)
          refine v_iload_n (q := 66) dX7_lay_65 (kk := ?_)
          refine v_ialdE (q := 67) (s) (by rfl) (by assumption) (by omega) (by omega) (hd := dX7_lay_66) (kk := ?_)
          rw [v1]
          refine v_istore4 (q := 69) dX7_lay_67 (kk := ?_)
          refine v_aload_n (q := 70) dX7_lay_69 (kk := ?_)
          refine v_getR (q := 73) fX7_57 (by assumption) (by assumption) (hd := dX7_lay_70) (kk := ?_)
          refine v_iload_n (q := 74) dX7_lay_73 (kk := ?_)
          refine v_iload_n (q := 75) dX7_lay_74 (kk := ?_)
          refine v_iastE (q := 76) (s) (by rfl) (by assumption) (by omega) (by omega) (hd := dX7_lay_75) (kk := ?_)
          refine v_aload_n (q := 77) dX7_lay_76 (kk := ?_)
          refine v_getR (q := 80) fX7_60 (by assumption) (by assumption) (hd := dX7_lay_77) (kk := ?_)
          refine v_iload_n (q := 81) dX7_lay_80 (kk := ?_)
          refine v_iload_n (q := 82) dX7_lay_81 (kk := ?_)
          refine v_iconst (v := 1) (q := 83) dX7_lay_82 (kk := ?_)
          refine v_icmp_neF (q := 86) (t := 95) dX7_lay_83 (rfl) (kf := ?_)
          refine v_aload_n (q := 87) dX7_lay_86 (kk := ?_)
          refine v_iload_n (q := 88) dX7_lay_87 (kk := ?_)
          refine v_iconst (v := 0) (q := 89) dX7_lay_88 (kk := ?_)
          have hN1 : hc_u I (m + 16) s 1 (m + 1) = N := by rw [hc_u_ne (by omega)]; exact hN
          refine v_cV2 (N := mX7_of) (q := 92) lX7_80 iX7_of kX7_of (by assumption) dX7_lay_89 (s_of (w := 0) hm (by omega) ?_)
          rw [hN1]
          refine v_goto 110 dX7_lay_92 (kt := ?_)
          refine v_iastE (q := 111) (s) (by rfl) (by assumption) (by omega) (by omega) (hd := dX7_lay_110) (kk := ?_)
          refine v_aload_n (q := 112) dX7_lay_111 (kk := ?_)
          refine v_getR (q := 115) fX7_63 (by assumption) (by assumption) (hd := dX7_lay_112) (kk := ?_)
          refine v_iload_n (q := 116) dX7_lay_115 (kk := ?_)
          refine v_iload_n (q := 117) dX7_lay_116 (kk := ?_)
          refine v_iconst (v := 1) (q := 118) dX7_lay_117 (kk := ?_)
          refine v_icmp_neF (q := 121) (t := 129) dX7_lay_118 (rfl) (kf := ?_)
          refine v_aload_n (q := 122) dX7_lay_121 (kk := ?_)
          refine v_iload_n (q := 123) dX7_lay_122 (kk := ?_)
          have hN2 : hc_u (hc_u I (m + 16) s 1) (m + 17) s (N (33 + 6 * j + 0)) (m + 1) = N := by rw [hc_u_ne (by omega)]; exact hN1
          refine v_cV1 (N := mX7_worthOf) (q := 126) lX7_127 iX7_worthOf kX7_worthOf (by assumption) dX7_lay_123 (s_worthOf hm hN2 (by omega) hk6 ek ?_)
          refine v_goto 130 dX7_lay_126 (kt := ?_)
          refine v_iastE (q := 131) (s) (by rfl) (by assumption) (by omega) (by omega) (hd := dX7_lay_130) (kk := ?_)
          refine tail0 1 _ _ (by decide) hQ _ (fun y a1 a2 a3 a4 => by rw [hc_u_ne a3, hc_u_ne a2, hc_u_ne a1]) ⟨?_, ?_, ?_, ?_⟩
          · rw [hc_u_ne (by omega), hc_u_ne (by omega), hc_u_at, v1]
          · rw [hc_u_ne (by omega), hc_u_at, hc_u_ne (by omega), v2]; rfl
          · rw [hc_u_at, hc_u_ne (by omega), hc_u_ne (by omega), v3]
          · rw [hc_u_ne (by omega), hc_u_ne (by omega), hc_u_ne (by omega), v4]
      · refine v_icmp_neT 29 dX7_lay_18 (t1) (kt := ?_)
        refine v_iload_n (q := 30) dX7_lay_29 (kk := ?_)
        refine v_iconst (v := 2) (q := 31) dX7_lay_30 (kk := ?_)
        by_cases t2 : th = 2
        · subst t2
          refine v_icmp_neF (q := 34) (t := 44) dX7_lay_31 (rfl) (kf := ?_)
          refine v_iload_n (q := 35) dX7_lay_34 (kk := ?_)
          refine v_cS1 (N := mX7_isSheet) (q := 38) lX7_174 sX7_isSheet kX7_isSheet dX7_lay_35 (s_isSheet ?_)
          refine v_if_neB 44 (q := 41) dX7_lay_38 (kt := fun c3 => ?_) (kf := fun c3 => ?_)
          · obtain ⟨j, rfl, hj⟩ := nI_of6 (n := 4) rfl (by omega) c3
            have e : spLay N so si ce ho hA hB hl (nI s) 2 (nI j) = if so j = -1 then (-1000000011, ho, hA, hB, hl) else (ho s, upd ho s 2, upd hA s (si j), upd hB s 0, hlF ce hl s j) := by
              unfold spLay
              rw [e1, if_pos ⟨c1, c2, fun h => absurd h (by decide), fun _ => c3⟩, if_neg (by decide), if_pos rfl, nI_clamp (by omega), nI_clamp (by omega)]
            rw [e] at hQ
            clear e
            refine v_iload_n (q := 45) dX7_lay_44 (kk := ?_)
            refine v_iconst (v := 2) (q := 46) dX7_lay_45 (kk := ?_)
            refine v_icmp_neF (q := 49) (t := 61) dX7_lay_46 (rfl) (kf := ?_)
            refine v_aload_n (q := 50) dX7_lay_49 (kk := ?_)
            refine v_getR (q := 53) fX7_48 (by assumption) (by assumption) (hd := dX7_lay_50) (kk := ?_)
            refine v_iload_n (q := 54) dX7_lay_53 (kk := ?_)
            refine v_ialdE (q := 55) (j) (by rfl) (by assumption) (by omega) (by omega) (hd := dX7_lay_54) (kk := ?_)
            rw [q1]
            refine v_if_ge 61 (q := 58) dX7_lay_55 (kt := fun c4 => ?_) (kf := fun c4 => ?_)
            · rw [if_neg (fun h => absurd ((hsw.neg hj).mpr h) (Int32.not_lt.mpr c4))] at hQ
              dsimp only at hQ
              refine v_aload_n (q := 62) dX7_lay_61 (kk := ?_)
              refine v_getR (q := 65) fX7_57 (by assumption) (by assumption) (hd := dX7_lay_62) (kk := ?_)
              refine v_iload_n (q := 66) dX7_lay_65 (kk := ?_)
              refine v_ialdE (q := 67) (s) (by rfl) (by assumption) (by omega) (by omega) (hd := dX7_lay_66) (kk := ?_)
              rw [v1]
              refine v_istore4 (q := 69) dX7_lay_67 (kk := ?_)
              refine v_aload_n (q := 70) dX7_lay_69 (kk := ?_)
              refine v_getR (q := 73) fX7_57 (by assumption) (by assumption) (hd := dX7_lay_70) (kk := ?_)
              refine v_iload_n (q := 74) dX7_lay_73 (kk := ?_)
              refine v_iload_n (q := 75) dX7_lay_74 (kk := ?_)
              refine v_iastE (q := 76) (s) (by rfl) (by assumption) (by omega) (by omega) (hd := dX7_lay_75) (kk := ?_)
              refine v_aload_n (q := 77) dX7_lay_76 (kk := ?_)
              refine v_getR (q := 80) fX7_60 (by assumption) (by assumption) (hd := dX7_lay_77) (kk := ?_)
              refine v_iload_n (q := 81) dX7_lay_80 (kk := ?_)
              refine v_iload_n (q := 82) dX7_lay_81 (kk := ?_)
              refine v_iconst (v := 1) (q := 83) dX7_lay_82 (kk := ?_)
              refine v_icmp_neT 95 dX7_lay_83 (by decide) (kt := ?_)
              refine v_iload_n (q := 96) dX7_lay_95 (kk := ?_)
              refine v_iconst (v := 2) (q := 97) dX7_lay_96 (kk := ?_)
              refine v_icmp_neF (q := 100) (t := 109) dX7_lay_97 (rfl) (kf := ?_)
              refine v_aload_n (q := 101) dX7_lay_100 (kk := ?_)
              refine v_getR (q := 104) fX7_51 (by assumption) (by assumption) (hd := dX7_lay_101) (kk := ?_)
              refine v_iload_n (q := 105) dX7_lay_104 (kk := ?_)
              refine v_ialdE (q := 106) (j) (by rfl) (by assumption) (by omega) (by omega) (hd := dX7_lay_105) (kk := ?_)
              rw [hc_u_ne (by omega), q2]
              refine v_goto 110 dX7_lay_106 (kt := ?_)
              refine v_iastE (q := 111) (s) (by rfl) (by assumption) (by omega) (by omega) (hd := dX7_lay_110) (kk := ?_)
              refine v_aload_n (q := 112) dX7_lay_111 (kk := ?_)
              refine v_getR (q := 115) fX7_63 (by assumption) (by assumption) (hd := dX7_lay_112) (kk := ?_)
              refine v_iload_n (q := 116) dX7_lay_115 (kk := ?_)
              refine v_iload_n (q := 117) dX7_lay_116 (kk := ?_)
              refine v_iconst (v := 1) (q := 118) dX7_lay_117 (kk := ?_)
              refine v_icmp_neT 129 dX7_lay_118 (by decide) (kt := ?_)
              refine v_iconst (v := 0) (q := 130) dX7_lay_129 (kk := ?_)
              refine v_iastE (q := 131) (s) (by rfl) (by assumption) (by omega) (by omega) (hd := dX7_lay_130) (kk := ?_)
              refine v_iconst (v := 0) (q := 132) dX7_lay_131 (kk := ?_)
              refine v_istore5 (q := 134) dX7_lay_132 (kk := ?_)
              refine mlay_loop (ce := ce) (hl := hl) hs hj hm (by rw [hc_u_ne (by omega), hc_u_ne (by omega), hc_u_ne (by omega)]; exact q3) (by rw [hc_u_ne (by omega), hc_u_ne (by omega), hc_u_ne (by omega)]; exact v4) (fun I2 hF2 h2 => ?_) 24 0 _ (by omega) (fun _ _ => rfl) (fun k => by rw [if_neg (by omega), hc_u_ne (by omega), hc_u_ne (by omega), hc_u_ne (by omega), v4])
              refine hQ I2 (fun y a1 a2 a3 a4 => by rw [hF2 y a4, hc_u_ne a3, hc_u_ne a2, hc_u_ne a1]) ⟨?_, ?_, ?_, h2⟩
              · rw [hF2 _ (by omega), hc_u_ne (by omega), hc_u_ne (by omega), hc_u_at, v1]
              · rw [hF2 _ (by omega), hc_u_ne (by omega), hc_u_at, hc_u_ne (by omega), v2]
              · rw [hF2 _ (by omega), hc_u_at, hc_u_ne (by omega), hc_u_ne (by omega), v3]
            · rw [if_pos ((hsw.neg hj).mp (Int32.not_le.mp c4))] at hQ
              refine v_ldc (q := 60) cX7_177 dX7_lay_58 (kk := ?_)
              refine v_iret dX7_lay_60 (hQ := ?_)
              exact hQ I Flm.rfl hsl
          · exact bad (fun h => c3 (h.2.2.2 rfl))
        · have e : spLay N so si ce ho hA hB hl (nI s) th k = (ho s, upd ho s th, upd hA s k, upd hB s 0, hl) := by
            unfold spLay
            rw [e1, if_pos ⟨c1, c2, fun h => absurd h t1, fun h => absurd h t2⟩, if_neg t1, if_neg t2, nI_clamp (by omega)]
          rw [e] at hQ
          clear e
          dsimp only at hQ
          refine v_icmp_neT 44 dX7_lay_31 (t2) (kt := ?_)
          refine v_iload_n (q := 45) dX7_lay_44 (kk := ?_)
          refine v_iconst (v := 2) (q := 46) dX7_lay_45 (kk := ?_)
          refine v_icmp_neT 61 dX7_lay_46 (t2) (kt := ?_)
          refine v_aload_n (q := 62) dX7_lay_61 (kk := ?_)
          refine v_getR (q := 65) fX7_57 (by assumption) (by assumption) (hd := dX7_lay_62) (kk := ?_)
          refine v_iload_n (q := 66) dX7_lay_65 (kk := ?_)
          refine v_ialdE (q := 67) (s) (by rfl) (by assumption) (by omega) (by omega) (hd := dX7_lay_66) (kk := ?_)
          rw [v1]
          refine v_istore4 (q := 69) dX7_lay_67 (kk := ?_)
          refine v_aload_n (q := 70) dX7_lay_69 (kk := ?_)
          refine v_getR (q := 73) fX7_57 (by assumption) (by assumption) (hd := dX7_lay_70) (kk := ?_)
          refine v_iload_n (q := 74) dX7_lay_73 (kk := ?_)
          refine v_iload_n (q := 75) dX7_lay_74 (kk := ?_)
          refine v_iastE (q := 76) (s) (by rfl) (by assumption) (by omega) (by omega) (hd := dX7_lay_75) (kk := ?_)
          refine v_aload_n (q := 77) dX7_lay_76 (kk := ?_)
          refine v_getR (q := 80) fX7_60 (by assumption) (by assumption) (hd := dX7_lay_77) (kk := ?_)
          refine v_iload_n (q := 81) dX7_lay_80 (kk := ?_)
          refine v_iload_n (q := 82) dX7_lay_81 (kk := ?_)
          refine v_iconst (v := 1) (q := 83) dX7_lay_82 (kk := ?_)
          refine v_icmp_neT 95 dX7_lay_83 (t1) (kt := ?_)
          refine v_iload_n (q := 96) dX7_lay_95 (kk := ?_)
          refine v_iconst (v := 2) (q := 97) dX7_lay_96 (kk := ?_)
          refine v_icmp_neT 109 dX7_lay_97 (t2) (kt := ?_)
          refine v_iload_n (q := 110) dX7_lay_109 (kk := ?_)
          refine v_iastE (q := 111) (s) (by rfl) (by assumption) (by omega) (by omega) (hd := dX7_lay_110) (kk := ?_)
          refine v_aload_n (q := 112) dX7_lay_111 (kk := ?_)
          refine v_getR (q := 115) fX7_63 (by assumption) (by assumption) (hd := dX7_lay_112) (kk := ?_)
          refine v_iload_n (q := 116) dX7_lay_115 (kk := ?_)
          refine v_iload_n (q := 117) dX7_lay_116 (kk := ?_)
          refine v_iconst (v := 1) (q := 118) dX7_lay_117 (kk := ?_)
          refine v_icmp_neT 129 dX7_lay_118 (t1) (kt := ?_)
          refine v_iconst (v := 0) (q := 130) dX7_lay_129 (kk := ?_)
          refine v_iastE (q := 131) (s) (by rfl) (by assumption) (by omega) (by omega) (hd := dX7_lay_130) (kk := ?_)
          refine tail0 th _ _ t2 hQ _ (fun y a1 a2 a3 a4 => by rw [hc_u_ne a3, hc_u_ne a2, hc_u_ne a1]) ⟨?_, ?_, ?_, ?_⟩
          · rw [hc_u_ne (by omega), hc_u_ne (by omega), hc_u_at, v1]
          · rw [hc_u_ne (by omega), hc_u_at, hc_u_ne (by omega), v2]
          · rw [hc_u_at, hc_u_ne (by omega), hc_u_ne (by omega), v3]
          · rw [hc_u_ne (by omega), hc_u_ne (by omega), hc_u_ne (by omega), v4]
end T10
