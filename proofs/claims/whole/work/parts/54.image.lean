/-! tell, keep, back, count -/
def XI (S : hcS) (I : hcI) (R : hcR) (b : Nat) (N : hN) : Prop := ∃ np nb nt sec, XW N np nb nt sec ∧ HD S I R b (b + 16) N np nb nt
theorem XSk.keepL {S : hcS} {R R' : hcR} {b c : Nat} (h : XSk S R b) (e : ∀ x, x ≠ c → R' x = R x) (hc : c = b + 4 ∨ c = b + 19 ∨ c = b + 34) : XSk S R' b := by
  obtain ⟨h0, ⟨k1, k2, k3⟩, h2, h3, h4, h5⟩ := h
  refine ⟨by rw [e b (by omega)]; exact h0, ⟨k1.keepR e (by omega) (by omega), k2.keepR e (by omega) (by omega), k3.keepR e (by omega) (by omega)⟩, by rw [e (b + 46) (by omega)]; exact h2, ?_, ?_, h5⟩
  · refine ⟨h3.1, fun k hk => ?_⟩
    rw [e (b + 49) (by omega)]
    exact ⟨(h3.2 k hk).1, (h3.2 k hk).2.keepR e (by omega)⟩
  · refine ⟨h4.1, fun k hk => ?_⟩
    rw [e (b + 50) (by omega), e (b + 61 + 4 * k) (by omega)]
    obtain ⟨q1, q2, q3, q4, q5, q6⟩ := h4.2 k hk
    exact ⟨q1, q2, q3, q4, q5, q6.keepR e (by omega)⟩
def spCount (N : hN) (wt tl : Nat) (w : Int32) : Int32 := if w = 0 then N 1 else if w = 1 then N 2 else if w = 2 then N 3 else if w = 3 then sumC N (npN N) else if w = 4 then N 4 else if w = 5 then N 6 else if w = 6 then N 7 else if w = 7 then N 8 else if w = 8 then nI wt else if w = 9 then nI tl else if w = 10 then N 0 else -1000000001
section T11
variable {g : hcG} {S : hcS} {I : hcI} {R : hcR} {z : Nat} {Q : hcQ} {b m np nb nt sec : Nat} {N : hN}
theorem copyAll_loop {f t : Nat} (hft : f ≠ t) (hf : S f = some (10, 1465)) (ht : S t = some (10, 1465)) (hQ : ∀ I' : hcI, (∀ y, y ≠ t → I' y = I y) → I' t = I f → Q none S I' R z) (r : Nat) : ∀ (i : Nat) (I1 : hcI), i + r = 1465 → (∀ y, y ≠ t → I1 y = I y) → (∀ j, j < i → I1 t j = I f j) → V g mX7_copyAll 0 0 0 S I1 R z 2 [some (.ref f), some (.ref t), some (.int (nI i))] [] Q := by
  induction r with
  | zero =>
    intro i I1 hi hF h1
    refine v_iload_n (q := 3) dX7_copyAll_2 (kk := ?_)
    refine v_sipush (v := 1465) (q := 6) dX7_copyAll_3 (kk := ?_)
    refine v_icmp_geT 21 dX7_copyAll_6 (nI_le (a := 1465) (by omega) (by omega)) (kt := ?_)
    refine v_ext (I' := fun y => if y = t then I f else I1 y) (fun a => ?_) ?_
    · by_cases e : a = t
      · refine Or.inr ⟨1465, by rw [e]; exact ht, fun j hj => ?_⟩
        rw [e, if_pos rfl]
        exact (h1 j (by omega)).symm
      · exact Or.inl (if_neg e)
    · refine v_vret dX7_copyAll_21 (hQ := ?_)
      exact hQ _ (fun y hy => (if_neg hy).trans (hF y hy)) (if_pos rfl)
  | succ r ih =>
    intro i I1 hi hF h1
    refine v_iload_n (q := 3) dX7_copyAll_2 (kk := ?_)
    refine v_sipush (v := 1465) (q := 6) dX7_copyAll_3 (kk := ?_)
    refine v_icmp_geF (q := 9) (t := 21) dX7_copyAll_6 (fun h => by have := (nI_leI (a := 1465) (by omega) (by omega)).mp h; omega) (kf := ?_)
    refine v_aload_n (q := 10) dX7_copyAll_9 (kk := ?_)
    refine v_iload_n (q := 11) dX7_copyAll_10 (kk := ?_)
    refine v_aload_n (q := 12) dX7_copyAll_11 (kk := ?_)
    refine v_iload_n (q := 13) dX7_copyAll_12 (kk := ?_)
    refine v_ialdE (q := 14) (i) (by rfl) (by assumption) (by omega) (by omega) (hd := dX7_copyAll_13) (kk := ?_)
    rw [hF f hft]
    refine v_iastE (q := 15) (i) (by rfl) (by assumption) (by omega) (by omega) (hd := dX7_copyAll_14) (kk := ?_)
    refine v_iinc2 (q := 18) dX7_copyAll_15 (hv := nI_1 i) (kk := ?_)
    refine v_goto 2 dX7_copyAll_18 (kt := ?_)
    refine ih (i + 1) _ (by omega) (fun y hy => (hc_u_ne hy).trans (hF y hy)) (fun j hj => ?_)
    rw [hc_u_at]
    by_cases e : j = i
    · rw [e, upd_at]
    · rw [upd_ne e]
      exact h1 j (by omega)
theorem s_copyAll {f t : Nat} (hft : f ≠ t) (hf : S f = some (10, 1465)) (ht : S t = some (10, 1465)) (hQ : ∀ I' : hcI, (∀ y, y ≠ t → I' y = I y) → I' t = I f → Q none S I' R z) : Cl g mX7_copyAll 0 0 0 S I R z [.ref f, .ref t] Q := by
  refine Cl.go [some (.ref f), some (.ref t), none] ?_
  refine v_iconst (v := 0) (q := 1) dX7_copyAll_0 (kk := ?_)
  refine v_istore2 (q := 2) dX7_copyAll_1 (kk := ?_)
  exact copyAll_loop hft hf ht hQ 1465 0 I (by omega) (fun _ _ => rfl) (fun _ _ => by omega)
theorem x_tell {wt : Nat} {v : Int32} (hx : XSk S R b) (h10 : I b 10 = nI wt) (hw : wt ≤ 60) (h1 : wt = 60 → Q (some (.int (-1000000003))) S I R z) (hQ : wt < 60 → Q (some (.int (nI (wt + 1)))) S (hc_u (hc_u I (b + 52) wt v) b 10 (nI (wt + 1))) R z) : Cl g mX6_tell 0 0 0 S I R z [.ref b, .int v] Q := by
  obtain ⟨⟨s0, r0, -, r2, -, r4, r5, r6, r7⟩, -, -, -, -, ⟨s51, s52⟩⟩ := hx
  refine Cl.go [some (.ref b), some (.int v)] ?_
  refine v_aload_n (q := 1) dX6_tell_0 (kk := ?_)
  refine v_getI (q := 4) fX6_276 (by assumption) (hd := dX6_tell_1) (kk := ?_)
  rw [h10]
  refine v_bipush (v := 60) (q := 6) dX6_tell_4 (kk := ?_)
  by_cases c : wt < 60
  · refine v_icmp_ltT 12 dX6_tell_6 (nI_lt (b := 60) c (by omega)) (kt := ?_)
    refine v_aload_n (q := 13) dX6_tell_12 (kk := ?_)
    refine v_getR (q := 16) fX6_45 (by assumption) (by assumption) (hd := dX6_tell_13) (kk := ?_)
    refine v_aload_n (q := 17) dX6_tell_16 (kk := ?_)
    refine v_getI (q := 20) fX6_276 (by assumption) (hd := dX6_tell_17) (kk := ?_)
    rw [h10]
    refine v_iload_n (q := 21) dX6_tell_20 (kk := ?_)
    refine v_iastE (q := 22) (wt) (by rfl) (by assumption) (by omega) (by omega) (hd := dX6_tell_21) (kk := ?_)
    refine v_aload_n (q := 23) dX6_tell_22 (kk := ?_)
    refine v_dup (q := 24) dX6_tell_23 (kk := ?_)
    refine v_getI (q := 27) fX6_276 (by assumption) (hd := dX6_tell_24) (kk := ?_)
    rw [hc_u_ne (by omega), h10]
    refine v_iconst (v := 1) (q := 28) dX6_tell_27 (kk := ?_)
    refine v_iadd (q := 29) dX6_tell_28 (kk := ?_)
    rw [nI_1]
    refine v_putI (q := 32) fX6_276 (by assumption) (hd := dX6_tell_29) (kk := ?_)
    refine v_aload_n (q := 33) dX6_tell_32 (kk := ?_)
    refine v_getI (q := 36) fX6_276 (by assumption) (hd := dX6_tell_33) (kk := ?_)
    rw [hc_u_at, upd_at]
    refine v_iret dX6_tell_36 (hQ := ?_)
    exact hQ c
  · refine v_icmp_ltF (q := 9) (t := 12) dX6_tell_6 (fun h => by have := (nI_ltI (b := 60) (by omega) (by omega)).mp h; omega) (kf := ?_)
    refine v_ldc (q := 11) cX6_65 dX6_tell_9 (kk := ?_)
    refine v_iret dX6_tell_11 (hQ := ?_)
    exact h1 (by omega)
theorem m_tell {wt : Nat} {v : Int32} (hm : MG S R m) (h10 : I m 32 = nI wt) (hw : wt ≤ 60) (h1 : wt = 60 → Q (some (.int (-1000000003))) S I R z) (hQ : wt < 60 → Q (some (.int (nI (wt + 1)))) S (hc_u (hc_u I (m + 21) wt v) m 32 (nI (wt + 1))) R z) : Cl g mX7_tell 0 0 0 S I R z [.ref m, .int v] Q := by
  have s0 := hm.s0
  have st := hm.s_tells
  have rt := hm.r_tells
  refine Cl.go [some (.ref m), some (.int v)] ?_
  refine v_aload_n (q := 1) dX7_tell_0 (kk := ?_)
  refine v_getI (q := 4) fX7_256 (by assumption) (hd := dX7_tell_1) (kk := ?_)
  rw [h10]
  refine v_bipush (v := 60) (q := 6) dX7_tell_4 (kk := ?_)
  by_cases c : wt < 60
  · refine v_icmp_neT 12 dX7_tell_6 (fun h => by have := (nI_eq (b := 60) (by omega) (by omega)).mp h; omega) (kt := ?_)
    refine v_aload_n (q := 13) dX7_tell_12 (kk := ?_)
    refine v_getR (q := 16) fX7_72 (by assumption) (by assumption) (hd := dX7_tell_13) (kk := ?_)
    refine v_aload_n (q := 17) dX7_tell_16 (kk := ?_)
    refine v_getI (q := 20) fX7_256 (by assumption) (hd := dX7_tell_17) (kk := ?_)
    rw [h10]
    refine v_iload_n (q := 21) dX7_tell_20 (kk := ?_)
    refine v_iastE (q := 22) (wt) (by rfl) (by assumption) (by omega) (by omega) (hd := dX7_tell_21) (kk := ?_)
    refine v_aload_n (q := 23) dX7_tell_22 (kk := ?_)
    refine v_dup (q := 24) dX7_tell_23 (kk := ?_)
    refine v_getI (q := 27) fX7_256 (by assumption) (hd := dX7_tell_24) (kk := ?_)
    rw [hc_u_ne (by omega), h10]
    refine v_iconst (v := 1) (q := 28) dX7_tell_27 (kk := ?_)
    refine v_iadd (q := 29) dX7_tell_28 (kk := ?_)
    rw [nI_1]
    refine v_putI (q := 32) fX7_256 (by assumption) (hd := dX7_tell_29) (kk := ?_)
    refine v_aload_n (q := 33) dX7_tell_32 (kk := ?_)
    refine v_getI (q := 36) fX7_256 (by assumption) (hd := dX7_tell_33) (kk := ?_)
    rw [hc_u_at, upd_at]
    refine v_iret dX7_tell_36 (hQ := ?_)
    exact hQ c
  · refine v_icmp_neF (q := 9) (t := 12) dX7_tell_6 (by rw [show wt = 60 by omega]; rfl) (kf := ?_)
    refine v_ldc (q := 11) cX7_98 dX7_tell_9 (kk := ?_)
    refine v_iret dX7_tell_11 (hQ := ?_)
    exact h1 (by omega)
theorem x_keep (hx : XSk S R b) (hn : XN S I R b N) (hQ : ∀ (I' : hcI) (R' : hcR), (∀ y, y ≠ b → (y < b + 16 ∨ b + 31 ≤ y) → I' y = I y) → I' b = upd (I b) 8 1 → (∀ x, x ≠ b + 19 → R' x = R x) → XN S I' R' b N → XI S I' R' b N → Q (some (.int (N 1))) S I' R' z) : Cl g mX6_keep 2 0 0 S I R z [.ref b] Q := by
  have hx' := hx
  obtain ⟨⟨s0, r0, r1, r2, -⟩, ⟨hk1, hk2, hk3⟩, -⟩ := hx'
  obtain ⟨np, nb, nt, sec, hw, hd⟩ := id hn
  have sh := hk1.1
  have sh2 := hk2.1
  refine Cl.go [some (.ref b)] ?_
  refine v_aload_n (q := 1) dX6_keep_0 (kk := ?_)
  refine v_getR (q := 4) fX6_16 (by assumption) (by assumption) (hd := dX6_keep_1) (kk := ?_)
  refine v_aload_n (q := 5) dX6_keep_4 (kk := ?_)
  refine v_getR (q := 8) fX6_12 (by assumption) (by assumption) (hd := dX6_keep_5) (kk := ?_)
  refine v_cV1 (N := mX0_becomes) (q := 11) lX6_159 iX0_becomes kX0_becomes (by assumption) dX6_keep_8 (s_Hall_becomes hk2 hk1 hd hw.1 (by omega) (by omega) (by omega) (fun I1 R1 hF1 hR1 hd1 => ?_))
  have hx1 : XSk S R1 b := hx.keepL (c := b + 19) hR1 (by omega)
  obtain ⟨⟨-, r0', r1', r2', -⟩, ⟨hk1', hk2', -⟩, -⟩ := hx1
  have hd2 : HD S (hc_u I1 b 8 1) R1 b (b + 1) N np nb nt := (hd.keepR (c := b + 19) hR1 (by omega) (by omega)).keep hw.1.1.2 (fun y h1 h2 => (hc_u_ne (by omega)).trans (hF1 y (by omega))) (fun y h1 h2 => (hc_u_ne (by omega)).trans (hF1 y (by omega)))
  have hd3 : HD S (hc_u I1 b 8 1) R1 b (b + 16) N np nb nt := hd1.keep hw.1.1.2 (fun y h1 h2 => hc_u_ne (by omega)) (fun y h1 h2 => hc_u_ne (by omega))
  refine v_aload_n (q := 12) dX6_keep_11 (kk := ?_)
  refine v_iconst (v := 1) (q := 13) dX6_keep_12 (kk := ?_)
  refine v_putI (q := 16) fX6_279 (by assumption) (hd := dX6_keep_13) (kk := ?_)
  refine v_aload_n (q := 17) dX6_keep_16 (kk := ?_)
  refine v_getR (q := 20) fX6_12 (by assumption) (by assumption) (hd := dX6_keep_17) (kk := ?_)
  refine v_getI (q := 23) fX6_61 (by assumption) (hd := dX6_keep_20) (kk := ?_)
  rw [hd2.1.1]
  refine v_iret dX6_keep_23 (hQ := ?_)
  exact hQ _ R1 (fun y h1 h2 => (hc_u_ne h1).trans (hF1 y h2)) (by rw [hc_u_at, hF1 b (by omega)]) hR1 ⟨np, nb, nt, sec, hw, hd2⟩ ⟨np, nb, nt, sec, hw, hd3⟩
theorem m_keep (hm : MG S R m) (hN : I (m + 1) = N) (hQ : ∀ I' : hcI, (∀ y, y ≠ m → y ≠ m + 2 → I' y = I y) → I' m = upd (I m) 3 1 → I' (m + 2) = N → Q (some (.int (N 1))) S I' R z) : Cl g mX7_keep 1 0 0 S I R z [.ref m] Q := by
  have s0 := hm.s0
  have sn := hm.s_now
  have rn := hm.r_now
  have si := hm.s_image
  have ri := hm.r_image
  refine Cl.go [some (.ref m)] ?_
  refine v_aload_n (q := 1) dX7_keep_0 (kk := ?_)
  refine v_getR (q := 4) fX7_9 (by assumption) (by assumption) (hd := dX7_keep_1) (kk := ?_)
  refine v_aload_n (q := 5) dX7_keep_4 (kk := ?_)
  refine v_getR (q := 8) fX7_13 (by assumption) (by assumption) (hd := dX7_keep_5) (kk := ?_)
  refine v_cS2 (N := mX7_copyAll) (q := 11) lX7_263 sX7_copyAll kX7_copyAll dX7_keep_8 (s_copyAll (by omega) sn si (fun I1 hF1 h1 => ?_))
  refine v_aload_n (q := 12) dX7_keep_11 (kk := ?_)
  refine v_iconst (v := 1) (q := 13) dX7_keep_12 (kk := ?_)
  refine v_putI (q := 16) fX7_259 (by assumption) (hd := dX7_keep_13) (kk := ?_)
  refine v_aload_n (q := 17) dX7_keep_16 (kk := ?_)
  refine v_getR (q := 20) fX7_9 (by assumption) (by assumption) (hd := dX7_keep_17) (kk := ?_)
  refine v_iconst (v := 1) (q := 21) dX7_keep_20 (kk := ?_)
  refine v_ialdE (q := 22) (1) (by rfl) (by assumption) (by omega) (by omega) (hd := dX7_keep_21) (kk := ?_)
  rw [hc_u_ne (by omega), hF1 _ (by omega), hN]
  refine v_iret dX7_keep_22 (hQ := ?_)
  exact hQ _ (fun y a1 a2 => (hc_u_ne a1).trans (hF1 y a2)) (by rw [hc_u_at, hF1 _ (by omega)]) (by rw [hc_u_ne (by omega), h1, hN])
theorem x_back {Ni : hN} {im : Bool} (hx : XSk S R b) (h8 : I b 8 = hc_z im) (hi : im = true → XI S I R b Ni) (h0 : im = false → Q (some (.int (-1000000002))) S I R z) (hQ : im = true → ∀ (I' : hcI) (R' : hcR), Fa (b + 1) I I' → (∀ x, x ≠ b + 4 → R' x = R x) → XN S I' R' b Ni → Q (some (.int (Ni 1))) S I' R' z) : Cl g mX6_back 2 0 0 S I R z [.ref b] Q := by
  have hx' := hx
  obtain ⟨⟨s0, r0, r1, r2, -⟩, ⟨hk1, hk2, hk3⟩, -⟩ := hx'
  have sh := hk1.1
  have sh2 := hk2.1
  refine Cl.go [some (.ref b)] ?_
  refine v_aload_n (q := 1) dX6_back_0 (kk := ?_)
  refine v_getI (q := 4) fX6_279 (by assumption) (hd := dX6_back_1) (kk := ?_)
  rw [h8]
  refine v_if_neZ 10 (q := 7) dX6_back_4 (kt := fun c => ?_) (kf := fun c => ?_)
  · obtain ⟨np, nb, nt, sec, hw, hd⟩ := hi c
    refine v_aload_n (q := 11) dX6_back_10 (kk := ?_)
    refine v_getR (q := 14) fX6_12 (by assumption) (by assumption) (hd := dX6_back_11) (kk := ?_)
    refine v_aload_n (q := 15) dX6_back_14 (kk := ?_)
    refine v_getR (q := 18) fX6_16 (by assumption) (by assumption) (hd := dX6_back_15) (kk := ?_)
    refine v_cV1 (N := mX0_becomes) (q := 21) lX6_159 iX0_becomes kX0_becomes (by assumption) dX6_back_18 (s_Hall_becomes hk1 hk2 hd hw.1 (by omega) (by omega) (by omega) (fun I1 R1 hF1 hR1 hd1 => ?_))
    have hx1 : XSk S R1 b := hx.keepL (c := b + 4) hR1 (by omega)
    obtain ⟨⟨-, r0', r1', r2', -⟩, ⟨hk1', hk2', -⟩, -⟩ := hx1
    refine v_aload_n (q := 22) dX6_back_21 (kk := ?_)
    refine v_getR (q := 25) fX6_12 (by assumption) (by assumption) (hd := dX6_back_22) (kk := ?_)
    refine v_getI (q := 28) fX6_61 (by assumption) (hd := dX6_back_25) (kk := ?_)
    rw [hd1.1.1]
    refine v_iret dX6_back_28 (hQ := ?_)
    exact hQ c _ R1 hF1 hR1 ⟨np, nb, nt, sec, hw, hd1⟩
  · refine v_ldc (q := 9) cX6_60 dX6_back_7 (kk := ?_)
    refine v_iret dX6_back_9 (hQ := ?_)
    exact h0 c
theorem m_back {Ni : hN} {im : Bool} (hm : MG S R m) (h3 : I m 3 = hc_z im) (hi : im = true → I (m + 2) = Ni) (h0 : im = false → Q (some (.int (-1000000002))) S I R z) (hQ : im = true → ∀ I' : hcI, (∀ y, y ≠ m + 1 → I' y = I y) → I' (m + 1) = Ni → Q (some (.int (Ni 1))) S I' R z) : Cl g mX7_back 1 0 0 S I R z [.ref m] Q := by
  have s0 := hm.s0
  have sn := hm.s_now
  have rn := hm.r_now
  have si := hm.s_image
  have ri := hm.r_image
  refine Cl.go [some (.ref m)] ?_
  refine v_aload_n (q := 1) dX7_back_0 (kk := ?_)
  refine v_getI (q := 4) fX7_259 (by assumption) (hd := dX7_back_1) (kk := ?_)
  rw [h3]
  refine v_if_neZ 10 (q := 7) dX7_back_4 (kt := fun c => ?_) (kf := fun c => ?_)
  · refine v_aload_n (q := 11) dX7_back_10 (kk := ?_)
    refine v_getR (q := 14) fX7_13 (by assumption) (by assumption) (hd := dX7_back_11) (kk := ?_)
    refine v_aload_n (q := 15) dX7_back_14 (kk := ?_)
    refine v_getR (q := 18) fX7_9 (by assumption) (by assumption) (hd := dX7_back_15) (kk := ?_)
    refine v_cS2 (N := mX7_copyAll) (q := 21) lX7_263 sX7_copyAll kX7_copyAll dX7_back_18 (s_copyAll (by omega) si sn (fun I1 hF1 h1 => ?_))
    rw [hi c] at h1
    refine v_aload_n (q := 22) dX7_back_21 (kk := ?_)
    refine v_getR (q := 25) fX7_9 (by assumption) (by assumption) (hd := dX7_back_22) (kk := ?_)
    refine v_iconst (v := 1) (q := 26) dX7_back_25 (kk := ?_)
    refine v_ialdE (q := 27) (1) (by rfl) (by assumption) (by omega) (by omega) (hd := dX7_back_26) (kk := ?_)
    rw [h1]
    refine v_iret dX7_back_27 (hQ := ?_)
    exact hQ c I1 hF1 h1
  · refine v_ldc (q := 9) cX7_97 dX7_back_7 (kk := ?_)
    refine v_iret dX7_back_9 (hQ := ?_)
    exact h0 c
end T11
