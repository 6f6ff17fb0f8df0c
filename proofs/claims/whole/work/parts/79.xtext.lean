theorem dpS_congr {c c' : Nat → Int32} : ∀ n, (∀ j, j < n → c' j = c j) → dpS c' n = dpS c n
  | 0, _ => rfl
  | n + 1, h => by simp only [dpS]; rw [h n (by omega), dpS_congr n (fun j hj => h j (by omega))]
theorem lvS_congr {c c' : Nat → Int32} : ∀ n, (∀ j, j < n → c' j = c j) → lvS c' n = lvS c n
  | 0, _ => rfl
  | n + 1, h => by simp only [lvS]; rw [h n (by omega), lvS_congr n (fun j hj => h j (by omega))]
theorem okC_congr {c c' : Nat → Int32} {n nm : Nat} (h : ∀ j, j < n → c' j = c j) (hk : okC c n nm) : okC c' n nm := by
  refine ⟨fun k hk' => ?_, by rw [dpS_congr n h]; exact hk.2⟩
  rw [h k hk', dpS_congr k (fun j hj => h j (by omega))]
  exact hk.1 k hk'
theorem TW_of {N N' : hN} {t key cn lv : Nat} (h : TW N t key cn lv) (h1 : N' (93 + 2 * t) = N (93 + 2 * t)) (h2 : N' (94 + 2 * t) = N (94 + 2 * t)) (h3 : ∀ k, k < 96 → N' (121 + 96 * t + k) = N (121 + 96 * t + k)) : TW N' t key cn lv := by
  obtain ⟨a1, a2, a3, a4, a5, a6⟩ := h
  have hc : ∀ j, j < cn → cdN N' t j = cdN N t j := fun j hj => h3 j (by omega)
  exact ⟨a1, a2, h1.trans a3, h2.trans a4, by rw [lvS_congr cn hc]; exact a5, okC_congr hc a6⟩
section
variable {N : hN} {nt key A : Nat} {C : List Int32}
theorem txF_ne {i : Nat} (h1 : i ≠ 8) (h2 : i ≠ 93 + 2 * nt) (h3 : i ≠ 94 + 2 * nt) (h4 : ¬ (121 + 96 * nt ≤ i ∧ i < 121 + 96 * nt + C.length)) : txF N nt key C A i = N i := by
  unfold txF
  rw [if_neg h1, if_neg h2, if_neg h3, if_neg h4]
theorem txF_lo {i : Nat} (h1 : i ≠ 8) (h2 : i < 93) : txF N nt key C A i = N i := txF_ne h1 (by omega) (by omega) (by omega)
theorem txF_key (hn : nt < 14) : txF N nt key C A (93 + 2 * nt) = nI (1000 * key + C.length) := by
  unfold txF
  rw [if_neg (by omega), if_pos rfl]
theorem txF_at (hn : nt < 14) : txF N nt key C A (94 + 2 * nt) = nI A := by
  unfold txF
  rw [if_neg (by omega), if_neg (by omega), if_pos rfl]
theorem txF_8 : txF N nt key C A 8 = nI (nt + 1) := by
  unfold txF
  rw [if_pos rfl]
theorem txF_cd (hn : nt < 14) {k : Nat} (hk : k < C.length) : cdN (txF N nt key C A) nt k = rvF C k := by
  unfold cdN txF
  rw [if_neg (by omega), if_neg (by omega), if_neg (by omega), if_pos (by omega)]
  congr 1
  omega
theorem txF_old {t cn lv k : Nat} (ht : t < nt) (hn : nt < 14) (h : TW N t k cn lv) : TW (txF N nt key C A) t k cn lv :=
  TW_of h (txF_ne (by omega) (by omega) (by omega) (by omega)) (txF_ne (by omega) (by omega) (by omega) (by omega)) (fun j hj => txF_ne (by omega) (by omega) (by omega) (by omega))
theorem txF_new (hn : nt < 14) (hkey : key < 3) (h1 : okL (if key = 0 then 3 else 2) C) (h2 : dpL C = 1) (h3 : lvL C = A) (h4 : C.length ≤ 95) : TW (txF N nt key C A) nt key C.length A := by
  have hc : ∀ j, j < C.length → cdN (txF N nt key C A) nt j = rvF C j := fun j hj => txF_cd hn hj
  refine ⟨hkey, by omega, txF_key hn, txF_at hn, ?_, okC_congr hc ⟨?_, ?_⟩⟩
  · rw [lvS_congr _ hc, ← lvL_ls, lsF_rv]
    exact h3.symm
  · rw [← lsF_rv C] at h1
    exact okL_ls _ h1
  · rw [← dpL_ls, lsF_rv]
    exact h2
theorem cnt_old {k : Nat} (hn : nt < 14) : ∀ t, t ≤ nt → cntF (txF N nt key C A) k t = cntF N k t
  | 0, _ => rfl
  | t + 1, ht => by
    simp only [cntF]
    rw [txF_ne (by omega) (by omega) (by omega) (by omega), cnt_old hn t (by omega)]
theorem cnt_new {k : Nat} (hn : nt < 14) (hkey : key < 3) (hk : k < 3) (h4 : C.length ≤ 95) : cntF (txF N nt key C A) k (nt + 1) = if key = k then some nt else cntF N k nt := by
  simp only [cntF]
  rw [txF_key hn, cnt_old hn nt (Nat.le_refl _), show (1000 : Int32) = nI 1000 from rfl, pk_div (by omega) (by omega) (by omega)]
  have e : (1000 * key + C.length) / 1000 = key := by omega
  rw [e]
  by_cases c : key = k
  · rw [if_pos (by rw [c]), if_pos c]
  · rw [if_neg (fun h => c ((nI_eq (by omega) (by omega)).mp h)), if_neg c]
theorem XW.text {np nb sec : Nat} (h : XW N np nb nt sec) (hn : nt < 14) (hkey : key < 3) (h1 : okL (if key = 0 then 3 else 2) C) (h2 : dpL C = 1) (h3 : lvL C = A) (h4 : C.length ≤ 95) : XW (txF N nt key C A) np nb (nt + 1) sec := by
  obtain ⟨⟨a1, a2, a3, a4, a5, a6, a7, a8, a9, a10, a11⟩, b1, b2⟩ := h
  refine ⟨⟨?_, ?_, ⟨txF_8, by omega⟩, ?_, ?_, ?_, ?_, ?_, fun k hk => ?_, fun p hp => ?_, fun t ht => ?_⟩, b1, fun k h5 h6 => ?_⟩
  · rw [txF_lo (by omega) (by omega)]; exact a1
  · rw [txF_lo (by omega) (by omega)]; exact a2
  · rw [txF_lo (by omega) (by omega)]; exact a4
  · rw [txF_lo (by omega) (by omega)]; exact a5
  · rw [txF_lo (by omega) (by omega)]; exact a6
  · rw [txF_lo (by omega) (by omega)]; exact a7
  · rw [txF_lo (by omega) (by omega)]; exact a8
  · rw [txF_lo (by omega) (by omega)]; exact a9 k hk
  · exact PW_congr (a10 p hp) (fun j hj => txF_lo (by omega) (by omega))
  · by_cases e : t = nt
    · rw [e]; exact ⟨key, C.length, A, txF_new hn hkey h1 h2 h3 h4⟩
    · obtain ⟨k, cn, lv, q⟩ := a11 t (by omega)
      exact ⟨k, cn, lv, txF_old (by omega) hn q⟩
  · rw [txF_lo (by omega) (by omega)]; exact b2 k h5 h6
end
section L20
variable {g : hcG} {S S' : hcS} {I I' : hcI} {R R' : hcR} {z : Nat} {Q : hcQ} {b a tl : Nat} {tp : Nat → Int32} {N : hN}
theorem TxAt.new {x t : Nat} (h : TxAt S I R b x N t) (hsz : ∀ y, z ≤ y → S y = none) (hS : ∀ y, y < z → S' y = S y) (hI : ∀ y, b + 103 ≤ y → y < z → I' y = I y) (hR : ∀ y, b + 103 ≤ y → y < z → R' y = R y) : TxAt S' I' R' b x N t := by
  obtain ⟨⟨q1, q2⟩, key, cn, lv, a1, a2, a3, a4, a5, a6, a7, a8, a9⟩ := h
  have lz : x + 2 < z := by
    rcases Nat.lt_or_ge (x + 2) z with h | h
    · exact h
    · rw [hsz _ h] at a4; cases a4
  refine ⟨⟨q1, q2⟩, key, cn, lv, a1, ?_, ?_, ?_, ?_, ?_, ?_, ?_, fun k hk => ?_⟩
  · rw [hS _ (by omega)]; exact a2
  · rw [hS _ (by omega)]; exact a3
  · rw [hS _ (by omega)]; exact a4
  · rw [hR _ (by omega) (by omega)]; exact a5
  · rw [hR _ (by omega) (by omega)]; exact a6
  · rw [hI _ (by omega) (by omega)]; exact a7
  · rw [hI _ (by omega) (by omega)]; exact a8
  · rw [hI _ (by omega) (by omega)]; exact a9 k hk
theorem HD.new {np nb nt : Nat} (h : HD S I R b a N np nb nt) (hp : np ≤ 10) (hsz : ∀ y, z ≤ y → S y = none) (hS : ∀ y, y < z → S' y = S y) (hI : ∀ y, b + 103 ≤ y → y < z → I' y = I y) (hR : ∀ y, b + 103 ≤ y → y < z → R' y = R y) (h1 : ∀ y, a ≤ y → y < a + 15 → I' y = I y) (h3 : R' (a + 3) = R (a + 3)) : HD S' I' R' b a N np nb nt := by
  obtain ⟨k3, k4, k5, k6, k7⟩ := h
  refine ⟨?_, fun k hk => ?_, fun p hp j hj => ?_, fun k hk => ?_, fun t ht => ?_⟩
  · rw [h1 a (by omega) (by omega)]; exact k3
  · rw [h1 (a + 2) (by omega) (by omega)]; exact k4 k hk
  · rw [h1 (a + 5 + p) (by omega) (by omega)]; exact k5 p hp j hj
  · rw [h1 (a + 4) (by omega) (by omega)]; exact k6 k hk
  · obtain ⟨x, hx, ht2⟩ := k7 t ht
    exact ⟨x, by rw [h3]; exact hx, ht2.new hsz hS hI hR⟩
theorem HD.text {np nb nt key A x : Nat} {C : List Int32} (h : HD S I R b a N np nb nt) (hab : a + 15 ≤ b + 103) (hp : np ≤ 10) (hb24 : nb ≤ 24) (hn : nt < 14) (hkey : key < 3) (h1 : okL (if key = 0 then 3 else 2) C) (h2 : dpL C = 1) (h3 : lvL C = A) (h4 : C.length ≤ 95) (hx : b + 103 ≤ x ∧ (x - (b + 103)) % 3 = 0) (s0 : S x = some (5, 0)) (s1 : S (x + 1) = some (10, C.length)) (s2 : S (x + 2) = some (10, A)) (i0 : I x 0 = nI key) (i1 : I x 1 = nI A) (r2 : R x 2 = some (x + 1)) (r3 : R x 3 = some (x + 2)) (hc : ∀ k, k < C.length → I (x + 1) k = trc (rvF C k)) : HD S (hc_u (hc_u I (a + 4) key (nI nt)) a 6 (nI (nt + 1))) (hc_ur R (a + 3) nt (some x)) b a (txF N nt key C A) np nb (nt + 1) := by
  obtain ⟨⟨k0, k1, k2, k3, k4, k5, k6, k7, k8⟩, l4, l5, l6, l7⟩ := h
  have fa : ∀ j, j ≠ 6 → hc_u (hc_u I (a + 4) key (nI nt)) a 6 (nI (nt + 1)) a j = I a j := fun j hj => by rw [hc_u_at, upd_ne hj, hc_u_ne (by omega)]
  have fy : ∀ y, y ≠ a → y ≠ a + 4 → hc_u (hc_u I (a + 4) key (nI nt)) a 6 (nI (nt + 1)) y = I y := fun y h1 h2 => by rw [hc_u_ne h1, hc_u_ne h2]
  refine ⟨⟨?_, ?_, ?_, ?_, ?_, ?_, ?_, ?_, ?_⟩, fun k hk => ?_, fun p hp j hj => ?_, fun k hk => ?_, fun t ht => ?_⟩
  · rw [fa _ (by omega), txF_lo (by omega) (by omega)]; exact k0
  · rw [fa _ (by omega), txF_lo (by omega) (by omega)]; exact k1
  · rw [hc_u_at, upd_at, txF_8]
  · rw [fa _ (by omega), txF_lo (by omega) (by omega)]; exact k3
  · rw [fa _ (by omega), txF_lo (by omega) (by omega)]; exact k4
  · rw [fa _ (by omega), txF_lo (by omega) (by omega)]; exact k5
  · rw [fa _ (by omega), txF_lo (by omega) (by omega)]; exact k6
  · rw [fa _ (by omega), txF_lo (by omega) (by omega)]; exact k7
  · rw [fa _ (by omega), txF_lo (by omega) (by omega)]; exact k8
  · rw [fy _ (by omega) (by omega), txF_lo (by omega) (by omega)]; exact l4 k hk
  · rw [fy _ (by omega) (by omega), txF_lo (by omega) (by omega)]; exact l5 p hp j hj
  · rw [hc_u_ne (by omega), hc_u_at, cnt_new hn hkey hk h4]
    by_cases c : key = k
    · rw [if_pos c, c, upd_at]; rfl
    · rw [if_neg c, upd_ne (fun h => c h.symm)]; exact l6 k hk
  · rw [hc_ur_at]
    unfold va_up
    by_cases e : t = nt
    · rw [if_pos e]
      refine ⟨x, rfl, hx, key, C.length, A, by rw [e]; exact txF_new hn hkey h1 h2 h3 h4, s0, s1, s2, ?_, ?_, ?_, ?_, fun k hk => ?_⟩
      · rw [hc_ur_ne (by omega)]; exact r2
      · rw [hc_ur_ne (by omega)]; exact r3
      · rw [fy _ (by omega) (by omega)]; exact i0
      · rw [fy _ (by omega) (by omega)]; exact i1
      · rw [fy _ (by omega) (by omega), e, txF_cd hn hk]; exact hc k hk
    · rw [if_neg e]
      obtain ⟨y, hy, ⟨q1, q2⟩, ky, cn, lv, b1, b2, b3, b4, b5, b6, b7, b8, b9⟩ := l7 t (by omega)
      have hcn := b1.2.1
      refine ⟨y, hy, ⟨q1, q2⟩, ky, cn, lv, txF_old (by omega) hn b1, b2, b3, b4, ?_, ?_, ?_, ?_, fun k hk => ?_⟩
      · rw [hc_ur_ne (by omega)]; exact b5
      · rw [hc_ur_ne (by omega)]; exact b6
      · rw [fy _ (by omega) (by omega)]; exact b7
      · rw [fy _ (by omega) (by omega)]; exact b8
      · rw [fy _ (by omega) (by omega), b9 k hk]
        congr 1
        unfold cdN
        exact (txF_ne (by omega) (by omega) (by omega) (by omega)).symm
theorem s_takesText {nt key x : Nat} (hk : HSk S R a) (h6 : I a 6 = nI nt) (hn : nt < 14) (sx : S x = some (5, 0)) (i0 : I x 0 = nI key) (hkey : key < 3) (hxa : x ≠ a ∧ x ≠ a + 4) (hQ : Q (some (.int (nI nt))) S (hc_u (hc_u I (a + 4) key (nI nt)) a 6 (nI (nt + 1))) (hc_ur R (a + 3) nt (some x)) z) : Cl g mX0_takesText 0 0 0 S I R z [.ref a, .ref x] Q := by
  obtain ⟨s0, s1, s2, s3, s4, r0, r1, r2, r3, -⟩ := hk
  have r3' : hc_ur R (a + 3) nt (some x) a 3 = some (a + 4) := by rw [hc_ur_ne (by omega)]; exact r3
  refine Cl.go [some (.ref a), some (.ref x)] ?_
  refine v_aload_n (q := 1) dX0_takesText_0 (kk := ?_)
  refine v_getR (q := 4) fX0_23 (by assumption) (by assumption) (hd := dX0_takesText_1) (kk := ?_)
  refine v_aload_n (q := 5) dX0_takesText_4 (kk := ?_)
  refine v_getI (q := 8) fX0_51 (by assumption) (hd := dX0_takesText_5) (kk := ?_)
  rw [h6]
  refine v_aload_n (q := 9) dX0_takesText_8 (kk := ?_)
  refine v_aast (q := 10) s3 sx (vp_in_nI (show nt < 14 from hn) (by omega)) (hd := dX0_takesText_9) (kk := ?_)
  rw [nI_clamp (by omega)]
  refine v_aload_n (q := 11) dX0_takesText_10 (kk := ?_)
  refine v_getR (q := 14) fX0_27 s0 r3' (hd := dX0_takesText_11) (kk := ?_)
  refine v_aload_n (q := 15) dX0_takesText_14 (kk := ?_)
  refine v_getI (q := 18) fX0_106 sx (hd := dX0_takesText_15) (kk := ?_)
  rw [i0]
  refine v_aload_n (q := 19) dX0_takesText_18 (kk := ?_)
  refine v_getI (q := 22) fX0_51 s0 (hd := dX0_takesText_19) (kk := ?_)
  rw [h6]
  refine v_iastE (q := 23) (key) (by rfl) (by assumption) (by omega) (by omega) (hd := dX0_takesText_22) (kk := ?_)
  refine v_aload_n (q := 24) dX0_takesText_23 (kk := ?_)
  refine v_dup (q := 25) dX0_takesText_24 (kk := ?_)
  refine v_getI (q := 28) fX0_51 s0 (hd := dX0_takesText_25) (kk := ?_)
  rw [hc_u_ne (by omega), h6]
  refine v_iconst (v := 1) (q := 29) dX0_takesText_28 (kk := ?_)
  refine v_iadd (q := 30) dX0_takesText_29 (kk := ?_)
  rw [nI_1]
  refine v_putI (q := 33) fX0_51 s0 (hd := dX0_takesText_30) (kk := ?_)
  refine v_aload_n (q := 34) dX0_takesText_33 (kk := ?_)
  refine v_getI (q := 37) fX0_51 s0 (hd := dX0_takesText_34) (kk := ?_)
  rw [hc_u_at, upd_at]
  refine v_iconst (v := 1) (q := 38) dX0_takesText_37 (kk := ?_)
  refine v_isub (q := 39) dX0_takesText_38 (kk := ?_)
  rw [nI_pred]
  refine v_iret dX0_takesText_39 (hQ := ?_)
  exact hQ
/-- what text changes of the class -/
def FX (b z : Nat) (S : hcS) (I : hcI) (R : hcR) (S' : hcS) (I' : hcI) (R' : hcR) : Prop := (∀ y, y < z → S' y = S y) ∧ (∀ y, y < z → y ≠ b → y ≠ b + 1 → y ≠ b + 5 → y ≠ b + 46 → y ≠ b + 47 → I' y = I y) ∧ (∀ k, k ≠ 9 → I' b k = I b k) ∧ (∀ y, y < z → y ≠ b + 4 → y ≠ b + 46 → R' y = R y) ∧ ∀ k, k ≠ 2 → R' (b + 46) k = R (b + 46) k
theorem x_text (hx : XSk S R b) (hn : XN S I R b N) (hsz : ∀ y, z ≤ y → S y = none) (hz : b + 103 ≤ z ∧ (z - (b + 103)) % 3 = 0) (h9 : I b 9 = nI tl) (htl : tl ≤ 96) (htp : TPc I b tl tp)
    (hQ0 : ∀ (q : Nat) (I' : hcI) (R' : hcR), rtF tp tl = Sum.inl q → FX b z S I R S I' R' → XN S I' R' b N → I' b 9 = nI 0 → Q (some (.int (-100 - nI q))) S I' R' z)
    (hQF : ∀ (key : Nat) (C : List Int32) (A : Nat) (S' : hcS) (I' : hcI) (R' : hcR), rtF tp tl = Sum.inr (key, C, A) → ntN N = 14 → FX b z S I R S' I' R' → (∀ y, z + 3 ≤ y → S' y = none) → XN S' I' R' b N → I' b 9 = nI 0 → Q (some (.int (-1000000003))) S' I' R' (z + 3))
    (hQ1 : ∀ (key : Nat) (C : List Int32) (A : Nat) (S' : hcS) (I' : hcI) (R' : hcR), rtF tp tl = Sum.inr (key, C, A) → ntN N < 14 → FX b z S I R S' I' R' → (∀ y, z + 3 ≤ y → S' y = none) → XN S' I' R' b (txF N (ntN N) key C A) → I' b 9 = nI 0 → Q (some (.int (nI (ntN N)))) S' I' R' (z + 3)) : Cl g mX6_text 113 3 200 S I R z [.ref b] Q := by
  obtain ⟨np, nb, nt, sec, hw, hd⟩ := hn
  obtain ⟨e1, e2, e3, e4⟩ := hw.e
  rw [e3] at hQF hQ1
  have n8 := hw.1.2.2.1
  have hp10 := hw.1.1.2
  have hb24 := hw.1.2.1.2.2
  obtain ⟨⟨s0, x0, x1, x2, x3, x4, x5, x6, x7⟩, ⟨k1, k2, k3⟩, ⟨t0, t1, t2, t3⟩, y3, y4, ⟨y5, y6⟩⟩ := hx
  refine Cl.go [some (.ref b), none] ?_
  refine v_aload_n (q := 1) dX6_text_0 (kk := ?_)
  refine v_getR (q := 4) fX6_25 (by assumption) (by assumption) (hd := dX6_text_1) (kk := ?_)
  refine v_aload_n (q := 5) dX6_text_4 (kk := ?_)
  refine v_getR (q := 8) fX6_41 (by assumption) (by assumption) (hd := dX6_text_5) (kk := ?_)
  refine v_aload_n (q := 9) dX6_text_8 (kk := ?_)
  refine v_getI (q := 12) fX6_194 (by assumption) (hd := dX6_text_9) (kk := ?_)
  rw [h9]
  obtain ⟨R1, hR1⟩ : ∃ R1, hc_ur R (b + 46) 2 (some (b + 51)) = R1 := ⟨_, rfl⟩
  have rR1 : ∀ y, y ≠ b + 46 → R1 y = R y := fun y hy => by rw [← hR1, hc_ur_ne hy]
  have rR2 : ∀ k, k ≠ 2 → R1 (b + 46) k = R (b + 46) k := fun k hk => by rw [← hR1, hc_ur_at]; unfold va_up; rw [if_neg hk]
  refine V.less (kc' := 0 + 3) (ks' := 0 + 200) ?_ (by omega) (by omega)
  refine v_cV2B (N := mX2_readTape) (q := 15) lX6_201 iX2_readTape kX2_readTape (by assumption) dX6_text_12 (s_readTape (r := b + 46) (c := b + 51) (cd := b + 47) (tl := tl) (tp := tp) t0 t3 t1 y5 (by omega) (by omega) (by omega) (by omega) (by omega) htl htp.tb htp.cb (fun q I2 hr hF h0 => ?_) (fun key C A S2 I2 R2 hr hkey o1 o2 o3 o4 hS2 hI2 hR2 u1 u2 u3 u4 u5 u6 u7 u8 => ?_))
  · rw [hR1]
    have xb : R1 b 3 = some (b + 46) := by rw [rR1 b (by omega)]; exact x3
    refine v_astoreN1 (q := 16) dX6_text_15 (kk := ?_)
    refine v_aload_n (q := 17) dX6_text_16 (kk := ?_)
    refine v_iconst (v := 0) (q := 18) dX6_text_17 (kk := ?_)
    refine v_putI (q := 21) fX6_194 (by assumption) (hd := dX6_text_18) (kk := ?_)
    refine v_aload_nN (q := 22) dX6_text_21 (kk := ?_)
    refine v_ifnonnullN (q := 25) dX6_text_22 (kt := ?_)
    refine v_bipush (v := (-100)) (q := 27) dX6_text_25 (kk := ?_)
    refine v_aload_n (q := 28) dX6_text_27 (kk := ?_)
    refine v_getR (q := 31) fX6_25 (by assumption) (by assumption) (hd := dX6_text_28) (kk := ?_)
    refine v_getI (q := 34) fX6_205 t0 (hd := dX6_text_31) (kk := ?_)
    rw [hc_u_ne (by omega), h0]
    refine v_isub (q := 35) dX6_text_34 (kk := ?_)
    refine v_iret dX6_text_35 (hQ := ?_)
    have fy : ∀ y, y ≠ b → y ≠ b + 46 → y ≠ b + 47 → hc_u I2 b 9 0 y = I y := fun y a1 a2 a3 => (hc_u_ne a1).trans (hF y a2 a3)
    refine hQ0 q _ R1 hr ⟨fun _ _ => rfl, fun y _ a1 _ _ a4 a5 => fy y a1 a4 a5, fun k hk => ?_, fun y _ _ a2 => rR1 y a2, rR2⟩ ⟨np, nb, nt, sec, hw, ?_⟩ ?_
    · rw [hc_u_at, upd_ne hk, hF b (by omega) (by omega)]
    · exact hd.new hp10 hsz (fun _ _ => rfl) (fun y a1 _ => fy y (by omega) (by omega) (by omega)) (fun y a1 _ => rR1 y (by omega)) (fun y a1 a2 => fy y (by omega) (by omega) (by omega)) (rR1 _ (by omega))
    · rw [hc_u_at, upd_at]; rfl
  · rw [hR1] at hR2
    have sb2 : S2 b = some (6, 0) := by rw [hS2 b (by omega)]; exact s0
    have rb0 : R2 b 0 = some (b + 1) := by rw [hR2 b (by omega), rR1 b (by omega)]; exact x0
    have k1' : HSk S2 R2 (b + 1) := by
      obtain ⟨v0, v1, v2, v3, v4, v5, v6, v7, v8, v9⟩ := k1
      refine ⟨?_, ?_, ?_, ?_, ?_, ?_, ?_, ?_, ?_, fun p hp => ⟨?_, ?_⟩⟩
      · rw [hS2 _ (by omega)]; exact v0
      · rw [hS2 _ (by omega)]; exact v1
      · rw [hS2 _ (by omega)]; exact v2
      · rw [hS2 _ (by omega)]; exact v3
      · rw [hS2 _ (by omega)]; exact v4
      · rw [hR2 _ (by omega), rR1 _ (by omega)]; exact v5
      · rw [hR2 _ (by omega), rR1 _ (by omega)]; exact v6
      · rw [hR2 _ (by omega), rR1 _ (by omega)]; exact v7
      · rw [hR2 _ (by omega), rR1 _ (by omega)]; exact v8
      · rw [hS2 _ (by omega)]; exact (v9 p hp).1
      · rw [hR2 _ (by omega), rR1 _ (by omega)]; exact (v9 p hp).2
    obtain ⟨I3, hI3⟩ : ∃ I3, hc_u I2 b 9 0 = I3 := ⟨_, rfl⟩
    have fy : ∀ y, y < z → y ≠ b → y ≠ b + 46 → y ≠ b + 47 → I3 y = I y := fun y a0 a1 a2 a3 => by rw [← hI3, hc_u_ne a1]; exact hI2 y a0 a2 a3
    have fb : ∀ k, k ≠ 9 → I3 b k = I b k := fun k hk => by rw [← hI3, hc_u_at, upd_ne hk, hI2 b (by omega) (by omega) (by omega)]
    have f9 : I3 b 9 = nI 0 := by rw [← hI3, hc_u_at, upd_at]; rfl
    have gy : ∀ y, y ≠ b → I3 y = I2 y := fun y hy => by rw [← hI3, hc_u_ne hy]
    have hd3 : HD S2 I3 R2 b (b + 1) N np nb nt := hd.new hp10 hsz (fun y hy => hS2 y (by omega)) (fun y a1 a2 => fy y a2 (by omega) (by omega) (by omega)) (fun y a1 a2 => (hR2 y a2).trans (rR1 y (by omega))) (fun y a1 a2 => fy y (by omega) (by omega) (by omega) (by omega)) ((hR2 _ (by omega)).trans (rR1 _ (by omega)))
    have i6 : I3 (b + 1) 6 = nI nt := by rw [hd3.1.2.2.1]; exact n8.1
    have sh := k1'.1
    have hSn : ∀ y, z + 3 ≤ y → S2 y = none := fun y hy => by rw [hS2 y (by omega)]; exact hsz y (by omega)
    refine v_astore1 (q := 16) dX6_text_15 (kk := ?_)
    refine v_aload_n (q := 17) dX6_text_16 (kk := ?_)
    refine v_iconst (v := 0) (q := 18) dX6_text_17 (kk := ?_)
    refine v_putI (q := 21) fX6_194 sb2 (hd := dX6_text_18) (kk := ?_)
    rw [hI3]
    refine v_aload_n (q := 22) dX6_text_21 (kk := ?_)
    refine v_ifnonnull 36 dX6_text_22 (kt := ?_)
    refine v_aload_n (q := 37) dX6_text_36 (kk := ?_)
    refine v_getR (q := 40) fX6_12 sb2 rb0 (hd := dX6_text_37) (kk := ?_)
    refine v_getI (q := 43) fX6_208 sh (hd := dX6_text_40) (kk := ?_)
    rw [i6]
    refine v_bipush (v := 14) (q := 45) dX6_text_43 (kk := ?_)
    by_cases c14 : nt = 14
    · refine v_icmp_ltF (q := 48) (t := 53) dX6_text_45 (fun h => by have := (nI_ltI (b := 14) (by omega) (by omega)).mp h; omega) (kf := ?_)
      refine v_ldc (q := 50) cX6_65 dX6_text_48 (kk := ?_)
      refine v_goto 61 dX6_text_50 (kt := ?_)
      refine v_iret dX6_text_61 (hQ := ?_)
      exact hQF key C A S2 I3 R2 hr c14 ⟨fun y hy => hS2 y (by omega), fun y a0 a1 _ _ a4 a5 => fy y a0 a1 a4 a5, fb, fun y a0 _ a2 => (hR2 y a0).trans (rR1 y a2), fun k hk => by rw [hR2 _ (by omega)]; exact rR2 k hk⟩ hSn ⟨np, nb, nt, sec, hw, hd3⟩ f9
    · have hn14 : nt < 14 := by omega
      refine v_icmp_ltT 53 dX6_text_45 (nI_lt (b := 14) (by omega) (by omega)) (kt := ?_)
      refine v_aload_n (q := 54) dX6_text_53 (kk := ?_)
      refine v_getR (q := 57) fX6_12 sb2 rb0 (hd := dX6_text_54) (kk := ?_)
      refine v_aload_n (q := 58) dX6_text_57 (kk := ?_)
      refine v_cV1 (N := mX0_takesText) (q := 61) lX6_211 iX0_takesText kX0_takesText sh dX6_text_58 (s_takesText k1' i6 hn14 u1 ((congrFun (gy z (by omega)) 0).trans u4) hkey (by omega) ?_)
      refine v_iret dX6_text_61 (hQ := ?_)
      have hd4 := hd3.text (by omega) hp10 hb24 hn14 hkey o1 o2 o3 o4 hz u1 u2 u3 ((congrFun (gy z (by omega)) 0).trans u4) ((congrFun (gy z (by omega)) 1).trans u5) u6 u7 (fun k hk => (congrFun (gy (z + 1) (by omega)) k).trans (u8 k hk))
      refine hQ1 key C A S2 _ _ hr hn14 ⟨fun y hy => hS2 y (by omega), fun y a0 a1 a2 a3 a4 a5 => ?_, fun k hk => ?_, fun y a0 a1 a2 => ?_, fun k hk => ?_⟩ hSn ⟨np, nb, nt + 1, sec, hw.text hn14 hkey o1 o2 o3 o4, hd4⟩ ?_
      · rw [hc_u_ne a2, hc_u_ne (by omega)]; exact fy y a0 a1 a4 a5
      · rw [hc_u_ne (by omega), hc_u_ne (by omega)]; exact fb k hk
      · rw [hc_ur_ne (by omega)]; exact (hR2 y a0).trans (rR1 y a2)
      · rw [hc_ur_ne (by omega), hR2 _ (by omega)]; exact rR2 k hk
      · rw [hc_u_ne (by omega), hc_u_ne (by omega)]; exact f9
end L20
