theorem V.less {g : hcG} {M : hcM} {d kc ks kc' ks' : Nat} {S : hcS} {I : hcI} {R : hcR} {z pc : Nat} {L : List (Option Value)} {st : List Value} {Q : hcQ} (h : V g M d kc' ks' S I R z pc L st Q) (h1 : kc' ≤ kc) (h2 : ks' ≤ ks) : V g M d kc ks S I R z pc L st Q := by
  intro p l e s m args below meth c H locs cells slots ls Rm mc ms D K C
  obtain ⟨hx, hb, hml, hr, hlk, hown, hnm, hts, hG, hbs, hw, hz, hS, hL, r1, r2, r3, r4, r5, r6⟩ := C
  exact h p l e s m args below meth c H locs cells slots ls Rm mc ms D K ⟨hx, hb, hml, hr, hlk, hown, hnm, hts, hG, hbs, hw, hz, hS, hL, r1, r2, by omega, by omega, r5, r6⟩
theorem lvL_le : ∀ C : List Int32, lvL C ≤ C.length
  | [] => Nat.le_refl _
  | c :: C => by
    have := lvL_le C
    simp only [lvL, List.length_cons]
    split <;> omega
section L18
variable {g : hcG} {S : hcS} {I : hcI} {R : hcR} {z : Nat} {Q : hcQ}
theorem s_copyOf {a n : Nat} (sa : S a = some (10, 96)) (ha : a < z) (hn : n < 96) (hQ : ∀ (S' : hcS) (I' : hcI) (R' : hcR), (∀ x, x ≠ z → S' x = S x ∧ I' x = I x ∧ R' x = R x) → S' z = some (10, n) → (∀ k, k < n → I' z k = I a k) → Q (some (.ref z)) S' I' R' (z + 1)) : Cl g mJ7_copyOf_59c91 2 (0 + 1) (0 + n) S I R z [.ref a, .int (nI n)] Q := by
  refine Cl.go [some (.ref a), some (.int (nI n)), none] ?_
  refine v_iload_n (q := 1) dJ7_copyOf_59c91_0 (kk := ?_)
  refine v_aload_n (q := 2) dJ7_copyOf_59c91_1 (kk := ?_)
  refine v_alen (q := 3) sa (hd := dJ7_copyOf_59c91_2) (kk := ?_)
  refine v_icmp_neT 14 dJ7_copyOf_59c91_3 (fun h => by have := (nI_eq (by omega) (by omega)).mp h; omega) (kt := ?_)
  refine v_iload_n (q := 15) dJ7_copyOf_59c91_14 (kk := ?_)
  refine v_newa (q := 17) n ac10 dJ7_copyOf_59c91_15 (hn := nI_pos (by omega)) (hN := nI_clamp (by omega)) (hsm := by omega) (kk := ?_)
  have sa' : (fun x => if x = z then some (10, n) else S x) a = some (10, 96) := (if_neg (by omega)).trans sa
  have sz' : (fun x => if x = z then some (10, n) else S x) z = some (10, n) := if_pos rfl
  refine v_astore2 (q := 18) dJ7_copyOf_59c91_17 (kk := ?_)
  refine v_aload_n (q := 19) dJ7_copyOf_59c91_18 (kk := ?_)
  refine v_iconst (v := 0) (q := 20) dJ7_copyOf_59c91_19 (kk := ?_)
  refine v_aload_n (q := 21) dJ7_copyOf_59c91_20 (kk := ?_)
  refine v_iconst (v := 0) (q := 22) dJ7_copyOf_59c91_21 (kk := ?_)
  refine v_aload_n (q := 23) dJ7_copyOf_59c91_22 (kk := ?_)
  refine v_alen (q := 24) sa' (hd := dJ7_copyOf_59c91_23) (kk := ?_)
  refine v_iload_n (q := 25) dJ7_copyOf_59c91_24 (kk := ?_)
  refine v_cS2 (N := mJ9_min_7cf53) (q := 28) lJ7_304 sJ9_min_7cf53 kJ9_min_7cf53 dJ7_copyOf_59c91_25 (s_min ?_)
  rw [show hc_min (nI 96) (nI n) = nI n from if_neg (fun h => by have := (nI_leI (by omega) (by omega)).mp h; omega)]
  refine v_acopy (q := 31) lJ7_150 hc_an hc_as hc_ai sa' sz' (by decide) (by decide) (nI_pos (by omega)) (by rw [nI_clamp (by omega)]; show 0 + n ≤ 96; omega) (by rw [nI_clamp (by omega)]; show 0 + n ≤ n; omega) dJ7_copyOf_59c91_28 (kk := ?_)
  refine v_aload_n (q := 32) dJ7_copyOf_59c91_31 (kk := ?_)
  refine v_aret dJ7_copyOf_59c91_32 (Or.inr ⟨_, rfl⟩) (Or.inr ⟨_, rfl⟩) (hQ := ?_)
  refine hQ _ _ _ (fun x hx => ⟨?_, ?_, ?_⟩) sz' (fun k hk => ?_)
  · exact if_neg hx
  · exact (if_neg hx).trans (if_neg hx)
  · exact if_neg hx
  · refine (congrFun (if_pos rfl) k).trans ?_
    rw [nI_clamp (by omega)]
    unfold va_cpy
    rw [if_pos ⟨Nat.zero_le _, by show k < 0 + n; omega⟩]
    refine (congrFun (if_neg (by omega)) _).trans ?_
    congr 1
    show 0 + (k - 0) = k
    omega
theorem s_newText {x y A : Nat} {key : Int32} (sx : S x = some (5, 0)) (hx : x < z) (hA : A ≤ 96) (hQ : ∀ (S' : hcS) (I' : hcI) (R' : hcR), (∀ w, w ≠ z → S' w = S w) → (∀ w, w ≠ x → w ≠ z → I' w = I w ∧ R' w = R w) → S' z = some (10, A) → I' x 0 = key → I' x 1 = nI A → R' x 2 = some y → R' x 3 = some z → Q none S' I' R' (z + 1)) : Cl g mX5_init 1 (0 + 1) (0 + A) S I R z [.ref x, .int key, .int (nI A), .ref y] Q := by
  refine Cl.go [some (.ref x), some (.int key), some (.int (nI A)), some (.ref y)] ?_
  refine v_aload_n (q := 1) dX5_init_0 (kk := ?_)
  refine v_obj (q := 4) lX5_1 hc_oi hc_oc dX5_init_1 (kk := ?_)
  refine v_aload_n (q := 5) dX5_init_4 (kk := ?_)
  refine v_iload_n (q := 6) dX5_init_5 (kk := ?_)
  refine v_putFI (q := 9) fX5_7 (by assumption) (hd := dX5_init_6) (kk := ?_)
  refine v_aload_n (q := 10) dX5_init_9 (kk := ?_)
  refine v_iload_n (q := 11) dX5_init_10 (kk := ?_)
  refine v_putFI (q := 14) fX5_13 (by assumption) (hd := dX5_init_11) (kk := ?_)
  refine v_aload_n (q := 15) dX5_init_14 (kk := ?_)
  refine v_aload_n (q := 16) dX5_init_15 (kk := ?_)
  refine v_putFR (q := 19) fX5_16 (by assumption) (hd := dX5_init_16) (kk := ?_)
  refine v_aload_n (q := 20) dX5_init_19 (kk := ?_)
  refine v_iconst (v := 0) (q := 21) dX5_init_20 (kk := ?_)
  refine v_iload_n (q := 22) dX5_init_21 (kk := ?_)
  refine v_cS2 (N := mJ9_max_7cf53) (q := 25) lX5_20 sJ9_max_7cf53 kJ9_max_7cf53 dX5_init_22 (s_max ?_)
  rw [show hc_max 0 (nI A) = nI A by
    unfold hc_max
    split
    next => rfl
    next h =>
      have : ¬ 0 < A := fun hh => h (nI_lt (a := 0) hh (by omega))
      rw [show A = 0 by omega]; rfl]
  refine v_newa (q := 27) A ac10 dX5_init_25 (hn := nI_pos (by omega)) (hN := nI_clamp (by omega)) (hsm := by omega) (kk := ?_)
  have sx' : (fun w => if w = z then some (10, A) else S w) x = some (5, 0) := (if_neg (by omega)).trans sx
  refine v_putFR (q := 30) fX5_26 sx' (hd := dX5_init_27) (kk := ?_)
  refine v_vret dX5_init_30 (hQ := ?_)
  refine hQ _ _ _ (fun w hw => ?_) (fun w h1 h2 => ⟨?_, ?_⟩) ?_ ?_ ?_ ?_ ?_
  · exact if_neg hw
  · exact (if_neg h2).trans ((hc_u_ne h1).trans (hc_u_ne h1))
  · rw [hc_ur_ne h1]
    exact (if_neg h2).trans (hc_ur_ne h1)
  · exact if_pos rfl
  · refine (congrFun (if_neg (by omega)) 0).trans ?_
    rw [hc_u_at, upd_ne (by omega), hc_u_at, upd_at]
  · refine (congrFun (if_neg (by omega)) 1).trans ?_
    rw [hc_u_at, upd_at]
  · rw [hc_ur_at]
    unfold va_up
    rw [if_neg (by omega)]
    refine (congrFun (if_neg (by omega)) 2).trans ?_
    rw [hc_ur_at]
    unfold va_up
    rw [if_pos rfl]
  · rw [hc_ur_at]
    unfold va_up
    rw [if_pos rfl]
end L18
section L19
variable {g : hcG} {S : hcS} {I : hcI} {R : hcR} {z : Nat} {Q : hcQ} {r c cd tl : Nat} {tp : Nat → Int32}
theorem s_takeBelowF {x y w : Int32} (s0 : S r = some (2, 0)) (h0 : 0 ≤ I r 0) (hQ : Q none S I R z) : Cl g mX2_takeBelow 0 0 0 S I R z [.ref r, .int x, .int y, .int w] Q := by
  refine Cl.go [some (.ref r), some (.int x), some (.int y), some (.int w)] ?_
  refine v_aload_n (q := 1) dX2_takeBelow_0 (kk := ?_)
  refine v_getI (q := 4) fX2_35 (by assumption) (hd := dX2_takeBelow_1) (kk := ?_)
  refine v_if_ltF (q := 7) (t := 8) dX2_takeBelow_4 (Int32.not_lt.mpr h0) (kf := ?_)
  refine v_vret dX2_takeBelow_7 (hQ := ?_)
  exact hQ
theorem s_takeLevelF {x y w : Int32} (s0 : S r = some (2, 0)) (h0 : 0 ≤ I r 0) (hQ : Q none S I R z) : Cl g mX2_takeLevel 1 0 0 S I R z [.ref r, .int x, .int y, .int w] Q := by
  refine Cl.go [some (.ref r), some (.int x), some (.int y), some (.int w), none, none] ?_
  refine v_aload_n (q := 1) dX2_takeLevel_0 (kk := ?_)
  refine v_iload_n (q := 2) dX2_takeLevel_1 (kk := ?_)
  refine v_iload_n (q := 3) dX2_takeLevel_2 (kk := ?_)
  refine v_iload_n (q := 4) dX2_takeLevel_3 (kk := ?_)
  refine v_cV3 (N := mX2_takeBelow) (q := 7) lX2_97 iX2_takeBelow kX2_takeBelow (by assumption) dX2_takeLevel_4 (s_takeBelowF s0 h0 ?_)
  refine v_iconst (v := 0) (q := 8) dX2_takeLevel_7 (kk := ?_)
  refine v_istore4 (q := 10) dX2_takeLevel_8 (kk := ?_)
  refine v_iload (q := 12) dX2_takeLevel_10 (kk := ?_)
  refine v_bipush (v := 96) (q := 14) dX2_takeLevel_12 (kk := ?_)
  refine v_icmp_geF (q := 17) (t := 76) dX2_takeLevel_14 (by decide) (kf := ?_)
  refine v_aload_n (q := 18) dX2_takeLevel_17 (kk := ?_)
  refine v_getI (q := 21) fX2_35 (by assumption) (hd := dX2_takeLevel_18) (kk := ?_)
  refine v_if_geT 76 dX2_takeLevel_21 (h0) (kt := ?_)
  refine v_vret dX2_takeLevel_76 (hQ := ?_)
  exact hQ
theorem s_readTape (s0 : S r = some (2, 0)) (r1 : R r 1 = some cd) (scd : S cd = some (10, 96)) (sc : S c = some (8, 96)) (n1 : c ≠ r) (n2 : cd ≠ r) (n3 : cd ≠ c) (hrz : r < z) (hcz : cd < z) (htl : tl ≤ 96) (hb : TBt tp tl) (hcb : ∀ j, j < tl → I c j = sb (tbF tp j))
    (hQ0 : ∀ (q : Nat) (I' : hcI), rtF tp tl = Sum.inl q → (∀ y, y ≠ r → y ≠ cd → I' y = I y) → I' r 0 = nI q → Q (some .null) S I' (hc_ur R r 2 (some c)) z)
    (hQ1 : ∀ (key : Nat) (C : List Int32) (A : Nat) (S' : hcS) (I' : hcI) (R' : hcR), rtF tp tl = Sum.inr (key, C, A) → key < 3 → okL (if key = 0 then 3 else 2) C → dpL C = 1 → lvL C = A → C.length ≤ 95 → (∀ y, y < z ∨ z + 3 ≤ y → S' y = S y) → (∀ y, y < z → y ≠ r → y ≠ cd → I' y = I y) → (∀ y, y < z → R' y = hc_ur R r 2 (some c) y) → S' z = some (5, 0) → S' (z + 1) = some (10, C.length) → S' (z + 2) = some (10, A) → I' z 0 = nI key → I' z 1 = nI A → R' z 2 = some (z + 1) → R' z 3 = some (z + 2) → (∀ k, k < C.length → I' (z + 1) k = trc (rvF C k)) → Q (some (.ref z)) S' I' R' (z + 3)) : Cl g mX2_readTape 112 3 200 S I R z [.ref r, .ref c, .int (nI tl)] Q := by
  refine Cl.go [some (.ref r), some (.ref c), some (.int (nI tl))] ?_
  obtain ⟨R1, hR1⟩ : ∃ R1, hc_ur R r 2 (some c) = R1 := ⟨_, rfl⟩
  rw [hR1] at hQ0 hQ1
  have r11 : R1 r 1 = some cd := by rw [← hR1, hc_ur_at]; unfold va_up; rw [if_neg (by omega)]; exact r1
  have r12 : R1 r 2 = some c := by rw [← hR1, hc_ur_at]; unfold va_up; rw [if_pos rfl]
  -- with a fault
  have bad : ∀ (q : Nat) (I1 : hcI) (k : Nat), rtF tp tl = Sum.inl q → q ≤ 96 → (∀ y, y ≠ r → y ≠ cd → I1 y = I y) → I1 r 0 = nI q → k < 5 → I1 r 6 = nI k → V g mX2_readTape 112 3 200 S I1 R1 z 55 [some (.ref r), some (.ref c), some (.int (nI tl))] [] Q := by
    intro q I1 k hr hq hF h0 hk h6
    have h0' : (0 : Int32) ≤ I1 r 0 := by rw [h0]; exact nI_le (a := 0) (by omega) (by omega)
    have fin : V g mX2_readTape 112 3 200 S I1 R1 z 67 [some (.ref r), some (.ref c), some (.int (nI tl))] [] Q := by
      refine v_aload_n (q := 68) dX2_readTape_67 (kk := ?_)
      refine v_getI (q := 71) fX2_35 (by assumption) (hd := dX2_readTape_68) (kk := ?_)
      refine v_if_geT 103 dX2_readTape_71 (h0') (kt := ?_)
      refine v_null (q := 104) dX2_readTape_103 (kk := ?_)
      refine v_aret dX2_readTape_104 (Or.inl rfl) (Or.inl ⟨_, rfl⟩) (hQ := ?_)
      exact hQ0 q I1 hr hF h0
    refine v_aload_n (q := 56) dX2_readTape_55 (kk := ?_)
    refine v_getI (q := 59) fX2_32 (by assumption) (hd := dX2_readTape_56) (kk := ?_)
    rw [h6]
    refine v_iconst (v := 3) (q := 60) dX2_readTape_59 (kk := ?_)
    by_cases k3 : k = 3
    · refine v_icmp_eqT 67 dX2_readTape_60 (by rw [k3]; rfl) (kt := ?_)
      exact fin
    · refine v_icmp_eqF (q := 63) (t := 67) dX2_readTape_60 (fun h => k3 ((nI_eq (b := 3) (by omega) (by omega)).mp h)) (kf := ?_)
      refine v_aload_n (q := 64) dX2_readTape_63 (kk := ?_)
      refine v_cV0 (N := mX2_isFault) (q := 67) lX2_54 iX2_isFault kX2_isFault (by assumption) dX2_readTape_64 (s_isFault s0 (fun h => absurd h0' h) (fun _ => ?_))
      exact fin
  refine v_aload_n (q := 1) dX2_readTape_0 (kk := ?_)
  refine v_aload_n (q := 2) dX2_readTape_1 (kk := ?_)
  refine v_putR (q := 5) fX2_15 (by assumption) (hd := dX2_readTape_2) (kk := ?_)
  rw [hR1]
  refine v_aload_n (q := 6) dX2_readTape_5 (kk := ?_)
  refine v_iload_n (q := 7) dX2_readTape_6 (kk := ?_)
  refine v_aload_n (q := 8) dX2_readTape_7 (kk := ?_)
  refine v_alen (q := 9) sc (hd := dX2_readTape_8) (kk := ?_)
  refine v_cS2 (N := mJ9_min_7cf53) (q := 12) lX2_19 sJ9_min_7cf53 kJ9_min_7cf53 dX2_readTape_9 (s_min ?_)
  rw [show hc_min (nI tl) (nI 96) = nI tl from if_pos (nI_le (by omega) (by omega))]
  refine v_putI (q := 15) fX2_25 (by assumption) (hd := dX2_readTape_12) (kk := ?_)
  refine v_aload_n (q := 16) dX2_readTape_15 (kk := ?_)
  refine v_iconst (v := 0) (q := 17) dX2_readTape_16 (kk := ?_)
  refine v_putI (q := 20) fX2_29 (by assumption) (hd := dX2_readTape_17) (kk := ?_)
  refine v_aload_n (q := 21) dX2_readTape_20 (kk := ?_)
  refine v_iconst (v := 2) (q := 22) dX2_readTape_21 (kk := ?_)
  refine v_putI (q := 25) fX2_32 (by assumption) (hd := dX2_readTape_22) (kk := ?_)
  refine v_aload_n (q := 26) dX2_readTape_25 (kk := ?_)
  refine v_iconst (v := (-1)) (q := 27) dX2_readTape_26 (kk := ?_)
  refine v_putI (q := 30) fX2_35 (by assumption) (hd := dX2_readTape_27) (kk := ?_)
  refine v_aload_n (q := 31) dX2_readTape_30 (kk := ?_)
  refine v_iconst (v := 0) (q := 32) dX2_readTape_31 (kk := ?_)
  refine v_putI (q := 35) fX2_38 (by assumption) (hd := dX2_readTape_32) (kk := ?_)
  refine v_aload_n (q := 36) dX2_readTape_35 (kk := ?_)
  refine v_iconst (v := 0) (q := 37) dX2_readTape_36 (kk := ?_)
  refine v_putI (q := 40) fX2_41 (by assumption) (hd := dX2_readTape_37) (kk := ?_)
  obtain ⟨I1, hI1⟩ : ∃ I1, hc_u (hc_u (hc_u (hc_u (hc_u (hc_u I r 3 (nI tl)) r 5 0) r 6 2) r 0 (-1)) r 8 0) r 9 0 = I1 := ⟨_, rfl⟩
  rw [hI1]
  have y1 : ∀ y, y ≠ r → I1 y = I y := fun y hy => by rw [← hI1, hc_u_ne hy, hc_u_ne hy, hc_u_ne hy, hc_u_ne hy, hc_u_ne hy, hc_u_ne hy]
  have e9 : I1 r 9 = nI 0 := by rw [← hI1, hc_u_at, upd_at]; rfl
  have e8 : I1 r 8 = nI 0 := by rw [← hI1, hc_u_at, upd_ne (by omega), hc_u_at, upd_at]; rfl
  have e0 : I1 r 0 = -1 := by rw [← hI1, hc_u_at, upd_ne (by omega), hc_u_at, upd_ne (by omega), hc_u_at, upd_at]
  have e6 : I1 r 6 = nI 2 := by rw [← hI1, hc_u_at, upd_ne (by omega), hc_u_at, upd_ne (by omega), hc_u_at, upd_ne (by omega), hc_u_at, upd_at]; rfl
  have e5 : I1 r 5 = nI 0 := by rw [← hI1, hc_u_at, upd_ne (by omega), hc_u_at, upd_ne (by omega), hc_u_at, upd_ne (by omega), hc_u_at, upd_ne (by omega), hc_u_at, upd_at]; rfl
  have e3 : I1 r 3 = nI tl := by rw [← hI1, hc_u_at, upd_ne (by omega), hc_u_at, upd_ne (by omega), hc_u_at, upd_ne (by omega), hc_u_at, upd_ne (by omega), hc_u_at, upd_ne (by omega), hc_u_at, upd_at]
  have re1 : RE S I1 R1 r c cd tl tp := ⟨⟨s0, r11, scd, r12, sc, n1, n2, n3⟩, e3, htl, hb, fun j hj => by rw [y1 c n1]; exact hcb j hj⟩
  refine v_aload_n (q := 41) dX2_readTape_40 (kk := ?_)
  refine v_cV0 (N := mX2_goOn) (q := 44) lX2_44 iX2_goOn kX2_goOn (by assumption) dX2_readTape_41 (s_goOn (p := 0) (s := 2) (tp := tp) (tl := tl) s0 r12 n1 sc e3 htl hb re1.2.2.2.2 (by omega) (by omega) e5 e6 (fun I2 hM2 a4 a5 a6 => ?_))
  have ht2 : TKc I2 r tp tl 0 (-1) := ⟨a4, a5, by rw [a6, lx_same (by omega) htl LI_0], _, LI_0⟩
  have f2 : FR r cd I1 I2 := hM2.fr
  have re2 : RE S I2 R1 r c cd tl tp := re1.fr f2
  have h20 : ¬ 0 ≤ I2 r 0 := by rw [hM2.2 0 (by omega), e0]; decide
  have hR := lxR_le (tp := tp) (tl := tl) (p := 0) (by omega)
  refine v_aload_n (q := 45) dX2_readTape_44 (kk := ?_)
  refine v_cV0 (N := mX2_takeKey) (q := 48) lX2_47 iX2_takeKey kX2_takeKey (by assumption) dX2_readTape_45 (s_takeKey re2 ht2 h20 (fun hno => ?_) (fun key hkey I3 y3 f3 k7 ht3 => ?_))
  · have q0 := lxQ_le (tp := tp) (tl := tl) (p := 0) (by omega)
    have u0 : hc_u I2 r 0 (nI (lxQ tp tl 0)) r 0 = nI (lxQ tp tl 0) := by rw [hc_u_at, upd_at]
    refine v_aload_n (q := 49) dX2_readTape_48 (kk := ?_)
    refine v_iconst (v := 0) (q := 50) dX2_readTape_49 (kk := ?_)
    refine v_iconst (v := 0) (q := 51) dX2_readTape_50 (kk := ?_)
    refine v_iconst (v := 0) (q := 52) dX2_readTape_51 (kk := ?_)
    refine v_cV3 (N := mX2_takeLevel) (q := 55) lX2_50 iX2_takeLevel kX2_takeLevel (by assumption) dX2_readTape_52 (s_takeLevelF s0 (by rw [u0]; exact nI_le (a := 0) (by omega) (by omega)) ?_)
    refine bad _ _ (ksF (lxK tp tl 0 (-1))) (rtF_none hno) (by omega) (fun y h1 h2 => by rw [hc_u_ne h1, hM2.1 y h1]; exact y1 y h1) u0 ksF_lt ?_
    rw [hc_u_at, upd_ne (by omega)]
    exact ht2.2.2.1
  · obtain ⟨⟨hk1, hk4⟩, hk3⟩ := kyF_some hkey
    have g3 : ∀ j, ¬ (4 ≤ j ∧ j ≤ 7) → I3 r j = I1 r j := fun j hj => (f3 j hj).trans (hM2.2 j (by omega))
    have re3 : RE S I3 R1 r c cd tl tp := ⟨re1.1, (g3 3 (by omega)).trans e3, htl, hb, fun j hj => by rw [y3 c n1]; exact re2.2.2.2.2 j hj⟩
    obtain ⟨res, hres⟩ : ∃ res, mrun tp tl key (tl - lxR tp tl 0 + 1) (lxR tp tl 0) (lxE tp tl 0 (-1)) true [] [] 0 [false] 0 = res := ⟨_, rfl⟩
    have yI3 : ∀ y, y ≠ r → I3 y = I y := fun y hy => ((y3 y hy).trans (hM2.1 y hy)).trans (y1 y hy)
    refine v_aload_n (q := 49) dX2_readTape_48 (kk := ?_)
    refine v_iconst (v := 0) (q := 50) dX2_readTape_49 (kk := ?_)
    refine v_iconst (v := 0) (q := 51) dX2_readTape_50 (kk := ?_)
    refine v_iconst (v := 0) (q := 52) dX2_readTape_51 (kk := ?_)
    refine v_cV3 (N := mX2_takeLevel) (q := 55) lX2_50 iX2_takeLevel kX2_takeLevel (by assumption) dX2_readTape_52 (s_level0 hk3 re3 (by omega) hR.2.1 k7 (by rw [g3 0 (by omega), e0]; decide) ht3 ((g3 8 (by omega)).trans e8) ((g3 9 (by omega)).trans e9) hres (fun q I4 m4 f4 pf => ?_) (fun I4 f4 k4 po => ?_))
    · obtain ⟨u1, u2, u3, px, ex, hpx, htx⟩ := pf
      rw [m4] at hres
      exact bad q I4 _ (rtF_inl hkey hres) u2 (fun y h1 h2 => (f4.1 y h1 h2).trans (yI3 y h1)) u1 ksF_lt htx.2.2.1
    · obtain ⟨n', p', e', P, C', A', t', q1, q2, q3, q4, q5, q6, q7, q8, q9, q10⟩ := po
      obtain ⟨n'', rfl⟩ : ∃ x, n' = x + 1 := ⟨n' - 1, by omega⟩
      have k4' : ¬ 0 ≤ I4 r 0 := by rw [k4, g3 0 (by omega), e0]; decide
      have hk5 := lxK_lt (tp := tp) (tl := tl) (p := p') (e := e')
      have yI4 : ∀ y, y ≠ r → y ≠ cd → I4 y = I y := fun y h1 h2 => (f4.1 y h1 h2).trans (yI3 y h1)
      by_cases c0 : lxK tp tl p' e' = 0
      · have hst : stl 0 (P ++ []) C' = ([], P.reverse ++ C') := by
          have := stl_app (k := 0) (by omega) (P := P) (W := []) (C := C') (fun x hx => (q8 x hx).mono (by omega))
          rw [stl_stop (k := 0) (W := []) (by omega) trivial] at this
          exact this
        rw [mrun_end c0 rfl, hst] at q1
        rw [← q1] at hres
        have hr := rtF_inr hkey hres
        obtain ⟨o1, o2, o3, o4⟩ := mrun_ok hb htl hk3 _ _ _ _ _ true [] [] 0 [false] 0 ⟨trivial, rfl, fun x hx => absurd hx List.not_mem_nil, rfl, rfl⟩ (by simp only [List.length_nil]; omega) hR.2.1 hres
        have hlen : (P.reverse ++ C').length ≤ 92 := by
          simp only [List.length_append, List.length_reverse, List.length_nil] at q7 ⊢
          omega
        simp only at o1 o2 o3
        obtain ⟨C, hC⟩ : ∃ C, P.reverse ++ C' = C := ⟨_, rfl⟩
        rw [hC] at hr o1 o2 o3 hlen q6
        have hlv := lvL_le C
        refine v_aload_n (q := 56) dX2_readTape_55 (kk := ?_)
        refine v_getI (q := 59) fX2_32 (by assumption) (hd := dX2_readTape_56) (kk := ?_)
        rw [q5.2.2.1]
        refine v_iconst (v := 3) (q := 60) dX2_readTape_59 (kk := ?_)
        refine v_icmp_eqT 67 dX2_readTape_60 (by rw [(ksF_3 hk5).mpr c0]; rfl) (kt := ?_)
        refine v_aload_n (q := 68) dX2_readTape_67 (kk := ?_)
        refine v_getI (q := 71) fX2_35 (by assumption) (hd := dX2_readTape_68) (kk := ?_)
        refine v_if_geF (q := 74) (t := 103) dX2_readTape_71 (k4') (kf := ?_)
        refine V.less (kc' := 0 + 1 + 1 + 1) (ks' := 0 + A' + C.length + hc_N 5) ?_ (by omega) (by show 0 + A' + C.length + 4 ≤ 200; omega)
        refine v_new (q := 77) clX2_57 inst5 init5 dX2_readTape_74 (kk := ?_)
        refine v_dup (q := 78) dX2_readTape_77 (kk := ?_)
        obtain ⟨Sn, hSn⟩ : ∃ Sn : hcS, (fun x => if x = z then some (5, 0) else S x) = Sn := ⟨_, rfl⟩
        obtain ⟨In, hIn⟩ : ∃ In : hcI, (fun x => if x = z then (fun _ => 0) else I4 x) = In := ⟨_, rfl⟩
        obtain ⟨Rn, hRn⟩ : ∃ Rn : hcR, (fun x => if x = z then (fun _ => none) else R1 x) = Rn := ⟨_, rfl⟩
        rw [hSn, hIn, hRn]
        have sr' : ∀ y, y ≠ z → Sn y = S y := fun y hy => by rw [← hSn]; exact if_neg hy
        have ir' : ∀ y, y ≠ z → In y = I4 y := fun y hy => by rw [← hIn]; exact if_neg hy
        have rr' : ∀ y, y ≠ z → Rn y = R1 y := fun y hy => by rw [← hRn]; exact if_neg hy
        have s0' := (sr' r (by omega)).trans s0
        have scd' := (sr' cd (by omega)).trans scd
        have rr1 : Rn r 1 = some cd := by rw [rr' r (by omega)]; exact r11
        have ii : ∀ j, In r j = I4 r j := fun j => by rw [ir' r (by omega)]
        refine v_aload_n (q := 79) dX2_readTape_78 (kk := ?_)
        refine v_getI (q := 82) fX2_59 s0' (hd := dX2_readTape_79) (kk := ?_)
        rw [ii, f4.2.2, k7]
        refine v_aload_n (q := 83) dX2_readTape_82 (kk := ?_)
        refine v_getI (q := 86) fX2_41 s0' (hd := dX2_readTape_83) (kk := ?_)
        rw [ii, q6.2.2]
        refine v_aload_n (q := 87) dX2_readTape_86 (kk := ?_)
        refine v_getR (q := 90) fX2_9 s0' rr1 (hd := dX2_readTape_87) (kk := ?_)
        refine v_aload_n (q := 91) dX2_readTape_90 (kk := ?_)
        refine v_getI (q := 94) fX2_38 s0' (hd := dX2_readTape_91) (kk := ?_)
        rw [ii, q6.1]
        refine V.less (kc' := 1 + (0 + 1)) (ks' := (0 + A') + (0 + C.length)) ?_ (by omega) (by omega)
        refine v_cS2B (N := mJ7_copyOf_59c91) (q := 97) lX2_62 sJ7_copyOf_59c91 kJ7_copyOf_59c91 dX2_readTape_94 (s_copyOf (z := z + 1) (a := cd) (n := C.length) scd' (by omega) (by omega) (fun S5 I5 R5 h5 s5 i5 => ?_))
        have sz5 : S5 z = some (5, 0) := (h5 z (by omega)).1.trans (by rw [← hSn]; exact if_pos rfl)
        refine V.less (kc' := 0 + (0 + 1)) (ks' := 0 + (0 + A')) ?_ (by omega) (by omega)
        refine v_cI3B (N := mX5_init) (q := 100) lX2_68 iX5_init kX5_init dX2_readTape_97 (s_newText (z := z + 1 + 1) (x := z) (y := z + 1) (A := A') (key := nI key) sz5 (by omega) (by omega) (fun S6 I6 R6 g1 g2 g3' g4 g5 g6 g7 => ?_))
        refine v_goto 104 dX2_readTape_100 (kt := ?_)
        refine v_aret dX2_readTape_104 (Or.inr ⟨_, rfl⟩) (Or.inl ⟨_, rfl⟩) (hQ := ?_)
        have ylt : ∀ y, y < z → S6 y = S y ∧ I6 y = I4 y ∧ R6 y = R1 y := fun y hy => by
          obtain ⟨u1, u2, u3⟩ := h5 y (by omega)
          obtain ⟨u4, u5⟩ := g2 y (by omega) (by omega)
          refine ⟨?_, ?_, ?_⟩
          · rw [g1 y (by omega), u1]; exact sr' y (by omega)
          · rw [u4, u2]; exact ir' y (by omega)
          · rw [u5, u3]; exact rr' y (by omega)
        refine hQ1 key C A' S6 I6 R6 hr hk3 o1 o2 o3 (by omega) (fun y hy => by rw [g1 y (by omega), (h5 y (by omega)).1]; exact sr' y (by omega)) (fun y hy h1 h2 => (ylt y hy).2.1.trans (yI4 y h1 h2)) (fun y hy => (ylt y hy).2.2) ?_ ?_ g3' g4 g5 g6 g7 (fun k hk => ?_)
        · rw [g1 z (by omega)]; exact sz5
        · rw [g1 (z + 1) (by omega)]; exact s5
        · rw [(g2 (z + 1) (by omega) (by omega)).1, i5 k hk]
          rw [ir' cd (by omega)]
          have hmap : C.map trc = lsF (fun j => trc (rvF C j)) C.length := by
            have hx : ∀ (f : Nat → Int32) n, lsF (fun j => trc (f j)) n = (lsF f n).map trc := by
              intro f n
              induction n with
              | zero => rfl
              | succ n ih => simp only [lsF, List.map_cons, ih]
            rw [hx, lsF_rv]
          exact lsF_inj C.length (q6.2.1.trans hmap) k hk
      · have hbad : res = Sum.inl (lxQ tp tl p') := by
          rw [← q1]
          refine mrun_nosign c0 (fun hh => by have := hh.2.2; simp at this) ?_
          by_cases k3 : lxK tp tl p' e' = 3
          · have hg' := lxR_gt (tp := tp) (e := e') q4 c0
            obtain ⟨v1, v2, v3, v4⟩ := rkN_ok _ (hb _ hg'.2.2).2
            unfold rhF at q10
            rw [if_pos k3] at q10 ⊢
            rcases q10 with hh | hh
            · exact Or.inl (v2.mpr (by omega))
            · refine Or.inr ⟨?_, hh.2.1⟩
              rw [(v4 (by omega)).1, hh.1]
              rfl
          · exact Or.inl (if_neg k3)
        rw [hbad] at hres
        have hq' := lxQ_le (tp := tp) q4
        have u0 : hc_u I4 r 0 (nI (lxQ tp tl p')) r 0 = nI (lxQ tp tl p') := by rw [hc_u_at, upd_at]
        refine v_aload_n (q := 56) dX2_readTape_55 (kk := ?_)
        refine v_getI (q := 59) fX2_32 (by assumption) (hd := dX2_readTape_56) (kk := ?_)
        rw [q5.2.2.1]
        refine v_iconst (v := 3) (q := 60) dX2_readTape_59 (kk := ?_)
        refine v_icmp_eqF (q := 63) (t := 67) dX2_readTape_60 (fun h => c0 ((ksF_3 hk5).mp ((nI_eq (b := 3) (by have := ksF_lt (k := lxK tp tl p' e'); omega) (by omega)).mp h))) (kf := ?_)
        refine v_aload_n (q := 64) dX2_readTape_63 (kk := ?_)
        refine v_cV0 (N := mX2_isFault) (q := 67) lX2_54 iX2_isFault kX2_isFault (by assumption) dX2_readTape_64 (s_isFault s0 (fun _ => ?_) (fun h => absurd h k4'))
        rw [q5.1]
        refine v_aload_n (q := 68) dX2_readTape_67 (kk := ?_)
        refine v_getI (q := 71) fX2_35 (by assumption) (hd := dX2_readTape_68) (kk := ?_)
        rw [u0]
        refine v_if_geT 103 dX2_readTape_71 (nI_le (a := 0) (by omega) (by omega)) (kt := ?_)
        refine v_null (q := 104) dX2_readTape_103 (kk := ?_)
        refine v_aret dX2_readTape_104 (Or.inl rfl) (Or.inl ⟨_, rfl⟩) (hQ := ?_)
        exact hQ0 _ _ (rtF_inl hkey hres) (fun y h1 h2 => (hc_u_ne h1).trans (yI4 y h1 h2)) u0
end L19
