/-! the strings that the class names -/
def sbN (i j : Nat) : Nat := (([[105, 116, 99, 104], [104, 97, 114, 109], [102, 105, 110, 101], [97, 100, 105], [110, 108], [99, 104]] : List (List Nat)).getD i []).getD j 0
def slN (i : Nat) : Nat := hc_sln.getD i 0
theorem slN_le : ∀ i, i < 6 → slN i ≤ 4 := by decide
theorem sbN_lt : ∀ i, i < 6 → ∀ j, j < 4 → sbN i j < 128 := by decide
theorem sby_e : ∀ i, i < 6 → ∀ j, j < 4 → (hc_sby.getD i []).getD j 0 = nI (sbN i j) := by decide
theorem and_255 : ∀ k, k < 128 → nI k &&& 255 = nI k := by decide +kernel
theorem chr_lo : ∀ k, k < 128 → ((nI k).toUInt32 % 65536).toInt32 = nI k := by decide +kernel
theorem byt_lo : ∀ k, k < 128 → (nI k).toInt8.toInt32 = nI k := by decide +kernel
theorem nar_lo : ∀ k, k < 128 → narrow .char (.int (nI k)) = .int (nI k) := by decide +kernel
theorem shr_0 : ∀ k, k < 5 → nI k >>> ((0 : Int32) &&& 31) = nI k := by decide
section L13
variable {g : hcG} {S : hcS} {I : hcI} {R : hcR} {z : Nat} {Q : hcQ} {i : Nat}
theorem s_coder (hi : i < 6) (hQ : Q (some (.int 0)) S I R z) : Cl g mJ0_coder_7d493 0 0 0 S I R z [.ref (g.2.2.1 i)] Q := by
  refine Cl.go [some (.ref (g.2.2.1 i))] ?_
  refine v_compact (q := 3) fJ0_38 (hd := dJ0_coder_7d493_0) (kk := ?_)
  refine v_if_eqF (q := 6) (t := 13) dJ0_coder_7d493_3 (by decide) (kf := ?_)
  refine v_aload_n (q := 7) dJ0_coder_7d493_6 (kk := ?_)
  refine v_strcod (q := 10) (by assumption) fJ0_15 (hd := dJ0_coder_7d493_7) (kk := ?_)
  refine v_goto 14 dJ0_coder_7d493_10 (kt := ?_)
  refine v_zret dJ0_coder_7d493_14 rfl (hQ := ?_)
  exact hQ
theorem s_isLatin1 (hi : i < 6) (hQ : Q (some (.int 1)) S I R z) : Cl g mJ0_isLatin1_aae02 0 0 0 S I R z [.ref (g.2.2.1 i)] Q := by
  refine Cl.go [some (.ref (g.2.2.1 i))] ?_
  refine v_compact (q := 3) fJ0_38 (hd := dJ0_isLatin1_aae02_0) (kk := ?_)
  refine v_if_eqF (q := 6) (t := 17) dJ0_isLatin1_aae02_3 (by decide) (kf := ?_)
  refine v_aload_n (q := 7) dJ0_isLatin1_aae02_6 (kk := ?_)
  refine v_strcod (q := 10) (by assumption) fJ0_15 (hd := dJ0_isLatin1_aae02_7) (kk := ?_)
  refine v_if_neF (q := 13) (t := 17) dJ0_isLatin1_aae02_10 (rfl) (kf := ?_)
  refine v_iconst (v := 1) (q := 14) dJ0_isLatin1_aae02_13 (kk := ?_)
  refine v_goto 18 dJ0_isLatin1_aae02_14 (kt := ?_)
  refine v_zret dJ0_isLatin1_aae02_18 rfl (hQ := ?_)
  exact hQ
theorem s_length (hi : i < 6) (hQ : Q (some (.int (nI (slN i)))) S I R z) : Cl g mJ0_length_8abf5 1 0 0 S I R z [.ref (g.2.2.1 i)] Q := by
  have := slN_le i hi
  refine Cl.go [some (.ref (g.2.2.1 i))] ?_
  refine v_aload_n (q := 1) dJ0_length_8abf5_0 (kk := ?_)
  refine v_strval (q := 4) (by assumption) fJ0_9 (hd := dJ0_length_8abf5_1) (kk := ?_)
  refine v_strlen (q := 5) hi dJ0_length_8abf5_4 (kk := ?_)
  refine v_aload_n (q := 6) dJ0_length_8abf5_5 (kk := ?_)
  refine v_cT0 (N := mJ0_coder_7d493) (q := 9) lJ0_335 iJ0_coder_7d493 kJ0_coder_7d493 (by assumption) dJ0_length_8abf5_6 (s_coder hi ?_)
  refine v_ishr (q := 10) dJ0_length_8abf5_9 (kk := ?_)
  rw [show hc_sln.getD i 0 = slN i from rfl, shr_0 _ (by omega)]
  refine v_iret dJ0_length_8abf5_10 (hQ := ?_)
  exact hQ
theorem s_pciN {j n : Nat} (hj : j < n) (hn : n < 2 ^ 31) (hQ : Q (some (.int (nI j))) S I R z) : Cl g mJ3_checkIndex_8e157 0 0 0 S I R z [.int (nI j), .int (nI n), .null] Q := by
  refine Cl.go [some (.int (nI j)), some (.int (nI n)), some .null] ?_
  refine v_iload_n (q := 1) dJ3_checkIndex_8e157_0 (kk := ?_)
  refine v_if_ltF (q := 4) (t := 9) dJ3_checkIndex_8e157_1 (nI_pos (by omega)) (kf := ?_)
  refine v_iload_n (q := 5) dJ3_checkIndex_8e157_4 (kk := ?_)
  refine v_iload_n (q := 6) dJ3_checkIndex_8e157_5 (kk := ?_)
  refine v_icmp_ltT 16 dJ3_checkIndex_8e157_6 (nI_lt hj hn) (kt := ?_)
  refine v_iload_n (q := 17) dJ3_checkIndex_8e157_16 (kk := ?_)
  refine v_iret dJ3_checkIndex_8e157_17 (hQ := ?_)
  exact hQ
theorem s_pciR {j n x : Nat} (hj : j < n) (hn : n < 2 ^ 31) (hQ : Q (some (.int (nI j))) S I R z) : Cl g mJ3_checkIndex_8e157 0 0 0 S I R z [.int (nI j), .int (nI n), .ref x] Q := by
  refine Cl.go [some (.int (nI j)), some (.int (nI n)), some (.ref x)] ?_
  refine v_iload_n (q := 1) dJ3_checkIndex_8e157_0 (kk := ?_)
  refine v_if_ltF (q := 4) (t := 9) dJ3_checkIndex_8e157_1 (nI_pos (by omega)) (kf := ?_)
  refine v_iload_n (q := 5) dJ3_checkIndex_8e157_4 (kk := ?_)
  refine v_iload_n (q := 6) dJ3_checkIndex_8e157_5 (kk := ?_)
  refine v_icmp_ltT 16 dJ3_checkIndex_8e157_6 (nI_lt hj hn) (kt := ?_)
  refine v_iload_n (q := 17) dJ3_checkIndex_8e157_16 (kk := ?_)
  refine v_iret dJ3_checkIndex_8e157_17 (hQ := ?_)
  exact hQ
theorem s_checkIndex {j n : Nat} (hj : j < n) (hn : n < 2 ^ 31) (hQ : Q none S I R z) : Cl g mJ0_checkIndex_df160 1 0 0 S I R z [.int (nI j), .int (nI n)] Q := by
  refine Cl.go [some (.int (nI j)), some (.int (nI n))] ?_
  refine v_iload_n (q := 1) dJ0_checkIndex_df160_0 (kk := ?_)
  refine v_iload_n (q := 2) dJ0_checkIndex_df160_1 (kk := ?_)
  refine v_sioobe (q := 5) fJ0_1053 dJ0_checkIndex_df160_2 (kn := ?_) (kk := fun xz => ?_)
  · refine v_cS3 (N := mJ3_checkIndex_8e157) (q := 8) lJ0_1059 sJ3_checkIndex_8e157 kJ3_checkIndex_8e157 dJ0_checkIndex_df160_5 (s_pciN hj hn ?_)
    refine v_pop (q := 9) dJ0_checkIndex_df160_8 (kk := ?_)
    refine v_vret dJ0_checkIndex_df160_9 (hQ := ?_)
    exact hQ
  · refine v_cS3 (N := mJ3_checkIndex_8e157) (q := 8) lJ0_1059 sJ3_checkIndex_8e157 kJ3_checkIndex_8e157 dJ0_checkIndex_df160_5 (s_pciR hj hn ?_)
    refine v_pop (q := 9) dJ0_checkIndex_df160_8 (kk := ?_)
    refine v_vret dJ0_checkIndex_df160_9 (hQ := ?_)
    exact hQ
theorem s_l1charAt {j : Nat} (hi : i < 6) (hj : j < slN i) (hQ : Q (some (.int (nI (sbN i j)))) S I R z) : Cl g mJ1_charAt_3b067 2 0 0 S I R z [.ref (g.2.2.2 i), .int (nI j)] Q := by
  have := slN_le i hi
  have hlt := sbN_lt i hi j (by omega)
  refine Cl.go [some (.ref (g.2.2.2 i)), some (.int (nI j))] ?_
  refine v_iload_n (q := 1) dJ1_charAt_3b067_0 (kk := ?_)
  refine v_aload_n (q := 2) dJ1_charAt_3b067_1 (kk := ?_)
  refine v_strlen (q := 3) hi dJ1_charAt_3b067_2 (kk := ?_)
  refine v_cS2 (N := mJ0_checkIndex_df160) (q := 6) lJ1_9 sJ0_checkIndex_df160 kJ0_checkIndex_df160 dJ1_charAt_3b067_3 (s_checkIndex hj (show slN i < 2 ^ 31 by omega) ?_)
  refine v_aload_n (q := 7) dJ1_charAt_3b067_6 (kk := ?_)
  refine v_iload_n (q := 8) dJ1_charAt_3b067_7 (kk := ?_)
  refine v_strbyte (q := 9) hi (vp_in_nI (show j < hc_sln.getD i 0 from hj) (show hc_sln.getD i 0 < 2 ^ 31 from by show slN i < _; omega)) dJ1_charAt_3b067_8 (kk := ?_)
  rw [nI_clamp (by omega), sby_e i hi j (by omega)]
  refine v_sipush (v := 255) (q := 12) dJ1_charAt_3b067_9 (kk := ?_)
  refine v_iand (q := 13) dJ1_charAt_3b067_12 (kk := ?_)
  rw [and_255 _ hlt]
  refine v_i2c (q := 14) dJ1_charAt_3b067_13 (hv := chr_lo _ hlt) (kk := ?_)
  refine v_zret dJ1_charAt_3b067_14 (nar_lo _ hlt) (hQ := ?_)
  exact hQ
theorem s_charAt {j : Nat} (hi : i < 6) (hj : j < slN i) (hQ : Q (some (.int (nI (sbN i j)))) S I R z) : Cl g mJ0_charAt_5068e 3 0 0 S I R z [.ref (g.2.2.1 i), .int (nI j)] Q := by
  have := slN_le i hi
  have hlt := sbN_lt i hi j (by omega)
  refine Cl.go [some (.ref (g.2.2.1 i)), some (.int (nI j))] ?_
  refine v_aload_n (q := 1) dJ0_charAt_5068e_0 (kk := ?_)
  refine v_cT0 (N := mJ0_isLatin1_aae02) (q := 4) lJ0_492 iJ0_isLatin1_aae02 kJ0_isLatin1_aae02 (by assumption) dJ0_charAt_5068e_1 (s_isLatin1 hi ?_)
  refine v_if_eqF (q := 7) (t := 16) dJ0_charAt_5068e_4 (by decide) (kf := ?_)
  refine v_aload_n (q := 8) dJ0_charAt_5068e_7 (kk := ?_)
  refine v_strval (q := 11) (by assumption) fJ0_9 (hd := dJ0_charAt_5068e_8) (kk := ?_)
  refine v_iload_n (q := 12) dJ0_charAt_5068e_11 (kk := ?_)
  refine v_cS2 (N := mJ1_charAt_3b067) (q := 15) lJ0_495 sJ1_charAt_3b067 kJ1_charAt_3b067 dJ0_charAt_5068e_12 (s_l1charAt hi hj ?_)
  refine v_zret dJ0_charAt_5068e_15 (nar_lo _ hlt) (hQ := ?_)
  exact hQ
theorem s_canEncode {c : Nat} (hc : c < 128) (hQ : Q (some (.int 1)) S I R z) : Cl g mJ1_canEncode_9a6ad 0 0 0 S I R z [.int (nI c)] Q := by
  refine Cl.go [some (.int (nI c))] ?_
  refine v_iload_n (q := 1) dJ1_canEncode_9a6ad_0 (kk := ?_)
  refine v_if_ltF (q := 4) (t := 15) dJ1_canEncode_9a6ad_1 (nI_pos (by omega)) (kf := ?_)
  refine v_iload_n (q := 5) dJ1_canEncode_9a6ad_4 (kk := ?_)
  refine v_sipush (v := 255) (q := 8) dJ1_canEncode_9a6ad_5 (kk := ?_)
  refine v_icmp_gtF (q := 11) (t := 15) dJ1_canEncode_9a6ad_8 (fun h => by have := (nI_ltI (a := 255) (by omega) (by omega)).mp h; omega) (kf := ?_)
  refine v_iconst (v := 1) (q := 12) dJ1_canEncode_9a6ad_11 (kk := ?_)
  refine v_goto 16 dJ1_canEncode_9a6ad_12 (kt := ?_)
  refine v_zret dJ1_canEncode_9a6ad_16 rfl (hQ := ?_)
  exact hQ
theorem ixc_loop {c : Nat} (hi : i < 6) (hc : c < 128) (n : Nat) : ∀ j, j + n = slN i → Q (some (.int (hc_o (fst0 (fun k => decide (sbN i k = c)) j n)))) S I R z → V g mJ1_indexOfChar_4cfef 0 0 0 S I R z 7 [some (.ref (g.2.2.2 i)), some (.int (nI c)), some (.int 0), some (.int (nI (slN i))), some (.int (nI c)), some (.int (nI j))] [] Q := by
  have := slN_le i hi
  induction n with
  | zero =>
    intro j hj hQ
    obtain rfl : j = slN i := by omega
    refine v_iload (q := 9) dJ1_indexOfChar_4cfef_7 (kk := ?_)
    refine v_iload_n (q := 10) dJ1_indexOfChar_4cfef_9 (kk := ?_)
    refine v_icmp_geT 31 dJ1_indexOfChar_4cfef_10 (Int32.le_refl _) (kt := ?_)
    refine v_iconst (v := (-1)) (q := 32) dJ1_indexOfChar_4cfef_31 (kk := ?_)
    refine v_iret dJ1_indexOfChar_4cfef_32 (hQ := ?_)
    exact hQ
  | succ n ih =>
    intro j hj hQ
    have hlt := sbN_lt i hi j (by omega)
    simp only [fst0] at hQ
    refine v_iload (q := 9) dJ1_indexOfChar_4cfef_7 (kk := ?_)
    refine v_iload_n (q := 10) dJ1_indexOfChar_4cfef_9 (kk := ?_)
    refine v_icmp_geF (q := 13) (t := 31) dJ1_indexOfChar_4cfef_10 (fun h => by have := (nI_leI (by omega) (by omega)).mp h; omega) (kf := ?_)
    refine v_aload_n (q := 14) dJ1_indexOfChar_4cfef_13 (kk := ?_)
    refine v_iload (q := 16) dJ1_indexOfChar_4cfef_14 (kk := ?_)
    refine v_strbyte (q := 17) hi (vp_in_nI (show j < hc_sln.getD i 0 from by show j < slN i; omega) (show hc_sln.getD i 0 < 2 ^ 31 from by show slN i < _; omega)) dJ1_indexOfChar_4cfef_16 (kk := ?_)
    rw [nI_clamp (by omega), sby_e i hi j (by omega)]
    refine v_iload (q := 19) dJ1_indexOfChar_4cfef_17 (kk := ?_)
    by_cases cc : sbN i j = c
    · rw [if_pos (decide_eq_true cc)] at hQ
      refine v_icmp_neF (q := 22) (t := 25) dJ1_indexOfChar_4cfef_19 (by rw [cc]) (kf := ?_)
      refine v_iload (q := 24) dJ1_indexOfChar_4cfef_22 (kk := ?_)
      refine v_iret dJ1_indexOfChar_4cfef_24 (hQ := ?_)
      exact hQ
    · rw [if_neg (by simpa using cc)] at hQ
      refine v_icmp_neT 25 dJ1_indexOfChar_4cfef_19 (fun h => cc ((nI_eq (by omega) (by omega)).mp h)) (kt := ?_)
      refine v_iinc5 (q := 28) dJ1_indexOfChar_4cfef_25 (hv := nI_1 j) (kk := ?_)
      refine v_goto 7 dJ1_indexOfChar_4cfef_28 (kt := ?_)
      exact ih (j + 1) (by omega) hQ
theorem s_indexOfChar {c : Nat} (hi : i < 6) (hc : c < 128) (hQ : Q (some (.int (hc_o (fst0 (fun k => decide (sbN i k = c)) 0 (slN i))))) S I R z) : Cl g mJ1_indexOfChar_4cfef 0 0 0 S I R z [.ref (g.2.2.2 i), .int (nI c), .int 0, .int (nI (slN i))] Q := by
  refine Cl.go [some (.ref (g.2.2.2 i)), some (.int (nI c)), some (.int 0), some (.int (nI (slN i))), none, none] ?_
  refine v_iload_n (q := 1) dJ1_indexOfChar_4cfef_0 (kk := ?_)
  refine v_i2b (q := 2) dJ1_indexOfChar_4cfef_1 (hv := byt_lo c hc) (kk := ?_)
  refine v_istore4 (q := 4) dJ1_indexOfChar_4cfef_2 (kk := ?_)
  refine v_iload_n (q := 5) dJ1_indexOfChar_4cfef_4 (kk := ?_)
  refine v_istore5 (q := 7) dJ1_indexOfChar_4cfef_5 (kk := ?_)
  exact ixc_loop hi hc (slN i) 0 (by omega) hQ
theorem s_l1indexOf {c : Nat} (hi : i < 6) (h0 : 0 < slN i) (hc : c < 128) (hQ : Q (some (.int (hc_o (fst0 (fun k => decide (sbN i k = c)) 0 (slN i))))) S I R z) : Cl g mJ1_indexOf_4cfef 1 0 0 S I R z [.ref (g.2.2.2 i), .int (nI c), .int 0, .int (nI (slN i))] Q := by
  have := slN_le i hi
  refine Cl.go [some (.ref (g.2.2.2 i)), some (.int (nI c)), some (.int 0), some (.int (nI (slN i)))] ?_
  refine v_iload_n (q := 1) dJ1_indexOf_4cfef_0 (kk := ?_)
  refine v_cS1 (N := mJ1_canEncode_9a6ad) (q := 4) lJ1_88 sJ1_canEncode_9a6ad kJ1_canEncode_9a6ad dJ1_indexOf_4cfef_1 (s_canEncode hc ?_)
  refine v_if_neT 9 dJ1_indexOf_4cfef_4 (by decide) (kt := ?_)
  refine v_iload_n (q := 10) dJ1_indexOf_4cfef_9 (kk := ?_)
  refine v_iconst (v := 0) (q := 11) dJ1_indexOf_4cfef_10 (kk := ?_)
  refine v_cS2 (N := mJ9_max_7cf53) (q := 14) lJ1_92 sJ9_max_7cf53 kJ9_max_7cf53 dJ1_indexOf_4cfef_11 (s_max ?_)
  rw [show hc_max 0 0 = 0 from rfl]
  refine v_istore2 (q := 15) dJ1_indexOf_4cfef_14 (kk := ?_)
  refine v_iload_n (q := 16) dJ1_indexOf_4cfef_15 (kk := ?_)
  refine v_aload_n (q := 17) dJ1_indexOf_4cfef_16 (kk := ?_)
  refine v_strlen (q := 18) hi dJ1_indexOf_4cfef_17 (kk := ?_)
  refine v_cS2 (N := mJ9_min_7cf53) (q := 21) lJ1_38 sJ9_min_7cf53 kJ9_min_7cf53 dJ1_indexOf_4cfef_18 (s_min ?_)
  rw [show hc_min (nI (slN i)) (nI (hc_sln.getD i 0)) = nI (slN i) from if_pos (Int32.le_refl _)]
  refine v_istore3 (q := 22) dJ1_indexOf_4cfef_21 (kk := ?_)
  refine v_iload_n (q := 23) dJ1_indexOf_4cfef_22 (kk := ?_)
  refine v_iload_n (q := 24) dJ1_indexOf_4cfef_23 (kk := ?_)
  refine v_icmp_ltT 29 dJ1_indexOf_4cfef_24 (nI_lt (a := 0) h0 (by omega)) (kt := ?_)
  refine v_aload_n (q := 30) dJ1_indexOf_4cfef_29 (kk := ?_)
  refine v_iload_n (q := 31) dJ1_indexOf_4cfef_30 (kk := ?_)
  refine v_iload_n (q := 32) dJ1_indexOf_4cfef_31 (kk := ?_)
  refine v_iload_n (q := 33) dJ1_indexOf_4cfef_32 (kk := ?_)
  refine v_cS4 (N := mJ1_indexOfChar_4cfef) (q := 36) lJ1_95 sJ1_indexOfChar_4cfef kJ1_indexOfChar_4cfef dJ1_indexOf_4cfef_33 (s_indexOfChar hi hc ?_)
  refine v_iret dJ1_indexOf_4cfef_36 (hQ := ?_)
  exact hQ
theorem s_indexOf2 {c : Nat} (hi : i < 6) (h0 : 0 < slN i) (hc : c < 128) (hQ : Q (some (.int (hc_o (fst0 (fun k => decide (sbN i k = c)) 0 (slN i))))) S I R z) : Cl g mJ0_indexOf_7cf53 2 0 0 S I R z [.ref (g.2.2.1 i), .int (nI c), .int 0] Q := by
  refine Cl.go [some (.ref (g.2.2.1 i)), some (.int (nI c)), some (.int 0)] ?_
  refine v_aload_n (q := 1) dJ0_indexOf_7cf53_0 (kk := ?_)
  refine v_cT0 (N := mJ0_isLatin1_aae02) (q := 4) lJ0_492 iJ0_isLatin1_aae02 kJ0_isLatin1_aae02 (by assumption) dJ0_indexOf_7cf53_1 (s_isLatin1 hi ?_)
  refine v_if_eqF (q := 7) (t := 23) dJ0_indexOf_7cf53_4 (by decide) (kf := ?_)
  refine v_aload_n (q := 8) dJ0_indexOf_7cf53_7 (kk := ?_)
  refine v_strval (q := 11) (by assumption) fJ0_9 (hd := dJ0_indexOf_7cf53_8) (kk := ?_)
  refine v_iload_n (q := 12) dJ0_indexOf_7cf53_11 (kk := ?_)
  refine v_iload_n (q := 13) dJ0_indexOf_7cf53_12 (kk := ?_)
  refine v_aload_n (q := 14) dJ0_indexOf_7cf53_13 (kk := ?_)
  refine v_cT0 (N := mJ0_length_8abf5) (q := 17) lJ0_505 iJ0_length_8abf5 kJ0_length_8abf5 (by assumption) dJ0_indexOf_7cf53_14 (s_length hi ?_)
  refine v_cS4 (N := mJ1_indexOf_4cfef) (q := 20) lJ0_637 sJ1_indexOf_4cfef kJ1_indexOf_4cfef dJ0_indexOf_7cf53_17 (s_l1indexOf hi h0 hc ?_)
  refine v_goto 36 dJ0_indexOf_7cf53_20 (kt := ?_)
  refine v_iret dJ0_indexOf_7cf53_36 (hQ := ?_)
  exact hQ
theorem s_indexOf {c : Nat} (hi : i < 6) (h0 : 0 < slN i) (hc : c < 128) (hQ : Q (some (.int (hc_o (fst0 (fun k => decide (sbN i k = c)) 0 (slN i))))) S I R z) : Cl g mJ0_indexOf_0f7a4 3 0 0 S I R z [.ref (g.2.2.1 i), .int (nI c)] Q := by
  refine Cl.go [some (.ref (g.2.2.1 i)), some (.int (nI c))] ?_
  refine v_aload_n (q := 1) dJ0_indexOf_0f7a4_0 (kk := ?_)
  refine v_iload_n (q := 2) dJ0_indexOf_0f7a4_1 (kk := ?_)
  refine v_iconst (v := 0) (q := 3) dJ0_indexOf_0f7a4_2 (kk := ?_)
  refine v_cT2 (N := mJ0_indexOf_7cf53) (q := 6) lJ0_633 iJ0_indexOf_7cf53 kJ0_indexOf_7cf53 (by assumption) dJ0_indexOf_0f7a4_3 (s_indexOf2 hi h0 hc ?_)
  refine v_iret dJ0_indexOf_0f7a4_6 (hQ := ?_)
  exact hQ
theorem sl3 : ∀ key, key < 3 → 0 < slN (3 + key) := by decide
theorem ix_nm : ∀ key, key < 3 → ∀ t, t < 128 → hc_o (fst0 (fun k => decide (sbN (3 + key) k = t)) 0 (slN (3 + key))) = nmF key (nI t) := by decide +kernel
end L13
/-- the word or sign at hand in the Reader -/
def TKc (I : hcI) (r : Nat) (tp : Nat → Int32) (tl p : Nat) (e : Int32) : Prop := I r 4 = nI (lxQ tp tl p) ∧ I r 5 = nI (lxR tp tl p) ∧ I r 6 = nI (ksF (lxK tp tl p e)) ∧ ∃ s, LI e p s
def FR (r cd : Nat) (I I' : hcI) : Prop := (∀ y, y ≠ r → y ≠ cd → I' y = I y) ∧ I' r 3 = I r 3 ∧ I' r 7 = I r 7
theorem FR.rfl {r cd : Nat} {I : hcI} : FR r cd I I := ⟨fun _ _ _ => Eq.refl _, Eq.refl _, Eq.refl _⟩
theorem FR.trans {r cd : Nat} {I I1 I2 : hcI} (h : FR r cd I I1) (k : FR r cd I1 I2) : FR r cd I I2 := ⟨fun y a b => (k.1 y a b).trans (h.1 y a b), k.2.1.trans h.2.1, k.2.2.trans h.2.2⟩
theorem RM.fr {r cd : Nat} {I I' : hcI} (h : RM r I I') : FR r cd I I' := ⟨fun y a _ => h.1 y a, h.2 3 (by omega), h.2 7 (by omega)⟩
theorem FR.u {r cd j : Nat} {v : Int32} {I : hcI} (hj : j ≠ 3 ∧ j ≠ 7) : FR r cd I (hc_u I r j v) := ⟨fun y a _ => hc_u_ne a, by rw [hc_u_at, upd_ne (by omega)], by rw [hc_u_at, upd_ne (by omega)]⟩
theorem FR.w {r cd j : Nat} {v : Int32} {I : hcI} (hc : cd ≠ r) : FR r cd I (hc_u I cd j v) := ⟨fun y _ b => hc_u_ne b, by rw [hc_u_ne (by omega)], by rw [hc_u_ne (by omega)]⟩
theorem RE.fr {S : hcS} {I I' : hcI} {R : hcR} {r c cd tl : Nat} {tp : Nat → Int32} (h : RE S I R r c cd tl tp) (hF : FR r cd I I') : RE S I' R r c cd tl tp := by
  obtain ⟨⟨s0, r1, scd, r2, sc, n1, n2, n3⟩, h3, htl, hb, hc⟩ := h
  exact ⟨⟨s0, r1, scd, r2, sc, n1, n2, n3⟩, hF.2.1.trans h3, htl, hb, fun j hj => by rw [hF.1 c n1 (fun e => n3 e.symm)]; exact hc j hj⟩
theorem ksF_lt {k : Nat} : ksF k < 5 := by
  unfold ksF
  repeat' split
  all_goals omega
theorem ksF_2 {k : Nat} (hk : k < 5) : ksF k = 2 ↔ k = 3 := by
  have : k = 0 ∨ k = 1 ∨ k = 2 ∨ k = 3 ∨ k = 4 := by omega
  rcases this with rfl | rfl | rfl | rfl | rfl <;> decide
theorem TKc.of {I I' : hcI} {r tl p : Nat} {tp : Nat → Int32} {e : Int32} (h : TKc I r tp tl p e) (hk : ∀ j, 4 ≤ j → j ≤ 6 → I' r j = I r j) : TKc I' r tp tl p e :=
  ⟨(hk 4 (by omega) (by omega)).trans h.1, (hk 5 (by omega) (by omega)).trans h.2.1, (hk 6 (by omega) (by omega)).trans h.2.2.1, h.2.2.2⟩
/-- the Reader's codes are X (as the reference has them, the last first), its leaves A -/
def CD (I : hcI) (r cd : Nat) (X : List Int32) (A : Nat) : Prop := I r 8 = nI X.length ∧ lsF (I cd) X.length = X.map trc ∧ I r 9 = nI A
theorem CD.of {I I' : hcI} {r cd A : Nat} {X : List Int32} (h : CD I r cd X A) (h1 : I' cd = I cd) (h8 : I' r 8 = I r 8) (h9 : I' r 9 = I r 9) : CD I' r cd X A := ⟨h8.trans h.1, by rw [h1]; exact h.2.1, h9.trans h.2.2⟩
section L14
variable {g : hcG} {S : hcS} {I : hcI} {R : hcR} {z : Nat} {Q : hcQ} {r c cd tl p : Nat} {tp : Nat → Int32} {e : Int32}
theorem s_goOnT (hr : RE S I R r c cd tl tp) (hp : p ≤ tl) (ht : TKc I r tp tl p e) (hk : lxK tp tl p e = 1 ∨ lxK tp tl p e = 2 ∨ lxK tp tl p e = 3) (hQ : ∀ I' : hcI, RM r I I' → TKc I' r tp tl (lxR tp tl p) (lxE tp tl p e) → Q none S I' R z) : Cl g mX2_goOn 1 0 0 S I R z [.ref r] Q := by
  obtain ⟨⟨s0, r1, scd, r2, sc, n1, n2, n3⟩, h3, htl, hb, hc⟩ := hr
  obtain ⟨t4, t5, t6, s, hL⟩ := ht
  have hR := lxR_le (tp := tp) hp
  have hL2 := LI_next (tp := tp) hp htl hL hk
  exact s_goOn s0 r2 n1 sc h3 htl hb hc hR.2.1 ksF_lt t5 t6 (fun I' hM a4 a5 a6 => hQ I' hM ⟨a4, a5, by rw [a6, lx_same hR.2.1 htl hL2], _, hL2⟩)
/-- write, whatever stands there -/
theorem s_writeX {w : Nat} {v : Int32} (hr : RE S I R r c cd tl tp) (h8 : I r 8 = nI w) (hw : w ≤ 96) (hQ : ∀ I' : hcI, FR r cd I I' → (∀ j, j ≠ 8 → I' r j = I r j) → (∃ w', w' ≤ 96 ∧ I' r 8 = nI w') → Q none S I' R z) : Cl g mX2_write 0 0 0 S I R z [.ref r, .int v] Q := by
  have n2 := hr.1.2.2.2.2.2.2.1
  by_cases c1 : w < 96
  · refine s_write hr h8 c1 ?_
    refine hQ _ ((FR.w n2).trans (FR.u (by omega))) (fun j hj => ?_) ⟨w + 1, by omega, by rw [hc_u_at, upd_at]⟩
    rw [hc_u_at, upd_ne hj, hc_u_ne (by omega)]
  · have s0 := hr.1.1
    refine Cl.go [some (.ref r), some (.int v)] ?_
    refine v_aload_n (q := 1) dX2_write_0 (kk := ?_)
    refine v_getI (q := 4) fX2_38 (by assumption) (hd := dX2_write_1) (kk := ?_)
    rw [h8]
    refine v_bipush (v := 96) (q := 6) dX2_write_4 (kk := ?_)
    refine v_icmp_geT 29 dX2_write_6 (nI_le (a := 96) (by omega) (by omega)) (kt := ?_)
    refine v_vret dX2_write_29 (hQ := ?_)
    exact hQ I FR.rfl (fun _ _ => rfl) ⟨w, hw, h8⟩
theorem s_writeC {X : List Int32} {A : Nat} {x v : Int32} (hr : RE S I R r c cd tl tp) (hc : CD I r cd X A) (hX : X.length < 96) (hv : trc x = v) (hQ : ∀ I' : hcI, FR r cd I I' → (∀ j, j ≠ 8 → I' r j = I r j) → CD I' r cd (x :: X) A → Q none S I' R z) : Cl g mX2_write 0 0 0 S I R z [.ref r, .int v] Q := by
  have n2 := hr.1.2.2.2.2.2.2.1
  refine s_write hr hc.1 hX ?_
  have fj : ∀ j, j ≠ 8 → hc_u (hc_u I cd X.length v) r 8 (nI (X.length + 1)) r j = I r j := fun j hj => by rw [hc_u_at, upd_ne hj, hc_u_ne (by omega)]
  refine hQ _ ((FR.w n2).trans (FR.u (by omega))) fj ⟨?_, ?_, (fj 9 (by omega)).trans hc.2.2⟩
  · rw [hc_u_at, upd_at]; rfl
  · rw [hc_u_ne n2, hc_u_at, List.length_cons, lsF_upd, hc.2.1, List.map_cons, hv]
theorem s_takeLeaf {X : List Int32} {A : Nat} {x : Int32} (hr : RE S I R r c cd tl tp) (hp : p ≤ tl) (ht : TKc I r tp tl p e) (hk : lxK tp tl p e = 1 ∨ lxK tp tl p e = 2 ∨ lxK tp tl p e = 3) (hc : CD I r cd X A) (hX : X.length < 96) (hx : 0 ≤ x) (hQ : ∀ I' : hcI, FR r cd I I' → I' r 0 = I r 0 → TKc I' r tp tl (lxR tp tl p) (lxE tp tl p e) → CD I' r cd (x :: X) (A + 1) → Q none S I' R z) : Cl g mX2_takeLeaf 2 0 0 S I R z [.ref r, .int x] Q := by
  have s0 := hr.1.1
  have n2 := hr.1.2.2.2.2.2.2.1
  refine Cl.go [some (.ref r), some (.int x)] ?_
  refine v_aload_n (q := 1) dX2_takeLeaf_0 (kk := ?_)
  refine v_dup (q := 2) dX2_takeLeaf_1 (kk := ?_)
  refine v_getI (q := 5) fX2_41 (by assumption) (hd := dX2_takeLeaf_2) (kk := ?_)
  rw [hc.2.2]
  refine v_iconst (v := 1) (q := 6) dX2_takeLeaf_5 (kk := ?_)
  refine v_iadd (q := 7) dX2_takeLeaf_6 (kk := ?_)
  rw [nI_1]
  refine v_putI (q := 10) fX2_41 (by assumption) (hd := dX2_takeLeaf_7) (kk := ?_)
  have f1 : FR r cd I (hc_u I r 9 (nI (A + 1))) := FR.u (by omega)
  have k1 : ∀ j, j ≠ 9 → hc_u I r 9 (nI (A + 1)) r j = I r j := fun j hj => by rw [hc_u_at, upd_ne hj]
  refine v_aload_n (q := 11) dX2_takeLeaf_10 (kk := ?_)
  refine v_iload_n (q := 12) dX2_takeLeaf_11 (kk := ?_)
  refine v_cV1 (N := mX2_write) (q := 15) lX2_103 iX2_write kX2_write (by assumption) dX2_takeLeaf_12 (s_writeC (X := X) (A := A + 1) (x := x) (hr.fr f1) ⟨(k1 8 (by omega)).trans hc.1, by rw [hc_u_ne n2]; exact hc.2.1, by rw [hc_u_at, upd_at]⟩ hX (by unfold trc; rw [if_pos hx]) (fun I2 f2 k2 c2 => ?_))
  refine v_aload_n (q := 16) dX2_takeLeaf_15 (kk := ?_)
  refine v_cV0 (N := mX2_goOn) (q := 19) lX2_44 iX2_goOn kX2_goOn (by assumption) dX2_takeLeaf_16 (s_goOnT (hr.fr (f1.trans f2)) hp (ht.of (fun j a b => (k2 j (by omega)).trans (k1 j (by omega)))) hk (fun I3 hM3 ht3 => ?_))
  refine v_vret dX2_takeLeaf_19 (hQ := ?_)
  refine hQ I3 ((f1.trans f2).trans hM3.fr) ?_ ht3 (c2.of (hM3.1 cd n2) (hM3.2 8 (by omega)) (hM3.2 9 (by omega)))
  rw [hM3.2 0 (by omega), k2 0 (by omega), k1 0 (by omega)]
theorem s_namesOfKey {key : Nat} (s0 : S r = some (2, 0)) (hk : key < 3) (h7 : I r 7 = nI key) (hQ : Q (some (.ref (g.2.2.1 (3 + key)))) S I R z) : Cl g mX2_namesOfKey 0 0 0 S I R z [.ref r] Q := by
  refine Cl.go [some (.ref r)] ?_
  refine v_aload_n (q := 1) dX2_namesOfKey_0 (kk := ?_)
  refine v_getI (q := 4) fX2_59 (by assumption) (hd := dX2_namesOfKey_1) (kk := ?_)
  rw [h7]
  have : key = 0 ∨ key = 1 ∨ key = 2 := by omega
  rcases this with rfl | rfl | rfl
  · refine v_ls 32 dX2_namesOfKey_4 (by rfl) (kt := ?_)
    refine v_ldcS 3 (q := 34) (by decide) dX2_namesOfKey_32 (kk := ?_)
    refine v_aret dX2_namesOfKey_34 (Or.inr ⟨_, rfl⟩) (Or.inl ⟨_, rfl⟩) (hQ := ?_)
    exact hQ
  · refine v_ls 35 dX2_namesOfKey_4 (by rfl) (kt := ?_)
    refine v_ldcS 4 (q := 37) (by decide) dX2_namesOfKey_35 (kk := ?_)
    refine v_aret dX2_namesOfKey_37 (Or.inr ⟨_, rfl⟩) (Or.inl ⟨_, rfl⟩) (hQ := ?_)
    exact hQ
  · refine v_ls 38 dX2_namesOfKey_4 (by rfl) (kt := ?_)
    refine v_ldcS 5 (q := 40) (by decide) dX2_namesOfKey_38 (kk := ?_)
    refine v_aret dX2_namesOfKey_40 (Or.inr ⟨_, rfl⟩) (Or.inl ⟨_, rfl⟩) (hQ := ?_)
    exact hQ
theorem s_takeName {key : Nat} {X : List Int32} {A : Nat} (hr : RE S I R r c cd tl tp) (hp : p ≤ tl) (ht : TKc I r tp tl p e) (hk : lxK tp tl p e = 1) (hkey : key < 3) (h7 : I r 7 = nI key) (h0 : ¬ 0 ≤ I r 0) (hc : CD I r cd X A) (hX : X.length < 96) (hno : lfF tp tl key p e = none → Q none S (hc_u I r 0 (nI (lxQ tp tl p))) R z) (hyes : ∀ x, lfF tp tl key p e = some x → ∀ I' : hcI, FR r cd I I' → I' r 0 = I r 0 → TKc I' r tp tl (lxR tp tl p) (lxE tp tl p e) → CD I' r cd (x :: X) (A + 1) → Q none S I' R z) : Cl g mX2_takeName 4 0 0 S I R z [.ref r] Q := by
  have hr' := hr
  obtain ⟨⟨s0, r1, scd, r2, sc, n1, n2, n3⟩, h3, htl, hb, hcb⟩ := hr'
  have ht' := ht
  obtain ⟨t4, t5, t6, hLI⟩ := ht'
  have hR := lxR_le (tp := tp) hp
  have hg := lxR_gt (tp := tp) (e := e) hp (by omega)
  have hlet : bLt (tbF tp (lxQ tp tl p)) = true := by
    unfold lxK at hk
    rw [if_neg (by omega)] at hk
    split at hk
    next h => exact h
    next => split at hk
            · split at hk <;> omega
            · omega
  have hlet2 : 97 ≤ tbF tp (lxQ tp tl p) ∧ tbF tp (lxQ tp tl p) ≤ 122 := by simpa [bLt] using hlet
  refine Cl.go [some (.ref r), none] ?_
  have bad : ∀ o, lfF tp tl key p e = none → V g mX2_takeName 4 0 0 S I R z 39 [some (.ref r), o] [] Q := by
    intro o hno'
    refine v_aload_n (q := 40) dX2_takeName_39 (kk := ?_)
    refine v_cV0 (N := mX2_isFault) (q := 43) lX2_54 iX2_isFault kX2_isFault (by assumption) dX2_takeName_40 (s_isFault s0 (fun _ => ?_) (fun h => absurd h h0))
    refine v_goto 55 dX2_takeName_43 (kt := ?_)
    refine v_vret dX2_takeName_55 (hQ := ?_)
    rw [t4]
    exact hno hno'
  refine v_aload_n (q := 1) dX2_takeName_0 (kk := ?_)
  refine v_getI (q := 4) fX2_29 (by assumption) (hd := dX2_takeName_1) (kk := ?_)
  rw [t5]
  refine v_aload_n (q := 5) dX2_takeName_4 (kk := ?_)
  refine v_getI (q := 8) fX2_71 (by assumption) (hd := dX2_takeName_5) (kk := ?_)
  rw [t4]
  refine v_isub (q := 9) dX2_takeName_8 (kk := ?_)
  rw [pk_sub hR.1]
  refine v_iconst (v := 1) (q := 10) dX2_takeName_9 (kk := ?_)
  by_cases c1 : lxR tp tl p - lxQ tp tl p = 1
  · refine v_icmp_neF (q := 13) (t := 33) dX2_takeName_10 (by rw [c1]; rfl) (kf := ?_)
    refine v_aload_n (q := 14) dX2_takeName_13 (kk := ?_)
    refine v_cV0 (N := mX2_namesOfKey) (q := 17) lX2_127 iX2_namesOfKey kX2_namesOfKey (by assumption) dX2_takeName_14 (s_namesOfKey s0 hkey h7 ?_)
    refine v_aload_n (q := 18) dX2_takeName_17 (kk := ?_)
    refine v_getR (q := 21) fX2_15 (by assumption) (by assumption) (hd := dX2_takeName_18) (kk := ?_)
    refine v_aload_n (q := 22) dX2_takeName_21 (kk := ?_)
    refine v_getI (q := 25) fX2_71 (by assumption) (hd := dX2_takeName_22) (kk := ?_)
    rw [t4]
    refine v_baldN (q := 26) sc (show lxQ tp tl p < 96 by omega) (by omega) dX2_takeName_25 (kk := ?_)
    rw [hcb _ hg.2.2, sb_lo _ (by omega)]
    refine v_i2c (q := 27) dX2_takeName_26 (hv := chr_lo _ (by omega)) (kk := ?_)
    refine v_cT1 (N := mJ0_indexOf_0f7a4) (q := 30) lX2_131 iJ0_indexOf_0f7a4 kJ0_indexOf_0f7a4 (show 3 + key < 6 by omega) dX2_takeName_27 (s_indexOf (show 3 + key < 6 by omega) (sl3 key hkey) (by omega) ?_)
    rw [ix_nm key hkey _ (by omega)]
    refine v_goto 34 dX2_takeName_30 (kt := ?_)
    refine v_istore1 (q := 35) dX2_takeName_34 (kk := ?_)
    refine v_iload_n (q := 36) dX2_takeName_35 (kk := ?_)
    refine v_if_ge 46 (q := 39) dX2_takeName_36 (kt := fun c2 => ?_) (kf := fun c2 => ?_)
    · have hle : ¬ nmF key (nI (tbF tp (lxQ tp tl p))) < 0 := Int32.not_lt.mpr c2
      have el : lfF tp tl key p e = some (10000 + nmF key (nI (tbF tp (lxQ tp tl p)))) := by unfold lfF; rw [if_neg (by omega), if_pos ⟨hk, c1, hle⟩]
      refine v_aload_n (q := 47) dX2_takeName_46 (kk := ?_)
      refine v_sipush (v := 10000) (q := 50) dX2_takeName_47 (kk := ?_)
      refine v_iload_n (q := 51) dX2_takeName_50 (kk := ?_)
      refine v_iadd (q := 52) dX2_takeName_51 (kk := ?_)
      refine v_cV1 (N := mX2_takeLeaf) (q := 55) lX2_114 iX2_takeLeaf kX2_takeLeaf (by assumption) dX2_takeName_52 (s_takeLeaf hr hp ht (Or.inl hk) hc hX (nmF_lt hkey hle).1 (fun I' a1 a2 a3 a4 => ?_))
      refine v_vret dX2_takeName_55 (hQ := ?_)
      exact hyes _ el I' a1 a2 a3 a4
    · exact bad _ (by unfold lfF; rw [if_neg (by omega), if_neg (fun h => h.2.2 (Int32.not_le.mp c2))])
  · refine v_icmp_neT 33 dX2_takeName_10 (fun h => c1 ((nI_eq (b := 1) (by omega) (by omega)).mp h)) (kt := ?_)
    refine v_iconst (v := (-1)) (q := 34) dX2_takeName_33 (kk := ?_)
    refine v_istore1 (q := 35) dX2_takeName_34 (kk := ?_)
    refine v_iload_n (q := 36) dX2_takeName_35 (kk := ?_)
    refine v_if_geF (q := 39) (t := 46) dX2_takeName_36 (by decide) (kf := ?_)
    exact bad _ (by unfold lfF; rw [if_neg (by omega), if_neg (fun h => c1 h.2.1)])
end L14
