theorem and63 (x : Int32) : ∃ k, k < 64 ∧ x &&& 63 = nI k := by
  refine ⟨(x &&& 63).toBitVec.toNat, ?_, ?_⟩
  · have h : (x &&& 63).toBitVec = x.toBitVec &&& 63#32 := rfl
    rw [h, BitVec.toNat_and]
    exact Nat.and_lt_two_pow (n := 6) _ (by decide)
  · apply Int32.toBitVec_inj.mp
    show _ = BitVec.ofNat 32 _
    rw [BitVec.ofNat_toNat, BitVec.setWidth_eq]
theorem sub6 {L i : Nat} (hL : L ≤ 3072) (hi : i ≤ 4000) : (nI L - 6 < nI i ↔ L < i + 6) := by
  by_cases c : 6 ≤ L
  · have e : nI L - 6 = nI (L - 6) := pk_sub (b := 6) c
    rw [e]
    constructor
    · intro h
      have := (nI_ltI (by omega) (by omega)).mp h
      omega
    · intro h
      exact nI_lt (by omega) (by omega)
  · have h0 : (0 : Int32) ≤ nI i := nI_le (a := 0) (by omega) (by omega)
    have h1 : nI L - 6 < 0 := by
      have : L = 0 ∨ L = 1 ∨ L = 2 ∨ L = 3 ∨ L = 4 ∨ L = 5 := by omega
      rcases this with rfl | rfl | rfl | rfl | rfl | rfl <;> decide
    exact ⟨fun _ => by omega, fun _ => Int32.lt_of_lt_of_le h1 h0⟩
def lwQ : hcQ := fun v _ _ _ _ => v = some (.int 1)
section L28
variable {g : hcG} {b : Nat}
theorem law_loop (hL : g.2.2.1 7 ≤ 3072) (n : Nat) : ∀ (i : Nat) (S : hcS) (I : hcI) (R : hcR) (z : Nat), g.2.2.1 7 < i + 6 * (n + 1) → i ≤ g.2.2.1 7 + 6 → REL S I R b z → V g mL_law 114 (3 * n) (200 * n) S I R z 18 (LL g b i) [] lwQ := by
  induction n with
  | zero =>
    intro i S I R z h1 h2 hrel
    unfold LL
    refine v_iload_n (q := 19) dL_law_18 (kk := ?_)
    refine v_aload_n (q := 20) dL_law_19 (kk := ?_)
    refine v_sclen (q := 21) dL_law_20 (kk := ?_)
    refine v_bipush (v := 6) (q := 23) dL_law_21 (kk := ?_)
    refine v_isub (q := 24) dL_law_23 (kk := ?_)
    refine v_icmp_gtT 1465 dL_law_24 ((sub6 hL (by omega)).mpr (by omega)) (kt := ?_)
    refine v_iconst (v := 1) (q := 1466) dL_law_1465 (kk := ?_)
    refine v_zret dL_law_1466 rfl (hQ := ?_)
    exact rfl
  | succ n ih =>
    intro i S I R z h1 h2 hrel
    have next : i + 6 ≤ g.2.2.1 7 → ∀ (S' : hcS) (I' : hcI) (R' : hcR) (z' : Nat), REL S' I' R' b z' → V g mL_law 114 (3 * n) (200 * n) S' I' R' z' 1459 (LL g b i) [] lwQ := by
      intro hi S' I' R' z' hrel'
      have := ih (i + 6) S' I' R' z' (by omega) (by omega) hrel'
      unfold LL at this ⊢
      refine v_iinc3 (q := 1462) dL_law_1459 (hv := nI_add i 6) (kk := ?_)
      refine v_goto 18 dL_law_1462 (kt := ?_)
      exact this
    unfold LL
    refine v_iload_n (q := 19) dL_law_18 (kk := ?_)
    refine v_aload_n (q := 20) dL_law_19 (kk := ?_)
    refine v_sclen (q := 21) dL_law_20 (kk := ?_)
    refine v_bipush (v := 6) (q := 23) dL_law_21 (kk := ?_)
    refine v_isub (q := 24) dL_law_23 (kk := ?_)
    by_cases c : g.2.2.1 7 < i + 6
    · refine v_icmp_gtT 1465 dL_law_24 ((sub6 hL (by omega)).mpr c) (kt := ?_)
      refine v_iconst (v := 1) (q := 1466) dL_law_1465 (kk := ?_)
      refine v_zret dL_law_1466 rfl (hQ := ?_)
      exact rfl
    · have hi : i + 6 ≤ g.2.2.1 7 := by omega
      have hL' : g.2.2.1 7 < 2 ^ 31 := by omega
      have nx := next hi
      refine v_icmp_gtF (q := 27) (t := 1465) dL_law_24 (fun h => c ((sub6 hL (by omega)).mp h)) (kf := ?_)
      refine v_aload_n (q := 28) dL_law_27 (kk := ?_)
      refine v_iload_n (q := 29) dL_law_28 (kk := ?_)
      refine v_scld (q := 30) i rfl (by omega) hL' dL_law_29 (kk := ?_)
      refine v_bipush (v := 63) (q := 32) dL_law_30 (kk := ?_)
      refine v_iand (q := 33) dL_law_32 (kk := ?_)
      obtain ⟨k, hk, e⟩ := and63 (nI (g.2.2.1 (8 + i)))
      rw [e]
      by_cases c43 : 43 ≤ k
      · refine v_tsOut 1459 dL_law_33 (Or.inr (by rw [nI_toInt (by omega)]; omega)) (kt := ?_)
        exact V.less (nx S I R z hrel) (by omega) (by omega)
      · have : k = 0 ∨ k = 1 ∨ k = 2 ∨ k = 3 ∨ k = 4 ∨ k = 5 ∨ k = 6 ∨ k = 7 ∨ k = 8 ∨ k = 9 ∨ k = 10 ∨ k = 11 ∨ k = 12 ∨ k = 13 ∨ k = 14 ∨ k = 15 ∨ k = 16 ∨ k = 17 ∨ k = 18 ∨ k = 19 ∨ k = 20 ∨ k = 21 ∨ k = 22 ∨ k = 23 ∨ k = 24 ∨ k = 25 ∨ k = 26 ∨ k = 27 ∨ k = 28 ∨ k = 29 ∨ k = 30 ∨ k = 31 ∨ k = 32 ∨ k = 33 ∨ k = 34 ∨ k = 35 ∨ k = 36 ∨ k = 37 ∨ k = 38 ∨ k = 39 ∨ k = 40 ∨ k = 41 ∨ k = 42 := by omega
        rcases this with rfl | rfl | rfl | rfl | rfl | rfl | rfl | rfl | rfl | rfl | rfl | rfl | rfl | rfl | rfl | rfl | rfl | rfl | rfl | rfl | rfl | rfl | rfl | rfl | rfl | rfl | rfl | rfl | rfl | rfl | rfl | rfl | rfl | rfl | rfl | rfl | rfl | rfl | rfl | rfl | rfl | rfl | rfl
        · refine v_tsIn 220 dL_law_33 (by decide) (by decide) (by rfl) (kt := ?_)
          exact lc_0 hrel hi hL' nx
        · refine v_tsIn 263 dL_law_33 (by decide) (by decide) (by rfl) (kt := ?_)
          exact lc_1 hrel hi hL' nx
        · refine v_tsIn 296 dL_law_33 (by decide) (by decide) (by rfl) (kt := ?_)
          exact lc_2 hrel hi hL' nx
        · refine v_tsIn 329 dL_law_33 (by decide) (by decide) (by rfl) (kt := ?_)
          exact lc_3 hrel hi hL' nx
        · refine v_tsIn 362 dL_law_33 (by decide) (by decide) (by rfl) (kt := ?_)
          exact lc_4 hrel hi hL' nx
        · refine v_tsIn 405 dL_law_33 (by decide) (by decide) (by rfl) (kt := ?_)
          exact lc_5 hrel hi hL' nx
        · refine v_tsIn 438 dL_law_33 (by decide) (by decide) (by rfl) (kt := ?_)
          exact lc_6 hrel hi hL' nx
        · refine v_tsIn 461 dL_law_33 (by decide) (by decide) (by rfl) (kt := ?_)
          exact lc_7 hrel hi hL' nx
        · refine v_tsIn 484 dL_law_33 (by decide) (by decide) (by rfl) (kt := ?_)
          exact lc_8 hrel hi hL' nx
        · refine v_tsIn 507 dL_law_33 (by decide) (by decide) (by rfl) (kt := ?_)
          exact lc_9 hrel hi hL' nx
        · refine v_tsIn 540 dL_law_33 (by decide) (by decide) (by rfl) (kt := ?_)
          exact lc_10 hrel hi hL' nx
        · refine v_tsIn 563 dL_law_33 (by decide) (by decide) (by rfl) (kt := ?_)
          exact lc_11 hrel hi hL' nx
        · refine v_tsIn 596 dL_law_33 (by decide) (by decide) (by rfl) (kt := ?_)
          exact lc_12 hrel hi hL' nx
        · refine v_tsIn 619 dL_law_33 (by decide) (by decide) (by rfl) (kt := ?_)
          exact lc_13 hrel hi hL' nx
        · refine v_tsIn 642 dL_law_33 (by decide) (by decide) (by rfl) (kt := ?_)
          exact lc_14 hrel hi hL' nx
        · refine v_tsIn 655 dL_law_33 (by decide) (by decide) (by rfl) (kt := ?_)
          exact lc_15 hrel hi hL' nx
        · refine v_tsIn 688 dL_law_33 (by decide) (by decide) (by rfl) (kt := ?_)
          exact lc_16 hrel hi hL' nx
        · refine v_tsIn 701 dL_law_33 (by decide) (by decide) (by rfl) (kt := ?_)
          exact lc_17 hrel hi hL' nx
        · refine v_tsIn 724 dL_law_33 (by decide) (by decide) (by rfl) (kt := ?_)
          exact lc_18 hrel hi hL' nx
        · refine v_tsIn 747 dL_law_33 (by decide) (by decide) (by rfl) (kt := ?_)
          exact lc_19 hrel hi hL' nx
        · refine v_tsIn 770 dL_law_33 (by decide) (by decide) (by rfl) (kt := ?_)
          exact lc_20 hrel hi hL' nx
        · refine v_tsIn 813 dL_law_33 (by decide) (by decide) (by rfl) (kt := ?_)
          exact lc_21 hrel hi hL' nx
        · refine v_tsIn 826 dL_law_33 (by decide) (by decide) (by rfl) (kt := ?_)
          exact lc_22 hrel hi hL' nx
        · refine v_tsIn 869 dL_law_33 (by decide) (by decide) (by rfl) (kt := ?_)
          exact lc_23 hrel hi hL' nx
        · refine v_tsIn 892 dL_law_33 (by decide) (by decide) (by rfl) (kt := ?_)
          exact lc_24 hrel hi hL' nx
        · refine v_tsIn 935 dL_law_33 (by decide) (by decide) (by rfl) (kt := ?_)
          exact lc_25 hrel hi hL' nx
        · refine v_tsIn 958 dL_law_33 (by decide) (by decide) (by rfl) (kt := ?_)
          exact lc_26 hrel hi hL' nx
        · refine v_tsIn 971 dL_law_33 (by decide) (by decide) (by rfl) (kt := ?_)
          exact lc_27 hrel hi hL' nx
        · refine v_tsIn 1004 dL_law_33 (by decide) (by decide) (by rfl) (kt := ?_)
          exact lc_28 hrel hi hL' nx
        · refine v_tsIn 1027 dL_law_33 (by decide) (by decide) (by rfl) (kt := ?_)
          exact lc_29 hrel hi hL' nx
        · refine v_tsIn 1070 dL_law_33 (by decide) (by decide) (by rfl) (kt := ?_)
          exact lc_30 hrel hi hL' nx
        · refine v_tsIn 1113 dL_law_33 (by decide) (by decide) (by rfl) (kt := ?_)
          exact lc_31 hrel hi hL' nx
        · refine v_tsIn 1136 dL_law_33 (by decide) (by decide) (by rfl) (kt := ?_)
          exact lc_32 hrel hi hL' nx
        · refine v_tsIn 1159 dL_law_33 (by decide) (by decide) (by rfl) (kt := ?_)
          exact lc_33 hrel hi hL' nx
        · refine v_tsIn 1222 dL_law_33 (by decide) (by decide) (by rfl) (kt := ?_)
          exact lc_34 hrel hi hL' nx
        · refine v_tsIn 1265 dL_law_33 (by decide) (by decide) (by rfl) (kt := ?_)
          exact lc_35 hrel hi hL' nx
        · refine v_tsIn 1298 dL_law_33 (by decide) (by decide) (by rfl) (kt := ?_)
          exact lc_36 hrel hi hL' nx
        · refine v_tsIn 1331 dL_law_33 (by decide) (by decide) (by rfl) (kt := ?_)
          exact lc_37 hrel hi hL' nx
        · refine v_tsIn 1364 dL_law_33 (by decide) (by decide) (by rfl) (kt := ?_)
          exact lc_38 hrel hi hL' nx
        · refine v_tsIn 1387 dL_law_33 (by decide) (by decide) (by rfl) (kt := ?_)
          exact lc_39 hrel hi hL' nx
        · refine v_tsIn 1410 dL_law_33 (by decide) (by decide) (by rfl) (kt := ?_)
          exact lc_40 hrel hi hL' nx
        · refine v_tsIn 1423 dL_law_33 (by decide) (by decide) (by rfl) (kt := ?_)
          exact lc_41 hrel hi hL' nx
        · refine v_tsIn 1436 dL_law_33 (by decide) (by decide) (by rfl) (kt := ?_)
          exact lc_42 hrel hi hL' nx
end L28
theorem N0_0 {i : Nat} (h : i ≠ 0 ∧ i ≠ 2 ∧ i ≠ 6 ∧ i ≠ 7) : N0 i = 0 := by
  unfold N0
  rw [upd_ne h.2.2.2, upd_ne h.2.2.1, upd_ne h.2.1, upd_ne h.1]
theorem XW0 : XW N0 0 4 0 0 := by
  refine ⟨⟨⟨rfl, by omega⟩, ⟨rfl, by omega, by omega⟩, ⟨rfl, by omega⟩, ⟨rfl, by omega⟩, ⟨0, rfl, by omega⟩, ⟨0, rfl, by decide⟩, ⟨30, rfl, by omega⟩, ⟨3, rfl, by omega⟩, fun k hk => ⟨0, N0_0 (by omega), by omega⟩, fun p hp => by omega, fun t ht => by omega⟩, by omega, fun k h1 h2 => N0_0 (by omega)⟩
section L29
variable {g : hcG} {S : hcS} {I : hcI} {R : hcR} {b : Nat}
theorem REL0 (hX : XP S I R b) (hR : RWs S I R b 4) (hS : SLs S I R b 5) (hs : ∀ y, b + 103 ≤ y → S y = none) (hm : MG S R (b + 81)) (hN : I (b + 81 + 1) = N0) (h0 : I (b + 81) = fun _ => 0) (hk : KYm I (b + 81)) (h13 : ∀ k, k < 4 → I (b + 81 + 13) k = -1) (h14 : I (b + 81 + 14) = fun _ => 0) (h15 : I (b + 81 + 15) = fun _ => 0) (h16 : I (b + 81 + 16) = fun _ => 0) : REL S I R b (b + 103) := by
  obtain ⟨x1, x2, x3, ⟨x4, x5⟩, x6, ⟨⟨a4, a5, a6, a7, a8, a9, a10, a11, a12⟩, aL, aC⟩, xb⟩ := hX
  refine ⟨N0, N0, false, I (b + 81 + 13), fun _ => 0, fun _ => 0, fun _ => 0, I (b + 81 + 17), I (b + 81 + 18), I (b + 81 + 19), 0, I (b + 81 + 5), 0, I (b + 81 + 21), ⟨⟨⟨x1, x2, x3, ⟨x4, fun k hk' => (hR k hk').1⟩, ⟨x5, fun k hk' => (hS k hk').1⟩, x6⟩, 0, 4, 0, 0, XW0, ⟨a4, a5, a6, a7, a8, a9, a10, a11, a12⟩, fun k hk' => ?_, fun p hp => by omega, fun k hk' => ?_, fun t ht => by omega⟩, ⟨fun k hk' => ⟨Or.inl (h13 k hk'), 0, rfl, by omega⟩, fun k hk' => ⟨?_, ?_, fun j hj => ?_⟩⟩, fun s hs' => ⟨?_, Or.inl rfl, fun e => absurd (show (0 : Int32) = 1 from e) (by decide), fun e => absurd (show (0 : Int32) = 2 from e) (by decide), fun e => absurd (show (0 : Int32) = 3 from e) (by decide)⟩, ⟨?_, fun e => by cases e⟩, ⟨?_, by omega, fun j hj => by omega⟩, ⟨?_, by omega, fun j hj => by omega⟩, hs, by omega, by omega⟩, hm, hN, ⟨rfl, h14, h15⟩, ⟨h16, rfl, rfl, rfl⟩, ⟨?_, fun e => by cases e⟩, ⟨?_, rfl⟩, ⟨?_, rfl⟩, hk⟩
  · rw [N0_0 (by omega)]; exact aL k
  · exact aC k hk'
  · rw [h13 k hk']; exact (hR k hk').2.1
  · exact (hR k hk').2.2.1
  · exact (hR k hk').2.2.2 j
  · exact (hS s hs').2
  · rw [xb]; rfl
  · rw [xb]; rfl
  · rw [xb]; rfl
  · rw [h0]; rfl
  · rw [h0]; rfl
  · rw [h0]; rfl
theorem law_run (hL : g.2.2.1 7 ≤ 3072) : V g mL_law 114 1639 108605 (fun _ => none) (fun _ _ => 0) (fun _ _ => none) b 0 [some (.ref (g.2.2.1 6)), none, none, none] [] lwQ := by
  refine v_newP (q := 3) clL_7 inst6 init6 dL_law_0 (kk := fun S1 I1 R1 n1 => ?_)
  refine v_dup (q := 4) dL_law_3 (kk := ?_)
  refine V.less (kc' := 1558 + 80) (ks' := 107658 + 936) ?_ (by omega) (by show 107658 + 936 ≤ 108605 - 11; omega)
  refine v_cI0B (N := mX6_init) (q := 7) lL_9 iX6_init kX6_init dL_law_4 (s_initX n1.2.2.2.1 rfl (fun y hy => n1.1 y (by omega)) n1.2.2.2.2.1 (fun S2 I2 R2 b2 t2 x2 w2 l2 => ?_))
  refine v_astore1 (q := 8) dL_law_7 (kk := ?_)
  refine v_newP (q := 11) clL_10 inst7 init7 dL_law_8 (kk := fun S3 I3 R3 n3 => ?_)
  have x3 := x2.bf n3.bf (by omega)
  have w3 := w2.bf n3.bf (by omega)
  have l3 := l2.bf n3.bf (by omega)
  refine v_dup (q := 12) dL_law_11 (kk := ?_)
  refine V.less (kc' := 3 * 512 + 21) (ks' := 200 * 512 + 5225) ?_ (by omega) (by show 200 * 512 + 5225 ≤ 107658 - 33; omega)
  refine v_cI0B (N := mX7_init) (q := 15) lL_12 iX7_init kX7_init dL_law_12 (s_initM n3.2.2.2.1 rfl (fun y hy => (n3.1 y (by omega)).trans (t2 y (by omega))) n3.2.2.2.2.1 (fun S4 I4 R4 b4 t4 m4 k1 k2 k3 k4 k5 k6 k7 => ?_))
  refine v_astore2 (q := 16) dL_law_15 (kk := ?_)
  refine v_iconst (v := 0) (q := 17) dL_law_16 (kk := ?_)
  refine v_istore3 (q := 18) dL_law_17 (kk := ?_)
  have := law_loop (g := g) (b := b) hL 512 0 S4 I4 R4 (b + 103) (by omega) (by omega) (REL0 (x3.bf b4 (by omega)) (w3.bf b4 (by omega)) (l3.bf b4 (by omega)) (fun y hy => t4 y (by omega)) m4 k1 k2 k3 k4 k5 k6 k7)
  exact this
end L29
