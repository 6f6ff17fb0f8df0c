theorem NW.bf {z : Nat} {p : Nat × Nat} {S S' : hcS} {I I' : hcI} {R R' : hcR} (n : NW z p S I R S' I' R') : BF z S I R S' I' R' := fun x hx => ⟨n.1 x (by omega), n.2.1 x (by omega), n.2.2.1 x (by omega)⟩
theorem HSk.bf {a c : Nat} {S S' : hcS} {I I' : hcI} {R R' : hcR} (h : HSk S R a) (k : BF c S I R S' I' R') (hc : a + 15 ≤ c) : HSk S' R' a := by
  obtain ⟨v0, v1, v2, v3, v4, v5, v6, v7, v8, v9⟩ := h
  refine ⟨?_, ?_, ?_, ?_, ?_, ?_, ?_, ?_, ?_, fun p hp => ⟨?_, ?_⟩⟩
  · rw [(k _ (by omega)).1]; exact v0
  · rw [(k _ (by omega)).1]; exact v1
  · rw [(k _ (by omega)).1]; exact v2
  · rw [(k _ (by omega)).1]; exact v3
  · rw [(k _ (by omega)).1]; exact v4
  · rw [(k _ (by omega)).2.2]; exact v5
  · rw [(k _ (by omega)).2.2]; exact v6
  · rw [(k _ (by omega)).2.2]; exact v7
  · rw [(k _ (by omega)).2.2]; exact v8
  · rw [(k _ (by omega)).1]; exact (v9 p hp).1
  · rw [(k _ (by omega)).2.2]; exact (v9 p hp).2
theorem HSk.ub {a b k : Nat} {v : Option Nat} {S : hcS} {R : hcR} (h : HSk S R a) (hb : b < a ∨ a + 2 ≤ b) : HSk S (hc_ur R b k v) a := by
  obtain ⟨v0, v1, v2, v3, v4, v5, v6, v7, v8, v9⟩ := h
  refine ⟨v0, v1, v2, v3, v4, ?_, ?_, ?_, ?_, fun p hp => ⟨(v9 p hp).1, ?_⟩⟩
  · rw [hc_ur_ne (by omega)]; exact v5
  · rw [hc_ur_ne (by omega)]; exact v6
  · rw [hc_ur_ne (by omega)]; exact v7
  · rw [hc_ur_ne (by omega)]; exact v8
  · rw [hc_ur_ne (by omega)]; exact (v9 p hp).2
theorem HI.bf {a c : Nat} {S S' : hcS} {I I' : hcI} {R R' : hcR} (h : HI I a) (k : BF c S I R S' I' R') (hc : a + 5 ≤ c) : HI I' a := h.of (k _ (by omega)).2.1 (k _ (by omega)).2.1 (k _ (by omega)).2.1
theorem RowAt.bf {a c : Nat} {S S' : hcS} {I I' : hcI} {R R' : hcR} (h : RowAt S R a) (k : BF c S I R S' I' R') (hc : a + 2 ≤ c) : RowAt S' R' a := by
  obtain ⟨v0, v1, v2⟩ := h
  refine ⟨?_, ?_, ?_⟩
  · rw [(k _ (by omega)).1]; exact v0
  · rw [(k _ (by omega)).1]; exact v1
  · rw [(k _ (by omega)).2.2]; exact v2
theorem RowAt.ub {a b k : Nat} {v : Option Nat} {S : hcS} {R : hcR} (h : RowAt S R a) (hb : b ≠ a) : RowAt S (hc_ur R b k v) a := ⟨h.1, h.2.1, by rw [hc_ur_ne (fun e => hb e.symm)]; exact h.2.2⟩
/-- the class's cells but for the rows and slots -/
def XP (S : hcS) (I : hcI) (R : hcR) (b : Nat) : Prop :=
  (S b = some (6, 0) ∧ R b 0 = some (b + 1) ∧ R b 1 = some (b + 16) ∧ R b 2 = some (b + 31) ∧ R b 3 = some (b + 46) ∧ R b 4 = some (b + 49) ∧ R b 5 = some (b + 50) ∧ R b 6 = some (b + 51) ∧ R b 7 = some (b + 52)) ∧
  (HSk S R (b + 1) ∧ HSk S R (b + 16) ∧ HSk S R (b + 31)) ∧
  (S (b + 46) = some (2, 0) ∧ S (b + 47) = some (10, 96) ∧ S (b + 48) = some (8, 0) ∧ R (b + 46) 1 = some (b + 47)) ∧ (S (b + 49) = some (13, 4) ∧ S (b + 50) = some (14, 5)) ∧ (S (b + 51) = some (8, 96) ∧ S (b + 52) = some (10, 60)) ∧ HI I (b + 1) ∧ I b = fun _ => 0
theorem XP.bf {b c : Nat} {S S' : hcS} {I I' : hcI} {R R' : hcR} (h : XP S I R b) (k : BF c S I R S' I' R') (hc : b + 53 ≤ c) : XP S' I' R' b := by
  obtain ⟨⟨a0, a1, a2, a3, a4, a5, a6, a7, a8⟩, ⟨k1, k2, k3⟩, ⟨t0, t1, t2, t3⟩, ⟨u0, u1⟩, ⟨w0, w1⟩, hi, ib⟩ := h
  obtain ⟨e1, e2, e3⟩ := k b (by omega)
  refine ⟨⟨?_, ?_, ?_, ?_, ?_, ?_, ?_, ?_, ?_⟩, ⟨k1.bf k (by omega), k2.bf k (by omega), k3.bf k (by omega)⟩, ⟨?_, ?_, ?_, ?_⟩, ⟨?_, ?_⟩, ⟨?_, ?_⟩, hi.bf k (by omega), e2.trans ib⟩
  · rw [e1]; exact a0
  · rw [e3]; exact a1
  · rw [e3]; exact a2
  · rw [e3]; exact a3
  · rw [e3]; exact a4
  · rw [e3]; exact a5
  · rw [e3]; exact a6
  · rw [e3]; exact a7
  · rw [e3]; exact a8
  · rw [(k _ (by omega)).1]; exact t0
  · rw [(k _ (by omega)).1]; exact t1
  · rw [(k _ (by omega)).1]; exact t2
  · rw [(k _ (by omega)).2.2]; exact t3
  · rw [(k _ (by omega)).1]; exact u0
  · rw [(k _ (by omega)).1]; exact u1
  · rw [(k _ (by omega)).1]; exact w0
  · rw [(k _ (by omega)).1]; exact w1
theorem XP.ub {b y j : Nat} {v : Option Nat} {S : hcS} {I : hcI} {R : hcR} (h : XP S I R b) (hy : y = b + 49 ∨ y = b + 50) : XP S I (hc_ur R y j v) b := by
  obtain ⟨a0, ⟨k1, k2, k3⟩, ⟨t0, t1, t2, t3⟩, u, w, hi, ib⟩ := h
  refine ⟨by rw [hc_ur_ne (by omega)]; exact a0, ⟨k1.ub (by omega), k2.ub (by omega), k3.ub (by omega)⟩, ⟨t0, t1, t2, by rw [hc_ur_ne (by omega)]; exact t3⟩, u, w, hi, ib⟩
section L23
variable {g : hcG} {S : hcS} {I : hcI} {R : hcR} {z : Nat} {Q : hcQ} {b : Nat}
/-- rows so far -/
def RWs (S : hcS) (I : hcI) (R : hcR) (b n : Nat) : Prop := ∀ k, k < n → (R (b + 49) k = some (b + 53 + 2 * k) ∧ RowAt S R (b + 53 + 2 * k)) ∧ I (b + 53 + 2 * k) 1 = -1 ∧ I (b + 53 + 2 * k) 2 = 0 ∧ ∀ j, I (b + 54 + 2 * k) j = 0
def SLs (S : hcS) (I : hcI) (R : hcR) (b n : Nat) : Prop := ∀ k, k < n → (R (b + 50) k = some (b + 61 + 4 * k) ∧ S (b + 61 + 4 * k) = some (4, 0) ∧ R (b + 61 + 4 * k) 1 = some (b + 62 + 4 * k) ∧ R (b + 61 + 4 * k) 2 = some (b + 63 + 4 * k) ∧ S (b + 62 + 4 * k) = some (1, 0) ∧ RowAt S R (b + 63 + 4 * k)) ∧ I (b + 61 + 4 * k) 0 = 0
theorem RWs.bf {S S' : hcS} {I I' : hcI} {R R' : hcR} {n c : Nat} (h : RWs S I R b n) (k : BF c S I R S' I' R') (hc : b + 53 + 2 * n ≤ c) : RWs S' I' R' b n := by
  intro j hj
  obtain ⟨⟨h1, h2⟩, h3, h4, h5⟩ := h j hj
  exact ⟨⟨by rw [(k _ (by omega)).2.2]; exact h1, h2.bf k (by omega)⟩, by rw [(k _ (by omega)).2.1]; exact h3, by rw [(k _ (by omega)).2.1]; exact h4, by rw [(k _ (by omega)).2.1]; exact h5⟩
theorem SLs.bf {S S' : hcS} {I I' : hcI} {R R' : hcR} {n c : Nat} (h : SLs S I R b n) (k : BF c S I R S' I' R') (hc : b + 61 + 4 * n ≤ c) : SLs S' I' R' b n := by
  intro j hj
  obtain ⟨⟨h1, h2, h3, h4, h5, h6⟩, h7⟩ := h j hj
  exact ⟨⟨by rw [(k _ (by omega)).2.2]; exact h1, by rw [(k _ (by omega)).1]; exact h2, by rw [(k _ (by omega)).2.2]; exact h3, by rw [(k _ (by omega)).2.2]; exact h4, by rw [(k _ (by omega)).1]; exact h5, h6.bf k (by omega)⟩, by rw [(k _ (by omega)).2.1]; exact h7⟩
theorem slots_loop (hQ : ∀ (S' : hcS) (I' : hcI) (R' : hcR), BF b S I R S' I' R' → (∀ y, b + 81 ≤ y → S' y = none) → XP S' I' R' b → RWs S' I' R' b 4 → SLs S' I' R' b 5 → Q none S' I' R' (b + 81)) (n : Nat) : ∀ (i : Nat) (S1 : hcS) (I1 : hcI) (R1 : hcR), i + n = 5 → BF b S I R S1 I1 R1 → (∀ y, b + 61 + 4 * i ≤ y → S1 y = none) → XP S1 I1 R1 b → RWs S1 I1 R1 b 4 → SLs S1 I1 R1 b i → V g mX6_init 3 (4 * n) (37 * n) S1 I1 R1 (b + 61 + 4 * i) 108 [some (.ref b), some (.int (nI i))] [] Q := by
  induction n with
  | zero =>
    intro i S1 I1 R1 hi hB hs hX hR hS
    obtain rfl : i = 5 := by omega
    refine v_iload_n (q := 109) dX6_init_108 (kk := ?_)
    refine v_iconst (v := 5) (q := 110) dX6_init_109 (kk := ?_)
    refine v_icmp_geT 132 dX6_init_110 (Int32.le_refl _) (kt := ?_)
    refine v_vret dX6_init_132 (hQ := ?_)
    exact hQ S1 I1 R1 hB (fun y hy => hs y (by omega)) hX hR hS
  | succ n ih =>
    intro i S1 I1 R1 hi hB hs hX hR hS
    have s0 := hX.1.1
    have r5 := hX.1.2.2.2.2.2.2.1
    refine v_iload_n (q := 109) dX6_init_108 (kk := ?_)
    refine v_iconst (v := 5) (q := 110) dX6_init_109 (kk := ?_)
    refine v_icmp_geF (q := 113) (t := 132) dX6_init_110 (fun h => by have := (nI_leI (a := 5) (by omega) (by omega)).mp h; omega) (kf := ?_)
    refine v_aload_n (q := 114) dX6_init_113 (kk := ?_)
    refine v_getR (q := 117) fX6_37 s0 r5 (hd := dX6_init_114) (kk := ?_)
    refine v_iload_n (q := 118) dX6_init_117 (kk := ?_)
    refine v_newP (q := 121) clX6_35 inst4 init4 dX6_init_118 (h1 := by omega) (h2 := by show 4 ≤ _; omega) (kk := fun S2 I2 R2 n2 => ?_)
    refine V.less (kc' := 4 * n + 3) (ks' := 37 * n + 33) ?_ (by omega) (by show 37 * n + 33 ≤ 37 * (n + 1) - 4; omega)
    have hX2 : XP S2 I2 R2 b := hX.bf n2.bf (by omega)
    have hR2 := hR.bf n2.bf (by omega)
    have hS2 := hS.bf n2.bf (by omega)
    refine v_dup (q := 122) dX6_init_121 (kk := ?_)
    refine v_cJ0B (N := mX4_init) (q := 125) nX6_50 iX4_init kX4_init dX6_init_122 (s_initSlot n2.2.2.2.1 rfl (fun y hy => (n2.1 y (by omega)).trans (hs y (by omega))) (fun S3 I3 R3 b3 t3 u1 u2 u3 u4 u5 u6 => ?_))
    have hX3 : XP S3 I3 R3 b := hX2.bf b3 (by omega)
    have hR3 := hR2.bf b3 (by omega)
    have hS3 := hS2.bf b3 (by omega)
    refine v_aast (q := 126) hX3.2.2.2.1.2 u1 (vp_in_nI (show i < 5 by omega) (by omega)) (hd := dX6_init_125) (kk := ?_)
    rw [nI_clamp (by omega)]
    refine v_iinc1 (q := 129) dX6_init_126 (hv := nI_1 i) (kk := ?_)
    refine v_goto 108 dX6_init_129 (kt := ?_)
    refine ih (i + 1) _ _ _ (by omega) (((hB.n n2 (by omega)).trans b3 (by omega)).r (by omega)) (fun y hy => t3 y (by omega)) (hX3.ub (by omega)) (fun k hk => ?_) (fun k hk => ?_)
    · obtain ⟨⟨h1, h2⟩, h3⟩ := hR3 k hk
      exact ⟨⟨by rw [hc_ur_ne (by omega)]; exact h1, h2.ub (by omega)⟩, h3⟩
    · by_cases e : k = i
      · rw [e]
        refine ⟨⟨ur_at, u1, ?_, ?_, ?_, ?_⟩, u6⟩
        · rw [hc_ur_ne (by omega), u2]; congr 1; omega
        · rw [hc_ur_ne (by omega), u3]; congr 1; omega
        · rw [show b + 62 + 4 * i = b + 61 + 4 * i + 1 by omega]; exact u4
        · rw [show b + 63 + 4 * i = b + 61 + 4 * i + 2 by omega]; exact u5.ub (by omega)
      · obtain ⟨⟨h1, h2, h3, h4, h5, h6⟩, h7⟩ := hS3 k (by omega)
        exact ⟨⟨by rw [ur_ne e]; exact h1, h2, by rw [hc_ur_ne (by omega)]; exact h3, by rw [hc_ur_ne (by omega)]; exact h4, h5, h6.ub (by omega)⟩, h7⟩
theorem rows_loop (hQ : ∀ (S' : hcS) (I' : hcI) (R' : hcR), BF b S I R S' I' R' → (∀ y, b + 81 ≤ y → S' y = none) → XP S' I' R' b → RWs S' I' R' b 4 → SLs S' I' R' b 5 → Q none S' I' R' (b + 81)) (n : Nat) : ∀ (i : Nat) (S1 : hcS) (I1 : hcI) (R1 : hcR), i + n = 4 → BF b S I R S1 I1 R1 → (∀ y, b + 53 + 2 * i ≤ y → S1 y = none) → XP S1 I1 R1 b → RWs S1 I1 R1 b i → V g mX6_init 3 (2 * n + 20) (27 * n + 185) S1 I1 R1 (b + 53 + 2 * i) 82 [some (.ref b), some (.int (nI i))] [] Q := by
  induction n with
  | zero =>
    intro i S1 I1 R1 hi hB hs hX hR
    obtain rfl : i = 4 := by omega
    refine v_iload_n (q := 83) dX6_init_82 (kk := ?_)
    refine v_iconst (v := 4) (q := 84) dX6_init_83 (kk := ?_)
    refine v_icmp_geT 106 dX6_init_84 (Int32.le_refl _) (kt := ?_)
    refine v_iconst (v := 0) (q := 107) dX6_init_106 (kk := ?_)
    refine v_istore1 (q := 108) dX6_init_107 (kk := ?_)
    exact slots_loop (S := S) (I := I) (R := R) hQ 5 0 S1 I1 R1 (by omega) hB (fun y hy => hs y (by omega)) hX hR (fun k hk => by omega)
  | succ n ih =>
    intro i S1 I1 R1 hi hB hs hX hR
    have s0 := hX.1.1
    have r4 := hX.1.2.2.2.2.2.1
    refine v_iload_n (q := 83) dX6_init_82 (kk := ?_)
    refine v_iconst (v := 4) (q := 84) dX6_init_83 (kk := ?_)
    refine v_icmp_geF (q := 87) (t := 106) dX6_init_84 (fun h => by have := (nI_leI (a := 4) (by omega) (by omega)).mp h; omega) (kf := ?_)
    refine v_aload_n (q := 88) dX6_init_87 (kk := ?_)
    refine v_getR (q := 91) fX6_31 s0 r4 (hd := dX6_init_88) (kk := ?_)
    refine v_iload_n (q := 92) dX6_init_91 (kk := ?_)
    refine v_newP (q := 95) clX6_29 inst3 init3 dX6_init_92 (h1 := by omega) (h2 := by show 3 ≤ _; omega) (kk := fun S2 I2 R2 n2 => ?_)
    refine V.less (kc' := 2 * n + 20 + 1) (ks' := 27 * n + 185 + 24) ?_ (by omega) (by show 27 * n + 185 + 24 ≤ 27 * (n + 1) + 185 - 3; omega)
    have hX2 : XP S2 I2 R2 b := hX.bf n2.bf (by omega)
    have hR2 := hR.bf n2.bf (by omega)
    refine v_dup (q := 96) dX6_init_95 (kk := ?_)
    refine v_cJ0B (N := mX3_init) (q := 99) nX6_49 iX3_init kX3_init dX6_init_96 (s_initRow n2.2.2.2.1 (by omega) (fun y hy => (n2.1 y (by omega)).trans (hs y (by omega))) (fun S3 I3 R3 b3 o3 t3 u1 u2 u3 u4 u5 u6 => ?_))
    have hX3 : XP S3 I3 R3 b := hX2.bf b3 (by omega)
    have hR3 := hR2.bf b3 (by omega)
    refine v_aast (q := 100) hX3.2.2.2.1.1 u1 (vp_in_nI (show i < 4 by omega) (by omega)) (hd := dX6_init_99) (kk := ?_)
    rw [nI_clamp (by omega)]
    refine v_iinc1 (q := 103) dX6_init_100 (hv := nI_1 i) (kk := ?_)
    refine v_goto 82 dX6_init_103 (kt := ?_)
    refine ih (i + 1) _ _ _ (by omega) (((hB.n n2 (by omega)).trans b3 (by omega)).r (by omega)) (fun y hy => t3 y (by omega)) (hX3.ub (by omega)) (fun k hk => ?_)
    by_cases e : k = i
    · rw [e]
      refine ⟨⟨ur_at, u1, u2, ?_⟩, u4, ?_, fun j => ?_⟩
      · rw [hc_ur_ne (by omega)]; exact u3
      · rw [u5 2 (by omega), n2.2.2.2.2.1]
      · rw [show b + 54 + 2 * i = b + 53 + 2 * i + 1 by omega]; exact u6 j
    · obtain ⟨⟨h1, h2⟩, h3⟩ := hR3 k (by omega)
      exact ⟨⟨by rw [ur_ne e]; exact h1, h2.ub (by omega)⟩, h3⟩
theorem s_initX (s0 : S b = some (6, 0)) (hz : z = b + 1) (hs : ∀ y, z ≤ y → S y = none) (i0 : I b = fun _ => 0) (hQ : ∀ (S' : hcS) (I' : hcI) (R' : hcR), BF b S I R S' I' R' → (∀ y, b + 81 ≤ y → S' y = none) → XP S' I' R' b → RWs S' I' R' b 4 → SLs S' I' R' b 5 → Q none S' I' R' (b + 81)) : Cl g mX6_init 3 80 936 S I R z [.ref b] Q := by
  subst hz
  refine Cl.go [some (.ref b), none] ?_
  refine v_aload_n (q := 1) dX6_init_0 (kk := ?_)
  refine v_obj (q := 4) lX6_3 hc_oi hc_oc dX6_init_1 (kk := ?_)
  refine v_aload_n (q := 5) dX6_init_4 (kk := ?_)
  refine v_newP (q := 8) clX6_9 inst0 init0 dX6_init_5 (kk := fun S1 I1 R1 n1 => ?_)
  have t1 : ∀ y, b + 2 ≤ y → S1 y = none := fun y hy => (n1.1 y (by omega)).trans (hs y (by omega))
  refine v_dup (q := 9) dX6_init_8 (kk := ?_)
  refine V.less (kc' := 65 + 14) (ks' := 812 + 111) ?_ (by decide) (by decide)
  refine v_cI0B (N := mX0_init) (q := 12) lX6_11 iX0_init kX0_init dX6_init_9 (s_initHall n1.2.2.2.1 rfl t1 n1.2.2.2.2.1 (fun S2 I2 R2 b2 t2 k2 h2 => ?_))
  have s2 : S2 b = some (6, 0) := (b2 b (by omega)).1.trans ((n1.1 b (by omega)).trans s0)
  have i2 : I2 b = fun _ => 0 := (b2 b (by omega)).2.1.trans ((n1.2.1 b (by omega)).trans i0)
  have B2 : BF b S I R S2 I2 R2 := (BF.rfl.n n1 (by omega)).trans b2 (by omega)
  refine v_putFR (q := 15) fX6_12 s2 (hd := dX6_init_12) (kk := ?_)
  refine v_aload_n (q := 16) dX6_init_15 (kk := ?_)
  refine v_newP (q := 19) clX6_9 inst0 init0 dX6_init_16 (kk := fun S3 I3 R3 n3 => ?_)
  have t3 : ∀ y, b + 17 ≤ y → S3 y = none := fun y hy => (n3.1 y (by omega)).trans (t2 y (by omega))
  refine v_dup (q := 20) dX6_init_19 (kk := ?_)
  refine V.less (kc' := 50 + 14) (ks' := 688 + 111) ?_ (by decide) (by decide)
  refine v_cI0B (N := mX0_init) (q := 23) lX6_11 iX0_init kX0_init dX6_init_20 (s_initHall n3.2.2.2.1 rfl t3 n3.2.2.2.2.1 (fun S4 I4 R4 b4 t4 k4 h4 => ?_))
  have s4 : S4 b = some (6, 0) := (b4 b (by omega)).1.trans ((n3.1 b (by omega)).trans s2)
  have i4 : I4 b = fun _ => 0 := (b4 b (by omega)).2.1.trans ((n3.2.1 b (by omega)).trans i2)
  have B4 : BF b S I R S4 I4 R4 := ((B2.r (Nat.le_refl _)).n n3 (by omega)).trans b4 (by omega)
  have g4 : HSk S4 R4 (b + 1) := ((k2.ub (by omega)).bf n3.bf (by omega)).bf b4 (by omega)
  have l4 : HI I4 (b + 1) := (h2.bf n3.bf (by omega)).bf b4 (by omega)
  have q4 : R4 b 0 = some (b + 1) := by rw [(b4 b (by omega)).2.2, n3.2.2.1 b (by omega)]; exact ur_at
  refine v_putFR (q := 26) fX6_16 s4 (hd := dX6_init_23) (kk := ?_)
  refine v_aload_n (q := 27) dX6_init_26 (kk := ?_)
  refine v_newP (q := 30) clX6_9 inst0 init0 dX6_init_27 (kk := fun S5 I5 R5 n5 => ?_)
  have t5 : ∀ y, b + 32 ≤ y → S5 y = none := fun y hy => (n5.1 y (by omega)).trans (t4 y (by omega))
  refine v_dup (q := 31) dX6_init_30 (kk := ?_)
  refine V.less (kc' := 35 + 14) (ks' := 564 + 111) ?_ (by decide) (by decide)
  refine v_cI0B (N := mX0_init) (q := 34) lX6_11 iX0_init kX0_init dX6_init_31 (s_initHall n5.2.2.2.1 rfl t5 n5.2.2.2.2.1 (fun S6 I6 R6 b6 t6 k6 h6 => ?_))
  have s6 : S6 b = some (6, 0) := (b6 b (by omega)).1.trans ((n5.1 b (by omega)).trans s4)
  have i6 : I6 b = fun _ => 0 := (b6 b (by omega)).2.1.trans ((n5.2.1 b (by omega)).trans i4)
  have B6 : BF b S I R S6 I6 R6 := ((B4.r (Nat.le_refl _)).n n5 (by omega)).trans b6 (by omega)
  have g6 : HSk S6 R6 (b + 1) := ((g4.ub (by omega)).bf n5.bf (by omega)).bf b6 (by omega)
  have g6' : HSk S6 R6 (b + 16) := ((k4.ub (by omega)).bf n5.bf (by omega)).bf b6 (by omega)
  have l6 : HI I6 (b + 1) := (l4.bf n5.bf (by omega)).bf b6 (by omega)
  have q6 : R6 b 0 = some (b + 1) ∧ R6 b 1 = some (b + 16) := by
    rw [(b6 b (by omega)).2.2, n5.2.2.1 b (by omega)]
    exact ⟨by rw [ur_ne (by omega)]; exact q4, ur_at⟩
  refine v_putFR (q := 37) fX6_19 s6 (hd := dX6_init_34) (kk := ?_)
  refine v_aload_n (q := 38) dX6_init_37 (kk := ?_)
  refine v_newP (q := 41) clX6_22 inst2 init2 dX6_init_38 (kk := fun S7 I7 R7 n7 => ?_)
  have t7 : ∀ y, b + 47 ≤ y → S7 y = none := fun y hy => (n7.1 y (by omega)).trans (t6 y (by omega))
  refine v_dup (q := 42) dX6_init_41 (kk := ?_)
  refine V.less (kc' := 32 + 2) (ks' := 458 + 96) ?_ (by decide) (by decide)
  refine v_cJ0B (N := mX2_init) (q := 45) nX6_24 iX2_init kX2_init dX6_init_42 (s_initReader n7.2.2.2.1 rfl t7 (fun S8 I8 R8 b8 t8 e1 e2 e3 e4 => ?_))
  have s8 : S8 b = some (6, 0) := (b8 b (by omega)).1.trans ((n7.1 b (by omega)).trans s6)
  have i8 : I8 b = fun _ => 0 := (b8 b (by omega)).2.1.trans ((n7.2.1 b (by omega)).trans i6)
  have B8 : BF b S I R S8 I8 R8 := ((B6.r (Nat.le_refl _)).n n7 (by omega)).trans b8 (by omega)
  have g8 : HSk S8 R8 (b + 1) := ((g6.ub (by omega)).bf n7.bf (by omega)).bf b8 (by omega)
  have g8' : HSk S8 R8 (b + 16) := ((g6'.ub (by omega)).bf n7.bf (by omega)).bf b8 (by omega)
  have g8'' : HSk S8 R8 (b + 31) := ((k6.ub (by omega)).bf n7.bf (by omega)).bf b8 (by omega)
  have l8 : HI I8 (b + 1) := (l6.bf n7.bf (by omega)).bf b8 (by omega)
  have q8 : R8 b 0 = some (b + 1) ∧ R8 b 1 = some (b + 16) ∧ R8 b 2 = some (b + 31) := by
    rw [(b8 b (by omega)).2.2, n7.2.2.1 b (by omega)]
    exact ⟨by rw [ur_ne (by omega)]; exact q6.1, by rw [ur_ne (by omega)]; exact q6.2, ur_at⟩
  refine v_putFR (q := 48) fX6_25 s8 (hd := dX6_init_45) (kk := ?_)
  refine v_aload_n (q := 49) dX6_init_48 (kk := ?_)
  refine v_iconst (v := 4) (q := 50) dX6_init_49 (kk := ?_)
  refine v_anewP (q := 53) (t := 13) 4 clX6_29 dX6_init_50 (hn := by decide) (hN := by rfl) (kk := fun S9 I9 R9 n9 => ?_)
  have s9 : S9 b = some (6, 0) := (n9.1 b (by omega)).trans s8
  refine v_putFR (q := 56) fX6_31 s9 (hd := dX6_init_53) (kk := ?_)
  refine v_aload_n (q := 57) dX6_init_56 (kk := ?_)
  refine v_iconst (v := 5) (q := 58) dX6_init_57 (kk := ?_)
  refine v_anewP (q := 61) (t := 14) 5 clX6_35 dX6_init_58 (hn := by decide) (hN := by rfl) (kk := fun Sa Ia Ra na => ?_)
  have sa : Sa b = some (6, 0) := (na.1 b (by omega)).trans s9
  refine v_putFR (q := 64) fX6_37 sa (hd := dX6_init_61) (kk := ?_)
  refine v_aload_n (q := 65) dX6_init_64 (kk := ?_)
  refine v_bipush (v := 96) (q := 67) dX6_init_65 (kk := ?_)
  refine v_newaP (q := 69) 96 ac8 dX6_init_67 (hn := by decide) (hN := by rfl) (kk := fun Sb Ib Rb nb => ?_)
  have sb : Sb b = some (6, 0) := (nb.1 b (by omega)).trans sa
  refine v_putFR (q := 72) fX6_41 sb (hd := dX6_init_69) (kk := ?_)
  refine v_aload_n (q := 73) dX6_init_72 (kk := ?_)
  refine v_bipush (v := 60) (q := 75) dX6_init_73 (kk := ?_)
  refine v_newaP (q := 77) 60 ac10 dX6_init_75 (hn := by decide) (hN := by rfl) (kk := fun Sc Ic Rc nc => ?_)
  have sc : Sc b = some (6, 0) := (nc.1 b (by omega)).trans sb
  refine v_putFR (q := 80) fX6_45 sc (hd := dX6_init_77) (kk := ?_)
  refine v_iconst (v := 0) (q := 81) dX6_init_80 (kk := ?_)
  refine v_istore1 (q := 82) dX6_init_81 (kk := ?_)
  have tS : ∀ x, x < b + 49 → Sc x = S8 x := fun x hx => by rw [nc.1 x (by omega), nb.1 x (by omega), na.1 x (by omega), n9.1 x (by omega)]
  have tI : ∀ x, x < b + 49 → Ic x = I8 x := fun x hx => by rw [nc.2.1 x (by omega), nb.2.1 x (by omega), na.2.1 x (by omega), n9.2.1 x (by omega)]
  have tR : ∀ x, x < b + 49 → x ≠ b → Rc x = R8 x := fun x hx h1 => by rw [nc.2.2.1 x (by omega), hc_ur_ne h1, nb.2.2.1 x (by omega), hc_ur_ne h1, na.2.2.1 x (by omega), hc_ur_ne h1, n9.2.2.1 x (by omega), hc_ur_ne h1]
  have hk : ∀ a, b < a → a + 15 ≤ b + 49 → HSk S8 R8 a → HSk Sc (hc_ur Rc b 7 (some (b + 52))) a := by
    intro a h1 h2 h3
    obtain ⟨v0, v1, v2, v3, v4, v5, v6, v7, v8, v9⟩ := h3
    refine ⟨?_, ?_, ?_, ?_, ?_, ?_, ?_, ?_, ?_, fun p hp => ⟨?_, ?_⟩⟩
    · rw [tS _ (by omega)]; exact v0
    · rw [tS _ (by omega)]; exact v1
    · rw [tS _ (by omega)]; exact v2
    · rw [tS _ (by omega)]; exact v3
    · rw [tS _ (by omega)]; exact v4
    · rw [hc_ur_ne (by omega), tR _ (by omega) (by omega)]; exact v5
    · rw [hc_ur_ne (by omega), tR _ (by omega) (by omega)]; exact v6
    · rw [hc_ur_ne (by omega), tR _ (by omega) (by omega)]; exact v7
    · rw [hc_ur_ne (by omega), tR _ (by omega) (by omega)]; exact v8
    · rw [tS _ (by omega)]; exact (v9 p hp).1
    · rw [hc_ur_ne (by omega), tR _ (by omega) (by omega)]; exact (v9 p hp).2
  have rb : ∀ j, j ≠ 3 → j ≠ 4 → j ≠ 5 → j ≠ 6 → j ≠ 7 → hc_ur Rc b 7 (some (b + 52)) b j = R8 b j := fun j h3 h4 h5 h6 h7 => by
    rw [ur_ne h7, nc.2.2.1 b (by omega), ur_ne h6, nb.2.2.1 b (by omega), ur_ne h5, na.2.2.1 b (by omega), ur_ne h4, n9.2.2.1 b (by omega), ur_ne h3]
  refine V.less (kc' := 2 * 4 + 20) (ks' := 27 * 4 + 185) ?_ (by decide) (by decide)
  refine rows_loop (S := S) (I := I) (R := R) hQ 4 0 _ _ _ (by omega) ?_ (fun y hy => ?_) ⟨⟨sc, ?_, ?_, ?_, ?_, ?_, ?_, ?_, ur_at⟩, ⟨hk _ (by omega) (by omega) g8, hk _ (by omega) (by omega) g8', hk _ (by omega) (by omega) g8''⟩, ⟨?_, ?_, ?_, ?_⟩, ⟨?_, ?_⟩, ⟨?_, nc.2.2.2.1⟩, l8.of (tI _ (by omega)) (tI _ (by omega)) (tI _ (by omega)), (tI b (by omega)).trans i8⟩ (fun k hk => by omega)
  · exact ((((((((B8.r (Nat.le_refl _)).n n9 (by omega)).r (Nat.le_refl _)).n na (by omega)).r (Nat.le_refl _)).n nb (by omega)).r (Nat.le_refl _)).n nc (by omega)).r (Nat.le_refl _)
  · rw [nc.1 y (by omega), nb.1 y (by omega), na.1 y (by omega), n9.1 y (by omega)]
    exact t8 y (by omega)
  · rw [rb 0 (by omega) (by omega) (by omega) (by omega) (by omega)]; exact q8.1
  · rw [rb 1 (by omega) (by omega) (by omega) (by omega) (by omega)]; exact q8.2.1
  · rw [rb 2 (by omega) (by omega) (by omega) (by omega) (by omega)]; exact q8.2.2
  · rw [ur_ne (by omega), nc.2.2.1 b (by omega), ur_ne (by omega), nb.2.2.1 b (by omega), ur_ne (by omega), na.2.2.1 b (by omega), ur_ne (by omega), n9.2.2.1 b (by omega)]; exact ur_at
  · rw [ur_ne (by omega), nc.2.2.1 b (by omega), ur_ne (by omega), nb.2.2.1 b (by omega), ur_ne (by omega), na.2.2.1 b (by omega)]; exact ur_at
  · rw [ur_ne (by omega), nc.2.2.1 b (by omega), ur_ne (by omega), nb.2.2.1 b (by omega)]; exact ur_at
  · rw [ur_ne (by omega), nc.2.2.1 b (by omega)]; exact ur_at
  · rw [tS _ (by omega)]; exact e1
  · rw [tS _ (by omega)]; exact e2
  · rw [tS _ (by omega)]; exact e3
  · rw [hc_ur_ne (by omega), tR _ (by omega) (by omega)]; exact e4
  · rw [nc.1 _ (by omega), nb.1 _ (by omega), na.1 _ (by omega)]; exact n9.2.2.2.1
  · rw [nc.1 _ (by omega), nb.1 _ (by omega)]; exact na.2.2.2.1
  · rw [nc.1 _ (by omega)]; exact nb.2.2.2.1
end L23
