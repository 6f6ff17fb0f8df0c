/-! the reference's constructor -/
def mFl : List Nat := [0, 1, 2, 4, 5, 13, 14, 15, 18, 20, 21, 22, 23, 24, 25, 26, 27, 28, 29, 30, 31]
def mPl : List (Nat × Nat) := [(10, 1465), (10, 1465), (10, 1465), (10, 93), (10, 96), (9, 12), (10, 4), (10, 96), (10, 96), (11, 10), (10, 96), (10, 4), (10, 4), (10, 4), (10, 96), (10, 5), (10, 5), (10, 5), (10, 120), (10, 24), (10, 60)]
def mF (k : Nat) : Nat := mFl.getD k 0
def mP (k : Nat) : Nat × Nat := mPl.getD k (0, 0)
theorem mF_ne : ∀ k, k < 21 → ∀ j, j < k → mF j ≠ mF k := by decide
def BM (S : hcS) (I : hcI) (R : hcR) (m k : Nat) : Prop := (S m = some (7, 0) ∧ I m = fun _ => 0) ∧ ∀ j, j < k → S (m + 1 + j) = some (mP j) ∧ R m (mF j) = some (m + 1 + j) ∧ (j ≠ 5 → j ≠ 6 → j ≠ 12 → I (m + 1 + j) = fun _ => 0)
theorem BM.step {S S' : hcS} {I I' : hcI} {R R' : hcR} {m k : Nat} (h : BM S I R m k) (hk : k < 21) (n : NW (m + 1 + k) (mP k) S I R S' I' R') : BM S' I' (hc_ur R' m (mF k) (some (m + 1 + k))) m (k + 1) := by
  refine ⟨⟨(n.1 m (by omega)).trans h.1.1, (n.2.1 m (by omega)).trans h.1.2⟩, fun j hj => ?_⟩
  by_cases e : j = k
  · rw [e]
    exact ⟨n.2.2.2.1, ur_at, fun _ _ _ => n.2.2.2.2.1⟩
  · obtain ⟨h1, h2, h3⟩ := h.2 j (by omega)
    exact ⟨(n.1 _ (by omega)).trans h1, by rw [ur_ne (mF_ne k hk j (by omega)), n.2.2.1 m (by omega)]; exact h2, fun a b c => (n.2.1 _ (by omega)).trans (h3 a b c)⟩
/-- an array that is filled as it is made -/
theorem BM.stepF {S S' : hcS} {I I' I2 : hcI} {R R' : hcR} {m k : Nat} (h : BM S I R m k) (hk : k < 21) (h5 : k = 5 ∨ k = 6 ∨ k = 12) (n : NW (m + 1 + k) (mP k) S I R S' I' R') (hF : ∀ x, x ≠ m + 1 + k → I2 x = I' x) : BM S' I2 (hc_ur R' m (mF k) (some (m + 1 + k))) m (k + 1) := by
  obtain ⟨⟨q1, q2⟩, q3⟩ := h.step hk n
  refine ⟨⟨q1, (hF m (by omega)).trans q2⟩, fun j hj => ?_⟩
  obtain ⟨h1, h2, h3⟩ := q3 j hj
  refine ⟨h1, h2, fun a b c => ?_⟩
  rw [hF _ (by omega)]
  exact h3 a b c
def N0 : hN := upd (upd (upd (upd (fun _ => 0) 0 1) 2 4) 6 30) 7 3
section L24
variable {g : hcG} {S : hcS} {I : hcI} {R : hcR} {z : Nat} {Q : hcQ} {m : Nat}
theorem s_initM (s0 : S m = some (7, 0)) (hz : z = m + 1) (hs : ∀ y, z ≤ y → S y = none) (i0 : I m = fun _ => 0) (hQ : ∀ (S' : hcS) (I' : hcI) (R' : hcR), BF m S I R S' I' R' → (∀ y, m + 22 ≤ y → S' y = none) → MG S' R' m → I' (m + 1) = N0 → I' m = (fun _ => 0) → KYm I' m → (∀ k, k < 4 → I' (m + 13) k = -1) → I' (m + 14) = (fun _ => 0) → I' (m + 15) = (fun _ => 0) → I' (m + 16) = (fun _ => 0) → Q none S' I' R' (m + 22)) : Cl g mX7_init 1 21 5225 S I R z [.ref m] Q := by
  subst hz
  refine Cl.go [some (.ref m)] ?_
  refine v_aload_n (q := 1) dX7_init_0 (kk := ?_)
  refine v_obj (q := 4) lX7_1 hc_oi hc_oc dX7_init_1 (kk := ?_)
  have B0 : BM S I R m 0 := ⟨⟨s0, i0⟩, fun j hj => by omega⟩
  have T0 : ∀ y, m + 1 ≤ y → S y = none := hs
  have G0 : BF m S I R S I R := BF.rfl
  -- array 0
  refine v_aload_n (q := 5) dX7_init_4 (kk := ?_)
  refine v_sipush (v := 1465) (q := 8) dX7_init_5 (kk := ?_)
  refine v_newaP (q := 10) 1465 ac10 dX7_init_8 (hn := by decide) (hN := by rfl) (kk := fun S1 I1 R1 n1 => ?_)
  have s1 : S1 m = some (7, 0) := (n1.1 m (by omega)).trans B0.1.1
  refine v_putFR (q := 13) fX7_9 s1 (hd := dX7_init_10) (kk := ?_)
  have B1 : BM S1 I1 (hc_ur R1 m (mF 0) (some (m + 1 + 0))) m 1 := B0.step (by omega) n1
  have G1 := (G0.n n1 (by omega)).r (y := m) (k := mF 0) (v := some (m + 1 + 0)) (Nat.le_refl _)
  have T1 : ∀ y, m + 1 + 1 ≤ y → S1 y = none := fun y hy => (n1.1 y (by omega)).trans (T0 y (by omega))
  -- array 1
  refine v_aload_n (q := 14) dX7_init_13 (kk := ?_)
  refine v_sipush (v := 1465) (q := 17) dX7_init_14 (kk := ?_)
  refine v_newaP (q := 19) 1465 ac10 dX7_init_17 (hn := by decide) (hN := by rfl) (kk := fun S2 I2 R2 n2 => ?_)
  have s2 : S2 m = some (7, 0) := (n2.1 m (by omega)).trans B1.1.1
  refine v_putFR (q := 22) fX7_13 s2 (hd := dX7_init_19) (kk := ?_)
  have B2 : BM S2 I2 (hc_ur R2 m (mF 1) (some (m + 1 + 1))) m 2 := B1.step (by omega) n2
  have G2 := (G1.n n2 (by omega)).r (y := m) (k := mF 1) (v := some (m + 1 + 1)) (Nat.le_refl _)
  have T2 : ∀ y, m + 1 + 2 ≤ y → S2 y = none := fun y hy => (n2.1 y (by omega)).trans (T1 y (by omega))
  -- array 2
  refine v_aload_n (q := 23) dX7_init_22 (kk := ?_)
  refine v_sipush (v := 1465) (q := 26) dX7_init_23 (kk := ?_)
  refine v_newaP (q := 28) 1465 ac10 dX7_init_26 (hn := by decide) (hN := by rfl) (kk := fun S3 I3 R3 n3 => ?_)
  have s3 : S3 m = some (7, 0) := (n3.1 m (by omega)).trans B2.1.1
  refine v_putFR (q := 31) fX7_16 s3 (hd := dX7_init_28) (kk := ?_)
  have B3 : BM S3 I3 (hc_ur R3 m (mF 2) (some (m + 1 + 2))) m 3 := B2.step (by omega) n3
  have G3 := (G2.n n3 (by omega)).r (y := m) (k := mF 2) (v := some (m + 1 + 2)) (Nat.le_refl _)
  have T3 : ∀ y, m + 1 + 3 ≤ y → S3 y = none := fun y hy => (n3.1 y (by omega)).trans (T2 y (by omega))
  -- array 3
  refine v_aload_n (q := 32) dX7_init_31 (kk := ?_)
  refine v_bipush (v := 93) (q := 34) dX7_init_32 (kk := ?_)
  refine v_newaP (q := 36) 93 ac10 dX7_init_34 (hn := by decide) (hN := by rfl) (kk := fun S4 I4 R4 n4 => ?_)
  have s4 : S4 m = some (7, 0) := (n4.1 m (by omega)).trans B3.1.1
  refine v_putFR (q := 39) fX7_19 s4 (hd := dX7_init_36) (kk := ?_)
  have B4 : BM S4 I4 (hc_ur R4 m (mF 3) (some (m + 1 + 3))) m 4 := B3.step (by omega) n4
  have G4 := (G3.n n4 (by omega)).r (y := m) (k := mF 3) (v := some (m + 1 + 3)) (Nat.le_refl _)
  have T4 : ∀ y, m + 1 + 4 ≤ y → S4 y = none := fun y hy => (n4.1 y (by omega)).trans (T3 y (by omega))
  -- array 4
  refine v_aload_n (q := 40) dX7_init_39 (kk := ?_)
  refine v_bipush (v := 96) (q := 42) dX7_init_40 (kk := ?_)
  refine v_newaP (q := 44) 96 ac10 dX7_init_42 (hn := by decide) (hN := by rfl) (kk := fun S5 I5 R5 n5 => ?_)
  have s5 : S5 m = some (7, 0) := (n5.1 m (by omega)).trans B4.1.1
  refine v_putFR (q := 47) fX7_22 s5 (hd := dX7_init_44) (kk := ?_)
  have B5 : BM S5 I5 (hc_ur R5 m (mF 4) (some (m + 1 + 4))) m 5 := B4.step (by omega) n5
  have G5 := (G4.n n5 (by omega)).r (y := m) (k := mF 4) (v := some (m + 1 + 4)) (Nat.le_refl _)
  have T5 : ∀ y, m + 1 + 5 ≤ y → S5 y = none := fun y hy => (n5.1 y (by omega)).trans (T4 y (by omega))
  -- array 5
  refine v_aload_n (q := 48) dX7_init_47 (kk := ?_)
  refine v_bipush (v := 12) (q := 50) dX7_init_48 (kk := ?_)
  refine v_newaP (q := 52) 12 ac9 dX7_init_50 (hn := by decide) (hN := by rfl) (kk := fun S6 I6 R6 n6 => ?_)
  have s6 : S6 m = some (7, 0) := (n6.1 m (by omega)).trans B5.1.1
  refine v_dup (q := 53) dX7_init_52 (kk := ?_)
  refine v_iconst (v := 0) (q := 54) dX7_init_53 (kk := ?_)
  refine v_bipush (v := 105) (q := 56) dX7_init_54 (kk := ?_)
  refine v_castN (q := 57) (j := 0) n6.2.2.2.1 (by decide) (by decide) (by rfl) (hd := dX7_init_56) (kk := ?_)
  refine v_dup (q := 58) dX7_init_57 (kk := ?_)
  refine v_iconst (v := 1) (q := 59) dX7_init_58 (kk := ?_)
  refine v_bipush (v := 116) (q := 61) dX7_init_59 (kk := ?_)
  refine v_castN (q := 62) (j := 1) n6.2.2.2.1 (by decide) (by decide) (by rfl) (hd := dX7_init_61) (kk := ?_)
  refine v_dup (q := 63) dX7_init_62 (kk := ?_)
  refine v_iconst (v := 2) (q := 64) dX7_init_63 (kk := ?_)
  refine v_bipush (v := 99) (q := 66) dX7_init_64 (kk := ?_)
  refine v_castN (q := 67) (j := 2) n6.2.2.2.1 (by decide) (by decide) (by rfl) (hd := dX7_init_66) (kk := ?_)
  refine v_dup (q := 68) dX7_init_67 (kk := ?_)
  refine v_iconst (v := 3) (q := 69) dX7_init_68 (kk := ?_)
  refine v_bipush (v := 104) (q := 71) dX7_init_69 (kk := ?_)
  refine v_castN (q := 72) (j := 3) n6.2.2.2.1 (by decide) (by decide) (by rfl) (hd := dX7_init_71) (kk := ?_)
  refine v_dup (q := 73) dX7_init_72 (kk := ?_)
  refine v_iconst (v := 4) (q := 74) dX7_init_73 (kk := ?_)
  refine v_bipush (v := 104) (q := 76) dX7_init_74 (kk := ?_)
  refine v_castN (q := 77) (j := 4) n6.2.2.2.1 (by decide) (by decide) (by rfl) (hd := dX7_init_76) (kk := ?_)
  refine v_dup (q := 78) dX7_init_77 (kk := ?_)
  refine v_iconst (v := 5) (q := 79) dX7_init_78 (kk := ?_)
  refine v_bipush (v := 97) (q := 81) dX7_init_79 (kk := ?_)
  refine v_castN (q := 82) (j := 5) n6.2.2.2.1 (by decide) (by decide) (by rfl) (hd := dX7_init_81) (kk := ?_)
  refine v_dup (q := 83) dX7_init_82 (kk := ?_)
  refine v_bipush (v := 6) (q := 85) dX7_init_83 (kk := ?_)
  refine v_bipush (v := 114) (q := 87) dX7_init_85 (kk := ?_)
  refine v_castN (q := 88) (j := 6) n6.2.2.2.1 (by decide) (by decide) (by rfl) (hd := dX7_init_87) (kk := ?_)
  refine v_dup (q := 89) dX7_init_88 (kk := ?_)
  refine v_bipush (v := 7) (q := 91) dX7_init_89 (kk := ?_)
  refine v_bipush (v := 109) (q := 93) dX7_init_91 (kk := ?_)
  refine v_castN (q := 94) (j := 7) n6.2.2.2.1 (by decide) (by decide) (by rfl) (hd := dX7_init_93) (kk := ?_)
  refine v_dup (q := 95) dX7_init_94 (kk := ?_)
  refine v_bipush (v := 8) (q := 97) dX7_init_95 (kk := ?_)
  refine v_bipush (v := 102) (q := 99) dX7_init_97 (kk := ?_)
  refine v_castN (q := 100) (j := 8) n6.2.2.2.1 (by decide) (by decide) (by rfl) (hd := dX7_init_99) (kk := ?_)
  refine v_dup (q := 101) dX7_init_100 (kk := ?_)
  refine v_bipush (v := 9) (q := 103) dX7_init_101 (kk := ?_)
  refine v_bipush (v := 105) (q := 105) dX7_init_103 (kk := ?_)
  refine v_castN (q := 106) (j := 9) n6.2.2.2.1 (by decide) (by decide) (by rfl) (hd := dX7_init_105) (kk := ?_)
  refine v_dup (q := 107) dX7_init_106 (kk := ?_)
  refine v_bipush (v := 10) (q := 109) dX7_init_107 (kk := ?_)
  refine v_bipush (v := 110) (q := 111) dX7_init_109 (kk := ?_)
  refine v_castN (q := 112) (j := 10) n6.2.2.2.1 (by decide) (by decide) (by rfl) (hd := dX7_init_111) (kk := ?_)
  refine v_dup (q := 113) dX7_init_112 (kk := ?_)
  refine v_bipush (v := 11) (q := 115) dX7_init_113 (kk := ?_)
  refine v_bipush (v := 101) (q := 117) dX7_init_115 (kk := ?_)
  refine v_castN (q := 118) (j := 11) n6.2.2.2.1 (by decide) (by decide) (by rfl) (hd := dX7_init_117) (kk := ?_)
  obtain ⟨J6, hJ6⟩ : ∃ J, hc_u (hc_u (hc_u (hc_u (hc_u (hc_u (hc_u (hc_u (hc_u (hc_u (hc_u (hc_u I6 (m + 1 + 5) 0 105) (m + 1 + 5) 1 116) (m + 1 + 5) 2 99) (m + 1 + 5) 3 104) (m + 1 + 5) 4 104) (m + 1 + 5) 5 97) (m + 1 + 5) 6 114) (m + 1 + 5) 7 109) (m + 1 + 5) 8 102) (m + 1 + 5) 9 105) (m + 1 + 5) 10 110) (m + 1 + 5) 11 101 = J := ⟨_, rfl⟩
  have f6 : ∀ x, x ≠ m + 1 + 5 → J6 x = I6 x := fun x hx => by rw [← hJ6, hc_u_ne hx, hc_u_ne hx, hc_u_ne hx, hc_u_ne hx, hc_u_ne hx, hc_u_ne hx, hc_u_ne hx, hc_u_ne hx, hc_u_ne hx, hc_u_ne hx, hc_u_ne hx, hc_u_ne hx]
  have v6 : J6 (m + 1 + 5) 0 = 105 ∧ J6 (m + 1 + 5) 1 = 116 ∧ J6 (m + 1 + 5) 2 = 99 ∧ J6 (m + 1 + 5) 3 = 104 ∧ J6 (m + 1 + 5) 4 = 104 ∧ J6 (m + 1 + 5) 5 = 97 ∧ J6 (m + 1 + 5) 6 = 114 ∧ J6 (m + 1 + 5) 7 = 109 ∧ J6 (m + 1 + 5) 8 = 102 ∧ J6 (m + 1 + 5) 9 = 105 ∧ J6 (m + 1 + 5) 10 = 110 ∧ J6 (m + 1 + 5) 11 = 101 := by
    rw [← hJ6]
    refine ⟨?_, ?_, ?_, ?_, ?_, ?_, ?_, ?_, ?_, ?_, ?_, ?_⟩
    · rw [uu_ne (by omega), uu_ne (by omega), uu_ne (by omega), uu_ne (by omega), uu_ne (by omega), uu_ne (by omega), uu_ne (by omega), uu_ne (by omega), uu_ne (by omega), uu_ne (by omega), uu_ne (by omega)]; exact uu_at
    · rw [uu_ne (by omega), uu_ne (by omega), uu_ne (by omega), uu_ne (by omega), uu_ne (by omega), uu_ne (by omega), uu_ne (by omega), uu_ne (by omega), uu_ne (by omega), uu_ne (by omega)]; exact uu_at
    · rw [uu_ne (by omega), uu_ne (by omega), uu_ne (by omega), uu_ne (by omega), uu_ne (by omega), uu_ne (by omega), uu_ne (by omega), uu_ne (by omega), uu_ne (by omega)]; exact uu_at
    · rw [uu_ne (by omega), uu_ne (by omega), uu_ne (by omega), uu_ne (by omega), uu_ne (by omega), uu_ne (by omega), uu_ne (by omega), uu_ne (by omega)]; exact uu_at
    · rw [uu_ne (by omega), uu_ne (by omega), uu_ne (by omega), uu_ne (by omega), uu_ne (by omega), uu_ne (by omega), uu_ne (by omega)]; exact uu_at
    · rw [uu_ne (by omega), uu_ne (by omega), uu_ne (by omega), uu_ne (by omega), uu_ne (by omega), uu_ne (by omega)]; exact uu_at
    · rw [uu_ne (by omega), uu_ne (by omega), uu_ne (by omega), uu_ne (by omega), uu_ne (by omega)]; exact uu_at
    · rw [uu_ne (by omega), uu_ne (by omega), uu_ne (by omega), uu_ne (by omega)]; exact uu_at
    · rw [uu_ne (by omega), uu_ne (by omega), uu_ne (by omega)]; exact uu_at
    · rw [uu_ne (by omega), uu_ne (by omega)]; exact uu_at
    · rw [uu_ne (by omega)]; exact uu_at
    · exact uu_at
  rw [show hc_u (hc_u (hc_u (hc_u (hc_u (hc_u (hc_u (hc_u (hc_u (hc_u (hc_u (hc_u I6 (m + 1 + 5) 0 105) (m + 1 + 5) 1 116) (m + 1 + 5) 2 99) (m + 1 + 5) 3 104) (m + 1 + 5) 4 104) (m + 1 + 5) 5 97) (m + 1 + 5) 6 114) (m + 1 + 5) 7 109) (m + 1 + 5) 8 102) (m + 1 + 5) 9 105) (m + 1 + 5) 10 110) (m + 1 + 5) 11 101 = J6 from hJ6]
  refine v_putFR (q := 121) fX7_25 s6 (hd := dX7_init_118) (kk := ?_)
  have B6 : BM S6 J6 (hc_ur R6 m (mF 5) (some (m + 1 + 5))) m 6 := B5.stepF (by omega) (by omega) n6 f6
  have H6 := G5.n n6 (by omega)
  have G6 : BF m S I R S6 J6 (hc_ur R6 m (mF 5) (some (m + 1 + 5))) := fun x hx => ⟨(H6 x hx).1, (f6 x (by omega)).trans (H6 x hx).2.1, (hc_ur_ne (by omega)).trans (H6 x hx).2.2⟩
  have T6 : ∀ y, m + 1 + 6 ≤ y → S6 y = none := fun y hy => (n6.1 y (by omega)).trans (T5 y (by omega))
  -- array 6
  refine v_aload_n (q := 122) dX7_init_121 (kk := ?_)
  refine v_iconst (v := 4) (q := 123) dX7_init_122 (kk := ?_)
  refine v_newaP (q := 125) 4 ac10 dX7_init_123 (hn := by decide) (hN := by rfl) (kk := fun S7 I7 R7 n7 => ?_)
  have s7 : S7 m = some (7, 0) := (n7.1 m (by omega)).trans B6.1.1
  refine v_dup (q := 126) dX7_init_125 (kk := ?_)
  refine v_iconst (v := 0) (q := 127) dX7_init_126 (kk := ?_)
  refine v_iconst (v := 0) (q := 128) dX7_init_127 (kk := ?_)
  refine v_iastN (q := 129) (j := 0) n7.2.2.2.1 (by decide) (by decide) (hd := dX7_init_128) (kk := ?_)
  refine v_dup (q := 130) dX7_init_129 (kk := ?_)
  refine v_iconst (v := 1) (q := 131) dX7_init_130 (kk := ?_)
  refine v_iconst (v := 4) (q := 132) dX7_init_131 (kk := ?_)
  refine v_iastN (q := 133) (j := 1) n7.2.2.2.1 (by decide) (by decide) (hd := dX7_init_132) (kk := ?_)
  refine v_dup (q := 134) dX7_init_133 (kk := ?_)
  refine v_iconst (v := 2) (q := 135) dX7_init_134 (kk := ?_)
  refine v_bipush (v := 8) (q := 137) dX7_init_135 (kk := ?_)
  refine v_iastN (q := 138) (j := 2) n7.2.2.2.1 (by decide) (by decide) (hd := dX7_init_137) (kk := ?_)
  refine v_dup (q := 139) dX7_init_138 (kk := ?_)
  refine v_iconst (v := 3) (q := 140) dX7_init_139 (kk := ?_)
  refine v_bipush (v := 12) (q := 142) dX7_init_140 (kk := ?_)
  refine v_iastN (q := 143) (j := 3) n7.2.2.2.1 (by decide) (by decide) (hd := dX7_init_142) (kk := ?_)
  obtain ⟨J7, hJ7⟩ : ∃ J, hc_u (hc_u (hc_u (hc_u I7 (m + 1 + 6) 0 0) (m + 1 + 6) 1 4) (m + 1 + 6) 2 8) (m + 1 + 6) 3 12 = J := ⟨_, rfl⟩
  have f7 : ∀ x, x ≠ m + 1 + 6 → J7 x = I7 x := fun x hx => by rw [← hJ7, hc_u_ne hx, hc_u_ne hx, hc_u_ne hx, hc_u_ne hx]
  have v7 : J7 (m + 1 + 6) 0 = 0 ∧ J7 (m + 1 + 6) 1 = 4 ∧ J7 (m + 1 + 6) 2 = 8 ∧ J7 (m + 1 + 6) 3 = 12 := by
    rw [← hJ7]
    refine ⟨?_, ?_, ?_, ?_⟩
    · rw [uu_ne (by omega), uu_ne (by omega), uu_ne (by omega)]; exact uu_at
    · rw [uu_ne (by omega), uu_ne (by omega)]; exact uu_at
    · rw [uu_ne (by omega)]; exact uu_at
    · exact uu_at
  rw [show hc_u (hc_u (hc_u (hc_u I7 (m + 1 + 6) 0 0) (m + 1 + 6) 1 4) (m + 1 + 6) 2 8) (m + 1 + 6) 3 12 = J7 from hJ7]
  refine v_putFR (q := 146) fX7_29 s7 (hd := dX7_init_143) (kk := ?_)
  have B7 : BM S7 J7 (hc_ur R7 m (mF 6) (some (m + 1 + 6))) m 7 := B6.stepF (by omega) (by omega) n7 f7
  have H7 := G6.n n7 (by omega)
  have G7 : BF m S I R S7 J7 (hc_ur R7 m (mF 6) (some (m + 1 + 6))) := fun x hx => ⟨(H7 x hx).1, (f7 x (by omega)).trans (H7 x hx).2.1, (hc_ur_ne (by omega)).trans (H7 x hx).2.2⟩
  have T7 : ∀ y, m + 1 + 7 ≤ y → S7 y = none := fun y hy => (n7.1 y (by omega)).trans (T6 y (by omega))
  -- array 7
  refine v_aload_n (q := 147) dX7_init_146 (kk := ?_)
  refine v_bipush (v := 96) (q := 149) dX7_init_147 (kk := ?_)
  refine v_newaP (q := 151) 96 ac10 dX7_init_149 (hn := by decide) (hN := by rfl) (kk := fun S8 I8 R8 n8 => ?_)
  have s8 : S8 m = some (7, 0) := (n8.1 m (by omega)).trans B7.1.1
  refine v_putFR (q := 154) fX7_32 s8 (hd := dX7_init_151) (kk := ?_)
  have B8 : BM S8 I8 (hc_ur R8 m (mF 7) (some (m + 1 + 7))) m 8 := B7.step (by omega) n8
  have G8 := (G7.n n8 (by omega)).r (y := m) (k := mF 7) (v := some (m + 1 + 7)) (Nat.le_refl _)
  have T8 : ∀ y, m + 1 + 8 ≤ y → S8 y = none := fun y hy => (n8.1 y (by omega)).trans (T7 y (by omega))
  -- array 8
  refine v_aload_n (q := 155) dX7_init_154 (kk := ?_)
  refine v_bipush (v := 96) (q := 157) dX7_init_155 (kk := ?_)
  refine v_newaP (q := 159) 96 ac10 dX7_init_157 (hn := by decide) (hN := by rfl) (kk := fun S9 I9 R9 n9 => ?_)
  have s9 : S9 m = some (7, 0) := (n9.1 m (by omega)).trans B8.1.1
  refine v_putFR (q := 162) fX7_35 s9 (hd := dX7_init_159) (kk := ?_)
  have B9 : BM S9 I9 (hc_ur R9 m (mF 8) (some (m + 1 + 8))) m 9 := B8.step (by omega) n9
  have G9 := (G8.n n9 (by omega)).r (y := m) (k := mF 8) (v := some (m + 1 + 8)) (Nat.le_refl _)
  have T9 : ∀ y, m + 1 + 9 ≤ y → S9 y = none := fun y hy => (n9.1 y (by omega)).trans (T8 y (by omega))
  -- array 9
  refine v_aload_n (q := 163) dX7_init_162 (kk := ?_)
  refine v_bipush (v := 10) (q := 165) dX7_init_163 (kk := ?_)
  refine v_newaP (q := 167) 10 ac11 dX7_init_165 (hn := by decide) (hN := by rfl) (kk := fun S10 I10 R10 n10 => ?_)
  have s10 : S10 m = some (7, 0) := (n10.1 m (by omega)).trans B9.1.1
  refine v_putFR (q := 170) fX7_38 s10 (hd := dX7_init_167) (kk := ?_)
  have B10 : BM S10 I10 (hc_ur R10 m (mF 9) (some (m + 1 + 9))) m 10 := B9.step (by omega) n10
  have G10 := (G9.n n10 (by omega)).r (y := m) (k := mF 9) (v := some (m + 1 + 9)) (Nat.le_refl _)
  have T10 : ∀ y, m + 1 + 10 ≤ y → S10 y = none := fun y hy => (n10.1 y (by omega)).trans (T9 y (by omega))
  -- array 10
  refine v_aload_n (q := 171) dX7_init_170 (kk := ?_)
  refine v_bipush (v := 96) (q := 173) dX7_init_171 (kk := ?_)
  refine v_newaP (q := 175) 96 ac10 dX7_init_173 (hn := by decide) (hN := by rfl) (kk := fun S11 I11 R11 n11 => ?_)
  have s11 : S11 m = some (7, 0) := (n11.1 m (by omega)).trans B10.1.1
  refine v_putFR (q := 178) fX7_42 s11 (hd := dX7_init_175) (kk := ?_)
  have B11 : BM S11 I11 (hc_ur R11 m (mF 10) (some (m + 1 + 10))) m 11 := B10.step (by omega) n11
  have G11 := (G10.n n11 (by omega)).r (y := m) (k := mF 10) (v := some (m + 1 + 10)) (Nat.le_refl _)
  have T11 : ∀ y, m + 1 + 11 ≤ y → S11 y = none := fun y hy => (n11.1 y (by omega)).trans (T10 y (by omega))
  -- array 11
  refine v_aload_n (q := 179) dX7_init_178 (kk := ?_)
  refine v_iconst (v := 4) (q := 180) dX7_init_179 (kk := ?_)
  refine v_newaP (q := 182) 4 ac10 dX7_init_180 (hn := by decide) (hN := by rfl) (kk := fun S12 I12 R12 n12 => ?_)
  have s12 : S12 m = some (7, 0) := (n12.1 m (by omega)).trans B11.1.1
  refine v_putFR (q := 185) fX7_45 s12 (hd := dX7_init_182) (kk := ?_)
  have B12 : BM S12 I12 (hc_ur R12 m (mF 11) (some (m + 1 + 11))) m 12 := B11.step (by omega) n12
  have G12 := (G11.n n12 (by omega)).r (y := m) (k := mF 11) (v := some (m + 1 + 11)) (Nat.le_refl _)
  have T12 : ∀ y, m + 1 + 12 ≤ y → S12 y = none := fun y hy => (n12.1 y (by omega)).trans (T11 y (by omega))
  -- array 12
  refine v_aload_n (q := 186) dX7_init_185 (kk := ?_)
  refine v_iconst (v := 4) (q := 187) dX7_init_186 (kk := ?_)
  refine v_newaP (q := 189) 4 ac10 dX7_init_187 (hn := by decide) (hN := by rfl) (kk := fun S13 I13 R13 n13 => ?_)
  have s13 : S13 m = some (7, 0) := (n13.1 m (by omega)).trans B12.1.1
  refine v_dup (q := 190) dX7_init_189 (kk := ?_)
  refine v_iconst (v := 0) (q := 191) dX7_init_190 (kk := ?_)
  refine v_iconst (v := (-1)) (q := 192) dX7_init_191 (kk := ?_)
  refine v_iastN (q := 193) (j := 0) n13.2.2.2.1 (by decide) (by decide) (hd := dX7_init_192) (kk := ?_)
  refine v_dup (q := 194) dX7_init_193 (kk := ?_)
  refine v_iconst (v := 1) (q := 195) dX7_init_194 (kk := ?_)
  refine v_iconst (v := (-1)) (q := 196) dX7_init_195 (kk := ?_)
  refine v_iastN (q := 197) (j := 1) n13.2.2.2.1 (by decide) (by decide) (hd := dX7_init_196) (kk := ?_)
  refine v_dup (q := 198) dX7_init_197 (kk := ?_)
  refine v_iconst (v := 2) (q := 199) dX7_init_198 (kk := ?_)
  refine v_iconst (v := (-1)) (q := 200) dX7_init_199 (kk := ?_)
  refine v_iastN (q := 201) (j := 2) n13.2.2.2.1 (by decide) (by decide) (hd := dX7_init_200) (kk := ?_)
  refine v_dup (q := 202) dX7_init_201 (kk := ?_)
  refine v_iconst (v := 3) (q := 203) dX7_init_202 (kk := ?_)
  refine v_iconst (v := (-1)) (q := 204) dX7_init_203 (kk := ?_)
  refine v_iastN (q := 205) (j := 3) n13.2.2.2.1 (by decide) (by decide) (hd := dX7_init_204) (kk := ?_)
  obtain ⟨J13, hJ13⟩ : ∃ J, hc_u (hc_u (hc_u (hc_u I13 (m + 1 + 12) 0 (-1)) (m + 1 + 12) 1 (-1)) (m + 1 + 12) 2 (-1)) (m + 1 + 12) 3 (-1) = J := ⟨_, rfl⟩
  have f13 : ∀ x, x ≠ m + 1 + 12 → J13 x = I13 x := fun x hx => by rw [← hJ13, hc_u_ne hx, hc_u_ne hx, hc_u_ne hx, hc_u_ne hx]
  have v13 : J13 (m + 1 + 12) 0 = -1 ∧ J13 (m + 1 + 12) 1 = -1 ∧ J13 (m + 1 + 12) 2 = -1 ∧ J13 (m + 1 + 12) 3 = -1 := by
    rw [← hJ13]
    refine ⟨?_, ?_, ?_, ?_⟩
    · rw [uu_ne (by omega), uu_ne (by omega), uu_ne (by omega)]; exact uu_at
    · rw [uu_ne (by omega), uu_ne (by omega)]; exact uu_at
    · rw [uu_ne (by omega)]; exact uu_at
    · exact uu_at
  rw [show hc_u (hc_u (hc_u (hc_u I13 (m + 1 + 12) 0 (-1)) (m + 1 + 12) 1 (-1)) (m + 1 + 12) 2 (-1)) (m + 1 + 12) 3 (-1) = J13 from hJ13]
  refine v_putFR (q := 208) fX7_48 s13 (hd := dX7_init_205) (kk := ?_)
  have B13 : BM S13 J13 (hc_ur R13 m (mF 12) (some (m + 1 + 12))) m 13 := B12.stepF (by omega) (by omega) n13 f13
  have H13 := G12.n n13 (by omega)
  have G13 : BF m S I R S13 J13 (hc_ur R13 m (mF 12) (some (m + 1 + 12))) := fun x hx => ⟨(H13 x hx).1, (f13 x (by omega)).trans (H13 x hx).2.1, (hc_ur_ne (by omega)).trans (H13 x hx).2.2⟩
  have T13 : ∀ y, m + 1 + 13 ≤ y → S13 y = none := fun y hy => (n13.1 y (by omega)).trans (T12 y (by omega))
  -- array 13
  refine v_aload_n (q := 209) dX7_init_208 (kk := ?_)
  refine v_iconst (v := 4) (q := 210) dX7_init_209 (kk := ?_)
  refine v_newaP (q := 212) 4 ac10 dX7_init_210 (hn := by decide) (hN := by rfl) (kk := fun S14 I14 R14 n14 => ?_)
  have s14 : S14 m = some (7, 0) := (n14.1 m (by omega)).trans B13.1.1
  refine v_putFR (q := 215) fX7_51 s14 (hd := dX7_init_212) (kk := ?_)
  have B14 : BM S14 I14 (hc_ur R14 m (mF 13) (some (m + 1 + 13))) m 14 := B13.step (by omega) n14
  have G14 := (G13.n n14 (by omega)).r (y := m) (k := mF 13) (v := some (m + 1 + 13)) (Nat.le_refl _)
  have T14 : ∀ y, m + 1 + 14 ≤ y → S14 y = none := fun y hy => (n14.1 y (by omega)).trans (T13 y (by omega))
  -- array 14
  refine v_aload_n (q := 216) dX7_init_215 (kk := ?_)
  refine v_bipush (v := 96) (q := 218) dX7_init_216 (kk := ?_)
  refine v_newaP (q := 220) 96 ac10 dX7_init_218 (hn := by decide) (hN := by rfl) (kk := fun S15 I15 R15 n15 => ?_)
  have s15 : S15 m = some (7, 0) := (n15.1 m (by omega)).trans B14.1.1
  refine v_putFR (q := 223) fX7_54 s15 (hd := dX7_init_220) (kk := ?_)
  have B15 : BM S15 I15 (hc_ur R15 m (mF 14) (some (m + 1 + 14))) m 15 := B14.step (by omega) n15
  have G15 := (G14.n n15 (by omega)).r (y := m) (k := mF 14) (v := some (m + 1 + 14)) (Nat.le_refl _)
  have T15 : ∀ y, m + 1 + 15 ≤ y → S15 y = none := fun y hy => (n15.1 y (by omega)).trans (T14 y (by omega))
  -- array 15
  refine v_aload_n (q := 224) dX7_init_223 (kk := ?_)
  refine v_iconst (v := 5) (q := 225) dX7_init_224 (kk := ?_)
  refine v_newaP (q := 227) 5 ac10 dX7_init_225 (hn := by decide) (hN := by rfl) (kk := fun S16 I16 R16 n16 => ?_)
  have s16 : S16 m = some (7, 0) := (n16.1 m (by omega)).trans B15.1.1
  refine v_putFR (q := 230) fX7_57 s16 (hd := dX7_init_227) (kk := ?_)
  have B16 : BM S16 I16 (hc_ur R16 m (mF 15) (some (m + 1 + 15))) m 16 := B15.step (by omega) n16
  have G16 := (G15.n n16 (by omega)).r (y := m) (k := mF 15) (v := some (m + 1 + 15)) (Nat.le_refl _)
  have T16 : ∀ y, m + 1 + 16 ≤ y → S16 y = none := fun y hy => (n16.1 y (by omega)).trans (T15 y (by omega))
  -- array 16
  refine v_aload_n (q := 231) dX7_init_230 (kk := ?_)
  refine v_iconst (v := 5) (q := 232) dX7_init_231 (kk := ?_)
  refine v_newaP (q := 234) 5 ac10 dX7_init_232 (hn := by decide) (hN := by rfl) (kk := fun S17 I17 R17 n17 => ?_)
  have s17 : S17 m = some (7, 0) := (n17.1 m (by omega)).trans B16.1.1
  refine v_putFR (q := 237) fX7_60 s17 (hd := dX7_init_234) (kk := ?_)
  have B17 : BM S17 I17 (hc_ur R17 m (mF 16) (some (m + 1 + 16))) m 17 := B16.step (by omega) n17
  have G17 := (G16.n n17 (by omega)).r (y := m) (k := mF 16) (v := some (m + 1 + 16)) (Nat.le_refl _)
  have T17 : ∀ y, m + 1 + 17 ≤ y → S17 y = none := fun y hy => (n17.1 y (by omega)).trans (T16 y (by omega))
  -- array 17
  refine v_aload_n (q := 238) dX7_init_237 (kk := ?_)
  refine v_iconst (v := 5) (q := 239) dX7_init_238 (kk := ?_)
  refine v_newaP (q := 241) 5 ac10 dX7_init_239 (hn := by decide) (hN := by rfl) (kk := fun S18 I18 R18 n18 => ?_)
  have s18 : S18 m = some (7, 0) := (n18.1 m (by omega)).trans B17.1.1
  refine v_putFR (q := 244) fX7_63 s18 (hd := dX7_init_241) (kk := ?_)
  have B18 : BM S18 I18 (hc_ur R18 m (mF 17) (some (m + 1 + 17))) m 18 := B17.step (by omega) n18
  have G18 := (G17.n n18 (by omega)).r (y := m) (k := mF 17) (v := some (m + 1 + 17)) (Nat.le_refl _)
  have T18 : ∀ y, m + 1 + 18 ≤ y → S18 y = none := fun y hy => (n18.1 y (by omega)).trans (T17 y (by omega))
  -- array 18
  refine v_aload_n (q := 245) dX7_init_244 (kk := ?_)
  refine v_bipush (v := 120) (q := 247) dX7_init_245 (kk := ?_)
  refine v_newaP (q := 249) 120 ac10 dX7_init_247 (hn := by decide) (hN := by rfl) (kk := fun S19 I19 R19 n19 => ?_)
  have s19 : S19 m = some (7, 0) := (n19.1 m (by omega)).trans B18.1.1
  refine v_putFR (q := 252) fX7_66 s19 (hd := dX7_init_249) (kk := ?_)
  have B19 : BM S19 I19 (hc_ur R19 m (mF 18) (some (m + 1 + 18))) m 19 := B18.step (by omega) n19
  have G19 := (G18.n n19 (by omega)).r (y := m) (k := mF 18) (v := some (m + 1 + 18)) (Nat.le_refl _)
  have T19 : ∀ y, m + 1 + 19 ≤ y → S19 y = none := fun y hy => (n19.1 y (by omega)).trans (T18 y (by omega))
  -- array 19
  refine v_aload_n (q := 253) dX7_init_252 (kk := ?_)
  refine v_bipush (v := 24) (q := 255) dX7_init_253 (kk := ?_)
  refine v_newaP (q := 257) 24 ac10 dX7_init_255 (hn := by decide) (hN := by rfl) (kk := fun S20 I20 R20 n20 => ?_)
  have s20 : S20 m = some (7, 0) := (n20.1 m (by omega)).trans B19.1.1
  refine v_putFR (q := 260) fX7_69 s20 (hd := dX7_init_257) (kk := ?_)
  have B20 : BM S20 I20 (hc_ur R20 m (mF 19) (some (m + 1 + 19))) m 20 := B19.step (by omega) n20
  have G20 := (G19.n n20 (by omega)).r (y := m) (k := mF 19) (v := some (m + 1 + 19)) (Nat.le_refl _)
  have T20 : ∀ y, m + 1 + 20 ≤ y → S20 y = none := fun y hy => (n20.1 y (by omega)).trans (T19 y (by omega))
  -- array 20
  refine v_aload_n (q := 261) dX7_init_260 (kk := ?_)
  refine v_bipush (v := 60) (q := 263) dX7_init_261 (kk := ?_)
  refine v_newaP (q := 265) 60 ac10 dX7_init_263 (hn := by decide) (hN := by rfl) (kk := fun S21 I21 R21 n21 => ?_)
  have s21 : S21 m = some (7, 0) := (n21.1 m (by omega)).trans B20.1.1
  refine v_putFR (q := 268) fX7_72 s21 (hd := dX7_init_265) (kk := ?_)
  have B21 : BM S21 I21 (hc_ur R21 m (mF 20) (some (m + 1 + 20))) m 21 := B20.step (by omega) n21
  have G21 := (G20.n n21 (by omega)).r (y := m) (k := mF 20) (v := some (m + 1 + 20)) (Nat.le_refl _)
  have T21 : ∀ y, m + 1 + 21 ≤ y → S21 y = none := fun y hy => (n21.1 y (by omega)).trans (T20 y (by omega))
  have m0 : S21 (m + 1) = some (10, 1465) := (B21.2 0 (by omega)).1
  have c0 : hc_ur R21 m (mF 20) (some (m + 1 + 20)) m 0 = some (m + 1) := (B21.2 0 (by omega)).2.1
  refine v_aload_n (q := 269) dX7_init_268 (kk := ?_)
  refine v_getR (q := 272) fX7_9 B21.1.1 c0 (hd := dX7_init_269) (kk := ?_)
  refine v_iconst (v := 0) (q := 273) dX7_init_272 (kk := ?_)
  refine v_iconst (v := 1) (q := 274) dX7_init_273 (kk := ?_)
  refine v_iastN (q := 275) (j := 0) m0 (by decide) (by decide) (hd := dX7_init_274) (kk := ?_)
  refine v_aload_n (q := 276) dX7_init_275 (kk := ?_)
  refine v_getR (q := 279) fX7_9 B21.1.1 c0 (hd := dX7_init_276) (kk := ?_)
  refine v_iconst (v := 2) (q := 280) dX7_init_279 (kk := ?_)
  refine v_iconst (v := 4) (q := 281) dX7_init_280 (kk := ?_)
  refine v_iastN (q := 282) (j := 2) m0 (by decide) (by decide) (hd := dX7_init_281) (kk := ?_)
  refine v_aload_n (q := 283) dX7_init_282 (kk := ?_)
  refine v_getR (q := 286) fX7_9 B21.1.1 c0 (hd := dX7_init_283) (kk := ?_)
  refine v_bipush (v := 6) (q := 288) dX7_init_286 (kk := ?_)
  refine v_bipush (v := 30) (q := 290) dX7_init_288 (kk := ?_)
  refine v_iastN (q := 291) (j := 6) m0 (by decide) (by decide) (hd := dX7_init_290) (kk := ?_)
  refine v_aload_n (q := 292) dX7_init_291 (kk := ?_)
  refine v_getR (q := 295) fX7_9 B21.1.1 c0 (hd := dX7_init_292) (kk := ?_)
  refine v_bipush (v := 7) (q := 297) dX7_init_295 (kk := ?_)
  refine v_iconst (v := 3) (q := 298) dX7_init_297 (kk := ?_)
  refine v_iastN (q := 299) (j := 7) m0 (by decide) (by decide) (hd := dX7_init_298) (kk := ?_)
  refine v_vret dX7_init_299 (hQ := ?_)
  have fe : ∀ x, x ≠ m + 1 → hc_u (hc_u (hc_u (hc_u I21 (m + 1) 0 1) (m + 1) 2 4) (m + 1) 6 30) (m + 1) 7 3 x = I21 x := fun x hx => by rw [hc_u_ne hx, hc_u_ne hx, hc_u_ne hx, hc_u_ne hx]
  have z0 : ∀ j, j < 21 → j ≠ 5 → j ≠ 6 → j ≠ 12 → I21 (m + 1 + j) = fun _ => 0 := fun j hj a b c => (B21.2 j hj).2.2 a b c
  have k6 : I21 (m + 6) = J6 (m + 6) := by rw [n21.2.1 _ (by omega), n20.2.1 _ (by omega), n19.2.1 _ (by omega), n18.2.1 _ (by omega), n17.2.1 _ (by omega), n16.2.1 _ (by omega), n15.2.1 _ (by omega), n14.2.1 _ (by omega), f13 _ (by omega), n13.2.1 _ (by omega), n12.2.1 _ (by omega), n11.2.1 _ (by omega), n10.2.1 _ (by omega), n9.2.1 _ (by omega), n8.2.1 _ (by omega), f7 _ (by omega), n7.2.1 _ (by omega)]
  have k7 : I21 (m + 7) = J7 (m + 7) := by rw [n21.2.1 _ (by omega), n20.2.1 _ (by omega), n19.2.1 _ (by omega), n18.2.1 _ (by omega), n17.2.1 _ (by omega), n16.2.1 _ (by omega), n15.2.1 _ (by omega), n14.2.1 _ (by omega), f13 _ (by omega), n13.2.1 _ (by omega), n12.2.1 _ (by omega), n11.2.1 _ (by omega), n10.2.1 _ (by omega), n9.2.1 _ (by omega), n8.2.1 _ (by omega)]
  have k13 : I21 (m + 13) = J13 (m + 13) := by rw [n21.2.1 _ (by omega), n20.2.1 _ (by omega), n19.2.1 _ (by omega), n18.2.1 _ (by omega), n17.2.1 _ (by omega), n16.2.1 _ (by omega), n15.2.1 _ (by omega), n14.2.1 _ (by omega)]
  refine hQ _ _ _ (fun x hx => ⟨(G21 x hx).1, (fe x (by omega)).trans (G21 x hx).2.1, (G21 x hx).2.2⟩) (fun y hy => T21 y (by omega)) ⟨B21.1.1, ⟨(B21.2 0 (by omega)).1, (B21.2 0 (by omega)).2.1⟩, ⟨(B21.2 1 (by omega)).1, (B21.2 1 (by omega)).2.1⟩, ⟨(B21.2 2 (by omega)).1, (B21.2 2 (by omega)).2.1⟩, ⟨(B21.2 3 (by omega)).1, (B21.2 3 (by omega)).2.1⟩, ⟨(B21.2 4 (by omega)).1, (B21.2 4 (by omega)).2.1⟩, ⟨(B21.2 5 (by omega)).1, (B21.2 5 (by omega)).2.1⟩, ⟨(B21.2 6 (by omega)).1, (B21.2 6 (by omega)).2.1⟩, ⟨(B21.2 7 (by omega)).1, (B21.2 7 (by omega)).2.1⟩, ⟨(B21.2 8 (by omega)).1, (B21.2 8 (by omega)).2.1⟩, ⟨(B21.2 9 (by omega)).1, (B21.2 9 (by omega)).2.1⟩, ⟨(B21.2 10 (by omega)).1, (B21.2 10 (by omega)).2.1⟩, ⟨(B21.2 11 (by omega)).1, (B21.2 11 (by omega)).2.1⟩, ⟨(B21.2 12 (by omega)).1, (B21.2 12 (by omega)).2.1⟩, ⟨(B21.2 13 (by omega)).1, (B21.2 13 (by omega)).2.1⟩, ⟨(B21.2 14 (by omega)).1, (B21.2 14 (by omega)).2.1⟩, ⟨(B21.2 15 (by omega)).1, (B21.2 15 (by omega)).2.1⟩, ⟨(B21.2 16 (by omega)).1, (B21.2 16 (by omega)).2.1⟩, ⟨(B21.2 17 (by omega)).1, (B21.2 17 (by omega)).2.1⟩, ⟨(B21.2 18 (by omega)).1, (B21.2 18 (by omega)).2.1⟩, ⟨(B21.2 19 (by omega)).1, (B21.2 19 (by omega)).2.1⟩, ⟨(B21.2 20 (by omega)).1, (B21.2 20 (by omega)).2.1⟩⟩ ?_ ?_ ⟨fun k hk => ?_, fun w hw => ?_⟩ (fun k hk => ?_) ?_ ?_ ?_
  · rw [hc_u_at, hc_u_at, hc_u_at, hc_u_at, z0 0 (by omega) (by omega) (by omega) (by omega)]
    rfl
  · rw [fe m (by omega)]
    exact B21.1.2
  · rw [fe _ (by omega), k6]
    obtain ⟨a0, a1, a2, a3, a4, a5, a6, a7, a8, a9, a10, a11⟩ := v6
    have : k = 0 ∨ k = 1 ∨ k = 2 ∨ k = 3 ∨ k = 4 ∨ k = 5 ∨ k = 6 ∨ k = 7 ∨ k = 8 ∨ k = 9 ∨ k = 10 ∨ k = 11 := by omega
    rcases this with rfl | rfl | rfl | rfl | rfl | rfl | rfl | rfl | rfl | rfl | rfl | rfl
    · exact a0
    · exact a1
    · exact a2
    · exact a3
    · exact a4
    · exact a5
    · exact a6
    · exact a7
    · exact a8
    · exact a9
    · exact a10
    · exact a11
  · rw [fe _ (by omega), k7]
    obtain ⟨a0, a1, a2, a3⟩ := v7
    have : w = 0 ∨ w = 1 ∨ w = 2 ∨ w = 3 := by omega
    rcases this with rfl | rfl | rfl | rfl
    · exact a0
    · exact a1
    · exact a2
    · exact a3
  · rw [fe _ (by omega), k13]
    obtain ⟨a0, a1, a2, a3⟩ := v13
    have : k = 0 ∨ k = 1 ∨ k = 2 ∨ k = 3 := by omega
    rcases this with rfl | rfl | rfl | rfl
    · exact a0
    · exact a1
    · exact a2
    · exact a3
  · rw [fe _ (by omega)]; exact z0 13 (by omega) (by omega) (by omega) (by omega)
  · rw [fe _ (by omega)]; exact z0 14 (by omega) (by omega) (by omega) (by omega)
  · rw [fe _ (by omega)]; exact z0 15 (by omega) (by omega) (by omega) (by omega)
end L24
