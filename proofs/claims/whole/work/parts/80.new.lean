/-! constructors -/
def NW (z : Nat) (p : Nat × Nat) (S : hcS) (I : hcI) (R : hcR) (S' : hcS) (I' : hcI) (R' : hcR) : Prop := (∀ x, x ≠ z → S' x = S x) ∧ (∀ x, x ≠ z → I' x = I x) ∧ (∀ x, x ≠ z → R' x = R x) ∧ S' z = some p ∧ I' z = (fun _ => 0) ∧ R' z = (fun _ => none)
section
variable {g : hcG} {M : hcM} {d kc ks : Nat} {S : hcS} {I : hcI} {R : hcR} {z pc q : Nat} {L : List (Option Value)} {st : List Value} {Q : hcQ}
theorem NW.mk {p : Nat × Nat} : NW z p S I R (fun x => if x = z then some p else S x) (fun x => if x = z then (fun _ => 0) else I x) (fun x => if x = z then (fun _ => none) else R x) := ⟨fun _ h => if_neg h, fun _ h => if_neg h, fun _ h => if_neg h, if_pos rfl, if_pos rfl, if_pos rfl⟩
theorem v_newP {t idx : Nat} (hl : Cond.classLink M.1.cls idx (hc_C t) ∈ hc_tb) (hi : Cond.instantiable (hc_C t) (hc_N t) ∈ hc_tb) (hn : Cond.initialized (hc_C t) ∈ hc_tb) (hd : decode M.2.1 pc = .ok (.new idx, 3)) (ht : t < 8 := by decide) (hq : pc + 3 = q := by rfl) (h1 : 1 ≤ kc := by decide) (h2 : hc_N t ≤ ks := by decide) (kk : ∀ (S' : hcS) (I' : hcI) (R' : hcR), NW z (t, 0) S I R S' I' R' → V g M d (kc - 1) (ks - hc_N t) S' I' R' (z + 1) q L (.ref z :: st) Q) : V g M d kc ks S I R z pc L st Q :=
  V.less (kc' := kc - 1 + 1) (ks' := ks - hc_N t + hc_N t) (v_new hl hi hn hd ht hq (kk _ _ _ NW.mk)) (by omega) (by omega)
theorem v_newaP {t : Nat} {atype : ArrayType} {n : Int32} (N : Nat) (hac : Cond.arrayClass (hc_a t) ∈ hc_tb) (hd : decode M.2.1 pc = .ok (.newarray atype, 2)) (hn : ¬ n < 0) (hN : n.toNatClampNeg = N) (hty : newarray.typeOf atype = hc_a t := by rfl) (hsm : N ≤ 4096 := by decide) (h8 : 8 ≤ t := by decide) (ht : t < 12 := by decide) (hq : pc + 2 = q := by rfl) (h1 : 1 ≤ kc := by decide) (h2 : N ≤ ks := by decide) (kk : ∀ (S' : hcS) (I' : hcI) (R' : hcR), NW z (t, N) S I R S' I' R' → V g M d (kc - 1) (ks - N) S' I' R' (z + 1) q L (.ref z :: st) Q) : V g M d kc ks S I R z pc L (.int n :: st) Q :=
  V.less (kc' := kc - 1 + 1) (ks' := ks - N + N) (v_newa N hac hd hn hN hty hsm h8 ht hq (kk _ _ _ NW.mk)) (by omega) (by omega)
theorem v_anewP {t tc idx : Nat} {n : Int32} (N : Nat) (hl : Cond.classLink M.1.cls idx (hc_C tc) ∈ hc_tb) (hd : decode M.2.1 pc = .ok (.anewarray idx, 3)) (hn : ¬ n < 0) (hN : n.toNatClampNeg = N) (hty : hc_a t = .object (hc_C tc) := by rfl) (hsm : N ≤ 4096 := by decide) (h8 : 12 ≤ t := by decide) (ht : t < 16 := by decide) (hq : pc + 3 = q := by rfl) (h1 : 1 ≤ kc := by decide) (h2 : N ≤ ks := by decide) (kk : ∀ (S' : hcS) (I' : hcI) (R' : hcR), NW z (t, N) S I R S' I' R' → V g M d (kc - 1) (ks - N) S' I' R' (z + 1) q L (.ref z :: st) Q) : V g M d kc ks S I R z pc L (.int n :: st) Q :=
  V.less (kc' := kc - 1 + 1) (ks' := ks - N + N) (v_anew N hl hd hn hN hty hsm h8 ht hq (kk _ _ _ NW.mk)) (by omega) (by omega)
end
/-- nothing before a has changed -/
def BF (a : Nat) (S : hcS) (I : hcI) (R : hcR) (S' : hcS) (I' : hcI) (R' : hcR) : Prop := ∀ x, x < a → S' x = S x ∧ I' x = I x ∧ R' x = R x
theorem BF.rfl {a : Nat} {S : hcS} {I : hcI} {R : hcR} : BF a S I R S I R := fun _ _ => ⟨Eq.refl _, Eq.refl _, Eq.refl _⟩
theorem BF.n {a z : Nat} {p : Nat × Nat} {S S1 S2 : hcS} {I I1 I2 : hcI} {R R1 R2 : hcR} (h : BF a S I R S1 I1 R1) (n : NW z p S1 I1 R1 S2 I2 R2) (hz : a ≤ z) : BF a S I R S2 I2 R2 := fun x hx => ⟨(n.1 x (by omega)).trans (h x hx).1, (n.2.1 x (by omega)).trans (h x hx).2.1, (n.2.2.1 x (by omega)).trans (h x hx).2.2⟩
theorem BF.u {a y k : Nat} {v : Int32} {S S1 : hcS} {I I1 : hcI} {R R1 : hcR} (h : BF a S I R S1 I1 R1) (hz : a ≤ y) : BF a S I R S1 (hc_u I1 y k v) R1 := fun x hx => ⟨(h x hx).1, (hc_u_ne (by omega)).trans (h x hx).2.1, (h x hx).2.2⟩
theorem BF.r {a y k : Nat} {v : Option Nat} {S S1 : hcS} {I I1 : hcI} {R R1 : hcR} (h : BF a S I R S1 I1 R1) (hz : a ≤ y) : BF a S I R S1 I1 (hc_ur R1 y k v) := fun x hx => ⟨(h x hx).1, (h x hx).2.1, (hc_ur_ne (by omega)).trans (h x hx).2.2⟩
theorem BF.trans {a b : Nat} {S S1 S2 : hcS} {I I1 I2 : hcI} {R R1 R2 : hcR} (h : BF a S I R S1 I1 R1) (k : BF b S1 I1 R1 S2 I2 R2) (hz : a ≤ b) : BF a S I R S2 I2 R2 := fun x hx => ⟨(k x (by omega)).1.trans (h x hx).1, (k x (by omega)).2.1.trans (h x hx).2.1, (k x (by omega)).2.2.trans (h x hx).2.2⟩
theorem ur_at {R : hcR} {a k : Nat} {v : Option Nat} : hc_ur R a k v a k = v := by rw [hc_ur_at]; unfold va_up; rw [if_pos rfl]
theorem ur_ne {R : hcR} {a k j : Nat} {v : Option Nat} (h : j ≠ k) : hc_ur R a k v a j = R a j := by rw [hc_ur_at]; unfold va_up; rw [if_neg h]
theorem uu_at {I : hcI} {a k : Nat} {v : Int32} : hc_u I a k v a k = v := by rw [hc_u_at, upd_at]
theorem uu_ne {I : hcI} {a k j : Nat} {v : Int32} (h : j ≠ k) : hc_u I a k v a j = I a j := by rw [hc_u_at, upd_ne h]
section L21
variable {g : hcG} {S : hcS} {I : hcI} {R : hcR} {z : Nat} {Q : hcQ} {a : Nat}
theorem s_initPerson (hQ : Q none S I R z) : Cl g mX1_init 1 0 0 S I R z [.ref a] Q := by
  refine Cl.go [some (.ref a)] ?_
  refine v_aload_n (q := 1) dX1_init_0 (kk := ?_)
  refine v_obj (q := 4) lX1_3 hc_oi hc_oc dX1_init_1 (kk := ?_)
  refine v_vret dX1_init_4 (hQ := ?_)
  exact hQ
theorem s_initRow (s0 : S a = some (3, 0)) (ha : a < z) (hs : ∀ y, z ≤ y → S y = none) (hQ : ∀ (S' : hcS) (I' : hcI) (R' : hcR), BF a S I R S' I' R' → (∀ x, a < x → x < z → S' x = S x ∧ I' x = I x ∧ R' x = R x) → (∀ y, z + 1 ≤ y → S' y = none) → S' a = some (3, 0) → S' z = some (10, 24) → R' a 0 = some z → I' a 1 = -1 → (∀ k, k ≠ 1 → I' a k = I a k) → (∀ k, I' z k = 0) → Q none S' I' R' (z + 1)) : Cl g mX3_init 1 1 24 S I R z [.ref a] Q := by
  refine Cl.go [some (.ref a)] ?_
  refine v_aload_n (q := 1) dX3_init_0 (kk := ?_)
  refine v_obj (q := 4) lX3_3 hc_oi hc_oc dX3_init_1 (kk := ?_)
  refine v_aload_n (q := 5) dX3_init_4 (kk := ?_)
  refine v_bipush (v := 24) (q := 7) dX3_init_5 (kk := ?_)
  refine v_newaP (q := 9) 24 ac10 dX3_init_7 (hn := by decide) (hN := by rfl) (kk := fun S1 I1 R1 n1 => ?_)
  have s1 : S1 a = some (3, 0) := (n1.1 a (by omega)).trans s0
  refine v_putFR (q := 12) fX3_9 s1 (hd := dX3_init_9) (kk := ?_)
  refine v_aload_n (q := 13) dX3_init_12 (kk := ?_)
  refine v_iconst (v := (-1)) (q := 14) dX3_init_13 (kk := ?_)
  refine v_putI (q := 17) fX3_15 s1 (hd := dX3_init_14) (kk := ?_)
  refine v_vret dX3_init_17 (hQ := ?_)
  refine hQ _ _ _ (((BF.rfl.n n1 (by omega)).r (by omega)).u (by omega)) (fun x h1 h2 => ⟨n1.1 x (by omega), (hc_u_ne (by omega)).trans (n1.2.1 x (by omega)), (hc_ur_ne (by omega)).trans (n1.2.2.1 x (by omega))⟩) (fun y hy => (n1.1 y (by omega)).trans (hs y (by omega))) s1 n1.2.2.2.1 ur_at uu_at (fun k hk => (uu_ne hk).trans (congrFun (n1.2.1 a (by omega)) k)) (fun k => ?_)
  rw [hc_u_ne (by omega), n1.2.2.2.2.1]
theorem s_initReader (s0 : S a = some (2, 0)) (hz : z = a + 1) (hs : ∀ y, z ≤ y → S y = none) (hQ : ∀ (S' : hcS) (I' : hcI) (R' : hcR), BF a S I R S' I' R' → (∀ y, a + 3 ≤ y → S' y = none) → S' a = some (2, 0) → S' (a + 1) = some (10, 96) → S' (a + 2) = some (8, 0) → R' a 1 = some (a + 1) → Q none S' I' R' (a + 3)) : Cl g mX2_init 1 2 96 S I R z [.ref a] Q := by
  subst hz
  refine Cl.go [some (.ref a)] ?_
  refine v_aload_n (q := 1) dX2_init_0 (kk := ?_)
  refine v_obj (q := 4) lX2_3 hc_oi hc_oc dX2_init_1 (kk := ?_)
  refine v_aload_n (q := 5) dX2_init_4 (kk := ?_)
  refine v_bipush (v := 96) (q := 7) dX2_init_5 (kk := ?_)
  refine v_newaP (q := 9) 96 ac10 dX2_init_7 (hn := by decide) (hN := by rfl) (kk := fun S1 I1 R1 n1 => ?_)
  have s1 : S1 a = some (2, 0) := (n1.1 a (by omega)).trans s0
  refine v_putFR (q := 12) fX2_9 s1 (hd := dX2_init_9) (kk := ?_)
  refine v_aload_n (q := 13) dX2_init_12 (kk := ?_)
  refine v_iconst (v := 0) (q := 14) dX2_init_13 (kk := ?_)
  refine v_newaP (q := 16) 0 ac8 dX2_init_14 (hn := by decide) (hN := by rfl) (kk := fun S2 I2 R2 n2 => ?_)
  have s2 : S2 a = some (2, 0) := (n2.1 a (by omega)).trans s1
  refine v_putR (q := 19) fX2_15 s2 (hd := dX2_init_16) (kk := ?_)
  refine v_vret dX2_init_19 (hQ := ?_)
  refine hQ _ _ _ ((((BF.rfl.n n1 (by omega)).r (by omega)).n n2 (by omega)).r (by omega)) (fun y hy => (n2.1 y (by omega)).trans ((n1.1 y (by omega)).trans (hs y (by omega)))) s2 ((n2.1 _ (by omega)).trans n1.2.2.2.1) n2.2.2.2.1 ?_
  rw [ur_ne (by omega), n2.2.2.1 a (by omega)]
  exact ur_at
theorem s_initSlot (s0 : S a = some (4, 0)) (hz : z = a + 1) (hs : ∀ y, z ≤ y → S y = none) (hQ : ∀ (S' : hcS) (I' : hcI) (R' : hcR), BF a S I R S' I' R' → (∀ y, a + 4 ≤ y → S' y = none) → S' a = some (4, 0) → R' a 1 = some (a + 1) → R' a 2 = some (a + 2) → S' (a + 1) = some (1, 0) → RowAt S' R' (a + 2) → I' a 0 = 0 → Q none S' I' R' (a + 4)) : Cl g mX4_init 2 3 33 S I R z [.ref a] Q := by
  subst hz
  refine Cl.go [some (.ref a)] ?_
  refine v_aload_n (q := 1) dX4_init_0 (kk := ?_)
  refine v_obj (q := 4) lX4_3 hc_oi hc_oc dX4_init_1 (kk := ?_)
  refine v_aload_n (q := 5) dX4_init_4 (kk := ?_)
  refine v_iconst (v := 0) (q := 6) dX4_init_5 (kk := ?_)
  refine v_putI (q := 9) fX4_9 (by assumption) (hd := dX4_init_6) (kk := ?_)
  refine v_aload_n (q := 10) dX4_init_9 (kk := ?_)
  refine v_newP (q := 13) clX4_15 inst1 init1 dX4_init_10 (kk := fun S1 I1 R1 n1 => ?_)
  have s1 : S1 a = some (4, 0) := (n1.1 a (by omega)).trans s0
  refine v_dup (q := 14) dX4_init_13 (kk := ?_)
  refine v_cJ0 (N := mX1_init) (q := 17) nX4_17 iX1_init kX1_init dX4_init_14 (s_initPerson ?_)
  refine v_putFR (q := 20) fX4_18 s1 (hd := dX4_init_17) (kk := ?_)
  refine v_aload_n (q := 21) dX4_init_20 (kk := ?_)
  refine v_newP (q := 24) clX4_22 inst3 init3 dX4_init_21 (kk := fun S2 I2 R2 n2 => ?_)
  have s2 : S2 a = some (4, 0) := (n2.1 a (by omega)).trans s1
  refine v_dup (q := 25) dX4_init_24 (kk := ?_)
  refine V.less (kc' := 0 + 1) (ks' := 0 + 24) ?_ (by decide) (by decide)
  refine v_cJ0B (N := mX3_init) (q := 28) nX4_24 iX3_init kX3_init dX4_init_25 (s_initRow n2.2.2.2.1 (by omega) (fun y hy => (n2.1 y (by omega)).trans ((n1.1 y (by omega)).trans (hs y (by omega)))) (fun S3 I3 R3 b3 o3 t3 u1 u2 u3 u4 u5 u6 => ?_))
  have s3 : S3 a = some (4, 0) := (b3 a (by omega)).1.trans s2
  refine v_putFR (q := 31) fX4_25 s3 (hd := dX4_init_28) (kk := ?_)
  refine v_vret dX4_init_31 (hQ := ?_)
  refine hQ _ _ _ ((((((BF.rfl.u (by omega)).n n1 (by omega)).r (by omega)).n n2 (by omega)).trans b3 (by omega)).r (by omega)) (fun y hy => t3 y (by omega)) s3 ?_ ur_at ?_ ⟨u1, u2, ?_⟩ ?_
  · rw [ur_ne (by omega), (b3 a (by omega)).2.2, n2.2.2.1 a (by omega)]
    exact ur_at
  · rw [(b3 _ (by omega)).1, n2.1 _ (by omega)]
    exact n1.2.2.2.1
  · rw [hc_ur_ne (by omega)]
    exact u3
  · rw [(b3 a (by omega)).2.1, n2.2.1 a (by omega), n1.2.1 a (by omega)]
    exact uu_at
end L21
def HI (I : hcI) (a : Nat) : Prop := (I a 4 = 0 ∧ I a 5 = 4 ∧ I a 6 = 0 ∧ I a 7 = 30 ∧ I a 8 = 3 ∧ I a 9 = 0 ∧ I a 10 = 0 ∧ I a 11 = 0 ∧ I a 12 = 1) ∧ (∀ k, I (a + 2) k = 0) ∧ ∀ k, k < 3 → I (a + 4) k = -1
theorem HI.of {I I' : hcI} {a : Nat} (h : HI I a) (h0 : I' a = I a) (h2 : I' (a + 2) = I (a + 2)) (h4 : I' (a + 4) = I (a + 4)) : HI I' a := by
  unfold HI
  rw [h0, h2, h4]
  exact h
section L22
variable {g : hcG} {S : hcS} {I : hcI} {R : hcR} {z : Nat} {Q : hcQ} {a : Nat}
theorem hall_loop (hQ : ∀ (S' : hcS) (I' : hcI) (R' : hcR), BF a S I R S' I' R' → (∀ y, a + 15 ≤ y → S' y = none) → HSk S' R' a → HI I' a → Q none S' I' R' (a + 15)) (n : Nat) : ∀ (i : Nat) (S1 : hcS) (I1 : hcI) (R1 : hcR), i + n = 10 → BF a S I R S1 I1 R1 → (∀ y, a + 5 + i ≤ y → S1 y = none) → HI I1 a → (S1 a = some (0, 0) ∧ S1 (a + 1) = some (12, 10) ∧ S1 (a + 2) = some (10, 24) ∧ S1 (a + 3) = some (15, 14) ∧ S1 (a + 4) = some (10, 3) ∧ R1 a 0 = some (a + 1) ∧ R1 a 1 = some (a + 2) ∧ R1 a 2 = some (a + 3) ∧ R1 a 3 = some (a + 4)) → (∀ p, p < i → S1 (a + 5 + p) = some (1, 0) ∧ R1 (a + 1) p = some (a + 5 + p)) → V g mX0_init 2 n (6 * n) S1 I1 R1 (a + 5 + i) 72 [some (.ref a), some (.int (nI i))] [] Q := by
  induction n with
  | zero =>
    intro i S1 I1 R1 hi hB hs hI hK hP
    obtain rfl : i = 10 := by omega
    obtain ⟨k0, k1, k2, k3, k4, k5, k6, k7, k8⟩ := hK
    refine v_iload_n (q := 73) dX0_init_72 (kk := ?_)
    refine v_bipush (v := 10) (q := 75) dX0_init_73 (kk := ?_)
    refine v_icmp_geT 97 dX0_init_75 (Int32.le_refl _) (kt := ?_)
    refine v_vret dX0_init_97 (hQ := ?_)
    exact hQ S1 I1 R1 hB (fun y hy => hs y (by omega)) ⟨k0, k1, k2, k3, k4, k5, k6, k7, k8, hP⟩ hI
  | succ n ih =>
    intro i S1 I1 R1 hi hB hs hI hK hP
    obtain ⟨k0, k1, k2, k3, k4, k5, k6, k7, k8⟩ := hK
    refine v_iload_n (q := 73) dX0_init_72 (kk := ?_)
    refine v_bipush (v := 10) (q := 75) dX0_init_73 (kk := ?_)
    refine v_icmp_geF (q := 78) (t := 97) dX0_init_75 (fun h => by have := (nI_leI (a := 10) (by omega) (by omega)).mp h; omega) (kf := ?_)
    refine v_aload_n (q := 79) dX0_init_78 (kk := ?_)
    refine v_getR (q := 82) fX0_11 k0 k5 (hd := dX0_init_79) (kk := ?_)
    refine v_iload_n (q := 83) dX0_init_82 (kk := ?_)
    refine v_newP (q := 86) clX0_9 inst1 init1 dX0_init_83 (h1 := by omega) (h2 := by show 6 ≤ _; omega) (kk := fun S2 I2 R2 n2 => ?_)
    refine V.less (kc' := n) (ks' := 6 * n) ?_ (by omega) (by show 6 * n ≤ 6 * (n + 1) - 6; omega)
    have s2 : ∀ x, x ≠ a + 5 + i → S2 x = S1 x := n2.1
    have r2 : ∀ x, x ≠ a + 5 + i → R2 x = R1 x := n2.2.2.1
    have i2 : ∀ x, x ≠ a + 5 + i → I2 x = I1 x := n2.2.1
    refine v_dup (q := 87) dX0_init_86 (kk := ?_)
    refine v_cJ0 (N := mX1_init) (q := 90) nX0_43 iX1_init kX1_init dX0_init_87 (s_initPerson ?_)
    refine v_aast (q := 91) ((s2 _ (by omega)).trans k1) n2.2.2.2.1 (vp_in_nI (show i < 10 by omega) (by omega)) (hd := dX0_init_90) (kk := ?_)
    rw [nI_clamp (by omega)]
    refine v_iinc1 (q := 94) dX0_init_91 (hv := nI_1 i) (kk := ?_)
    refine v_goto 72 dX0_init_94 (kt := ?_)
    refine ih (i + 1) _ _ _ (by omega) ((hB.n n2 (by omega)).r (by omega)) (fun y hy => (s2 y (by omega)).trans (hs y (by omega))) (hI.of (i2 _ (by omega)) (i2 _ (by omega)) (i2 _ (by omega))) ⟨?_, ?_, ?_, ?_, ?_, ?_, ?_, ?_, ?_⟩ (fun p hp => ?_)
    · exact (s2 _ (by omega)).trans k0
    · exact (s2 _ (by omega)).trans k1
    · exact (s2 _ (by omega)).trans k2
    · exact (s2 _ (by omega)).trans k3
    · exact (s2 _ (by omega)).trans k4
    · rw [hc_ur_ne (by omega), r2 _ (by omega)]; exact k5
    · rw [hc_ur_ne (by omega), r2 _ (by omega)]; exact k6
    · rw [hc_ur_ne (by omega), r2 _ (by omega)]; exact k7
    · rw [hc_ur_ne (by omega), r2 _ (by omega)]; exact k8
    · by_cases e : p = i
      · rw [e]
        exact ⟨n2.2.2.2.1, ur_at⟩
      · rw [s2 _ (by omega), ur_ne e, r2 _ (by omega)]
        exact hP p (by omega)
theorem s_initHall (s0 : S a = some (0, 0)) (hz : z = a + 1) (hs : ∀ y, z ≤ y → S y = none) (i0 : I a = fun _ => 0) (hQ : ∀ (S' : hcS) (I' : hcI) (R' : hcR), BF a S I R S' I' R' → (∀ y, a + 15 ≤ y → S' y = none) → HSk S' R' a → HI I' a → Q none S' I' R' (a + 15)) : Cl g mX0_init 2 14 111 S I R z [.ref a] Q := by
  subst hz
  refine Cl.go [some (.ref a), none] ?_
  refine v_aload_n (q := 1) dX0_init_0 (kk := ?_)
  refine v_obj (q := 4) lX0_3 hc_oi hc_oc dX0_init_1 (kk := ?_)
  refine v_aload_n (q := 5) dX0_init_4 (kk := ?_)
  refine v_bipush (v := 10) (q := 7) dX0_init_5 (kk := ?_)
  refine v_anewP (q := 10) (t := 12) 10 clX0_9 dX0_init_7 (hn := by decide) (hN := by rfl) (kk := fun S1 I1 R1 n1 => ?_)
  have s1 : S1 a = some (0, 0) := (n1.1 a (by omega)).trans s0
  refine v_putFR (q := 13) fX0_11 s1 (hd := dX0_init_10) (kk := ?_)
  refine v_aload_n (q := 14) dX0_init_13 (kk := ?_)
  refine v_bipush (v := 24) (q := 16) dX0_init_14 (kk := ?_)
  refine v_newaP (q := 18) 24 ac10 dX0_init_16 (hn := by decide) (hN := by rfl) (kk := fun S2 I2 R2 n2 => ?_)
  have s2 : S2 a = some (0, 0) := (n2.1 a (by omega)).trans s1
  refine v_putFR (q := 21) fX0_17 s2 (hd := dX0_init_18) (kk := ?_)
  refine v_aload_n (q := 22) dX0_init_21 (kk := ?_)
  refine v_bipush (v := 14) (q := 24) dX0_init_22 (kk := ?_)
  refine v_anewP (q := 27) (t := 15) 14 clX0_21 dX0_init_24 (hn := by decide) (hN := by rfl) (kk := fun S3 I3 R3 n3 => ?_)
  have s3 : S3 a = some (0, 0) := (n3.1 a (by omega)).trans s2
  refine v_putFR (q := 30) fX0_23 s3 (hd := dX0_init_27) (kk := ?_)
  refine v_aload_n (q := 31) dX0_init_30 (kk := ?_)
  refine v_iconst (v := 3) (q := 32) dX0_init_31 (kk := ?_)
  refine v_newaP (q := 34) 3 ac10 dX0_init_32 (hn := by decide) (hN := by rfl) (kk := fun S4 I4 R4 n4 => ?_)
  have s4 : S4 a = some (0, 0) := (n4.1 a (by omega)).trans s3
  have sc := n4.2.2.2.1
  refine v_dup (q := 35) dX0_init_34 (kk := ?_)
  refine v_iconst (v := 0) (q := 36) dX0_init_35 (kk := ?_)
  refine v_iconst (v := (-1)) (q := 37) dX0_init_36 (kk := ?_)
  refine v_iastN (q := 38) (j := 0) sc (by omega) (by decide) (hd := dX0_init_37) (kk := ?_)
  refine v_dup (q := 39) dX0_init_38 (kk := ?_)
  refine v_iconst (v := 1) (q := 40) dX0_init_39 (kk := ?_)
  refine v_iconst (v := (-1)) (q := 41) dX0_init_40 (kk := ?_)
  refine v_iastN (q := 42) (j := 1) sc (by omega) (by decide) (hd := dX0_init_41) (kk := ?_)
  refine v_dup (q := 43) dX0_init_42 (kk := ?_)
  refine v_iconst (v := 2) (q := 44) dX0_init_43 (kk := ?_)
  refine v_iconst (v := (-1)) (q := 45) dX0_init_44 (kk := ?_)
  refine v_iastN (q := 46) (j := 2) sc (by omega) (by decide) (hd := dX0_init_45) (kk := ?_)
  refine v_putFR (q := 49) fX0_27 s4 (hd := dX0_init_46) (kk := ?_)
  refine v_aload_n (q := 50) dX0_init_49 (kk := ?_)
  refine v_iconst (v := 4) (q := 51) dX0_init_50 (kk := ?_)
  refine v_putI (q := 54) fX0_30 s4 (hd := dX0_init_51) (kk := ?_)
  refine v_aload_n (q := 55) dX0_init_54 (kk := ?_)
  refine v_bipush (v := 30) (q := 57) dX0_init_55 (kk := ?_)
  refine v_putI (q := 60) fX0_34 s4 (hd := dX0_init_57) (kk := ?_)
  refine v_aload_n (q := 61) dX0_init_60 (kk := ?_)
  refine v_iconst (v := 3) (q := 62) dX0_init_61 (kk := ?_)
  refine v_putI (q := 65) fX0_37 s4 (hd := dX0_init_62) (kk := ?_)
  refine v_aload_n (q := 66) dX0_init_65 (kk := ?_)
  refine v_iconst (v := 1) (q := 67) dX0_init_66 (kk := ?_)
  refine v_putI (q := 70) fX0_40 s4 (hd := dX0_init_67) (kk := ?_)
  refine v_iconst (v := 0) (q := 71) dX0_init_70 (kk := ?_)
  refine v_istore1 (q := 72) dX0_init_71 (kk := ?_)
  have ia : I4 a = fun _ => 0 := by
    rw [n4.2.1 a (by omega), n3.2.1 a (by omega), n2.2.1 a (by omega), n1.2.1 a (by omega)]
    exact i0
  refine V.less (kc' := 10) (ks' := 6 * 10) ?_ (by decide) (by decide)
  refine hall_loop (S := S) (I := I) (R := R) hQ 10 0 _ _ _ (by omega) ?_ (fun y hy => ?_) ⟨⟨?_, ?_, ?_, ?_, ?_, ?_, ?_, ?_, ?_⟩, fun k => ?_, fun k hk => ?_⟩ ⟨s4, ?_, ?_, ?_, sc, ?_, ?_, ?_, ur_at⟩ (fun p hp => by omega)
  · exact (((((((((((((((BF.rfl.n n1 (by omega)).r (by omega)).n n2 (by omega)).r (by omega)).n n3 (by omega)).r (by omega)).n n4 (by omega)).u (by omega)).u (by omega)).u (by omega)).r (by omega)).u (by omega)).u (by omega)).u (by omega)).u (by omega))
  · rw [n4.1 y (by omega), n3.1 y (by omega), n2.1 y (by omega), n1.1 y (by omega)]
    exact hs y (by omega)
  · rw [uu_ne (by omega), uu_ne (by omega), uu_ne (by omega), uu_ne (by omega), hc_u_ne (by omega), hc_u_ne (by omega), hc_u_ne (by omega), ia]
  · rw [uu_ne (by omega), uu_ne (by omega), uu_ne (by omega), uu_at]
  · rw [uu_ne (by omega), uu_ne (by omega), uu_ne (by omega), uu_ne (by omega), hc_u_ne (by omega), hc_u_ne (by omega), hc_u_ne (by omega), ia]
  · rw [uu_ne (by omega), uu_ne (by omega), uu_at]
  · rw [uu_ne (by omega), uu_at]
  · rw [uu_ne (by omega), uu_ne (by omega), uu_ne (by omega), uu_ne (by omega), hc_u_ne (by omega), hc_u_ne (by omega), hc_u_ne (by omega), ia]
  · rw [uu_ne (by omega), uu_ne (by omega), uu_ne (by omega), uu_ne (by omega), hc_u_ne (by omega), hc_u_ne (by omega), hc_u_ne (by omega), ia]
  · rw [uu_ne (by omega), uu_ne (by omega), uu_ne (by omega), uu_ne (by omega), hc_u_ne (by omega), hc_u_ne (by omega), hc_u_ne (by omega), ia]
  · rw [uu_at]
  · rw [hc_u_ne (by omega), hc_u_ne (by omega), hc_u_ne (by omega), hc_u_ne (by omega), hc_u_ne (by omega), hc_u_ne (by omega), hc_u_ne (by omega), n4.2.1 _ (by omega), n3.2.1 _ (by omega), n2.2.2.2.2.1]
  · rw [hc_u_ne (by omega), hc_u_ne (by omega), hc_u_ne (by omega), hc_u_ne (by omega)]
    have : k = 0 ∨ k = 1 ∨ k = 2 := by omega
    rcases this with rfl | rfl | rfl
    · rw [uu_ne (by omega), uu_ne (by omega)]; exact uu_at
    · rw [uu_ne (by omega)]; exact uu_at
    · exact uu_at
  · rw [n4.1 _ (by omega), n3.1 _ (by omega), n2.1 _ (by omega)]; exact n1.2.2.2.1
  · rw [n4.1 _ (by omega), n3.1 _ (by omega)]; exact n2.2.2.2.1
  · rw [n4.1 _ (by omega)]; exact n3.2.2.2.1
  · rw [ur_ne (by omega), n4.2.2.1 a (by omega), ur_ne (by omega), n3.2.2.1 a (by omega), ur_ne (by omega), n2.2.2.1 a (by omega)]; exact ur_at
  · rw [ur_ne (by omega), n4.2.2.1 a (by omega), ur_ne (by omega), n3.2.2.1 a (by omega)]; exact ur_at
  · rw [ur_ne (by omega), n4.2.2.1 a (by omega)]; exact ur_at
end L22
