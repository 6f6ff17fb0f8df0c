section T8
variable {g : hcG} {S : hcS} {I : hcI} {R : hcR} {z : Nat} {Q : hcQ} {b m np nb nt sec : Nat} {N : hN} {so si ce : Nat → Int32}
theorem SHc.cpy {f t : Nat} {p a n : Nat} (h : SHc I b so si ce) (hf : f < 4) (ht : t < 4) (hp : p + n ≤ 24) (ha : a + n ≤ 24) : SHc (fun x => if x = b + 53 + 2 * t + 1 then va_cpy (I (b + 53 + 2 * f + 1)) (I (b + 53 + 2 * t + 1)) p a n else I x) b so si (cpF ce f p t a n) := by
  intro i hi
  obtain ⟨q1, q2, q3⟩ := h i hi
  generalize hJ : (fun x => if x = b + 53 + 2 * t + 1 then va_cpy (I (b + 53 + 2 * f + 1)) (I (b + 53 + 2 * t + 1)) p a n else I x) = J
  have j1 : ∀ x, x ≠ b + 53 + 2 * t + 1 → J x = I x := fun x hx => by rw [← hJ]; exact if_neg hx
  have j2 : J (b + 53 + 2 * t + 1) = va_cpy (I (b + 53 + 2 * f + 1)) (I (b + 53 + 2 * t + 1)) p a n := by rw [← hJ]; exact if_pos rfl
  refine ⟨by rw [j1 _ (by omega)]; exact q1, by rw [j1 _ (by omega)]; exact q2, fun j hj => ?_⟩
  by_cases e : i = t
  · subst e
    rw [show b + 54 + 2 * i = b + 53 + 2 * i + 1 by omega, j2]
    unfold va_cpy cpF
    by_cases c : a ≤ j ∧ j < a + n
    · rw [if_pos c, if_pos (by omega), show b + 53 + 2 * f + 1 = b + 54 + 2 * f by omega, (h f hf).2.2 _ (by omega)]
      congr 1
      omega
    · rw [if_neg c, if_neg (by omega), show b + 53 + 2 * i + 1 = b + 54 + 2 * i by omega]
      exact q3 j hj
  · rw [j1 _ (by omega), q3 j hj]
    unfold cpF
    rw [if_neg (by omega)]
theorem x_copy {f p t a n : Int32} (hx : XSk S R b) (hsw : SW so si) (hsc : SHc I b so si ce) (hQ : ∀ I' : hcI, Fs b I I' → SHc I' b (spCopy so si ce f p t a n).2.1 (spCopy so si ce f p t a n).2.2.1 (spCopy so si ce f p t a n).2.2.2 → Q (some (.int (spCopy so si ce f p t a n).1)) S I' R z) : Cl g mX6_copy 1 0 0 S I R z [.ref b, .int f, .int p, .int t, .int a, .int n] Q := by
  obtain ⟨⟨s0, r0, -, r2, -, r4, -⟩, -, -, ⟨s49, h49⟩, -⟩ := hx
  refine Cl.go [some (.ref b), some (.int f), some (.int p), some (.int t), some (.int a), some (.int n), none, none] ?_
  have bad : ¬ ((0 ≤ f ∧ f < 4) ∧ (0 ≤ t ∧ t < 4)) → V g mX6_copy 1 0 0 S I R z 16 [some (.ref b), some (.int f), some (.int p), some (.int t), some (.int a), some (.int n), none, none] [] Q := by
    intro c
    have e : spCopy so si ce f p t a n = (-1000000001, so, si, ce) := by unfold spCopy; rw [if_neg c]
    rw [e] at hQ
    refine v_ldc (q := 18) cX6_55 dX6_copy_16 (kk := ?_)
    refine v_iret dX6_copy_18 (hQ := ?_)
    exact hQ I Fs.rfl hsc
  refine v_iload_n (q := 1) dX6_copy_0 (kk := ?_)
  refine v_iconst (v := 4) (q := 2) dX6_copy_1 (kk := ?_)
  refine v_cS2 (N := mX6_within) (q := 5) lX6_51 sX6_within kX6_within dX6_copy_2 (s_within ?_)
  refine v_if_eqB 16 (q := 8) dX6_copy_5 (kt := fun c1 => ?_) (kf := fun c1 => ?_)
  · exact bad (fun h => c1 h.1)
  · refine v_iload_n (q := 9) dX6_copy_8 (kk := ?_)
    refine v_iconst (v := 4) (q := 10) dX6_copy_9 (kk := ?_)
    refine v_cS2 (N := mX6_within) (q := 13) lX6_51 sX6_within kX6_within dX6_copy_10 (s_within ?_)
    refine v_if_neB 19 (q := 16) dX6_copy_13 (kt := fun c2 => ?_) (kf := fun c2 => ?_)
    · obtain ⟨i, rfl, hi⟩ := nI_of6 (n := 4) rfl (by omega) c1
      obtain ⟨j, rfl, hj⟩ := nI_of6 (n := 4) rfl (by omega) c2
      obtain ⟨ri, hri⟩ := h49 i hi
      obtain ⟨rj, hrj⟩ := h49 j hj
      have hri' := hri
      have hrj' := hrj
      obtain ⟨si0, si1, ri0⟩ := hri'
      obtain ⟨sj0, sj1, rj0⟩ := hrj'
      obtain ⟨q1, q2, q3⟩ := hsc i hi
      obtain ⟨u1, u2, u3⟩ := hsc j hj
      obtain ⟨-, zi, ezi, hzi⟩ := hsw i hi
      obtain ⟨-, zj, ezj, hzj⟩ := hsw j hj
      have e : spCopy so si ce (nI i) p (nI j) a n = if so i = -1 ∨ so j = -1 then (-1000000011, so, si, ce) else if ¬ so i = so j then (-1000000012, so, si, ce) else if (0 ≤ p ∧ 0 ≤ a ∧ 0 ≤ n) ∧ p ≤ nI zi - n ∧ a ≤ nI zj - n then (n, so, si, cpF ce i p.toNatClampNeg j a.toNatClampNeg n.toNatClampNeg) else (-1000000013, so, si, ce) := by
        unfold spCopy
        rw [if_pos ⟨c1, c2⟩, nI_clamp (by omega), nI_clamp (by omega), ezi, ezj]
      rw [e] at hQ
      clear e
      refine v_aload_n (q := 20) dX6_copy_19 (kk := ?_)
      refine v_getR (q := 23) fX6_31 (by assumption) (by assumption) (hd := dX6_copy_20) (kk := ?_)
      refine v_iload_n (q := 24) dX6_copy_23 (kk := ?_)
      refine v_aaldn (q := 25) (by assumption) (by assumption) (by omega) (by omega) (hd := dX6_copy_24) (kk := ?_)
      refine v_astore6 (q := 27) dX6_copy_25 (kk := ?_)
      refine v_aload_n (q := 28) dX6_copy_27 (kk := ?_)
      refine v_getR (q := 31) fX6_31 (by assumption) (by assumption) (hd := dX6_copy_28) (kk := ?_)
      refine v_iload_n (q := 32) dX6_copy_31 (kk := ?_)
      refine v_aaldn (q := 33) (by assumption) (by assumption) (by omega) (by omega) (hd := dX6_copy_32) (kk := ?_)
      refine v_astore7 (q := 35) dX6_copy_33 (kk := ?_)
      refine v_aload (q := 37) dX6_copy_35 (kk := ?_)
      refine v_getI (q := 40) fX6_183 (by assumption) (hd := dX6_copy_37) (kk := ?_)
      rw [q1]
      refine v_iconst (v := (-1)) (q := 41) dX6_copy_40 (kk := ?_)
      have noth : so i = -1 ∨ so j = -1 → V g mX6_copy 1 0 0 S I R z 53 [some (.ref b), some (.int (nI i)), some (.int p), some (.int (nI j)), some (.int a), some (.int n), some (.ref (b + 53 + 2 * i)), some (.ref (b + 53 + 2 * j))] [] Q := by
        intro c
        rw [if_pos c] at hQ
        refine v_ldc (q := 55) cX6_186 dX6_copy_53 (kk := ?_)
        refine v_iret dX6_copy_55 (hQ := ?_)
        exact hQ I Fs.rfl hsc
      refine v_icmp_eq 53 (q := 44) dX6_copy_41 (kt := fun c3 => ?_) (kf := fun c3 => ?_)
      · exact noth (Or.inl c3)
      · refine v_aload (q := 46) dX6_copy_44 (kk := ?_)
        refine v_getI (q := 49) fX6_183 (by assumption) (hd := dX6_copy_46) (kk := ?_)
        rw [u1]
        refine v_iconst (v := (-1)) (q := 50) dX6_copy_49 (kk := ?_)
        refine v_icmp_ne 56 (q := 53) dX6_copy_50 (kt := fun c4 => ?_) (kf := fun c4 => ?_)
        · rw [if_neg (fun h => h.elim c3 c4)] at hQ
          refine v_aload (q := 58) dX6_copy_56 (kk := ?_)
          refine v_getI (q := 61) fX6_183 (by assumption) (hd := dX6_copy_58) (kk := ?_)
          rw [q1]
          refine v_aload (q := 63) dX6_copy_61 (kk := ?_)
          refine v_getI (q := 66) fX6_183 (by assumption) (hd := dX6_copy_63) (kk := ?_)
          rw [u1]
          refine v_icmp_eq 72 (q := 69) dX6_copy_66 (kt := fun c5 => ?_) (kf := fun c5 => ?_)
          · rw [if_neg (fun h => h c5)] at hQ
            have idx : ¬ ((0 ≤ p ∧ 0 ≤ a ∧ 0 ≤ n) ∧ p ≤ nI zi - n ∧ a ≤ nI zj - n) → V g mX6_copy 1 0 0 S I R z 95 [some (.ref b), some (.int (nI i)), some (.int p), some (.int (nI j)), some (.int a), some (.int n), some (.ref (b + 53 + 2 * i)), some (.ref (b + 53 + 2 * j))] [] Q := by
              intro c
              rw [if_neg c] at hQ
              refine v_ldc (q := 97) cX6_235 dX6_copy_95 (kk := ?_)
              refine v_iret dX6_copy_97 (hQ := ?_)
              exact hQ I Fs.rfl hsc
            refine v_aload (q := 74) dX6_copy_72 (kk := ?_)
            refine v_iload_n (q := 75) dX6_copy_74 (kk := ?_)
            refine v_iload (q := 77) dX6_copy_75 (kk := ?_)
            refine v_cV2 (N := mX3_hasStretch) (q := 80) lX6_247 iX3_hasStretch kX3_hasStretch (by assumption) dX6_copy_77 (s_Row_hasStretch hri ?_)
            rw [q2, ezi]
            refine v_if_eqB 95 (q := 83) dX6_copy_80 (kt := fun c6 => ?_) (kf := fun c6 => ?_)
            · exact idx (fun h => c6 ⟨h.1.2.2, ((le_subN' hzi h.1.2.2 h.1.1).mp h.2.1).1, h.1.1, h.2.1⟩)
            · refine v_aload (q := 85) dX6_copy_83 (kk := ?_)
              refine v_iload (q := 87) dX6_copy_85 (kk := ?_)
              refine v_iload (q := 89) dX6_copy_87 (kk := ?_)
              refine v_cV2 (N := mX3_hasStretch) (q := 92) lX6_247 iX3_hasStretch kX3_hasStretch (by assumption) dX6_copy_89 (s_Row_hasStretch hrj ?_)
              rw [u2, ezj]
              refine v_if_neB 98 (q := 95) dX6_copy_92 (kt := fun c7 => ?_) (kf := fun c7 => ?_)
              · have hc : (0 ≤ p ∧ 0 ≤ a ∧ 0 ≤ n) ∧ p ≤ nI zi - n ∧ a ≤ nI zj - n := ⟨⟨c6.2.2.1, c7.2.2.1, c6.1⟩, c6.2.2.2, c7.2.2.2⟩
                have b1 := le_subN hzi hc.1.2.2 hc.1.1 hc.2.1
                have b2 := le_subN hzj hc.1.2.2 hc.1.2.1 hc.2.2
                rw [if_pos hc] at hQ
                refine v_aload (q := 100) dX6_copy_98 (kk := ?_)
                refine v_getR (q := 103) fX6_236 (by assumption) (by assumption) (hd := dX6_copy_100) (kk := ?_)
                refine v_iload_n (q := 104) dX6_copy_103 (kk := ?_)
                refine v_aload (q := 106) dX6_copy_104 (kk := ?_)
                refine v_getR (q := 109) fX6_236 (by assumption) (by assumption) (hd := dX6_copy_106) (kk := ?_)
                refine v_iload (q := 111) dX6_copy_109 (kk := ?_)
                refine v_iload (q := 113) dX6_copy_111 (kk := ?_)
                refine v_acopy (q := 116) lX6_250 hc_an hc_as hc_ai si1 sj1 (Int32.not_lt.mpr hc.1.1) (Int32.not_lt.mpr hc.1.2.1) (Int32.not_lt.mpr hc.1.2.2) (by omega) (by omega) dX6_copy_113 (kk := ?_)
                refine v_iload (q := 118) dX6_copy_116 (kk := ?_)
                refine v_iret dX6_copy_118 (hQ := ?_)
                exact hQ _ (fun y hy => if_neg (by omega)) (hsc.cpy hi hj (by omega) (by omega))
              · exact idx (fun h => c7 ⟨h.1.2.2, ((le_subN' hzj h.1.2.2 h.1.2.1).mp h.2.2).1, h.1.2.1, h.2.2⟩)
          · rw [if_pos c5] at hQ
            refine v_ldc (q := 71) cX6_115 dX6_copy_69 (kk := ?_)
            refine v_iret dX6_copy_71 (hQ := ?_)
            exact hQ I Fs.rfl hsc
        · exact noth (Or.inr c4)
    · exact bad (fun h => c2 h.2)
theorem mcopy_1 {i j p a n : Nat} (hi4 : i < 4) (hm : MG S R m) (hc : I (m + 15) = ce) (hpn : p + n ≤ 24) (hQ : ∀ I' : hcI, (∀ y, y ≠ m + 20 → I' y = I y) → (∀ k, k < n → I' (m + 20) k = ce (24 * i + p + k)) → V g mX7_copy 2 0 0 S I' R z 137 [some (.ref m), some (.int (nI i)), some (.int (nI p)), some (.int (nI j)), some (.int (nI a)), some (.int (nI n)), none] [] Q) (r : Nat) : ∀ (l : Nat) (I1 : hcI), l + r = n → (∀ y, y ≠ m + 20 → I1 y = I y) → (∀ k, k < l → I1 (m + 20) k = ce (24 * i + p + k)) → V g mX7_copy 2 0 0 S I1 R z 103 [some (.ref m), some (.int (nI i)), some (.int (nI p)), some (.int (nI j)), some (.int (nI a)), some (.int (nI n)), some (.int (nI l))] [] Q := by
  have s0 := hm.s0
  have sc := hm.s_cells
  have rc := hm.r_cells
  have sm := hm.s_moved
  have rm := hm.r_moved
  induction r with
  | zero =>
    intro l I1 hl hF h1
    obtain rfl : l = n := by omega
    refine v_iload (q := 105) dX7_copy_103 (kk := ?_)
    refine v_iload (q := 107) dX7_copy_105 (kk := ?_)
    refine v_icmp_geT 137 dX7_copy_107 (Int32.le_refl _) (kt := ?_)
    exact v_drop6 (hQ I1 hF h1)
  | succ r ih =>
    intro l I1 hl hF h1
    refine v_iload (q := 105) dX7_copy_103 (kk := ?_)
    refine v_iload (q := 107) dX7_copy_105 (kk := ?_)
    refine v_icmp_geF (q := 110) (t := 137) dX7_copy_107 (fun h => by have := (nI_leI (by omega) (by omega)).mp h; omega) (kf := ?_)
    refine v_aload_n (q := 111) dX7_copy_110 (kk := ?_)
    refine v_getR (q := 114) fX7_69 (by assumption) (by assumption) (hd := dX7_copy_111) (kk := ?_)
    refine v_iload (q := 116) dX7_copy_114 (kk := ?_)
    refine v_aload_n (q := 117) dX7_copy_116 (kk := ?_)
    refine v_getR (q := 120) fX7_54 (by assumption) (by assumption) (hd := dX7_copy_117) (kk := ?_)
    refine v_bipush (v := 24) (q := 122) dX7_copy_120 (kk := ?_)
    refine v_iload_n (q := 123) dX7_copy_122 (kk := ?_)
    refine v_imul (q := 124) dX7_copy_123 (kk := ?_)
    refine v_iload_n (q := 125) dX7_copy_124 (kk := ?_)
    refine v_iadd (q := 126) dX7_copy_125 (kk := ?_)
    refine v_iload (q := 128) dX7_copy_126 (kk := ?_)
    refine v_iadd (q := 129) dX7_copy_128 (kk := ?_)
    refine v_ialdE (q := 130) (24 * i + p + l) (by rw [show (24 : Int32) = nI 24 from rfl, pk_mul, nI_add, nI_add]) (by assumption) (by omega) (by omega) (hd := dX7_copy_129) (kk := ?_)
    rw [hF (m + 15) (by omega), hc]
    refine v_iastE (q := 131) (l) (by rfl) (by assumption) (by omega) (by omega) (hd := dX7_copy_130) (kk := ?_)
    refine v_iinc6 (q := 134) dX7_copy_131 (hv := nI_1 l) (kk := ?_)
    refine v_goto 103 dX7_copy_134 (kt := ?_)
    refine ih (l + 1) _ (by omega) (fun y hy => (hc_u_ne hy).trans (hF y hy)) (fun k hk => ?_)
    rw [hc_u_at]
    by_cases e : k = l
    · rw [e, upd_at]
    · rw [upd_ne e]
      exact h1 k (by omega)
theorem mcopy_2 {i j p a n : Nat} {f : Nat → Int32} (hj4 : j < 4) (hm : MG S R m) (hc : I (m + 15) = ce) (hmv : ∀ k, k < n → I (m + 20) k = f k) (hn : n ≤ 24) (han : a + n ≤ 24) (hQ : ∀ I' : hcI, (∀ y, y ≠ m + 15 → I' y = I y) → (∀ k, I' (m + 15) k = if 24 * j + a ≤ k ∧ k < 24 * j + a + n then f (k - (24 * j + a)) else ce k) → Q (some (.int (nI n))) S I' R z) (r : Nat) : ∀ (l : Nat) (I1 : hcI), l + r = n → (∀ y, y ≠ m + 15 → I1 y = I y) → (∀ k, I1 (m + 15) k = if 24 * j + a ≤ k ∧ k < 24 * j + a + l then f (k - (24 * j + a)) else ce k) → V g mX7_copy 2 0 0 S I1 R z 140 [some (.ref m), some (.int (nI i)), some (.int (nI p)), some (.int (nI j)), some (.int (nI a)), some (.int (nI n)), some (.int (nI l))] [] Q := by
  have s0 := hm.s0
  have sc := hm.s_cells
  have rc := hm.r_cells
  have sm := hm.s_moved
  have rm := hm.r_moved
  induction r with
  | zero =>
    intro l I1 hl hF h1
    obtain rfl : l = n := by omega
    refine v_iload (q := 142) dX7_copy_140 (kk := ?_)
    refine v_iload (q := 144) dX7_copy_142 (kk := ?_)
    refine v_icmp_geT 175 dX7_copy_144 (Int32.le_refl _) (kt := ?_)
    refine v_iload (q := 177) dX7_copy_175 (kk := ?_)
    refine v_iret dX7_copy_177 (hQ := ?_)
    exact hQ I1 hF h1
  | succ r ih =>
    intro l I1 hl hF h1
    refine v_iload (q := 142) dX7_copy_140 (kk := ?_)
    refine v_iload (q := 144) dX7_copy_142 (kk := ?_)
    refine v_icmp_geF (q := 147) (t := 175) dX7_copy_144 (fun h => by have := (nI_leI (by omega) (by omega)).mp h; omega) (kf := ?_)
    refine v_aload_n (q := 148) dX7_copy_147 (kk := ?_)
    refine v_getR (q := 151) fX7_54 (by assumption) (by assumption) (hd := dX7_copy_148) (kk := ?_)
    refine v_bipush (v := 24) (q := 153) dX7_copy_151 (kk := ?_)
    refine v_iload_n (q := 154) dX7_copy_153 (kk := ?_)
    refine v_imul (q := 155) dX7_copy_154 (kk := ?_)
    refine v_iload (q := 157) dX7_copy_155 (kk := ?_)
    refine v_iadd (q := 158) dX7_copy_157 (kk := ?_)
    refine v_iload (q := 160) dX7_copy_158 (kk := ?_)
    refine v_iadd (q := 161) dX7_copy_160 (kk := ?_)
    refine v_aload_n (q := 162) dX7_copy_161 (kk := ?_)
    refine v_getR (q := 165) fX7_69 (by assumption) (by assumption) (hd := dX7_copy_162) (kk := ?_)
    refine v_iload (q := 167) dX7_copy_165 (kk := ?_)
    refine v_ialdE (q := 168) (l) (by rfl) (by assumption) (by omega) (by omega) (hd := dX7_copy_167) (kk := ?_)
    rw [hF (m + 20) (by omega), hmv l (by omega)]
    refine v_iastE (q := 169) (24 * j + a + l) (by rw [show (24 : Int32) = nI 24 from rfl, pk_mul, nI_add, nI_add]) (by assumption) (by omega) (by omega) (hd := dX7_copy_168) (kk := ?_)
    refine v_iinc6 (q := 172) dX7_copy_169 (hv := nI_1 l) (kk := ?_)
    refine v_goto 140 dX7_copy_172 (kt := ?_)
    refine ih (l + 1) _ (by omega) (fun y hy => (hc_u_ne hy).trans (hF y hy)) (fun k => ?_)
    rw [hc_u_at]
    by_cases e : k = 24 * j + a + l
    · rw [e, upd_at, if_pos (by omega)]
      congr 1
      omega
    · rw [upd_ne e, h1 k]
      by_cases c : 24 * j + a ≤ k ∧ k < 24 * j + a + l
      · rw [if_pos c, if_pos (by omega)]
      · rw [if_neg c, if_neg (by omega)]
theorem m_copy {f p t a n : Int32} (hm : MG S R m) (hsw : SW so si) (hsm : SHm I m so si ce) (hQ : ∀ I' : hcI, Fsm m I I' → SHm I' m (spCopy so si ce f p t a n).2.1 (spCopy so si ce f p t a n).2.2.1 (spCopy so si ce f p t a n).2.2.2 → Q (some (.int (spCopy so si ce f p t a n).1)) S I' R z) : Cl g mX7_copy 2 0 0 S I R z [.ref m, .int f, .int p, .int t, .int a, .int n] Q := by
  have s0 := hm.s0
  have ss := hm.s_sorts
  have rs := hm.r_sorts
  have sz := hm.s_sizes
  have rz := hm.r_sizes
  have hsm' := hsm
  obtain ⟨q1, q2, q3⟩ := hsm'
  refine Cl.go [some (.ref m), some (.int f), some (.int p), some (.int t), some (.int a), some (.int n), none] ?_
  have bad : ¬ ((0 ≤ f ∧ f < 4) ∧ (0 ≤ t ∧ t < 4)) → V g mX7_copy 2 0 0 S I R z 14 [some (.ref m), some (.int f), some (.int p), some (.int t), some (.int a), some (.int n), none] [] Q := by
    intro c
    have e : spCopy so si ce f p t a n = (-1000000001, so, si, ce) := by unfold spCopy; rw [if_neg c]
    rw [e] at hQ
    refine v_ldc (q := 16) cX7_92 dX7_copy_14 (kk := ?_)
    refine v_iret dX7_copy_16 (hQ := ?_)
    exact hQ I Fsm.rfl hsm
  refine v_iload_n (q := 1) dX7_copy_0 (kk := ?_)
  refine v_cS1 (N := mX7_isSheet) (q := 4) lX7_174 sX7_isSheet kX7_isSheet dX7_copy_1 (s_isSheet ?_)
  refine v_if_eqB 14 (q := 7) dX7_copy_4 (kt := fun c1 => ?_) (kf := fun c1 => ?_)
  · exact bad (fun h => c1 h.1)
  · refine v_iload_n (q := 8) dX7_copy_7 (kk := ?_)
    refine v_cS1 (N := mX7_isSheet) (q := 11) lX7_174 sX7_isSheet kX7_isSheet dX7_copy_8 (s_isSheet ?_)
    refine v_if_neB 17 (q := 14) dX7_copy_11 (kt := fun c2 => ?_) (kf := fun c2 => ?_)
    · obtain ⟨i, rfl, hi⟩ := nI_of6 (n := 4) rfl (by omega) c1
      obtain ⟨j, rfl, hj⟩ := nI_of6 (n := 4) rfl (by omega) c2
      obtain ⟨-, zi, ezi, hzi⟩ := hsw i hi
      obtain ⟨-, zj, ezj, hzj⟩ := hsw j hj
      have e : spCopy so si ce (nI i) p (nI j) a n = if so i = -1 ∨ so j = -1 then (-1000000011, so, si, ce) else if ¬ so i = so j then (-1000000012, so, si, ce) else if (0 ≤ p ∧ 0 ≤ a ∧ 0 ≤ n) ∧ p ≤ nI zi - n ∧ a ≤ nI zj - n then (n, so, si, cpF ce i p.toNatClampNeg j a.toNatClampNeg n.toNatClampNeg) else (-1000000013, so, si, ce) := by
        unfold spCopy
        rw [if_pos ⟨c1, c2⟩, nI_clamp (by omega), nI_clamp (by omega), ezi, ezj]
      rw [e] at hQ
      clear e
      have noth : so i = -1 ∨ so j = -1 → V g mX7_copy 2 0 0 S I R z 35 [some (.ref m), some (.int (nI i)), some (.int p), some (.int (nI j)), some (.int a), some (.int n), none] [] Q := by
        intro c
        rw [if_pos c] at hQ
        refine v_ldc (q := 37) cX7_177 dX7_copy_35 (kk := ?_)
        refine v_iret dX7_copy_37 (hQ := ?_)
        exact hQ I Fsm.rfl hsm
      refine v_aload_n (q := 18) dX7_copy_17 (kk := ?_)
      refine v_getR (q := 21) fX7_48 (by assumption) (by assumption) (hd := dX7_copy_18) (kk := ?_)
      refine v_iload_n (q := 22) dX7_copy_21 (kk := ?_)
      refine v_ialdE (q := 23) (i) (by rfl) (by assumption) (by omega) (by omega) (hd := dX7_copy_22) (kk := ?_)
      rw [q1]
      refine v_if_lt 35 (q := 26) dX7_copy_23 (kt := fun c3 => ?_) (kf := fun c3 => ?_)
      · exact noth (Or.inl ((hsw.neg hi).mp c3))
      · refine v_aload_n (q := 27) dX7_copy_26 (kk := ?_)
        refine v_getR (q := 30) fX7_48 (by assumption) (by assumption) (hd := dX7_copy_27) (kk := ?_)
        refine v_iload_n (q := 31) dX7_copy_30 (kk := ?_)
        refine v_ialdE (q := 32) (j) (by rfl) (by assumption) (by omega) (by omega) (hd := dX7_copy_31) (kk := ?_)
        rw [q1]
        refine v_if_ge 38 (q := 35) dX7_copy_32 (kt := fun c4 => ?_) (kf := fun c4 => ?_)
        · rw [if_neg (fun h => h.elim (fun h => c3 ((hsw.neg hi).mpr h)) (fun h => absurd ((hsw.neg hj).mpr h) (Int32.not_lt.mpr c4)))] at hQ
          refine v_aload_n (q := 39) dX7_copy_38 (kk := ?_)
          refine v_getR (q := 42) fX7_48 (by assumption) (by assumption) (hd := dX7_copy_39) (kk := ?_)
          refine v_iload_n (q := 43) dX7_copy_42 (kk := ?_)
          refine v_ialdE (q := 44) (i) (by rfl) (by assumption) (by omega) (by omega) (hd := dX7_copy_43) (kk := ?_)
          rw [q1]
          refine v_aload_n (q := 45) dX7_copy_44 (kk := ?_)
          refine v_getR (q := 48) fX7_48 (by assumption) (by assumption) (hd := dX7_copy_45) (kk := ?_)
          refine v_iload_n (q := 49) dX7_copy_48 (kk := ?_)
          refine v_ialdE (q := 50) (j) (by rfl) (by assumption) (by omega) (by omega) (hd := dX7_copy_49) (kk := ?_)
          rw [q1]
          refine v_icmp_eq 56 (q := 53) dX7_copy_50 (kt := fun c5 => ?_) (kf := fun c5 => ?_)
          · rw [if_neg (fun h => h c5)] at hQ
            have idx : ¬ ((0 ≤ p ∧ 0 ≤ a ∧ 0 ≤ n) ∧ p ≤ nI zi - n ∧ a ≤ nI zj - n) → V g mX7_copy 2 0 0 S I R z 97 [some (.ref m), some (.int (nI i)), some (.int p), some (.int (nI j)), some (.int a), some (.int n), none] [] Q := by
              intro c
              rw [if_neg c] at hQ
              refine v_ldc (q := 99) cX7_251 dX7_copy_97 (kk := ?_)
              refine v_iret dX7_copy_99 (hQ := ?_)
              exact hQ I Fsm.rfl hsm
            refine v_iload_n (q := 57) dX7_copy_56 (kk := ?_)
            refine v_if_lt 97 (q := 60) dX7_copy_57 (kt := fun d1 => ?_) (kf := fun d1 => ?_)
            · exact idx (fun h => absurd h.1.1 (Int32.not_le.mpr d1))
            · refine v_iload (q := 62) dX7_copy_60 (kk := ?_)
              refine v_if_lt 97 (q := 65) dX7_copy_62 (kt := fun d2 => ?_) (kf := fun d2 => ?_)
              · exact idx (fun h => absurd h.1.2.1 (Int32.not_le.mpr d2))
              · refine v_iload (q := 67) dX7_copy_65 (kk := ?_)
                refine v_if_lt 97 (q := 70) dX7_copy_67 (kt := fun d3 => ?_) (kf := fun d3 => ?_)
                · exact idx (fun h => absurd h.1.2.2 (Int32.not_le.mpr d3))
                · refine v_iload_n (q := 71) dX7_copy_70 (kk := ?_)
                  refine v_aload_n (q := 72) dX7_copy_71 (kk := ?_)
                  refine v_getR (q := 75) fX7_51 (by assumption) (by assumption) (hd := dX7_copy_72) (kk := ?_)
                  refine v_iload_n (q := 76) dX7_copy_75 (kk := ?_)
                  refine v_ialdE (q := 77) (i) (by rfl) (by assumption) (by omega) (by omega) (hd := dX7_copy_76) (kk := ?_)
                  rw [q2, ezi]
                  refine v_iload (q := 79) dX7_copy_77 (kk := ?_)
                  refine v_isub (q := 80) dX7_copy_79 (kk := ?_)
                  refine v_icmp_gt 97 (q := 83) dX7_copy_80 (kt := fun d4 => ?_) (kf := fun d4 => ?_)
                  · exact idx (fun h => absurd h.2.1 (Int32.not_le.mpr d4))
                  · refine v_iload (q := 85) dX7_copy_83 (kk := ?_)
                    refine v_aload_n (q := 86) dX7_copy_85 (kk := ?_)
                    refine v_getR (q := 89) fX7_51 (by assumption) (by assumption) (hd := dX7_copy_86) (kk := ?_)
                    refine v_iload_n (q := 90) dX7_copy_89 (kk := ?_)
                    refine v_ialdE (q := 91) (j) (by rfl) (by assumption) (by omega) (by omega) (hd := dX7_copy_90) (kk := ?_)
                    rw [q2, ezj]
                    refine v_iload (q := 93) dX7_copy_91 (kk := ?_)
                    refine v_isub (q := 94) dX7_copy_93 (kk := ?_)
                    refine v_icmp_le 100 (q := 97) dX7_copy_94 (kt := fun d5 => ?_) (kf := fun d5 => ?_)
                    · have hc : (0 ≤ p ∧ 0 ≤ a ∧ 0 ≤ n) ∧ p ≤ nI zi - n ∧ a ≤ nI zj - n := ⟨⟨Int32.not_lt.mp d1, Int32.not_lt.mp d2, Int32.not_lt.mp d3⟩, Int32.not_lt.mp d4, d5⟩
                      have b1 := le_subN hzi hc.1.2.2 hc.1.1 hc.2.1
                      have b2 := le_subN hzj hc.1.2.2 hc.1.2.1 hc.2.2
                      rw [if_pos hc] at hQ
                      obtain ⟨pp, hpp, rfl⟩ := nI_of (x := p) d1
                      obtain ⟨aa, haa, rfl⟩ := nI_of (x := a) d2
                      obtain ⟨nn, hnn, rfl⟩ := nI_of (x := n) d3
                      rw [nI_clamp hpp, nI_clamp hnn] at b1
                      rw [nI_clamp haa, nI_clamp hnn] at b2
                      rw [nI_clamp hpp, nI_clamp haa, nI_clamp hnn] at hQ
                      refine v_iconst (v := 0) (q := 101) dX7_copy_100 (kk := ?_)
                      refine v_istore6 (q := 103) dX7_copy_101 (kk := ?_)
                      refine mcopy_1 (ce := ce) hi hm q3 (by omega) (fun I1 hF1 h1 => ?_) nn 0 I (by omega) (fun _ _ => rfl) (fun _ _ => by omega)
                      refine v_iconst (v := 0) (q := 138) dX7_copy_137 (kk := ?_)
                      refine v_istore6 (q := 140) dX7_copy_138 (kk := ?_)
                      refine mcopy_2 (ce := ce) (f := fun k => ce (24 * i + pp + k)) hj hm ((hF1 _ (by omega)).trans q3) h1 (by omega) (by omega) (fun I2 hF2 h2 => ?_) nn 0 I1 (by omega) (fun _ _ => rfl) (fun k => by rw [if_neg (by omega), hF1 _ (by omega), q3])
                      refine hQ I2 (fun y a1 a2 a3 a4 => (hF2 y a3).trans (hF1 y a4)) ⟨?_, ?_, funext fun k => ?_⟩
                      · rw [hF2 _ (by omega), hF1 _ (by omega)]; exact q1
                      · rw [hF2 _ (by omega), hF1 _ (by omega)]; exact q2
                      · rw [h2 k]; rfl
                    · exact idx (fun h => d5 h.2.2)
          · rw [if_pos c5] at hQ
            refine v_ldc (q := 55) cX7_134 dX7_copy_53 (kk := ?_)
            refine v_iret dX7_copy_55 (hQ := ?_)
            exact hQ I Fsm.rfl hsm
        · exact noth (Or.inr ((hsw.neg hj).mp (Int32.not_le.mp c4)))
    · exact bad (fun h => c2 h.2)
end T8
