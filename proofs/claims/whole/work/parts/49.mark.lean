section T6
variable {g : hcG} {S : hcS} {I : hcI} {R : hcR} {z : Nat} {Q : hcQ} {b m np nb nt sec : Nat} {N : hN} {so si ce : Nat → Int32}
theorem x_mark {sh p v : Int32} (hx : XSk S R b) (hsw : SW so si) (hsc : SHc I b so si ce) (hQ : ∀ I' : hcI, Fs b I I' → SHc I' b (spMark so si ce sh p v).2.1 (spMark so si ce sh p v).2.2.1 (spMark so si ce sh p v).2.2.2 → Q (some (.int (spMark so si ce sh p v).1)) S I' R z) : Cl g mX6_mark 1 0 0 S I R z [.ref b, .int sh, .int p, .int v] Q := by
  obtain ⟨⟨s0, r0, -, r2, -, r4, -⟩, -, -, ⟨s49, h49⟩, -⟩ := hx
  refine Cl.go [some (.ref b), some (.int sh), some (.int p), some (.int v), none] ?_
  refine v_iload_n (q := 1) dX6_mark_0 (kk := ?_)
  refine v_iconst (v := 4) (q := 2) dX6_mark_1 (kk := ?_)
  refine v_cS2 (N := mX6_within) (q := 5) lX6_51 sX6_within kX6_within dX6_mark_2 (s_within ?_)
  refine v_if_neB 11 (q := 8) dX6_mark_5 (kt := fun c1 => ?_) (kf := fun c1 => ?_)
  · obtain ⟨k, rfl, hk⟩ := nI_of6 (n := 4) rfl (by omega) c1
    obtain ⟨rk, hra⟩ := h49 k hk
    obtain ⟨sa, sa1, ra0⟩ := hra
    obtain ⟨q1, q2, q3⟩ := hsc k hk
    obtain ⟨hso, sz, es, hs24⟩ := hsw k hk
    have e0 : spMark so si ce (nI k) p v = if so k = -1 then (-1000000011, so, si, ce) else if ¬ (0 ≤ p ∧ p < si k) then (-1000000013, so, si, ce) else if so k = 0 then (if v = -1000000005 then (-1000000012, so, si, ce) else (1, so, si, upd ce (24 * k + p.toNatClampNeg) v.toInt16.toInt32)) else if ¬ v = -1000000005 ∧ ¬ (-99999 ≤ v ∧ v ≤ 99999) then (-1000000001, so, si, ce) else (1, so, si, upd ce (24 * k + p.toNatClampNeg) v) := by
      unfold spMark
      rw [if_pos c1, nI_clamp (by omega)]
    rw [e0] at hQ
    clear e0
    refine v_aload_n (q := 12) dX6_mark_11 (kk := ?_)
    refine v_getR (q := 15) fX6_31 (by assumption) (by assumption) (hd := dX6_mark_12) (kk := ?_)
    refine v_iload_n (q := 16) dX6_mark_15 (kk := ?_)
    refine v_aaldn (q := 17) (by assumption) (by assumption) (by omega) (by omega) (hd := dX6_mark_16) (kk := ?_)
    refine v_astore4 (q := 19) dX6_mark_17 (kk := ?_)
    refine v_aload (q := 21) dX6_mark_19 (kk := ?_)
    refine v_getI (q := 24) fX6_183 (by assumption) (hd := dX6_mark_21) (kk := ?_)
    rw [q1]
    refine v_iconst (v := (-1)) (q := 25) dX6_mark_24 (kk := ?_)
    refine v_icmp_ne 31 (q := 28) dX6_mark_25 (kt := fun c2 => ?_) (kf := fun c2 => ?_)
    · rw [if_neg c2] at hQ
      refine v_iload_n (q := 32) dX6_mark_31 (kk := ?_)
      refine v_aload (q := 34) dX6_mark_32 (kk := ?_)
      refine v_getI (q := 37) fX6_234 (by assumption) (hd := dX6_mark_34) (kk := ?_)
      rw [q2]
      refine v_cS2 (N := mX6_within) (q := 40) lX6_51 sX6_within kX6_within dX6_mark_37 (s_within ?_)
      refine v_if_neB 46 (q := 43) dX6_mark_40 (kt := fun c3 => ?_) (kf := fun c3 => ?_)
      · rw [if_neg (fun h => h c3)] at hQ
        rw [es] at c3
        obtain ⟨j, rfl, hj⟩ := nI_of6 (n := sz) rfl (by omega) c3
        rw [nI_clamp (by omega)] at hQ
        refine v_aload (q := 48) dX6_mark_46 (kk := ?_)
        refine v_getI (q := 51) fX6_183 (by assumption) (hd := dX6_mark_48) (kk := ?_)
        rw [q1]
        refine v_if_ne 74 (q := 54) dX6_mark_51 (kt := fun c4 => ?_) (kf := fun c4 => ?_)
        · rw [if_neg c4] at hQ
          have fin : ¬ (¬ v = -1000000005 ∧ ¬ (-99999 ≤ v ∧ v ≤ 99999)) → V g mX6_mark 1 0 0 S I R z 95 [some (.ref b), some (.int (nI k)), some (.int (nI j)), some (.int v), some (.ref (b + 53 + 2 * k))] [] Q := by
            intro c
            rw [if_neg c] at hQ
            have tail : V g mX6_mark 1 0 0 S I R z 113 [some (.ref b), some (.int (nI k)), some (.int (nI j)), some (.int v), some (.ref (b + 53 + 2 * k))] [.int v, .int (nI j), .ref (b + 53 + 2 * k + 1)] Q := by
              refine v_iastN (q := 114) (by assumption) (by omega) (by omega) (hd := dX6_mark_113) (kk := ?_)
              refine v_iconst (v := 1) (q := 115) dX6_mark_114 (kk := ?_)
              refine v_iret dX6_mark_115 (hQ := ?_)
              exact hQ _ (fun y hy => hc_u_ne (by omega)) (hsc.put hk (by omega))
            refine v_aload (q := 97) dX6_mark_95 (kk := ?_)
            refine v_getR (q := 100) fX6_236 (by assumption) (by assumption) (hd := dX6_mark_97) (kk := ?_)
            refine v_iload_n (q := 101) dX6_mark_100 (kk := ?_)
            refine v_iload_n (q := 102) dX6_mark_101 (kk := ?_)
            refine v_ldc (q := 104) cX6_125 dX6_mark_102 (kk := ?_)
            refine v_icmp_ne 112 (q := 107) dX6_mark_104 (kt := fun c5 => ?_) (kf := fun c5 => ?_)
            · refine v_iload_n (q := 113) dX6_mark_112 (kk := ?_)
              exact tail
            · refine v_ldc (q := 109) cX6_125 dX6_mark_107 (kk := ?_)
              refine v_goto 113 dX6_mark_109 (kt := ?_)
              rw [c5] at tail ⊢
              exact tail
          refine v_iload_n (q := 75) dX6_mark_74 (kk := ?_)
          refine v_ldc (q := 77) cX6_125 dX6_mark_75 (kk := ?_)
          refine v_icmp_eq 95 (q := 80) dX6_mark_77 (kt := fun c5 => ?_) (kf := fun c5 => ?_)
          · exact fin (fun h => h.1 c5)
          · have bad : ¬ (-99999 ≤ v ∧ v ≤ 99999) → V g mX6_mark 1 0 0 S I R z 92 [some (.ref b), some (.int (nI k)), some (.int (nI j)), some (.int v), some (.ref (b + 53 + 2 * k))] [] Q := by
              intro c
              rw [if_pos ⟨c5, c⟩] at hQ
              refine v_ldc (q := 94) cX6_55 dX6_mark_92 (kk := ?_)
              refine v_iret dX6_mark_94 (hQ := ?_)
              exact hQ I Fs.rfl hsc
            refine v_iload_n (q := 81) dX6_mark_80 (kk := ?_)
            refine v_ldc (q := 83) cX6_239 dX6_mark_81 (kk := ?_)
            refine v_icmp_lt 92 (q := 86) dX6_mark_83 (kt := fun c6 => ?_) (kf := fun c6 => ?_)
            · exact bad (fun h => absurd h.1 (Int32.not_le.mpr c6))
            · refine v_iload_n (q := 87) dX6_mark_86 (kk := ?_)
              refine v_ldc (q := 89) cX6_240 dX6_mark_87 (kk := ?_)
              refine v_icmp_le 95 (q := 92) dX6_mark_89 (kt := fun c7 => ?_) (kf := fun c7 => ?_)
              · exact fin (fun h => h.2 ⟨Int32.not_lt.mp c6, c7⟩)
              · exact bad (fun h => c7 h.2)
        · rw [if_pos c4] at hQ
          refine v_iload_n (q := 55) dX6_mark_54 (kk := ?_)
          refine v_ldc (q := 57) cX6_125 dX6_mark_55 (kk := ?_)
          refine v_icmp_ne 63 (q := 60) dX6_mark_57 (kt := fun c5 => ?_) (kf := fun c5 => ?_)
          · rw [if_neg c5] at hQ
            refine v_aload (q := 65) dX6_mark_63 (kk := ?_)
            refine v_getR (q := 68) fX6_236 (by assumption) (by assumption) (hd := dX6_mark_65) (kk := ?_)
            refine v_iload_n (q := 69) dX6_mark_68 (kk := ?_)
            refine v_iload_n (q := 70) dX6_mark_69 (kk := ?_)
            refine v_i2s (q := 71) dX6_mark_70 (kk := ?_)
            refine v_iastN (q := 72) (by assumption) (by omega) (by omega) (hd := dX6_mark_71) (kk := ?_)
            refine v_iconst (v := 1) (q := 73) dX6_mark_72 (kk := ?_)
            refine v_iret dX6_mark_73 (hQ := ?_)
            exact hQ _ (fun y hy => hc_u_ne (by omega)) (hsc.put hk (by omega))
          · rw [if_pos c5] at hQ
            refine v_ldc (q := 62) cX6_115 dX6_mark_60 (kk := ?_)
            refine v_iret dX6_mark_62 (hQ := ?_)
            exact hQ I Fs.rfl hsc
      · rw [if_pos c3] at hQ
        refine v_ldc (q := 45) cX6_235 dX6_mark_43 (kk := ?_)
        refine v_iret dX6_mark_45 (hQ := ?_)
        exact hQ I Fs.rfl hsc
    · rw [if_pos c2] at hQ
      refine v_ldc (q := 30) cX6_186 dX6_mark_28 (kk := ?_)
      refine v_iret dX6_mark_30 (hQ := ?_)
      exact hQ I Fs.rfl hsc
  · have e : spMark so si ce sh p v = (-1000000001, so, si, ce) := by unfold spMark; rw [if_neg c1]
    rw [e] at hQ
    refine v_ldc (q := 10) cX6_55 dX6_mark_8 (kk := ?_)
    refine v_iret dX6_mark_10 (hQ := ?_)
    exact hQ I Fs.rfl hsc
theorem m_mark {sh p v : Int32} (hm : MG S R m) (hsw : SW so si) (hsm : SHm I m so si ce) (hQ : ∀ I' : hcI, Fsm m I I' → SHm I' m (spMark so si ce sh p v).2.1 (spMark so si ce sh p v).2.2.1 (spMark so si ce sh p v).2.2.2 → Q (some (.int (spMark so si ce sh p v).1)) S I' R z) : Cl g mX7_mark 2 0 0 S I R z [.ref m, .int sh, .int p, .int v] Q := by
  have s0 := hm.s0
  have ss := hm.s_sorts
  have rs := hm.r_sorts
  have sz := hm.s_sizes
  have rz := hm.r_sizes
  have sc := hm.s_cells
  have rc := hm.r_cells
  have hsm' := hsm
  obtain ⟨q1, q2, q3⟩ := hsm'
  refine Cl.go [some (.ref m), some (.int sh), some (.int p), some (.int v)] ?_
  refine v_iload_n (q := 1) dX7_mark_0 (kk := ?_)
  refine v_cS1 (N := mX7_isSheet) (q := 4) lX7_174 sX7_isSheet kX7_isSheet dX7_mark_1 (s_isSheet ?_)
  refine v_if_neB 10 (q := 7) dX7_mark_4 (kt := fun c1 => ?_) (kf := fun c1 => ?_)
  · obtain ⟨k, rfl, hk⟩ := nI_of6 (n := 4) rfl (by omega) c1
    obtain ⟨hso, szz, es, hs24⟩ := hsw k hk
    have e0 : spMark so si ce (nI k) p v = if so k = -1 then (-1000000011, so, si, ce) else if ¬ (0 ≤ p ∧ p < si k) then (-1000000013, so, si, ce) else if so k = 0 then (if v = -1000000005 then (-1000000012, so, si, ce) else (1, so, si, upd ce (24 * k + p.toNatClampNeg) v.toInt16.toInt32)) else if ¬ v = -1000000005 ∧ ¬ (-99999 ≤ v ∧ v ≤ 99999) then (-1000000001, so, si, ce) else (1, so, si, upd ce (24 * k + p.toNatClampNeg) v) := by
      unfold spMark
      rw [if_pos c1, nI_clamp (by omega)]
    rw [e0] at hQ
    clear e0
    refine v_aload_n (q := 11) dX7_mark_10 (kk := ?_)
    refine v_getR (q := 14) fX7_48 (by assumption) (by assumption) (hd := dX7_mark_11) (kk := ?_)
    refine v_iload_n (q := 15) dX7_mark_14 (kk := ?_)
    refine v_ialdE (q := 16) (k) (by rfl) (by assumption) (by omega) (by omega) (hd := dX7_mark_15) (kk := ?_)
    rw [q1]
    refine v_if_ge 22 (q := 19) dX7_mark_16 (kt := fun c2 => ?_) (kf := fun c2 => ?_)
    · have c2' : ¬ so k = -1 := fun h => absurd ((hsw.neg hk).mpr h) (Int32.not_lt.mpr c2)
      rw [if_neg c2'] at hQ
      refine v_iload_n (q := 23) dX7_mark_22 (kk := ?_)
      refine v_iconst (v := 0) (q := 24) dX7_mark_23 (kk := ?_)
      refine v_aload_n (q := 25) dX7_mark_24 (kk := ?_)
      refine v_getR (q := 28) fX7_51 (by assumption) (by assumption) (hd := dX7_mark_25) (kk := ?_)
      refine v_iload_n (q := 29) dX7_mark_28 (kk := ?_)
      refine v_ialdE (q := 30) (k) (by rfl) (by assumption) (by omega) (by omega) (hd := dX7_mark_29) (kk := ?_)
      rw [q2, es]
      refine v_iconst (v := 1) (q := 31) dX7_mark_30 (kk := ?_)
      refine v_isub (q := 32) dX7_mark_31 (kk := ?_)
      rw [es] at hQ
      refine v_cS3 (N := mX7_in) (q := 35) lX7_76 sX7_in kX7_in dX7_mark_32 (s_in0 szz (nI szz) rfl rfl (by omega) ?_)
      refine v_if_neB 41 (q := 38) dX7_mark_35 (kt := fun c3 => ?_) (kf := fun c3 => ?_)
      · rw [if_neg (fun h => h c3)] at hQ
        obtain ⟨j, rfl, hj⟩ := nI_of6 (n := szz) rfl (by omega) c3
        rw [nI_clamp (by omega)] at hQ
        have ix : (24 : Int32) * nI k + nI j = nI (24 * k + j) := by rw [show (24 : Int32) = nI 24 from rfl, pk_mul, nI_add]
        refine v_aload_n (q := 42) dX7_mark_41 (kk := ?_)
        refine v_getR (q := 45) fX7_48 (by assumption) (by assumption) (hd := dX7_mark_42) (kk := ?_)
        refine v_iload_n (q := 46) dX7_mark_45 (kk := ?_)
        refine v_ialdE (q := 47) (k) (by rfl) (by assumption) (by omega) (by omega) (hd := dX7_mark_46) (kk := ?_)
        rw [q1]
        refine v_if_ne 59 (q := 50) dX7_mark_47 (kt := fun c4 => ?_) (kf := fun c4 => ?_)
        · have c41 : so k = 1 := by
            rcases hso with h | h | h
            · exact absurd h c2'
            · exact absurd h c4
            · exact h
          rw [if_neg c4] at hQ
          have fin : ¬ (¬ v = -1000000005 ∧ ¬ (-99999 ≤ v ∧ v ≤ 99999)) → V g mX7_mark 2 0 0 S I R z 89 [some (.ref m), some (.int (nI k)), some (.int (nI j)), some (.int v)] [] Q := by
            intro c
            rw [if_neg c] at hQ
            refine v_aload_n (q := 90) dX7_mark_89 (kk := ?_)
            refine v_getR (q := 93) fX7_54 (by assumption) (by assumption) (hd := dX7_mark_90) (kk := ?_)
            refine v_bipush (v := 24) (q := 95) dX7_mark_93 (kk := ?_)
            refine v_iload_n (q := 96) dX7_mark_95 (kk := ?_)
            refine v_imul (q := 97) dX7_mark_96 (kk := ?_)
            refine v_iload_n (q := 98) dX7_mark_97 (kk := ?_)
            refine v_iadd (q := 99) dX7_mark_98 (kk := ?_)
            refine v_aload_n (q := 100) dX7_mark_99 (kk := ?_)
            refine v_getR (q := 103) fX7_48 (by assumption) (by assumption) (hd := dX7_mark_100) (kk := ?_)
            refine v_iload_n (q := 104) dX7_mark_103 (kk := ?_)
            refine v_ialdE (q := 105) (k) (by rfl) (by assumption) (by omega) (by omega) (hd := dX7_mark_104) (kk := ?_)
            rw [q1]
            refine v_if_neT 113 dX7_mark_105 (c4) (kt := ?_)
            refine v_iload_n (q := 114) dX7_mark_113 (kk := ?_)
            refine v_iastE (q := 115) (24 * k + j) ix (by assumption) (by omega) (by omega) (hd := dX7_mark_114) (kk := ?_)
            refine v_iconst (v := 1) (q := 116) dX7_mark_115 (kk := ?_)
            refine v_iret dX7_mark_116 (hQ := ?_)
            exact hQ _ (fun y a1 a2 a3 a4 => hc_u_ne a3) ⟨by rw [hc_u_ne (by omega)]; exact q1, by rw [hc_u_ne (by omega)]; exact q2, by rw [hc_u_at, q3]⟩
          refine v_aload_n (q := 60) dX7_mark_59 (kk := ?_)
          refine v_getR (q := 63) fX7_48 (by assumption) (by assumption) (hd := dX7_mark_60) (kk := ?_)
          refine v_iload_n (q := 64) dX7_mark_63 (kk := ?_)
          refine v_ialdE (q := 65) (k) (by rfl) (by assumption) (by omega) (by omega) (hd := dX7_mark_64) (kk := ?_)
          rw [q1]
          refine v_iconst (v := 1) (q := 66) dX7_mark_65 (kk := ?_)
          refine v_icmp_neF (q := 69) (t := 89) dX7_mark_66 (c41) (kf := ?_)
          refine v_iload_n (q := 70) dX7_mark_69 (kk := ?_)
          refine v_ldc (q := 72) cX7_75 dX7_mark_70 (kk := ?_)
          refine v_icmp_eq 89 (q := 75) dX7_mark_72 (kt := fun c5 => ?_) (kf := fun c5 => ?_)
          · exact fin (fun h => h.1 c5)
          · refine v_iload_n (q := 76) dX7_mark_75 (kk := ?_)
            refine v_ldc (q := 78) cX7_252 dX7_mark_76 (kk := ?_)
            refine v_ldc (q := 80) cX7_155 dX7_mark_78 (kk := ?_)
            refine v_cS3 (N := mX7_in) (q := 83) lX7_76 sX7_in kX7_in dX7_mark_80 (s_in ?_)
            refine v_if_neB 89 (q := 86) dX7_mark_83 (kt := fun c6 => ?_) (kf := fun c6 => ?_)
            · exact fin (fun h => h.2 c6)
            · rw [if_pos ⟨c5, c6⟩] at hQ
              refine v_ldc (q := 88) cX7_92 dX7_mark_86 (kk := ?_)
              refine v_iret dX7_mark_88 (hQ := ?_)
              exact hQ I Fsm.rfl hsm
        · rw [if_pos c4] at hQ
          refine v_iload_n (q := 51) dX7_mark_50 (kk := ?_)
          refine v_ldc (q := 53) cX7_75 dX7_mark_51 (kk := ?_)
          refine v_icmp_ne 59 (q := 56) dX7_mark_53 (kt := fun c5 => ?_) (kf := fun c5 => ?_)
          · rw [if_neg c5] at hQ
            refine v_aload_n (q := 60) dX7_mark_59 (kk := ?_)
            refine v_getR (q := 63) fX7_48 (by assumption) (by assumption) (hd := dX7_mark_60) (kk := ?_)
            refine v_iload_n (q := 64) dX7_mark_63 (kk := ?_)
            refine v_ialdE (q := 65) (k) (by rfl) (by assumption) (by omega) (by omega) (hd := dX7_mark_64) (kk := ?_)
            rw [q1]
            refine v_iconst (v := 1) (q := 66) dX7_mark_65 (kk := ?_)
            refine v_icmp_neT 89 dX7_mark_66 (by rw [c4]; decide) (kt := ?_)
            refine v_aload_n (q := 90) dX7_mark_89 (kk := ?_)
            refine v_getR (q := 93) fX7_54 (by assumption) (by assumption) (hd := dX7_mark_90) (kk := ?_)
            refine v_bipush (v := 24) (q := 95) dX7_mark_93 (kk := ?_)
            refine v_iload_n (q := 96) dX7_mark_95 (kk := ?_)
            refine v_imul (q := 97) dX7_mark_96 (kk := ?_)
            refine v_iload_n (q := 98) dX7_mark_97 (kk := ?_)
            refine v_iadd (q := 99) dX7_mark_98 (kk := ?_)
            refine v_aload_n (q := 100) dX7_mark_99 (kk := ?_)
            refine v_getR (q := 103) fX7_48 (by assumption) (by assumption) (hd := dX7_mark_100) (kk := ?_)
            refine v_iload_n (q := 104) dX7_mark_103 (kk := ?_)
            refine v_ialdE (q := 105) (k) (by rfl) (by assumption) (by omega) (by omega) (hd := dX7_mark_104) (kk := ?_)
            rw [q1]
            refine v_if_neF (q := 108) (t := 113) dX7_mark_105 (c4) (kf := ?_)
            refine v_iload_n (q := 109) dX7_mark_108 (kk := ?_)
            refine v_i2s (q := 110) dX7_mark_109 (kk := ?_)
            refine v_goto 114 dX7_mark_110 (kt := ?_)
            refine v_iastE (q := 115) (24 * k + j) ix (by assumption) (by omega) (by omega) (hd := dX7_mark_114) (kk := ?_)
            refine v_iconst (v := 1) (q := 116) dX7_mark_115 (kk := ?_)
            refine v_iret dX7_mark_116 (hQ := ?_)
            exact hQ _ (fun y a1 a2 a3 a4 => hc_u_ne a3) ⟨by rw [hc_u_ne (by omega)]; exact q1, by rw [hc_u_ne (by omega)]; exact q2, by rw [hc_u_at, q3]⟩
          · rw [if_pos c5] at hQ
            refine v_ldc (q := 58) cX7_134 dX7_mark_56 (kk := ?_)
            refine v_iret dX7_mark_58 (hQ := ?_)
            exact hQ I Fsm.rfl hsm
      · rw [if_pos c3] at hQ
        refine v_ldc (q := 40) cX7_251 dX7_mark_38 (kk := ?_)
        refine v_iret dX7_mark_40 (hQ := ?_)
        exact hQ I Fsm.rfl hsm
    · rw [if_pos ((hsw.neg hk).mp (Int32.not_le.mp c2))] at hQ
      refine v_ldc (q := 21) cX7_177 dX7_mark_19 (kk := ?_)
      refine v_iret dX7_mark_21 (hQ := ?_)
      exact hQ I Fsm.rfl hsm
  · have e : spMark so si ce sh p v = (-1000000001, so, si, ce) := by unfold spMark; rw [if_neg c1]
    rw [e] at hQ
    refine v_ldc (q := 9) cX7_92 dX7_mark_7 (kk := ?_)
    refine v_iret dX7_mark_9 (hQ := ?_)
    exact hQ I Fsm.rfl hsm
theorem reads_loop {a s : Nat} {x : Int32} {pl : Nat → Int32} (s0 : S b = some (6, 0)) (r0 : R b 0 = some (b + 1)) (hk1 : HSk S R (b + 1)) (hw : WF N np nb nt sec) (hd : HD S I R b (b + 1) N np nb nt) (hra : RowAt S R a) (hsz : I a 2 = nI s) (hs24 : s ≤ 24) (hpl : ∀ j, j < 24 → I (a + 1) j = pl j) (r : Nat) : ∀ i, i + r = s → Q (some (.int (hc_5 (fst0 (fun k => decide (¬ pl k = -1000000005) && decide (¬ pl k = N (9 + (sec + k) % nb))) i r)))) S I R z → V g mX6_reads 1 0 0 S I R z 31 [some (.ref b), some (.int x), some (.ref a), some (.int (nI i))] [] Q := by
  have hra' := hra
  obtain ⟨sa, sa1, ra0⟩ := hra'
  have shh := hk1.1
  induction r with
  | zero =>
    intro i hi hQ
    obtain rfl : i = s := by omega
    refine v_iload_n (q := 32) dX6_reads_31 (kk := ?_)
    refine v_aload_n (q := 33) dX6_reads_32 (kk := ?_)
    refine v_getI (q := 36) fX6_234 (by assumption) (hd := dX6_reads_33) (kk := ?_)
    rw [hsz]
    refine v_icmp_geT 72 dX6_reads_36 (Int32.le_refl _) (kt := ?_)
    refine v_ldc (q := 74) cX6_125 dX6_reads_72 (kk := ?_)
    refine v_iret dX6_reads_74 (hQ := ?_)
    exact hQ
  | succ r ih =>
    intro i hi hQ
    simp only [fst0] at hQ
    refine v_iload_n (q := 32) dX6_reads_31 (kk := ?_)
    refine v_aload_n (q := 33) dX6_reads_32 (kk := ?_)
    refine v_getI (q := 36) fX6_234 (by assumption) (hd := dX6_reads_33) (kk := ?_)
    rw [hsz]
    refine v_icmp_geF (q := 39) (t := 72) dX6_reads_36 (fun h => by have := (nI_leI (by omega) (by omega)).mp h; omega) (kf := ?_)
    refine v_aload_n (q := 40) dX6_reads_39 (kk := ?_)
    refine v_iload_n (q := 41) dX6_reads_40 (kk := ?_)
    refine v_cV1 (N := mX3_isNumber) (q := 44) lX6_241 iX3_isNumber kX3_isNumber (by assumption) dX6_reads_41 (s_Row_isNumber hra (by omega) ?_)
    rw [hpl i (by omega)]
    refine v_if_eqB 66 (q := 47) dX6_reads_44 (kt := fun c => ?_) (kf := fun c => ?_)
    · rw [if_neg (by simp [show pl i = -1000000005 from Classical.not_not.mp c])] at hQ
      refine v_iinc3 (q := 69) dX6_reads_66 (hv := nI_1 i) (kk := ?_)
      refine v_goto 31 dX6_reads_69 (kt := ?_)
      exact ih (i + 1) (by omega) hQ
    · refine v_aload_n (q := 48) dX6_reads_47 (kk := ?_)
      refine v_getR (q := 51) fX6_236 (by assumption) (by assumption) (hd := dX6_reads_48) (kk := ?_)
      refine v_iload_n (q := 52) dX6_reads_51 (kk := ?_)
      refine v_ialdN (q := 53) (by assumption) (by omega) (by omega) (hd := dX6_reads_52) (kk := ?_)
      rw [hpl i (by omega)]
      refine v_aload_n (q := 54) dX6_reads_53 (kk := ?_)
      refine v_getR (q := 57) fX6_12 (by assumption) (by assumption) (hd := dX6_reads_54) (kk := ?_)
      refine v_iload_n (q := 58) dX6_reads_57 (kk := ?_)
      refine v_cV1 (N := mX0_loudIn) (q := 61) lX6_102 iX0_loudIn kX0_loudIn (by assumption) dX6_reads_58 (s_loudIn hk1 hd hw (by omega) ?_)
      refine v_icmp_eq 66 (q := 64) dX6_reads_61 (kt := fun c2 => ?_) (kf := fun c2 => ?_)
      · rw [if_neg (by simp [c2])] at hQ
        refine v_iinc3 (q := 69) dX6_reads_66 (hv := nI_1 i) (kk := ?_)
        refine v_goto 31 dX6_reads_69 (kt := ?_)
        exact ih (i + 1) (by omega) hQ
      · rw [if_pos (by simp [c, c2])] at hQ
        refine v_iload_n (q := 65) dX6_reads_64 (kk := ?_)
        refine v_iret dX6_reads_65 (hQ := ?_)
        exact hQ
theorem x_reads {sh : Int32} (hx : XSk S R b) (hn : XN S I R b N) (hsw : SW so si) (hsc : SHc I b so si ce) (hQ : Q (some (.int (spReads N so si ce sh))) S I R z) : Cl g mX6_reads 1 0 0 S I R z [.ref b, .int sh] Q := by
  obtain ⟨⟨s0, r0, -, r2, -, r4, -⟩, ⟨hk1, -⟩, -, ⟨s49, h49⟩, -⟩ := hx
  obtain ⟨np, nb, nt, sec, hw, hd⟩ := id hn
  obtain ⟨e1, e2, e3, e4⟩ := hw.e
  refine Cl.go [some (.ref b), some (.int sh), none, none] ?_
  refine v_iload_n (q := 1) dX6_reads_0 (kk := ?_)
  refine v_iconst (v := 4) (q := 2) dX6_reads_1 (kk := ?_)
  refine v_cS2 (N := mX6_within) (q := 5) lX6_51 sX6_within kX6_within dX6_reads_2 (s_within ?_)
  refine v_if_neB 11 (q := 8) dX6_reads_5 (kt := fun c1 => ?_) (kf := fun c1 => ?_)
  · obtain ⟨k, rfl, hk⟩ := nI_of6 (n := 4) rfl (by omega) c1
    obtain ⟨rk, hra⟩ := h49 k hk
    have sa := hra.1
    obtain ⟨q1, q2, q3⟩ := hsc k hk
    obtain ⟨-, s, es, hs24⟩ := hsw k hk
    have e : spReads N so si ce (nI k) = if so k = -1 then -1000000011 else hc_5 (rdF N nb sec (fun j => ce (24 * k + j)) s) := by unfold spReads; rw [if_pos c1, e2, e4, nI_clamp (by omega), es, nI_clamp (by omega)]
    rw [e] at hQ
    clear e
    refine v_aload_n (q := 12) dX6_reads_11 (kk := ?_)
    refine v_getR (q := 15) fX6_31 (by assumption) (by assumption) (hd := dX6_reads_12) (kk := ?_)
    refine v_iload_n (q := 16) dX6_reads_15 (kk := ?_)
    refine v_aaldn (q := 17) (by assumption) (by assumption) (by omega) (by omega) (hd := dX6_reads_16) (kk := ?_)
    refine v_astore2 (q := 18) dX6_reads_17 (kk := ?_)
    refine v_aload_n (q := 19) dX6_reads_18 (kk := ?_)
    refine v_getI (q := 22) fX6_183 (by assumption) (hd := dX6_reads_19) (kk := ?_)
    rw [q1]
    refine v_iconst (v := (-1)) (q := 23) dX6_reads_22 (kk := ?_)
    refine v_icmp_ne 29 (q := 26) dX6_reads_23 (kt := fun c2 => ?_) (kf := fun c2 => ?_)
    · rw [if_neg c2] at hQ
      refine v_iconst (v := 0) (q := 30) dX6_reads_29 (kk := ?_)
      refine v_istore3 (q := 31) dX6_reads_30 (kk := ?_)
      exact reads_loop (pl := fun j => ce (24 * k + j)) s0 r0 hk1 hw.1 hd hra (q2.trans es) hs24 (fun j hj => by rw [show b + 53 + 2 * k + 1 = b + 54 + 2 * k by omega]; exact q3 j hj) s 0 (by omega) hQ
    · rw [if_pos c2] at hQ
      refine v_ldc (q := 28) cX6_186 dX6_reads_26 (kk := ?_)
      refine v_iret dX6_reads_28 (hQ := ?_)
      exact hQ
  · have e : spReads N so si ce sh = -1000000001 := by unfold spReads; rw [if_neg c1]
    rw [e] at hQ
    refine v_ldc (q := 10) cX6_55 dX6_reads_8 (kk := ?_)
    refine v_iret dX6_reads_10 (hQ := ?_)
    exact hQ
theorem mreads_loop {k s : Nat} (hk : k < 4) (hm : MG S R m) (hN : I (m + 1) = N) (hw : WF N np nb nt sec) (hsz : I (m + 14) k = nI s) (hs24 : s ≤ 24) (hc : I (m + 15) = ce) (r : Nat) : ∀ i, i + r = s → Q (some (.int (hc_5 (fst0 (fun j => decide (¬ ce (24 * k + j) = -1000000005) && decide (¬ ce (24 * k + j) = N (9 + (sec + j) % nb))) i r)))) S I R z → V g mX7_reads 2 0 0 S I R z 24 [some (.ref m), some (.int (nI k)), some (.int (nI i)), none] [] Q := by
  have s0 := hm.s0
  have sz := hm.s_sizes
  have rz := hm.r_sizes
  have sc := hm.s_cells
  have rc := hm.r_cells
  induction r with
  | zero =>
    intro i hi hQ
    obtain rfl : i = s := by omega
    refine v_iload_n (q := 25) dX7_reads_24 (kk := ?_)
    refine v_aload_n (q := 26) dX7_reads_25 (kk := ?_)
    refine v_getR (q := 29) fX7_51 (by assumption) (by assumption) (hd := dX7_reads_26) (kk := ?_)
    refine v_iload_n (q := 30) dX7_reads_29 (kk := ?_)
    refine v_ialdE (q := 31) (k) (by rfl) (by assumption) (by omega) (by omega) (hd := dX7_reads_30) (kk := ?_)
    rw [hsz]
    refine v_icmp_geT 69 dX7_reads_31 (Int32.le_refl _) (kt := ?_)
    refine v_ldc (q := 71) cX7_75 dX7_reads_69 (kk := ?_)
    refine v_iret dX7_reads_71 (hQ := ?_)
    exact hQ
  | succ r ih =>
    intro i hi hQ
    simp only [fst0] at hQ
    refine v_iload_n (q := 25) dX7_reads_24 (kk := ?_)
    refine v_aload_n (q := 26) dX7_reads_25 (kk := ?_)
    refine v_getR (q := 29) fX7_51 (by assumption) (by assumption) (hd := dX7_reads_26) (kk := ?_)
    refine v_iload_n (q := 30) dX7_reads_29 (kk := ?_)
    refine v_ialdE (q := 31) (k) (by rfl) (by assumption) (by omega) (by omega) (hd := dX7_reads_30) (kk := ?_)
    rw [hsz]
    refine v_icmp_geF (q := 34) (t := 69) dX7_reads_31 (fun h => by have := (nI_leI (by omega) (by omega)).mp h; omega) (kf := ?_)
    refine v_aload_n (q := 35) dX7_reads_34 (kk := ?_)
    refine v_getR (q := 38) fX7_54 (by assumption) (by assumption) (hd := dX7_reads_35) (kk := ?_)
    refine v_bipush (v := 24) (q := 40) dX7_reads_38 (kk := ?_)
    refine v_iload_n (q := 41) dX7_reads_40 (kk := ?_)
    refine v_imul (q := 42) dX7_reads_41 (kk := ?_)
    refine v_iload_n (q := 43) dX7_reads_42 (kk := ?_)
    refine v_iadd (q := 44) dX7_reads_43 (kk := ?_)
    refine v_ialdE (q := 45) (24 * k + i) (by rw [show (24 : Int32) = nI 24 from rfl, pk_mul, nI_add]) (by assumption) (by omega) (by omega) (hd := dX7_reads_44) (kk := ?_)
    rw [hc]
    refine v_istore3 (q := 46) dX7_reads_45 (kk := ?_)
    refine v_iload_n (q := 47) dX7_reads_46 (kk := ?_)
    refine v_ldc (q := 49) cX7_75 dX7_reads_47 (kk := ?_)
    refine v_icmp_eq 63 (q := 52) dX7_reads_49 (kt := fun c => ?_) (kf := fun c => ?_)
    · rw [if_neg (by simp [c])] at hQ
      refine v_iinc2 (q := 66) dX7_reads_63 (hv := nI_1 i) (kk := ?_)
      refine v_goto 24 dX7_reads_66 (kt := ?_)
      exact v_drop3 (ih (i + 1) (by omega) hQ)
    · refine v_iload_n (q := 53) dX7_reads_52 (kk := ?_)
      refine v_aload_n (q := 54) dX7_reads_53 (kk := ?_)
      refine v_iload_n (q := 55) dX7_reads_54 (kk := ?_)
      refine v_cV1 (N := mX7_loudOn) (q := 58) lX7_112 iX7_loudOn kX7_loudOn (by assumption) dX7_reads_55 (s_loudOn hm hN hw (by omega) ?_)
      refine v_icmp_eq 63 (q := 61) dX7_reads_58 (kt := fun c2 => ?_) (kf := fun c2 => ?_)
      · rw [if_neg (by simp [c2])] at hQ
        refine v_iinc2 (q := 66) dX7_reads_63 (hv := nI_1 i) (kk := ?_)
        refine v_goto 24 dX7_reads_66 (kt := ?_)
        exact v_drop3 (ih (i + 1) (by omega) hQ)
      · rw [if_pos (by simp [c, c2])] at hQ
        refine v_iload_n (q := 62) dX7_reads_61 (kk := ?_)
        refine v_iret dX7_reads_62 (hQ := ?_)
        exact hQ
theorem m_reads {sh : Int32} (hm : MG S R m) (hN : I (m + 1) = N) (hn : MN N) (hsw : SW so si) (hsm : SHm I m so si ce) (hQ : Q (some (.int (spReads N so si ce sh))) S I R z) : Cl g mX7_reads 2 0 0 S I R z [.ref m, .int sh] Q := by
  have s0 := hm.s0
  have ss := hm.s_sorts
  have rs := hm.r_sorts
  obtain ⟨np, nb, nt, sec, hw⟩ := hn
  obtain ⟨e1, e2, e3, e4⟩ := hw.e
  obtain ⟨q1, q2, q3⟩ := hsm
  refine Cl.go [some (.ref m), some (.int sh), none, none] ?_
  refine v_iload_n (q := 1) dX7_reads_0 (kk := ?_)
  refine v_cS1 (N := mX7_isSheet) (q := 4) lX7_174 sX7_isSheet kX7_isSheet dX7_reads_1 (s_isSheet ?_)
  refine v_if_neB 10 (q := 7) dX7_reads_4 (kt := fun c1 => ?_) (kf := fun c1 => ?_)
  · obtain ⟨k, rfl, hk⟩ := nI_of6 (n := 4) rfl (by omega) c1
    obtain ⟨-, s, es, hs24⟩ := hsw k hk
    have e : spReads N so si ce (nI k) = if so k = -1 then -1000000011 else hc_5 (rdF N nb sec (fun j => ce (24 * k + j)) s) := by unfold spReads; rw [if_pos c1, e2, e4, nI_clamp (by omega), es, nI_clamp (by omega)]
    rw [e] at hQ
    clear e
    refine v_aload_n (q := 11) dX7_reads_10 (kk := ?_)
    refine v_getR (q := 14) fX7_48 (by assumption) (by assumption) (hd := dX7_reads_11) (kk := ?_)
    refine v_iload_n (q := 15) dX7_reads_14 (kk := ?_)
    refine v_ialdE (q := 16) (k) (by rfl) (by assumption) (by omega) (by omega) (hd := dX7_reads_15) (kk := ?_)
    rw [q1]
    refine v_if_ge 22 (q := 19) dX7_reads_16 (kt := fun c2 => ?_) (kf := fun c2 => ?_)
    · rw [if_neg (fun h => absurd ((hsw.neg hk).mpr h) (Int32.not_lt.mpr c2))] at hQ
      refine v_iconst (v := 0) (q := 23) dX7_reads_22 (kk := ?_)
      refine v_istore2 (q := 24) dX7_reads_23 (kk := ?_)
      exact mreads_loop (ce := ce) hk hm hN hw.1 (by rw [q2]; exact es) hs24 q3 s 0 (by omega) hQ
    · rw [if_pos ((hsw.neg hk).mp (Int32.not_le.mp c2))] at hQ
      refine v_ldc (q := 21) cX7_177 dX7_reads_19 (kk := ?_)
      refine v_iret dX7_reads_21 (hQ := ?_)
      exact hQ
  · have e : spReads N so si ce sh = -1000000001 := by unfold spReads; rw [if_neg c1]
    rw [e] at hQ
    refine v_ldc (q := 9) cX7_92 dX7_reads_7 (kk := ?_)
    refine v_iret dX7_reads_9 (hQ := ?_)
    exact hQ
end T6
