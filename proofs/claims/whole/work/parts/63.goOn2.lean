theorem scn_congr {f f' : Nat → Bool} : ∀ n p, (∀ j, p ≤ j → j < p + n → f j = f' j) → scn f n p = scn f' n p
  | 0, _, _ => rfl
  | n + 1, p, h => by
    simp only [scn]
    rw [h p (by omega) (by omega), scn_congr n (p + 1) (fun j h1 h2 => h j (by omega) (by omega))]
theorem b_not {x : Nat} (h : bLt x = true) : bFg x = false := by
  simp only [bLt, bFg, decide_eq_true_eq, decide_eq_false_iff_not] at *
  omega
section L4
variable {g : hcG} {S : hcS} {I : hcI} {R : hcR} {z : Nat} {Q : hcQ} {r c tl : Nat} {tp : Nat → Int32}
theorem s_goOn {p s : Nat} (s0 : S r = some (2, 0)) (r2 : R r 2 = some c) (hcr : c ≠ r) (sc : S c = some (8, 96)) (h3 : I r 3 = nI tl) (htl : tl ≤ 96) (hb : TBt tp tl) (hc : ∀ j, j < tl → I c j = sb (tbF tp j)) (hp : p ≤ tl) (hs : s < 5) (h5 : I r 5 = nI p) (h6 : I r 6 = nI s) (hQ : ∀ I' : hcI, RM r I I' → I' r 4 = nI (lxQ tp tl p) → I' r 5 = nI (lxR tp tl p) → I' r 6 = nI (lxC tp tl p (decide (s < 2))) → Q none S I' R z) : Cl g mX2_goOn 1 0 0 S I R z [.ref r] Q := by
  have hq := scn_ge (fun j => decide (tbF tp j = 32)) (tl - p) p
  refine Cl.go [some (.ref r), none, none, none] ?_
  have main : V g mX2_goOn 1 0 0 S I R z 20 [some (.ref r), none, none, none] [.int (hc_z (decide (s < 2)))] Q := by
    refine v_istore1 (q := 21) dX2_goOn_20 (kk := ?_)
    refine v_aload_n (q := 22) dX2_goOn_21 (kk := ?_)
    refine v_getI (q := 25) fX2_29 (by assumption) (hd := dX2_goOn_22) (kk := ?_)
    rw [h5]
    refine v_istore2 (q := 26) dX2_goOn_25 (kk := ?_)
    refine v_aload_n (q := 27) dX2_goOn_26 (kk := ?_)
    refine v_aload_n (q := 28) dX2_goOn_27 (kk := ?_)
    refine v_getI (q := 31) fX2_29 (by assumption) (hd := dX2_goOn_28) (kk := ?_)
    rw [h5]
    refine v_putI (q := 34) fX2_71 (by assumption) (hd := dX2_goOn_31) (kk := ?_)
    refine goOn_skip (I := I) s0 r2 hcr sc h3 htl hb hc (tl - p) p _ (by omega) (RM.rfl.u (by omega)) (by rw [hc_u_at, upd_at]) (fun I1 hG1 a4 => ?_)
    have hQq : lxQ tp tl p = scn (fun j => decide (tbF tp j = 32)) (tl - p) p := rfl
    rw [← hQq] at a4 hq
    obtain ⟨q, hqq⟩ : ∃ q, lxQ tp tl p = q := ⟨_, rfl⟩
    rw [hqq] at a4 hq hQ
    have hst : stF tp tl q < 4 := by
      unfold stF
      split
      · omega
      · split
        · omega
        · split <;> omega
    have ec : ∀ j, j < tl → hc_u I1 r 5 (nI q) c j = sb (tbF tp j) := fun j hj => by rw [hc_u_ne hcr, hG1.1 c hcr]; exact hc j hj
    have e3 : hc_u I1 r 5 (nI q) r 3 = nI tl := by rw [hc_u_at, upd_ne (by omega), hG1.2 3 (by omega)]; exact h3
    refine v_aload_n (q := 73) dX2_goOn_72 (kk := ?_)
    refine v_aload_n (q := 74) dX2_goOn_73 (kk := ?_)
    refine v_getI (q := 77) fX2_71 (by assumption) (hd := dX2_goOn_74) (kk := ?_)
    rw [a4]
    refine v_putI (q := 80) fX2_29 (by assumption) (hd := dX2_goOn_77) (kk := ?_)
    refine v_aload_n (q := 81) dX2_goOn_80 (kk := ?_)
    refine v_aload_n (q := 82) dX2_goOn_81 (kk := ?_)
    refine v_aload_n (q := 83) dX2_goOn_82 (kk := ?_)
    refine v_getI (q := 86) fX2_71 (by assumption) (hd := dX2_goOn_83) (kk := ?_)
    rw [hc_u_at, upd_ne (by omega), a4]
    refine v_cV1 (N := mX2_sortAt) (q := 89) lX2_74 iX2_sortAt kX2_sortAt (by assumption) dX2_goOn_86 (s_sortAt s0 r2 sc e3 htl hb ec (by omega) ?_)
    refine v_putI (q := 92) fX2_32 (by assumption) (hd := dX2_goOn_89) (kk := ?_)
    obtain ⟨I2, hI2⟩ : ∃ I2, hc_u (hc_u I1 r 5 (nI q)) r 6 (nI (stF tp tl q)) = I2 := ⟨_, rfl⟩
    have hG2 : RM r I I2 := by rw [← hI2]; exact (hG1.u (by omega)).u (by omega)
    have c4 : I2 r 4 = nI q := by rw [← hI2, hc_u_at, upd_ne (by omega), hc_u_at, upd_ne (by omega)]; exact a4
    have c5 : I2 r 5 = nI q := by rw [← hI2, hc_u_at, upd_ne (by omega), hc_u_at, upd_at]
    have c6 : I2 r 6 = nI (stF tp tl q) := by rw [← hI2, hc_u_at, upd_at]
    rw [hI2]
    refine v_aload_n (q := 93) dX2_goOn_92 (kk := ?_)
    refine v_getI (q := 96) fX2_32 (by assumption) (hd := dX2_goOn_93) (kk := ?_)
    rw [c6]
    refine v_iconst (v := 2) (q := 97) dX2_goOn_96 (kk := ?_)
    by_cases ct : q = tl
    · have r0 : lxR tp tl p = tl := by unfold lxR; rw [hqq, if_pos ct]
      have k0 : ∀ w, lxC tp tl p w = 3 := fun w => by unfold lxC; rw [hqq, if_pos ct]
      have st3 : stF tp tl q = 3 := by unfold stF; rw [if_pos (by omega)]
      rw [r0, k0] at hQ
      rw [st3] at c6 ⊢
      refine v_icmp_neT 113 dX2_goOn_97 (by decide) (kt := ?_)
      refine v_aload_n (q := 114) dX2_goOn_113 (kk := ?_)
      refine v_getI (q := 117) fX2_32 (by assumption) (hd := dX2_goOn_114) (kk := ?_)
      rw [c6]
      refine v_iconst (v := 3) (q := 118) dX2_goOn_117 (kk := ?_)
      refine v_icmp_eqT 208 dX2_goOn_118 (rfl) (kt := ?_)
      refine v_vret dX2_goOn_208 (hQ := ?_)
      exact hQ I2 hG2 c4 (by rw [c5, ct]) c6
    · have word : ∀ s', s' < 2 → stF tp tl q = s' → (lxC tp tl p (decide (s < 2)) = 4 ↔ ((decide (s < 2) = true ∧ q = p) ∨ (s' = 1 ∧ 4 < lxR tp tl p - q))) → (lxC tp tl p (decide (s < 2)) = 4 ∨ lxC tp tl p (decide (s < 2)) = s') → lxR tp tl p = scn (fun j => decide (stF tp tl j = s')) (tl - q) q → V g mX2_goOn 1 0 0 S I2 R z 97 [some (.ref r), some (.int (hc_z (decide (s < 2)))), some (.int (nI p)), none] [.int 2, .int (nI (stF tp tl q))] Q := by
        intro s' hs' est hk hk4' r0
        have hr := scn_ge (fun j => decide (stF tp tl j = s')) (tl - q) q
        rw [← r0] at hr
        rw [est] at c6 ⊢
        refine v_icmp_neT 113 dX2_goOn_97 (fun h => by have := (nI_eq (b := 2) (by omega) (by omega)).mp h; omega) (kt := ?_)
        refine v_aload_n (q := 114) dX2_goOn_113 (kk := ?_)
        refine v_getI (q := 117) fX2_32 (by assumption) (hd := dX2_goOn_114) (kk := ?_)
        rw [c6]
        refine v_iconst (v := 3) (q := 118) dX2_goOn_117 (kk := ?_)
        refine v_icmp_eqF (q := 121) (t := 208) dX2_goOn_118 (fun h => by have := (nI_eq (b := 3) (by omega) (by omega)).mp h; omega) (kf := ?_)
        refine goOn_word (I := I) hs' s0 r2 hcr sc h3 htl hb hc (tl - q) q I2 (by omega) hG2 c4 c5 c6 (fun I3 hG3 d4 d5 d6 => ?_)
        rw [← r0] at d5
        obtain ⟨rr, hrr⟩ : ∃ rr, lxR tp tl p = rr := ⟨_, rfl⟩
        rw [hrr] at d5 hr hQ hk
        have nowh : ((decide (s < 2) = true ∧ q = p) ∨ (s' = 1 ∧ 4 < rr - q)) → ∀ o, V g mX2_goOn 1 0 0 S I3 R z 203 [some (.ref r), some (.int (hc_z (decide (s < 2)))), some (.int (nI p)), o] [] Q := by
          intro h o
          rw [hk.mpr h] at hQ
          refine v_aload_n (q := 204) dX2_goOn_203 (kk := ?_)
          refine v_iconst (v := 4) (q := 205) dX2_goOn_204 (kk := ?_)
          refine v_putI (q := 208) fX2_32 (by assumption) (hd := dX2_goOn_205) (kk := ?_)
          refine v_vret dX2_goOn_208 (hQ := ?_)
          exact hQ _ (hG3.u (by omega)) (by rw [hc_u_at, upd_ne (by omega)]; exact d4) (by rw [hc_u_at, upd_ne (by omega)]; exact d5) (by rw [hc_u_at, upd_at]; rfl)
        have fine : ¬ ((decide (s < 2) = true ∧ q = p) ∨ (s' = 1 ∧ 4 < rr - q)) → ∀ o, V g mX2_goOn 1 0 0 S I3 R z 208 [some (.ref r), some (.int (hc_z (decide (s < 2)))), some (.int (nI p)), o] [] Q := by
          intro h o
          rw [show lxC tp tl p (decide (s < 2)) = s' from hk4'.resolve_left (fun e => h (hk.mp e))] at hQ
          refine v_vret dX2_goOn_208 (hQ := ?_)
          exact hQ I3 hG3 d4 d5 d6
        have tail : V g mX2_goOn 1 0 0 S I3 R z 177 [some (.ref r), some (.int (hc_z (decide (s < 2)))), some (.int (nI p)), none] [.int (hc_b (decide (s < 2) = true ∧ q = p))] Q := by
          refine v_istore3 (q := 178) dX2_goOn_177 (kk := ?_)
          refine v_iload_n (q := 179) dX2_goOn_178 (kk := ?_)
          refine v_if_neB 203 (q := 182) dX2_goOn_179 (kt := fun d1 => ?_) (kf := fun d1 => ?_)
          · exact nowh (Or.inl d1) _
          · refine v_aload_n (q := 183) dX2_goOn_182 (kk := ?_)
            refine v_getI (q := 186) fX2_32 (by assumption) (hd := dX2_goOn_183) (kk := ?_)
            rw [d6]
            refine v_iconst (v := 1) (q := 187) dX2_goOn_186 (kk := ?_)
            by_cases d2 : s' = 1
            · refine v_icmp_neF (q := 190) (t := 208) dX2_goOn_187 (by rw [d2]; rfl) (kf := ?_)
              refine v_aload_n (q := 191) dX2_goOn_190 (kk := ?_)
              refine v_getI (q := 194) fX2_29 (by assumption) (hd := dX2_goOn_191) (kk := ?_)
              rw [d5]
              refine v_aload_n (q := 195) dX2_goOn_194 (kk := ?_)
              refine v_getI (q := 198) fX2_71 (by assumption) (hd := dX2_goOn_195) (kk := ?_)
              rw [d4]
              refine v_isub (q := 199) dX2_goOn_198 (kk := ?_)
              rw [pk_sub hr.1]
              refine v_iconst (v := 4) (q := 200) dX2_goOn_199 (kk := ?_)
              by_cases d3 : rr - q ≤ 4
              · refine v_icmp_leT 208 dX2_goOn_200 (nI_le (b := 4) d3 (by omega)) (kt := ?_)
                exact fine (fun h => h.elim d1 (fun h => by omega)) _
              · refine v_icmp_leF (q := 203) (t := 208) dX2_goOn_200 (fun h => d3 ((nI_leI (b := 4) (by omega) (by omega)).mp h)) (kf := ?_)
                exact nowh (Or.inr ⟨d2, by omega⟩) _
            · refine v_icmp_neT 208 dX2_goOn_187 (fun h => d2 ((nI_eq (b := 1) (by omega) (by omega)).mp h)) (kt := ?_)
              exact fine (fun h => h.elim d1 (fun h => d2 h.1)) _
        refine v_iload_n (q := 161) dX2_goOn_160 (kk := ?_)
        refine v_if_eqZ 176 (q := 164) dX2_goOn_161 (kt := fun w1 => ?_) (kf := fun w1 => ?_)
        · rw [hc_bf (fun h => by rw [w1] at h; cases h.1)] at tail
          refine v_iconst (v := 0) (q := 177) dX2_goOn_176 (kk := ?_)
          exact tail
        · refine v_aload_n (q := 165) dX2_goOn_164 (kk := ?_)
          refine v_getI (q := 168) fX2_71 (by assumption) (hd := dX2_goOn_165) (kk := ?_)
          rw [d4]
          refine v_iload_n (q := 169) dX2_goOn_168 (kk := ?_)
          by_cases d0 : q = p
          · rw [hc_bt ⟨w1, d0⟩] at tail
            refine v_icmp_neF (q := 172) (t := 176) dX2_goOn_169 (by rw [d0]) (kf := ?_)
            refine v_iconst (v := 1) (q := 173) dX2_goOn_172 (kk := ?_)
            refine v_goto 177 dX2_goOn_173 (kt := ?_)
            exact tail
          · rw [hc_bf (fun h => d0 h.2)] at tail
            refine v_icmp_neT 176 dX2_goOn_169 (fun h => d0 ((nI_eq (by omega) (by omega)).mp h)) (kt := ?_)
            refine v_iconst (v := 0) (q := 177) dX2_goOn_176 (kk := ?_)
            exact tail
      by_cases c1 : bLt (tbF tp q) = true
      · have est : stF tp tl q = 0 := by unfold stF; rw [if_neg (by omega), if_pos c1]
        have k0 : lxC tp tl p (decide (s < 2)) = if decide (s < 2) = true ∧ q = p then 4 else 0 := by unfold lxC; rw [hqq, if_neg ct, if_pos c1]
        refine word 0 (by omega) est ?_ ?_ ?_
        · rw [k0]
          by_cases d : decide (s < 2) = true ∧ q = p
          · rw [if_pos d]; exact ⟨fun _ => Or.inl d, fun _ => rfl⟩
          · rw [if_neg d]; exact ⟨fun h => by omega, fun h => h.elim (fun h => absurd h d) (fun h => by omega)⟩
        · rw [k0]; split
          · exact Or.inl rfl
          · exact Or.inr rfl
        · unfold lxR
          rw [hqq, if_neg ct, if_pos c1]
          refine scn_congr _ _ (fun j h1 h2 => ?_)
          unfold stF
          rw [if_neg (by omega)]
          cases hl : bLt (tbF tp j) with
          | true => rfl
          | false => cases hf : bFg (tbF tp j) <;> rfl
      · by_cases c2 : bFg (tbF tp q) = true
        · have est : stF tp tl q = 1 := by unfold stF; rw [if_neg (by omega), if_neg c1, if_pos c2]
          have k0 : lxC tp tl p (decide (s < 2)) = if (decide (s < 2) = true ∧ q = p) ∨ 4 < lxR tp tl p - q then 4 else 1 := by unfold lxC; rw [hqq, if_neg ct, if_neg c1, if_pos c2]
          refine word 1 (by omega) est ?_ ?_ ?_
          · rw [k0]
            by_cases d : (decide (s < 2) = true ∧ q = p) ∨ 4 < lxR tp tl p - q
            · rw [if_pos d]; exact ⟨fun _ => d.imp id (fun h => ⟨rfl, h⟩), fun _ => rfl⟩
            · rw [if_neg d]; exact ⟨fun h => by omega, fun h => absurd (h.imp id (fun h => h.2)) d⟩
          · rw [k0]; split
            · exact Or.inl rfl
            · exact Or.inr rfl
          · unfold lxR
            rw [hqq, if_neg ct, if_neg c1, if_pos c2]
            refine scn_congr _ _ (fun j h1 h2 => ?_)
            unfold stF
            rw [if_neg (by omega)]
            cases hl : bLt (tbF tp j) with
            | true => rw [b_not hl]; rfl
            | false => cases hf : bFg (tbF tp j) <;> rfl
        · have est : stF tp tl q = 2 := by unfold stF; rw [if_neg (by omega), if_neg c1, if_neg c2]
          have r0 : lxR tp tl p = q + 1 := by unfold lxR; rw [hqq, if_neg ct, if_neg c1, if_neg c2]
          have k0 : ∀ w, lxC tp tl p w = 2 := fun w => by unfold lxC; rw [hqq, if_neg ct, if_neg c1, if_neg c2]
          rw [r0, k0] at hQ
          rw [est] at c6 ⊢
          refine v_icmp_neF (q := 100) (t := 113) dX2_goOn_97 (rfl) (kf := ?_)
          refine v_aload_n (q := 101) dX2_goOn_100 (kk := ?_)
          refine v_dup (q := 102) dX2_goOn_101 (kk := ?_)
          refine v_getI (q := 105) fX2_29 (by assumption) (hd := dX2_goOn_102) (kk := ?_)
          rw [c5]
          refine v_iconst (v := 1) (q := 106) dX2_goOn_105 (kk := ?_)
          refine v_iadd (q := 107) dX2_goOn_106 (kk := ?_)
          rw [nI_1]
          refine v_putI (q := 110) fX2_29 (by assumption) (hd := dX2_goOn_107) (kk := ?_)
          refine v_goto 208 dX2_goOn_110 (kt := ?_)
          refine v_vret dX2_goOn_208 (hQ := ?_)
          exact hQ _ (hG2.u (by omega)) (by rw [hc_u_at, upd_ne (by omega)]; exact c4) (by rw [hc_u_at, upd_at]) (by rw [hc_u_at, upd_ne (by omega)]; exact c6)
  refine v_aload_n (q := 1) dX2_goOn_0 (kk := ?_)
  refine v_getI (q := 4) fX2_32 (by assumption) (hd := dX2_goOn_1) (kk := ?_)
  rw [h6]
  by_cases t0 : s = 0
  · rw [show decide (s < 2) = true by simp [t0]] at main
    refine v_if_eqT 15 dX2_goOn_4 (by rw [t0]; rfl) (kt := ?_)
    refine v_iconst (v := 1) (q := 16) dX2_goOn_15 (kk := ?_)
    refine v_goto 20 dX2_goOn_16 (kt := ?_)
    exact main
  · refine v_if_eqF (q := 7) (t := 15) dX2_goOn_4 (fun h => t0 ((nI_eq (b := 0) (by omega) (by omega)).mp h)) (kf := ?_)
    refine v_aload_n (q := 8) dX2_goOn_7 (kk := ?_)
    refine v_getI (q := 11) fX2_32 (by assumption) (hd := dX2_goOn_8) (kk := ?_)
    rw [h6]
    refine v_iconst (v := 1) (q := 12) dX2_goOn_11 (kk := ?_)
    by_cases t1 : s = 1
    · rw [show decide (s < 2) = true by simp [t1]] at main
      refine v_icmp_neF (q := 15) (t := 19) dX2_goOn_12 (by rw [t1]; rfl) (kf := ?_)
      refine v_iconst (v := 1) (q := 16) dX2_goOn_15 (kk := ?_)
      refine v_goto 20 dX2_goOn_16 (kt := ?_)
      exact main
    · rw [show decide (s < 2) = false by simp; omega] at main
      refine v_icmp_neT 19 dX2_goOn_12 (fun h => t1 ((nI_eq (b := 1) (by omega) (by omega)).mp h)) (kt := ?_)
      refine v_iconst (v := 0) (q := 20) dX2_goOn_19 (kk := ?_)
      exact main
end L4
