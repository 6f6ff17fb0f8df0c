theorem hc_bz {p : Prop} [Decidable p] : hc_b p = hc_z (decide p) := by
  unfold hc_b
  split
  next h => rw [decide_eq_true h]; rfl
  next h => rw [decide_eq_false h]; rfl
section H3
variable {g : hcG} {S : hcS} {I : hcI} {R : hcR} {z : Nat} {Q : hcQ} {b a np nb nt sec : Nat} {N : hN}
theorem letsGo_40 {p : Nat} (hk : HSk S R a) (hd : HD S I R b a N np nb nt) (hw : WF N np nb nt sec) (hp : p < np) (hQ : Q (some (.int (hc_z (goB N np nb sec p)))) S I R z) : V g mX0_letsGo 2 0 0 S I R z 40 [some (.ref a), some (.int (nI p)), some (.int (N (9 + sec % nb))), some (.ref (a + 5 + p)), some (.int (hc_b (100 ≤ N (33 + 6 * p + 3)))), some (.int (hc_b (200 ≤ N (33 + 6 * p + 3))))] [] Q := by
  have hk' := hk
  obtain ⟨s0, s1, s2, s3, s4, r0, r1, r2, r3, sp⟩ := hk'
  have hnp := hw.1.2
  have hsp := (sp p (by omega)).1
  have hP := hd.2.2.1 p hp
  have e9 : I a 9 = nI sec := hd.1.2.2.2.2.2.1.trans hw.2.2.2.1.1
  have hs := hw.2.2.2.1.2
  obtain ⟨⟨k, ek, hk6⟩, -, ⟨ag, eag, hag⟩, -, -, -⟩ := hw.2.2.2.2.2.2.2.2.2.1 p hp
  have hP0 : I (a + 5 + p) 0 = nI k := (hP 0 (by omega)).trans ek
  refine v_aload_n (q := 41) dX0_letsGo_40 (kk := ?_)
  refine v_getI (q := 44) fX0_125 (by assumption) (hd := dX0_letsGo_41) (kk := ?_)
  rw [hP0]
  rcases hc_lt6 hk6 with rfl | rfl | rfl | rfl | rfl | rfl
  · have hk1 : N (33 + 6 * p) = 0 := ek
    have hG : goB N np nb sec p = decide (100 ≤ N (33 + 6 * p + 3)) := by simp [goB, hk1]
    rw [hG, ← hc_bz] at hQ
    refine v_tsOut 225 dX0_letsGo_44 (by decide) (kt := ?_)
    refine v_iload (q := 227) dX0_letsGo_225 (kk := ?_)
    refine v_zret dX0_letsGo_227 hc_nz (hQ := ?_)
    exact hQ
  · have hk1 : N (33 + 6 * p) = 1 := ek
    have hG : goB N np nb sec p = (decide (200 ≤ N (33 + 6 * p + 3)) || (decide (100 ≤ N (33 + 6 * p + 3)) && decide (N (9 + sec % nb) = 0))) := by simp [goB, hk1]
    rw [hG] at hQ
    refine v_tsIn 80 dX0_letsGo_44 (by decide) (by decide) (by rfl) (kt := ?_)
    refine v_iload (q := 82) dX0_letsGo_80 (kk := ?_)
    refine v_if_eqB 89 (q := 85) dX0_letsGo_82 (kt := fun c1 => ?_) (kf := fun c1 => ?_)
    · refine v_iload (q := 91) dX0_letsGo_89 (kk := ?_)
      refine v_if_eqB 98 (q := 94) dX0_letsGo_91 (kt := fun c2 => ?_) (kf := fun c2 => ?_)
      · refine v_iconst (v := 0) (q := 99) dX0_letsGo_98 (kk := ?_)
        refine v_zret dX0_letsGo_99 rfl (hQ := ?_)
        rwa [hc_zf (by simp [c1, c2])] at hQ
      · refine v_iconst (v := 1) (q := 95) dX0_letsGo_94 (kk := ?_)
        refine v_goto 99 dX0_letsGo_95 (kt := ?_)
        refine v_zret dX0_letsGo_99 rfl (hQ := ?_)
        rwa [hc_zt (by simp [c2])] at hQ
    · refine v_iload_n (q := 86) dX0_letsGo_85 (kk := ?_)
      refine v_if_eq 94 (q := 89) dX0_letsGo_86 (kt := fun c3 => ?_) (kf := fun c3 => ?_)
      · refine v_iconst (v := 1) (q := 95) dX0_letsGo_94 (kk := ?_)
        refine v_goto 99 dX0_letsGo_95 (kt := ?_)
        refine v_zret dX0_letsGo_99 rfl (hQ := ?_)
        rwa [hc_zt (by simp [c1, c3])] at hQ
      · refine v_iload (q := 91) dX0_letsGo_89 (kk := ?_)
        refine v_if_eqB 98 (q := 94) dX0_letsGo_91 (kt := fun c2 => ?_) (kf := fun c2 => ?_)
        · refine v_iconst (v := 0) (q := 99) dX0_letsGo_98 (kk := ?_)
          refine v_zret dX0_letsGo_99 rfl (hQ := ?_)
          rwa [hc_zf (by simp [c3, c2])] at hQ
        · refine v_iconst (v := 1) (q := 95) dX0_letsGo_94 (kk := ?_)
          refine v_goto 99 dX0_letsGo_95 (kt := ?_)
          refine v_zret dX0_letsGo_99 rfl (hQ := ?_)
          rwa [hc_zt (by simp [c2])] at hQ
  · have hk1 : N (33 + 6 * p) = 2 := ek
    have hG : goB N np nb sec p = (decide (200 ≤ N (33 + 6 * p + 3)) || (decide (100 ≤ N (33 + 6 * p + 3)) && decide (50 ≤ N (9 + sec % nb)))) := by simp [goB, hk1]
    rw [hG] at hQ
    refine v_tsIn 137 dX0_letsGo_44 (by decide) (by decide) (by rfl) (kt := ?_)
    refine v_iload (q := 139) dX0_letsGo_137 (kk := ?_)
    refine v_if_eqB 148 (q := 142) dX0_letsGo_139 (kt := fun c1 => ?_) (kf := fun c1 => ?_)
    · refine v_iload (q := 150) dX0_letsGo_148 (kk := ?_)
      refine v_if_eqB 157 (q := 153) dX0_letsGo_150 (kt := fun c2 => ?_) (kf := fun c2 => ?_)
      · refine v_iconst (v := 0) (q := 158) dX0_letsGo_157 (kk := ?_)
        refine v_zret dX0_letsGo_158 rfl (hQ := ?_)
        rwa [hc_zf (by simp [c1, c2])] at hQ
      · refine v_iconst (v := 1) (q := 154) dX0_letsGo_153 (kk := ?_)
        refine v_goto 158 dX0_letsGo_154 (kt := ?_)
        refine v_zret dX0_letsGo_158 rfl (hQ := ?_)
        rwa [hc_zt (by simp [c2])] at hQ
    · refine v_iload_n (q := 143) dX0_letsGo_142 (kk := ?_)
      refine v_bipush (v := 50) (q := 145) dX0_letsGo_143 (kk := ?_)
      refine v_icmp_ge 153 (q := 148) dX0_letsGo_145 (kt := fun c3 => ?_) (kf := fun c3 => ?_)
      · refine v_iconst (v := 1) (q := 154) dX0_letsGo_153 (kk := ?_)
        refine v_goto 158 dX0_letsGo_154 (kt := ?_)
        refine v_zret dX0_letsGo_158 rfl (hQ := ?_)
        rwa [hc_zt (by simp [c1, c3])] at hQ
      · refine v_iload (q := 150) dX0_letsGo_148 (kk := ?_)
        refine v_if_eqB 157 (q := 153) dX0_letsGo_150 (kt := fun c2 => ?_) (kf := fun c2 => ?_)
        · refine v_iconst (v := 0) (q := 158) dX0_letsGo_157 (kk := ?_)
          refine v_zret dX0_letsGo_158 rfl (hQ := ?_)
          rwa [hc_zf (by simp [c3, c2])] at hQ
        · refine v_iconst (v := 1) (q := 154) dX0_letsGo_153 (kk := ?_)
          refine v_goto 158 dX0_letsGo_154 (kt := ?_)
          refine v_zret dX0_letsGo_158 rfl (hQ := ?_)
          rwa [hc_zt (by simp [c2])] at hQ
  · have hk1 : N (33 + 6 * p) = 3 := ek
    have hG : goB N np nb sec p = ((decide (200 ≤ N (33 + 6 * p + 3)) || (decide (100 ≤ N (33 + 6 * p + 3)) && decide (N (9 + sec % nb) = 0))) || (decide (50 ≤ N (33 + 6 * p + 3)) && offB N np p)) := by simp [goB, hk1]
    rw [hG] at hQ
    have tail : ¬ (decide (100 ≤ N (33 + 6 * p + 3)) && decide (N (9 + sec % nb) = 0)) = true → V g mX0_letsGo 2 0 0 S I R z 109 [some (.ref a), some (.int (nI p)), some (.int (N (9 + sec % nb))), some (.ref (a + 5 + p)), some (.int (hc_b (100 ≤ N (33 + 6 * p + 3)))), some (.int (hc_b (200 ≤ N (33 + 6 * p + 3))))] [] Q := by
      intro c0
      rw [Bool.not_eq_true] at c0
      refine v_iload (q := 111) dX0_letsGo_109 (kk := ?_)
      refine v_if_neB 131 (q := 114) dX0_letsGo_111 (kt := fun c2 => ?_) (kf := fun c2 => ?_)
      · refine v_iconst (v := 1) (q := 132) dX0_letsGo_131 (kk := ?_)
        refine v_goto 136 dX0_letsGo_132 (kt := ?_)
        refine v_zret dX0_letsGo_136 rfl (hQ := ?_)
        rwa [hc_zt (by simp [c2])] at hQ
      · refine v_aload_n (q := 115) dX0_letsGo_114 (kk := ?_)
        refine v_getI (q := 118) fX0_100 (by assumption) (hd := dX0_letsGo_115) (kk := ?_)
        rw [hP 3 (by omega)]
        refine v_bipush (v := 50) (q := 120) dX0_letsGo_118 (kk := ?_)
        refine v_icmp_lt 135 (q := 123) dX0_letsGo_120 (kt := fun c3 => ?_) (kf := fun c3 => ?_)
        · refine v_iconst (v := 0) (q := 136) dX0_letsGo_135 (kk := ?_)
          refine v_zret dX0_letsGo_136 rfl (hQ := ?_)
          rw [c0] at hQ
          rwa [hc_zf (by simp [c2, Int32.not_le.mpr c3])] at hQ
        · refine v_aload_n (q := 124) dX0_letsGo_123 (kk := ?_)
          refine v_iload_n (q := 125) dX0_letsGo_124 (kk := ?_)
          refine v_cV1 (N := mX0_oneNearDid) (q := 128) lX0_128 iX0_oneNearDid kX0_oneNearDid (by assumption) dX0_letsGo_125 (s_oneNear hk hd hw hp ?_)
          refine v_if_eqZ 135 (q := 131) dX0_letsGo_128 (kt := fun c4 => ?_) (kf := fun c4 => ?_)
          · refine v_iconst (v := 0) (q := 136) dX0_letsGo_135 (kk := ?_)
            refine v_zret dX0_letsGo_136 rfl (hQ := ?_)
            rw [c0, c4] at hQ
            rwa [hc_zf (by simp [c2])] at hQ
          · refine v_iconst (v := 1) (q := 132) dX0_letsGo_131 (kk := ?_)
            refine v_goto 136 dX0_letsGo_132 (kt := ?_)
            refine v_zret dX0_letsGo_136 rfl (hQ := ?_)
            rw [c4] at hQ
            rwa [hc_zt (by simp [Int32.not_lt.mp c3])] at hQ
    refine v_tsIn 100 dX0_letsGo_44 (by decide) (by decide) (by rfl) (kt := ?_)
    refine v_iload (q := 102) dX0_letsGo_100 (kk := ?_)
    refine v_if_eqB 109 (q := 105) dX0_letsGo_102 (kt := fun c1 => ?_) (kf := fun c1 => ?_)
    · exact tail (by simp [c1])
    · refine v_iload_n (q := 106) dX0_letsGo_105 (kk := ?_)
      refine v_if_eq 131 (q := 109) dX0_letsGo_106 (kt := fun c3 => ?_) (kf := fun c3 => ?_)
      · refine v_iconst (v := 1) (q := 132) dX0_letsGo_131 (kk := ?_)
        refine v_goto 136 dX0_letsGo_132 (kt := ?_)
        refine v_zret dX0_letsGo_136 rfl (hQ := ?_)
        rwa [hc_zt (by simp [c1, c3])] at hQ
      · exact tail (by simp [c3])
  · have hk1 : N (33 + 6 * p) = 4 := ek
    have hG : goB N np nb sec p = ((decide (200 ≤ N (33 + 6 * p + 3)) || (decide (100 ≤ N (33 + 6 * p + 3)) && decide (50 ≤ N (9 + sec % nb)))) || (decide (nI (sec % 60) = N (33 + 6 * p + 2) - N (33 + 6 * p + 2) / 60 * 60) && decide (0 < N (33 + 6 * p + 3)))) := by simp [goB, hk1]
    rw [hG] at hQ
    have tail : ¬ (decide (100 ≤ N (33 + 6 * p + 3)) && decide (50 ≤ N (9 + sec % nb))) = true → V g mX0_letsGo 2 0 0 S I R z 170 [some (.ref a), some (.int (nI p)), some (.int (N (9 + sec % nb))), some (.ref (a + 5 + p)), some (.int (hc_b (100 ≤ N (33 + 6 * p + 3)))), some (.int (hc_b (200 ≤ N (33 + 6 * p + 3))))] [] Q := by
      intro c0
      rw [Bool.not_eq_true] at c0
      refine v_iload (q := 172) dX0_letsGo_170 (kk := ?_)
      refine v_if_neB 199 (q := 175) dX0_letsGo_172 (kt := fun c2 => ?_) (kf := fun c2 => ?_)
      · refine v_iconst (v := 1) (q := 200) dX0_letsGo_199 (kk := ?_)
        refine v_goto 204 dX0_letsGo_200 (kt := ?_)
        refine v_zret dX0_letsGo_204 rfl (hQ := ?_)
        rwa [hc_zt (by simp [c2])] at hQ
      · refine v_aload_n (q := 176) dX0_letsGo_175 (kk := ?_)
        refine v_getI (q := 179) fX0_54 (by assumption) (hd := dX0_letsGo_176) (kk := ?_)
        rw [e9]
        refine v_bipush (v := 60) (q := 181) dX0_letsGo_179 (kk := ?_)
        refine v_iremN (q := 182) (a := sec) (n := 60) (by omega) (by omega) (by omega) dX0_letsGo_181 (kk := ?_)
        refine v_aload_n (q := 183) dX0_letsGo_182 (kk := ?_)
        refine v_getI (q := 186) fX0_116 (by assumption) (hd := dX0_letsGo_183) (kk := ?_)
        rw [hP 2 (by omega)]
        refine v_bipush (v := 60) (q := 188) dX0_letsGo_186 (kk := ?_)
        refine v_irem (q := 189) dX0_letsGo_188 (by decide) (kk := ?_)
        refine v_icmp_ne 203 (q := 192) dX0_letsGo_189 (kt := fun c3 => ?_) (kf := fun c3 => ?_)
        · refine v_iconst (v := 0) (q := 204) dX0_letsGo_203 (kk := ?_)
          refine v_zret dX0_letsGo_204 rfl (hQ := ?_)
          rw [c0] at hQ
          rwa [hc_zf (by simp [c2, c3])] at hQ
        · refine v_aload_n (q := 193) dX0_letsGo_192 (kk := ?_)
          refine v_getI (q := 196) fX0_100 (by assumption) (hd := dX0_letsGo_193) (kk := ?_)
          rw [hP 3 (by omega)]
          refine v_if_le 203 (q := 199) dX0_letsGo_196 (kt := fun c4 => ?_) (kf := fun c4 => ?_)
          · refine v_iconst (v := 0) (q := 204) dX0_letsGo_203 (kk := ?_)
            refine v_zret dX0_letsGo_204 rfl (hQ := ?_)
            rw [c0] at hQ
            rwa [hc_zf (by simp [c2, Int32.not_lt.mpr c4])] at hQ
          · refine v_iconst (v := 1) (q := 200) dX0_letsGo_199 (kk := ?_)
            refine v_goto 204 dX0_letsGo_200 (kt := ?_)
            refine v_zret dX0_letsGo_204 rfl (hQ := ?_)
            rwa [hc_zt (by simp [c3, Int32.not_le.mp c4])] at hQ
    refine v_tsIn 159 dX0_letsGo_44 (by decide) (by decide) (by rfl) (kt := ?_)
    refine v_iload (q := 161) dX0_letsGo_159 (kk := ?_)
    refine v_if_eqB 170 (q := 164) dX0_letsGo_161 (kt := fun c1 => ?_) (kf := fun c1 => ?_)
    · exact tail (by simp [c1])
    · refine v_iload_n (q := 165) dX0_letsGo_164 (kk := ?_)
      refine v_bipush (v := 50) (q := 167) dX0_letsGo_165 (kk := ?_)
      refine v_icmp_ge 199 (q := 170) dX0_letsGo_167 (kt := fun c3 => ?_) (kf := fun c3 => ?_)
      · refine v_iconst (v := 1) (q := 200) dX0_letsGo_199 (kk := ?_)
        refine v_goto 204 dX0_letsGo_200 (kt := ?_)
        refine v_zret dX0_letsGo_204 rfl (hQ := ?_)
        rwa [hc_zt (by simp [c1, c3])] at hQ
      · exact tail (by simp [c3])
  · have hk1 : N (33 + 6 * p) = 5 := ek
    have hG : goB N np nb sec p = decide (nI (sec % 30) = N (33 + 6 * p + 1)) := by simp [goB, hk1]
    rw [hG] at hQ
    refine v_tsIn 205 dX0_letsGo_44 (by decide) (by decide) (by rfl) (kt := ?_)
    refine v_aload_n (q := 206) dX0_letsGo_205 (kk := ?_)
    refine v_getI (q := 209) fX0_54 (by assumption) (hd := dX0_letsGo_206) (kk := ?_)
    rw [e9]
    refine v_bipush (v := 30) (q := 211) dX0_letsGo_209 (kk := ?_)
    refine v_iremN (q := 212) (a := sec) (n := 30) (by omega) (by omega) (by omega) dX0_letsGo_211 (kk := ?_)
    refine v_aload_n (q := 213) dX0_letsGo_212 (kk := ?_)
    refine v_getI (q := 216) fX0_67 (by assumption) (hd := dX0_letsGo_213) (kk := ?_)
    rw [hP 1 (by omega)]
    refine v_icmp_ne 223 (q := 219) dX0_letsGo_216 (kt := fun c => ?_) (kf := fun c => ?_)
    · refine v_iconst (v := 0) (q := 224) dX0_letsGo_223 (kk := ?_)
      refine v_zret dX0_letsGo_224 rfl (hQ := ?_)
      rwa [hc_zf (by simp [c])] at hQ
    · refine v_iconst (v := 1) (q := 220) dX0_letsGo_219 (kk := ?_)
      refine v_goto 224 dX0_letsGo_220 (kt := ?_)
      refine v_zret dX0_letsGo_224 rfl (hQ := ?_)
      rwa [hc_zt (by simp [c])] at hQ
theorem letsGo_38 {p : Nat} {v : Int32} (hk : HSk S R a) (hd : HD S I R b a N np nb nt) (hw : WF N np nb nt sec) (hp : p < np) (hv : v = hc_b (200 ≤ N (33 + 6 * p + 3))) (hQ : Q (some (.int (hc_z (goB N np nb sec p)))) S I R z) : V g mX0_letsGo 2 0 0 S I R z 38 [some (.ref a), some (.int (nI p)), some (.int (N (9 + sec % nb))), some (.ref (a + 5 + p)), some (.int (hc_b (100 ≤ N (33 + 6 * p + 3)))), none] [.int v] Q := by
  subst hv
  refine v_istore5 (q := 40) dX0_letsGo_38 (kk := ?_)
  exact letsGo_40 hk hd hw hp hQ
theorem letsGo_21 {p : Nat} {v : Int32} (hk : HSk S R a) (hd : HD S I R b a N np nb nt) (hw : WF N np nb nt sec) (hp : p < np) (hv : v = hc_b (100 ≤ N (33 + 6 * p + 3))) (hQ : Q (some (.int (hc_z (goB N np nb sec p)))) S I R z) : V g mX0_letsGo 2 0 0 S I R z 21 [some (.ref a), some (.int (nI p)), some (.int (N (9 + sec % nb))), some (.ref (a + 5 + p)), none, none] [.int v] Q := by
  subst hv
  have hsp := (hk.2.2.2.2.2.2.2.2.2 p (by have := hw.1.2; omega)).1
  refine v_istore4 (q := 23) dX0_letsGo_21 (kk := ?_)
  refine v_aload_n (q := 24) dX0_letsGo_23 (kk := ?_)
  refine v_getI (q := 27) fX0_100 (by assumption) (hd := dX0_letsGo_24) (kk := ?_)
  rw [hd.2.2.1 p hp 3 (by omega)]
  refine v_sipush (v := 200) (q := 30) dX0_letsGo_27 (kk := ?_)
  refine v_icmp_lt 37 (q := 33) dX0_letsGo_30 (kt := fun c => ?_) (kf := fun c => ?_)
  · refine v_iconst (v := 0) (q := 38) dX0_letsGo_37 (kk := ?_)
    exact letsGo_38 hk hd hw hp (hc_bf (Int32.not_le.mpr c)).symm hQ
  · refine v_iconst (v := 1) (q := 34) dX0_letsGo_33 (kk := ?_)
    refine v_goto 38 dX0_letsGo_34 (kt := ?_)
    exact letsGo_38 hk hd hw hp (hc_bt (Int32.not_lt.mp c)).symm hQ
theorem s_letsGo {p : Nat} (hk : HSk S R a) (hd : HD S I R b a N np nb nt) (hw : WF N np nb nt sec) (hp : p < np) (hQ : Q (some (.int (hc_z (goB N np nb sec p)))) S I R z) : Cl g mX0_letsGo 2 0 0 S I R z [.ref a, .int (nI p), .int (N (9 + sec % nb))] Q := by
  have hk' := hk
  obtain ⟨s0, s1, s2, s3, s4, r0, r1, r2, r3, sp⟩ := hk'
  have hnp := hw.1.2
  have hsp := (sp p (by omega)).1
  have hrp := (sp p (by omega)).2
  refine Cl.go [some (.ref a), some (.int (nI p)), some (.int (N (9 + sec % nb))), none, none, none] ?_
  refine v_aload_n (q := 1) dX0_letsGo_0 (kk := ?_)
  refine v_getR (q := 4) fX0_11 (by assumption) (by assumption) (hd := dX0_letsGo_1) (kk := ?_)
  refine v_iload_n (q := 5) dX0_letsGo_4 (kk := ?_)
  refine v_aaldn (q := 6) (by assumption) (by assumption) (by omega) (by omega) (hd := dX0_letsGo_5) (kk := ?_)
  refine v_astore3 (q := 7) dX0_letsGo_6 (kk := ?_)
  refine v_aload_n (q := 8) dX0_letsGo_7 (kk := ?_)
  refine v_getI (q := 11) fX0_100 (by assumption) (hd := dX0_letsGo_8) (kk := ?_)
  rw [hd.2.2.1 p hp 3 (by omega)]
  refine v_bipush (v := 100) (q := 13) dX0_letsGo_11 (kk := ?_)
  refine v_icmp_lt 20 (q := 16) dX0_letsGo_13 (kt := fun c => ?_) (kf := fun c => ?_)
  · refine v_iconst (v := 0) (q := 21) dX0_letsGo_20 (kk := ?_)
    exact letsGo_21 hk hd hw hp (hc_bf (Int32.not_le.mpr c)).symm hQ
  · refine v_iconst (v := 1) (q := 17) dX0_letsGo_16 (kk := ?_)
    refine v_goto 21 dX0_letsGo_17 (kt := ?_)
    exact letsGo_21 hk hd hw hp (hc_bt (Int32.not_lt.mp c)).symm hQ
theorem whoLetsGo_loop (hk : HSk S R a) (hd : HD S I R b a N np nb nt) (hw : WF N np nb nt sec) (hQ : Q (some (.int (nI (setA N np nb sec np)))) S I R z) (k : Nat) : ∀ i, i + k = np → V g mX0_whoLetsGo 3 0 0 S I R z 4 [some (.ref a), some (.int (N (9 + sec % nb))), some (.int (nI (setA N np nb sec i))), some (.int (nI i))] [] Q := by
  have hk' := hk
  obtain ⟨s0, s1, s2, s3, s4, r0, r1, r2, r3, sp⟩ := hk'
  have e : I a 4 = nI np := hd.1.1.trans hw.1.1
  have hnp := hw.1.2
  induction k with
  | zero =>
    intro i hi
    have e2 : i = np := by omega
    subst e2
    refine v_iload_n (q := 5) dX0_whoLetsGo_4 (kk := ?_)
    refine v_aload_n (q := 6) dX0_whoLetsGo_5 (kk := ?_)
    refine v_getI (q := 9) fX0_44 (by assumption) (hd := dX0_whoLetsGo_6) (kk := ?_)
    rw [e]
    refine v_icmp_geT 33 dX0_whoLetsGo_9 (nI_le (Nat.le_refl _) (by omega)) (kt := ?_)
    refine v_iload_n (q := 34) dX0_whoLetsGo_33 (kk := ?_)
    refine v_iret dX0_whoLetsGo_34 (hQ := ?_)
    exact hQ
  | succ k ih =>
    intro i hi
    refine v_iload_n (q := 5) dX0_whoLetsGo_4 (kk := ?_)
    refine v_aload_n (q := 6) dX0_whoLetsGo_5 (kk := ?_)
    refine v_getI (q := 9) fX0_44 (by assumption) (hd := dX0_whoLetsGo_6) (kk := ?_)
    rw [e]
    refine v_icmp_geF (q := 12) (t := 33) dX0_whoLetsGo_9 (nI_ge (by omega) (by omega)) (kf := ?_)
    refine v_aload_n (q := 13) dX0_whoLetsGo_12 (kk := ?_)
    refine v_iload_n (q := 14) dX0_whoLetsGo_13 (kk := ?_)
    refine v_iload_n (q := 15) dX0_whoLetsGo_14 (kk := ?_)
    refine v_cV2 (N := mX0_letsGo) (q := 18) lX0_166 iX0_letsGo kX0_letsGo (by assumption) dX0_whoLetsGo_15 (s_letsGo hk hd hw (by omega) ?_)
    refine v_if_eqZ 27 (q := 21) dX0_whoLetsGo_18 (kt := fun c => ?_) (kf := fun c => ?_)
    · refine v_iinc3 (q := 30) dX0_whoLetsGo_27 (hv := nI_1 i) (kk := ?_)
      refine v_goto 4 dX0_whoLetsGo_30 (kt := ?_)
      have es : setA N np nb sec i = setA N np nb sec (i + 1) := by simp [setA, c]
      rw [es]
      exact ih (i + 1) (by omega)
    · refine v_iload_n (q := 22) dX0_whoLetsGo_21 (kk := ?_)
      refine v_iconst (v := 1) (q := 23) dX0_whoLetsGo_22 (kk := ?_)
      refine v_iload_n (q := 24) dX0_whoLetsGo_23 (kk := ?_)
      refine v_ishl (q := 25) dX0_whoLetsGo_24 (kk := ?_)
      refine v_ior (q := 26) dX0_whoLetsGo_25 (kk := ?_)
      rw [or_nat i (by omega) _ (setA_lt i)]
      refine v_istore2 (q := 27) dX0_whoLetsGo_26 (kk := ?_)
      refine v_iinc3 (q := 30) dX0_whoLetsGo_27 (hv := nI_1 i) (kk := ?_)
      refine v_goto 4 dX0_whoLetsGo_30 (kt := ?_)
      have es : setA N np nb sec i + 2 ^ i = setA N np nb sec (i + 1) := by simp [setA, c]
      rw [es]
      exact ih (i + 1) (by omega)
theorem s_whoLetsGo (hk : HSk S R a) (hd : HD S I R b a N np nb nt) (hw : WF N np nb nt sec) (hQ : Q (some (.int (nI (setA N np nb sec np)))) S I R z) : Cl g mX0_whoLetsGo 3 0 0 S I R z [.ref a, .int (N (9 + sec % nb))] Q := by
  refine Cl.go [some (.ref a), some (.int (N (9 + sec % nb))), none, none] ?_
  refine v_iconst (v := 0) (q := 1) dX0_whoLetsGo_0 (kk := ?_)
  refine v_istore2 (q := 2) dX0_whoLetsGo_1 (kk := ?_)
  refine v_iconst (v := 0) (q := 3) dX0_whoLetsGo_2 (kk := ?_)
  refine v_istore3 (q := 4) dX0_whoLetsGo_3 (kk := ?_)
  exact whoLetsGo_loop hk hd hw hQ np 0 (by omega)
theorem s_bitCount {s : Nat} (hs : s < 1024) (hQ : Q (some (.int (nI (pop10 s)))) S I R z) : Cl g mJ6_bitCount_0f7a4 0 0 0 S I R z [.int (nI s)] Q := by
  rw [← bc_nat s hs] at hQ
  refine Cl.go [some (.int (nI s))] ?_
  refine v_iload_n (q := 1) dJ6_bitCount_0f7a4_0 (kk := ?_)
  refine v_iload_n (q := 2) dJ6_bitCount_0f7a4_1 (kk := ?_)
  refine v_iconst (v := 1) (q := 3) dJ6_bitCount_0f7a4_2 (kk := ?_)
  refine v_iushr (q := 4) dJ6_bitCount_0f7a4_3 (kk := ?_)
  refine v_ldcw (q := 7) cJ6_265 dJ6_bitCount_0f7a4_4 (kk := ?_)
  refine v_iand (q := 8) dJ6_bitCount_0f7a4_7 (kk := ?_)
  refine v_isub (q := 9) dJ6_bitCount_0f7a4_8 (kk := ?_)
  refine v_istore0 (q := 10) dJ6_bitCount_0f7a4_9 (kk := ?_)
  refine v_iload_n (q := 11) dJ6_bitCount_0f7a4_10 (kk := ?_)
  refine v_ldcw (q := 14) cJ6_266 dJ6_bitCount_0f7a4_11 (kk := ?_)
  refine v_iand (q := 15) dJ6_bitCount_0f7a4_14 (kk := ?_)
  refine v_iload_n (q := 16) dJ6_bitCount_0f7a4_15 (kk := ?_)
  refine v_iconst (v := 2) (q := 17) dJ6_bitCount_0f7a4_16 (kk := ?_)
  refine v_iushr (q := 18) dJ6_bitCount_0f7a4_17 (kk := ?_)
  refine v_ldcw (q := 21) cJ6_266 dJ6_bitCount_0f7a4_18 (kk := ?_)
  refine v_iand (q := 22) dJ6_bitCount_0f7a4_21 (kk := ?_)
  refine v_iadd (q := 23) dJ6_bitCount_0f7a4_22 (kk := ?_)
  refine v_istore0 (q := 24) dJ6_bitCount_0f7a4_23 (kk := ?_)
  refine v_iload_n (q := 25) dJ6_bitCount_0f7a4_24 (kk := ?_)
  refine v_iload_n (q := 26) dJ6_bitCount_0f7a4_25 (kk := ?_)
  refine v_iconst (v := 4) (q := 27) dJ6_bitCount_0f7a4_26 (kk := ?_)
  refine v_iushr (q := 28) dJ6_bitCount_0f7a4_27 (kk := ?_)
  refine v_iadd (q := 29) dJ6_bitCount_0f7a4_28 (kk := ?_)
  refine v_ldcw (q := 32) cJ6_267 dJ6_bitCount_0f7a4_29 (kk := ?_)
  refine v_iand (q := 33) dJ6_bitCount_0f7a4_32 (kk := ?_)
  refine v_istore0 (q := 34) dJ6_bitCount_0f7a4_33 (kk := ?_)
  refine v_iload_n (q := 35) dJ6_bitCount_0f7a4_34 (kk := ?_)
  refine v_iload_n (q := 36) dJ6_bitCount_0f7a4_35 (kk := ?_)
  refine v_bipush (v := 8) (q := 38) dJ6_bitCount_0f7a4_36 (kk := ?_)
  refine v_iushr (q := 39) dJ6_bitCount_0f7a4_38 (kk := ?_)
  refine v_iadd (q := 40) dJ6_bitCount_0f7a4_39 (kk := ?_)
  refine v_istore0 (q := 41) dJ6_bitCount_0f7a4_40 (kk := ?_)
  refine v_iload_n (q := 42) dJ6_bitCount_0f7a4_41 (kk := ?_)
  refine v_iload_n (q := 43) dJ6_bitCount_0f7a4_42 (kk := ?_)
  refine v_bipush (v := 16) (q := 45) dJ6_bitCount_0f7a4_43 (kk := ?_)
  refine v_iushr (q := 46) dJ6_bitCount_0f7a4_45 (kk := ?_)
  refine v_iadd (q := 47) dJ6_bitCount_0f7a4_46 (kk := ?_)
  refine v_istore0 (q := 48) dJ6_bitCount_0f7a4_47 (kk := ?_)
  refine v_iload_n (q := 49) dJ6_bitCount_0f7a4_48 (kk := ?_)
  refine v_bipush (v := 63) (q := 51) dJ6_bitCount_0f7a4_49 (kk := ?_)
  refine v_iand (q := 52) dJ6_bitCount_0f7a4_51 (kk := ?_)
  refine v_iret dJ6_bitCount_0f7a4_52 (hQ := ?_)
  exact hQ
end H3
