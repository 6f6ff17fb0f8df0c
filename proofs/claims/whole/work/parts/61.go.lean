def GM (m : Nat) (I I' : hcI) : Prop := (∀ y, y ≠ m → I' y = I y) ∧ ∀ k, k < 7 ∨ 11 < k → I' m k = I m k
theorem GM.rfl {m : Nat} {I : hcI} : GM m I I := ⟨fun _ _ => Eq.refl _, fun _ _ => Eq.refl _⟩
theorem GM.u {m k : Nat} {I I' : hcI} {v : Int32} (h : GM m I I') (hk : 7 ≤ k ∧ k ≤ 11) : GM m I (hc_u I' m k v) := ⟨fun y hy => (hc_u_ne hy).trans (h.1 y hy), fun j hj => by rw [hc_u_at, upd_ne (by omega)]; exact h.2 j hj⟩
theorem GM.trans {m : Nat} {I I' I'' : hcI} (h : GM m I I') (h' : GM m I' I'') : GM m I I'' := ⟨fun y hy => (h'.1 y hy).trans (h.1 y hy), fun k hk => (h'.2 k hk).trans (h.2 k hk)⟩
theorem numF_le {tp : Nat → Int32} {tl q : Nat} (hb : TBt tp tl) : ∀ n, n ≤ 4 → (∀ j, j < n → q + j < tl ∧ bFg (tbF tp (q + j)) = true) → numF tp q n < 10 ^ n
  | 0, _, _ => by simp [numF]
  | n + 1, hn, h => by
    have ih := numF_le hb n (by omega) (fun j hj => h j (by omega))
    have h1 := (h n (by omega)).2
    simp only [bFg, decide_eq_true_eq] at h1
    simp only [numF]
    rw [Nat.pow_succ]
    omega
section L2
variable {g : hcG} {S : hcS} {I : hcI} {R : hcR} {z : Nat} {Q : hcQ} {b m tl : Nat} {tp : Nat → Int32} {e : Int32}
theorem go_skip (hm : MG S R m) (h5 : I (m + 5) = tp) (h6 : I m 6 = nI tl) (htl : tl ≤ 96) (hb : TBt tp tl) (n : Nat) : ∀ (i : Nat) (I1 : hcI), i + n = tl → GM m I I1 → I1 m 7 = nI i → I1 m 11 = e → (∀ I2 : hcI, GM m I I2 → I2 m 7 = nI (scn (fun j => decide (tbF tp j = 32)) n i) → I2 m 11 = e → V g mX7_go 1 0 0 S I2 R z 38 [some (.ref m), none] [] Q) → V g mX7_go 1 0 0 S I1 R z 0 [some (.ref m), none] [] Q := by
  have s0 := hm.s0
  have st := hm.s_tape
  have rt := hm.r_tape
  induction n with
  | zero =>
    intro i I1 hi hG h7 h11 hQ
    have e6 : I1 m 6 = nI tl := (hG.2 6 (by omega)).trans h6
    refine v_aload_n (q := 1) dX7_go_0 (kk := ?_)
    refine v_getI (q := 4) fX7_185 (by assumption) (hd := dX7_go_1) (kk := ?_)
    rw [h7]
    refine v_aload_n (q := 5) dX7_go_4 (kk := ?_)
    refine v_getI (q := 8) fX7_181 (by assumption) (hd := dX7_go_5) (kk := ?_)
    rw [e6]
    refine v_icmp_geT 38 dX7_go_8 (nI_le (by omega) (by omega)) (kt := ?_)
    exact hQ I1 hG h7 h11
  | succ n ih =>
    intro i I1 hi hG h7 h11 hQ
    have e6 : I1 m 6 = nI tl := (hG.2 6 (by omega)).trans h6
    have e5 : I1 (m + 5) = tp := (hG.1 _ (by omega)).trans h5
    obtain ⟨b1, b2⟩ := hb i (by omega)
    simp only [scn] at hQ
    refine v_aload_n (q := 1) dX7_go_0 (kk := ?_)
    refine v_getI (q := 4) fX7_185 (by assumption) (hd := dX7_go_1) (kk := ?_)
    rw [h7]
    refine v_aload_n (q := 5) dX7_go_4 (kk := ?_)
    refine v_getI (q := 8) fX7_181 (by assumption) (hd := dX7_go_5) (kk := ?_)
    rw [e6]
    refine v_icmp_geF (q := 11) (t := 38) dX7_go_8 (fun h => by have := (nI_leI (by omega) (by omega)).mp h; omega) (kf := ?_)
    refine v_aload_n (q := 12) dX7_go_11 (kk := ?_)
    refine v_getR (q := 15) fX7_22 (by assumption) (by assumption) (hd := dX7_go_12) (kk := ?_)
    refine v_aload_n (q := 16) dX7_go_15 (kk := ?_)
    refine v_getI (q := 19) fX7_185 (by assumption) (hd := dX7_go_16) (kk := ?_)
    rw [h7]
    refine v_ialdE (q := 20) (i) (by rfl) (by assumption) (by omega) (by omega) (hd := dX7_go_19) (kk := ?_)
    rw [e5, b1]
    refine v_bipush (v := 32) (q := 22) dX7_go_20 (kk := ?_)
    by_cases c : tbF tp i = 32
    · rw [if_pos (decide_eq_true c)] at hQ
      refine v_icmp_neF (q := 25) (t := 38) dX7_go_22 (by rw [c]; rfl) (kf := ?_)
      refine v_aload_n (q := 26) dX7_go_25 (kk := ?_)
      refine v_dup (q := 27) dX7_go_26 (kk := ?_)
      refine v_getI (q := 30) fX7_185 (by assumption) (hd := dX7_go_27) (kk := ?_)
      rw [h7]
      refine v_iconst (v := 1) (q := 31) dX7_go_30 (kk := ?_)
      refine v_iadd (q := 32) dX7_go_31 (kk := ?_)
      rw [nI_1]
      refine v_putI (q := 35) fX7_185 (by assumption) (hd := dX7_go_32) (kk := ?_)
      refine v_goto 0 dX7_go_35 (kt := ?_)
      exact ih (i + 1) _ (by omega) (hG.u (by omega)) (by rw [hc_u_at, upd_at]) (by rw [hc_u_at, upd_ne (by omega)]; exact h11) hQ
    · rw [if_neg (by simpa using c)] at hQ
      refine v_icmp_neT 38 dX7_go_22 (fun h => c ((nI_eq (b := 32) (by omega) (by omega)).mp h)) (kt := ?_)
      exact hQ I1 hG h7 h11
theorem go_let {o : Option Value} {q : Nat} (hm : MG S R m) (h5 : I (m + 5) = tp) (h6 : I m 6 = nI tl) (htl : tl ≤ 96) (hb : TBt tp tl) (n : Nat) : ∀ (i : Nat) (I1 : hcI), i + n = tl → GM m I I1 → I1 m 7 = nI i → I1 m 8 = nI q → (∀ I2 : hcI, GM m I I2 → I2 m 7 = nI (scn (fun j => bLt (tbF tp j)) n i) → I2 m 8 = nI q → V g mX7_go 1 0 0 S I2 R z 117 [some (.ref m), o] [] Q) → V g mX7_go 1 0 0 S I1 R z 93 [some (.ref m), o] [] Q := by
  have s0 := hm.s0
  induction n with
  | zero =>
    intro i I1 hi hG h7 h8 hQ
    have e6 : I1 m 6 = nI tl := (hG.2 6 (by omega)).trans h6
    have e5 : I1 (m + 5) = tp := (hG.1 _ (by omega)).trans h5
    refine v_aload_n (q := 94) dX7_go_93 (kk := ?_)
    refine v_aload_n (q := 95) dX7_go_94 (kk := ?_)
    refine v_getI (q := 98) fX7_185 (by assumption) (hd := dX7_go_95) (kk := ?_)
    rw [h7]
    refine v_cV1 (N := mX7_isLetter) (q := 101) lX7_197 iX7_isLetter kX7_isLetter (by assumption) dX7_go_98 (s_isLetter hm e5 e6 htl hb (by omega) ?_)
    rw [show (decide (i < tl) && bLt (tbF tp i)) = false by simp [show ¬ i < tl by omega]]
    refine v_if_eqT 117 dX7_go_101 (rfl) (kt := ?_)
    exact hQ I1 hG h7 h8
  | succ n ih =>
    intro i I1 hi hG h7 h8 hQ
    have e6 : I1 m 6 = nI tl := (hG.2 6 (by omega)).trans h6
    have e5 : I1 (m + 5) = tp := (hG.1 _ (by omega)).trans h5
    simp only [scn] at hQ
    refine v_aload_n (q := 94) dX7_go_93 (kk := ?_)
    refine v_aload_n (q := 95) dX7_go_94 (kk := ?_)
    refine v_getI (q := 98) fX7_185 (by assumption) (hd := dX7_go_95) (kk := ?_)
    rw [h7]
    refine v_cV1 (N := mX7_isLetter) (q := 101) lX7_197 iX7_isLetter kX7_isLetter (by assumption) dX7_go_98 (s_isLetter hm e5 e6 htl hb (by omega) ?_)
    rw [show (decide (i < tl) && bLt (tbF tp i)) = bLt (tbF tp i) by simp [show i < tl by omega]]
    refine v_if_eqZ 117 (q := 104) dX7_go_101 (kt := fun c => ?_) (kf := fun c => ?_)
    · rw [if_neg (by rw [c]; decide)] at hQ
      exact hQ I1 hG h7 h8
    · rw [if_pos c] at hQ
      refine v_aload_n (q := 105) dX7_go_104 (kk := ?_)
      refine v_dup (q := 106) dX7_go_105 (kk := ?_)
      refine v_getI (q := 109) fX7_185 (by assumption) (hd := dX7_go_106) (kk := ?_)
      rw [h7]
      refine v_iconst (v := 1) (q := 110) dX7_go_109 (kk := ?_)
      refine v_iadd (q := 111) dX7_go_110 (kk := ?_)
      rw [nI_1]
      refine v_putI (q := 114) fX7_185 (by assumption) (hd := dX7_go_111) (kk := ?_)
      refine v_goto 93 dX7_go_114 (kt := ?_)
      exact ih (i + 1) _ (by omega) (hG.u (by omega)) (by rw [hc_u_at, upd_at]) (by rw [hc_u_at, upd_ne (by omega)]; exact h8) hQ
theorem go_fig {o : Option Value} {q : Nat} (hm : MG S R m) (h5 : I (m + 5) = tp) (h6 : I m 6 = nI tl) (htl : tl ≤ 96) (hb : TBt tp tl) (n : Nat) : ∀ (i : Nat) (I1 : hcI), i + n = tl → q ≤ i → (∀ j, q ≤ j → j < i → bFg (tbF tp j) = true) → GM m I I1 → I1 m 7 = nI i → I1 m 8 = nI q → I1 m 10 = nI (numF tp q (min (i - q) 4)) → (∀ I2 : hcI, GM m I I2 → I2 m 7 = nI (scn (fun j => bFg (tbF tp j)) n i) → I2 m 8 = nI q → I2 m 10 = nI (numF tp q (min (scn (fun j => bFg (tbF tp j)) n i - q) 4)) → V g mX7_go 1 0 0 S I2 R z 238 [some (.ref m), o] [] Q) → V g mX7_go 1 0 0 S I1 R z 170 [some (.ref m), o] [] Q := by
  have s0 := hm.s0
  have st := hm.s_tape
  have rt := hm.r_tape
  induction n with
  | zero =>
    intro i I1 hi hq hfg hG h7 h8 h10 hQ
    have e6 : I1 m 6 = nI tl := (hG.2 6 (by omega)).trans h6
    have e5 : I1 (m + 5) = tp := (hG.1 _ (by omega)).trans h5
    refine v_aload_n (q := 171) dX7_go_170 (kk := ?_)
    refine v_aload_n (q := 172) dX7_go_171 (kk := ?_)
    refine v_getI (q := 175) fX7_185 (by assumption) (hd := dX7_go_172) (kk := ?_)
    rw [h7]
    refine v_cV1 (N := mX7_isFigure) (q := 178) lX7_203 iX7_isFigure kX7_isFigure (by assumption) dX7_go_175 (s_isFigure hm e5 e6 htl hb (by omega) ?_)
    rw [show (decide (i < tl) && bFg (tbF tp i)) = false by simp [show ¬ i < tl by omega]]
    refine v_if_eqT 238 dX7_go_178 (rfl) (kt := ?_)
    exact hQ I1 hG h7 h8 h10
  | succ n ih =>
    intro i I1 hi hq hfg hG h7 h8 h10 hQ
    have e6 : I1 m 6 = nI tl := (hG.2 6 (by omega)).trans h6
    have e5 : I1 (m + 5) = tp := (hG.1 _ (by omega)).trans h5
    obtain ⟨b1, b2⟩ := hb i (by omega)
    simp only [scn] at hQ
    refine v_aload_n (q := 171) dX7_go_170 (kk := ?_)
    refine v_aload_n (q := 172) dX7_go_171 (kk := ?_)
    refine v_getI (q := 175) fX7_185 (by assumption) (hd := dX7_go_172) (kk := ?_)
    rw [h7]
    refine v_cV1 (N := mX7_isFigure) (q := 178) lX7_203 iX7_isFigure kX7_isFigure (by assumption) dX7_go_175 (s_isFigure hm e5 e6 htl hb (by omega) ?_)
    rw [show (decide (i < tl) && bFg (tbF tp i)) = bFg (tbF tp i) by simp [show i < tl by omega]]
    refine v_if_eqZ 238 (q := 181) dX7_go_178 (kt := fun c => ?_) (kf := fun c => ?_)
    · rw [if_neg (by rw [c]; decide)] at hQ
      exact hQ I1 hG h7 h8 h10
    · rw [if_pos c] at hQ
      have c48 : 48 ≤ tbF tp i ∧ tbF tp i ≤ 57 := by simpa [bFg] using c
      have tail : V g mX7_go 1 0 0 S I1 R z 222 [some (.ref m), o] [.int (nI (numF tp q (min (i + 1 - q) 4))), .ref m] Q := by
        refine v_putI (q := 225) fX7_200 (by assumption) (hd := dX7_go_222) (kk := ?_)
        refine v_aload_n (q := 226) dX7_go_225 (kk := ?_)
        refine v_dup (q := 227) dX7_go_226 (kk := ?_)
        refine v_getI (q := 230) fX7_185 (by assumption) (hd := dX7_go_227) (kk := ?_)
        rw [hc_u_at, upd_ne (by omega), h7]
        refine v_iconst (v := 1) (q := 231) dX7_go_230 (kk := ?_)
        refine v_iadd (q := 232) dX7_go_231 (kk := ?_)
        rw [nI_1]
        refine v_putI (q := 235) fX7_185 (by assumption) (hd := dX7_go_232) (kk := ?_)
        refine v_goto 170 dX7_go_235 (kt := ?_)
        refine ih (i + 1) _ (by omega) (by omega) (fun j h1 h2 => ?_) ((hG.u (by omega)).u (by omega)) (by rw [hc_u_at, upd_at]) (by rw [hc_u_at, upd_ne (by omega), hc_u_at, upd_ne (by omega)]; exact h8) (by rw [hc_u_at, upd_ne (by omega), hc_u_at, upd_at]) hQ
        by_cases ej : j = i
        · rw [ej]; exact c
        · exact hfg j h1 (by omega)
      refine v_aload_n (q := 182) dX7_go_181 (kk := ?_)
      refine v_aload_n (q := 183) dX7_go_182 (kk := ?_)
      refine v_getI (q := 186) fX7_185 (by assumption) (hd := dX7_go_183) (kk := ?_)
      rw [h7]
      refine v_aload_n (q := 187) dX7_go_186 (kk := ?_)
      refine v_getI (q := 190) fX7_188 (by assumption) (hd := dX7_go_187) (kk := ?_)
      rw [h8]
      refine v_isub (q := 191) dX7_go_190 (kk := ?_)
      rw [pk_sub hq]
      refine v_iconst (v := 4) (q := 192) dX7_go_191 (kk := ?_)
      by_cases c4 : i - q < 4
      · have hnum : numF tp q (min (i + 1 - q) 4) = 10 * numF tp q (i - q) + (tbF tp i - 48) := by
          rw [show min (i + 1 - q) 4 = (i - q) + 1 by omega]
          simp only [numF]
          rw [show q + (i - q) = i by omega]
        rw [show min (i - q) 4 = i - q by omega] at h10
        refine v_icmp_geF (q := 195) (t := 218) dX7_go_192 (fun h => by have := (nI_leI (a := 4) (by omega) (by omega)).mp h; omega) (kf := ?_)
        refine v_bipush (v := 10) (q := 197) dX7_go_195 (kk := ?_)
        refine v_aload_n (q := 198) dX7_go_197 (kk := ?_)
        refine v_getI (q := 201) fX7_200 (by assumption) (hd := dX7_go_198) (kk := ?_)
        rw [h10]
        refine v_imul (q := 202) dX7_go_201 (kk := ?_)
        refine v_aload_n (q := 203) dX7_go_202 (kk := ?_)
        refine v_getR (q := 206) fX7_22 (by assumption) (by assumption) (hd := dX7_go_203) (kk := ?_)
        refine v_aload_n (q := 207) dX7_go_206 (kk := ?_)
        refine v_getI (q := 210) fX7_185 (by assumption) (hd := dX7_go_207) (kk := ?_)
        rw [h7]
        refine v_ialdE (q := 211) (i) (by rfl) (by assumption) (by omega) (by omega) (hd := dX7_go_210) (kk := ?_)
        rw [e5, b1]
        refine v_iadd (q := 212) dX7_go_211 (kk := ?_)
        refine v_bipush (v := 48) (q := 214) dX7_go_212 (kk := ?_)
        refine v_isub (q := 215) dX7_go_214 (kk := ?_)
        rw [show (10 : Int32) * nI (numF tp q (i - q)) + nI (tbF tp i) - 48 = nI (numF tp q (min (i + 1 - q) 4)) by
          rw [hnum, show (10 : Int32) = nI 10 from rfl, pk_mul, nI_add, show (48 : Int32) = nI 48 from rfl, pk_sub (by omega)]
          congr 1
          omega]
        refine v_goto 222 dX7_go_215 (kt := ?_)
        exact tail
      · refine v_icmp_geT 218 dX7_go_192 (nI_le (a := 4) (by omega) (by omega)) (kt := ?_)
        refine v_aload_n (q := 219) dX7_go_218 (kk := ?_)
        refine v_getI (q := 222) fX7_200 (by assumption) (hd := dX7_go_219) (kk := ?_)
        rw [h10, show min (i - q) 4 = min (i + 1 - q) 4 by omega]
        exact tail
theorem s_go {p : Nat} (hm : MG S R m) (h5 : I (m + 5) = tp) (h6 : I m 6 = nI tl) (htl : tl ≤ 96) (hb : TBt tp tl) (hp : p ≤ tl) (h7 : I m 7 = nI p) (h11 : I m 11 = e) (hQ : ∀ I' : hcI, GM m I I' → I' m 7 = nI (lxR tp tl p) → I' m 8 = nI (lxQ tp tl p) → I' m 9 = nI (lxK tp tl p e) → I' m 11 = lxE tp tl p e → (lxK tp tl p e = 1 ∨ lxK tp tl p e = 3 → I' m 10 = nI (tbF tp (lxQ tp tl p))) → (lxK tp tl p e = 2 → I' m 10 = nI (numF tp (lxQ tp tl p) (lxR tp tl p - lxQ tp tl p))) → Q none S I' R z) : Cl g mX7_go 1 0 0 S I R z [.ref m] Q := by
  have s0 := hm.s0
  have st := hm.s_tape
  have rt := hm.r_tape
  have hq := scn_ge (fun j => decide (tbF tp j = 32)) (tl - p) p
  refine Cl.go [some (.ref m), none] ?_
  refine go_skip hm h5 h6 htl hb (tl - p) p I (by omega) GM.rfl h7 h11 (fun I1 hG1 a7 a11 => ?_)
  have hQq : lxQ tp tl p = scn (fun j => decide (tbF tp j = 32)) (tl - p) p := rfl
  rw [← hQq] at a7 hq
  obtain ⟨q, hqq⟩ : ∃ q, lxQ tp tl p = q := ⟨_, rfl⟩
  rw [hqq] at a7 hq hQ
  have a5 : I1 (m + 5) = tp := (hG1.1 _ (by omega)).trans h5
  have a6 : I1 m 6 = nI tl := (hG1.2 6 (by omega)).trans h6
  obtain ⟨I2, hI2⟩ : ∃ I2, hc_u I1 m 8 (nI q) = I2 := ⟨_, rfl⟩
  have hG2 : GM m I I2 := by rw [← hI2]; exact hG1.u (by omega)
  have c7 : I2 m 7 = nI q := by rw [← hI2, hc_u_at, upd_ne (by omega)]; exact a7
  have c8 : I2 m 8 = nI q := by rw [← hI2, hc_u_at, upd_at]
  have c11 : I2 m 11 = e := by rw [← hI2, hc_u_at, upd_ne (by omega)]; exact a11
  have c5 : I2 (m + 5) = tp := (hG2.1 _ (by omega)).trans h5
  have c6 : I2 m 6 = nI tl := (hG2.2 6 (by omega)).trans h6
  refine v_aload_n (q := 39) dX7_go_38 (kk := ?_)
  refine v_aload_n (q := 40) dX7_go_39 (kk := ?_)
  refine v_getI (q := 43) fX7_185 (by assumption) (hd := dX7_go_40) (kk := ?_)
  rw [a7]
  refine v_putI (q := 46) fX7_188 (by assumption) (hd := dX7_go_43) (kk := ?_)
  rw [hI2]
  have main : V g mX7_go 1 0 0 S I2 R z 62 [some (.ref m), none] [.int (hc_z (decide (nI q = e)))] Q := by
    refine v_istore1 (q := 63) dX7_go_62 (kk := ?_)
    refine v_aload_n (q := 64) dX7_go_63 (kk := ?_)
    refine v_getI (q := 67) fX7_188 (by assumption) (hd := dX7_go_64) (kk := ?_)
    rw [c8]
    refine v_aload_n (q := 68) dX7_go_67 (kk := ?_)
    refine v_getI (q := 71) fX7_181 (by assumption) (hd := dX7_go_68) (kk := ?_)
    rw [c6]
    by_cases ct : q = tl
    · have r0 : lxR tp tl p = tl := by unfold lxR; rw [hqq, if_pos ct]
      have k0 : lxK tp tl p e = 0 := by unfold lxK; rw [hqq, if_pos ct]
      have e0 : lxE tp tl p e = e := by unfold lxE; rw [hqq, if_pos ct]
      rw [r0, k0, e0] at hQ
      refine v_icmp_neF (q := 74) (t := 82) dX7_go_71 (by rw [ct]) (kf := ?_)
      refine v_aload_n (q := 75) dX7_go_74 (kk := ?_)
      refine v_iconst (v := 0) (q := 76) dX7_go_75 (kk := ?_)
      refine v_putI (q := 79) fX7_194 (by assumption) (hd := dX7_go_76) (kk := ?_)
      refine v_goto 303 dX7_go_79 (kt := ?_)
      refine v_vret dX7_go_303 (hQ := ?_)
      exact hQ _ (hG2.u (by omega)) (by rw [hc_u_at, upd_ne (by omega), c7, ct]) (by rw [hc_u_at, upd_ne (by omega), c8]) (by rw [hc_u_at, upd_at]; rfl) (by rw [hc_u_at, upd_ne (by omega), c11]) (fun h => by omega) (fun h => by omega)
    · refine v_icmp_neT 82 dX7_go_71 (fun h => ct ((nI_eq (by omega) (by omega)).mp h)) (kt := ?_)
      refine v_aload_n (q := 83) dX7_go_82 (kk := ?_)
      refine v_aload_n (q := 84) dX7_go_83 (kk := ?_)
      refine v_getI (q := 87) fX7_188 (by assumption) (hd := dX7_go_84) (kk := ?_)
      rw [c8]
      refine v_cV1 (N := mX7_isLetter) (q := 90) lX7_197 iX7_isLetter kX7_isLetter (by assumption) dX7_go_87 (s_isLetter hm c5 c6 htl hb (by omega) ?_)
      rw [show (decide (q < tl) && bLt (tbF tp q)) = bLt (tbF tp q) by simp [show q < tl by omega]]
      refine v_if_eqZ 154 (q := 93) dX7_go_90 (kt := fun c1 => ?_) (kf := fun c1 => ?_)
      · refine v_aload_n (q := 155) dX7_go_154 (kk := ?_)
        refine v_aload_n (q := 156) dX7_go_155 (kk := ?_)
        refine v_getI (q := 159) fX7_188 (by assumption) (hd := dX7_go_156) (kk := ?_)
        rw [c8]
        refine v_cV1 (N := mX7_isFigure) (q := 162) lX7_203 iX7_isFigure kX7_isFigure (by assumption) dX7_go_159 (s_isFigure hm c5 c6 htl hb (by omega) ?_)
        rw [show (decide (q < tl) && bFg (tbF tp q)) = bFg (tbF tp q) by simp [show q < tl by omega]]
        refine v_if_eqZ 275 (q := 165) dX7_go_162 (kt := fun c2 => ?_) (kf := fun c2 => ?_)
        · obtain ⟨b1, b2⟩ := hb q (by omega)
          have r0 : lxR tp tl p = q + 1 := by unfold lxR; rw [hqq, if_neg ct, if_neg (by rw [c1]; decide), if_neg (by rw [c2]; decide)]
          have k0 : lxK tp tl p e = 3 := by unfold lxK; rw [hqq, if_neg ct, if_neg (by rw [c1]; decide), if_neg (by rw [c2]; decide)]
          have e0 : lxE tp tl p e = e := by unfold lxE; rw [hqq, if_neg ct, if_neg (by rw [c1, c2]; simp)]
          rw [r0, k0, e0] at hQ
          refine v_aload_n (q := 276) dX7_go_275 (kk := ?_)
          refine v_iconst (v := 3) (q := 277) dX7_go_276 (kk := ?_)
          refine v_putI (q := 280) fX7_194 (by assumption) (hd := dX7_go_277) (kk := ?_)
          refine v_aload_n (q := 281) dX7_go_280 (kk := ?_)
          refine v_aload_n (q := 282) dX7_go_281 (kk := ?_)
          refine v_getR (q := 285) fX7_22 (by assumption) (by assumption) (hd := dX7_go_282) (kk := ?_)
          refine v_aload_n (q := 286) dX7_go_285 (kk := ?_)
          refine v_getI (q := 289) fX7_188 (by assumption) (hd := dX7_go_286) (kk := ?_)
          rw [hc_u_at, upd_ne (by omega), c8]
          refine v_ialdE (q := 290) (q) (by rfl) (by assumption) (by omega) (by omega) (hd := dX7_go_289) (kk := ?_)
          rw [hc_u_ne (by omega), c5, b1]
          refine v_putI (q := 293) fX7_200 (by assumption) (hd := dX7_go_290) (kk := ?_)
          refine v_aload_n (q := 294) dX7_go_293 (kk := ?_)
          refine v_dup (q := 295) dX7_go_294 (kk := ?_)
          refine v_getI (q := 298) fX7_185 (by assumption) (hd := dX7_go_295) (kk := ?_)
          rw [hc_u_at, upd_ne (by omega), hc_u_at, upd_ne (by omega), c7]
          refine v_iconst (v := 1) (q := 299) dX7_go_298 (kk := ?_)
          refine v_iadd (q := 300) dX7_go_299 (kk := ?_)
          rw [nI_1]
          refine v_putI (q := 303) fX7_185 (by assumption) (hd := dX7_go_300) (kk := ?_)
          refine v_vret dX7_go_303 (hQ := ?_)
          refine hQ _ (((hG2.u (by omega)).u (by omega)).u (by omega)) ?_ ?_ ?_ ?_ (fun _ => ?_) (fun h => by omega)
          · rw [hc_u_at, upd_at]
          · rw [hc_u_at, upd_ne (by omega), hc_u_at, upd_ne (by omega), hc_u_at, upd_ne (by omega), c8]
          · rw [hc_u_at, upd_ne (by omega), hc_u_at, upd_ne (by omega), hc_u_at, upd_at]; rfl
          · rw [hc_u_at, upd_ne (by omega), hc_u_at, upd_ne (by omega), hc_u_at, upd_ne (by omega), c11]
          · rw [hc_u_at, upd_ne (by omega), hc_u_at, upd_at]
        · have r0 : lxR tp tl p = scn (fun j => bFg (tbF tp j)) (tl - q) q := by unfold lxR; rw [hqq, if_neg ct, if_neg (by rw [c1]; decide), if_pos c2]
          have e0 : lxE tp tl p e = nI (lxR tp tl p) := by unfold lxE; rw [hqq, if_neg ct, if_pos (Or.inr c2)]
          have k0 : lxK tp tl p e = if nI q = e ∨ 4 < lxR tp tl p - q then 4 else 2 := by unfold lxK; rw [hqq, if_neg ct, if_neg (by rw [c1]; decide), if_pos c2]
          have hr := scn_ge (fun j => bFg (tbF tp j)) (tl - q) q
          rw [← r0] at hr
          rw [e0] at hQ
          refine v_aload_n (q := 166) dX7_go_165 (kk := ?_)
          refine v_iconst (v := 0) (q := 167) dX7_go_166 (kk := ?_)
          refine v_putI (q := 170) fX7_200 (by assumption) (hd := dX7_go_167) (kk := ?_)
          refine go_fig (I := I) hm h5 h6 htl hb (tl - q) q _ (by omega) (Nat.le_refl _) (fun j h1 h2 => by omega) (hG2.u (by omega)) (by rw [hc_u_at, upd_ne (by omega)]; exact c7) (by rw [hc_u_at, upd_ne (by omega)]; exact c8) (by rw [hc_u_at, upd_at, show min (q - q) 4 = 0 by omega]; rfl) (fun I3 hG3 d7 d8 d10 => ?_)
          rw [← r0] at d7 d10
          obtain ⟨r, hrr⟩ : ∃ r, lxR tp tl p = r := ⟨_, rfl⟩
          rw [hrr] at d7 d10 hr hQ k0
          have fin : ∀ k, lxK tp tl p e = k → (k = 4 ∨ (k = 2 ∧ r - q ≤ 4)) → V g mX7_go 1 0 0 S I3 R z 261 [some (.ref m), some (.int (hc_z (decide (nI q = e))))] [.int (nI k), .ref m] Q := by
            intro k hk hk2
            rw [hk] at hQ
            refine v_putI (q := 264) fX7_194 (by assumption) (hd := dX7_go_261) (kk := ?_)
            refine v_aload_n (q := 265) dX7_go_264 (kk := ?_)
            refine v_aload_n (q := 266) dX7_go_265 (kk := ?_)
            refine v_getI (q := 269) fX7_185 (by assumption) (hd := dX7_go_266) (kk := ?_)
            rw [hc_u_at, upd_ne (by omega), d7]
            refine v_putI (q := 272) fX7_191 (by assumption) (hd := dX7_go_269) (kk := ?_)
            refine v_goto 303 dX7_go_272 (kt := ?_)
            refine v_vret dX7_go_303 (hQ := ?_)
            refine hQ _ ((hG3.u (by omega)).u (by omega)) ?_ ?_ ?_ ?_ (fun h => by omega) (fun h => ?_)
            · rw [hc_u_at, upd_ne (by omega), hc_u_at, upd_ne (by omega), d7]
            · rw [hc_u_at, upd_ne (by omega), hc_u_at, upd_ne (by omega), d8]
            · rw [hc_u_at, upd_ne (by omega), hc_u_at, upd_at]
            · rw [hc_u_at, upd_at]
            · rw [hc_u_at, upd_ne (by omega), hc_u_at, upd_ne (by omega), d10, show min (r - q) 4 = r - q by omega]
          refine v_aload_n (q := 239) dX7_go_238 (kk := ?_)
          refine v_iload_n (q := 240) dX7_go_239 (kk := ?_)
          refine v_if_neZ 256 (q := 243) dX7_go_240 (kt := fun cc => ?_) (kf := fun cc => ?_)
          · have cc' := of_decide_eq_true cc
            refine v_iconst (v := 4) (q := 257) dX7_go_256 (kk := ?_)
            refine v_goto 261 dX7_go_257 (kt := ?_)
            exact fin 4 (by rw [k0, if_pos (Or.inl cc')]) (Or.inl rfl)
          · have cc' := of_decide_eq_false cc
            refine v_aload_n (q := 244) dX7_go_243 (kk := ?_)
            refine v_getI (q := 247) fX7_185 (by assumption) (hd := dX7_go_244) (kk := ?_)
            rw [d7]
            refine v_aload_n (q := 248) dX7_go_247 (kk := ?_)
            refine v_getI (q := 251) fX7_188 (by assumption) (hd := dX7_go_248) (kk := ?_)
            rw [d8]
            refine v_isub (q := 252) dX7_go_251 (kk := ?_)
            rw [pk_sub hr.1]
            refine v_iconst (v := 4) (q := 253) dX7_go_252 (kk := ?_)
            by_cases c4 : r - q ≤ 4
            · refine v_icmp_leT 260 dX7_go_253 (nI_le (b := 4) c4 (by omega)) (kt := ?_)
              refine v_iconst (v := 2) (q := 261) dX7_go_260 (kk := ?_)
              exact fin 2 (by rw [k0, if_neg (by rintro (h | h); exact cc' h; omega)]) (Or.inr ⟨rfl, c4⟩)
            · refine v_icmp_leF (q := 256) (t := 260) dX7_go_253 (fun h => c4 ((nI_leI (b := 4) (by omega) (by omega)).mp h)) (kf := ?_)
              refine v_iconst (v := 4) (q := 257) dX7_go_256 (kk := ?_)
              refine v_goto 261 dX7_go_257 (kt := ?_)
              exact fin 4 (by rw [k0, if_pos (Or.inr (by omega))]) (Or.inl rfl)
      · have r0 : lxR tp tl p = scn (fun j => bLt (tbF tp j)) (tl - q) q := by unfold lxR; rw [hqq, if_neg ct, if_pos c1]
        have e0 : lxE tp tl p e = nI (lxR tp tl p) := by unfold lxE; rw [hqq, if_neg ct, if_pos (Or.inl c1)]
        have k0 : lxK tp tl p e = if nI q = e then 4 else 1 := by unfold lxK; rw [hqq, if_neg ct, if_pos c1]
        obtain ⟨b1, b2⟩ := hb q (by omega)
        rw [e0] at hQ
        refine go_let (I := I) hm h5 h6 htl hb (tl - q) q I2 (by omega) hG2 c7 c8 (fun I3 hG3 d7 d8 => ?_)
        rw [← r0] at d7
        have d5 : I3 (m + 5) = tp := (hG3.1 _ (by omega)).trans h5
        have fin : ∀ k, lxK tp tl p e = k → (k = 4 ∨ k = 1) → V g mX7_go 1 0 0 S I3 R z 127 [some (.ref m), some (.int (hc_z (decide (nI q = e))))] [.int (nI k), .ref m] Q := by
          intro k hk hk2
          rw [hk] at hQ
          refine v_putI (q := 130) fX7_194 (by assumption) (hd := dX7_go_127) (kk := ?_)
          refine v_aload_n (q := 131) dX7_go_130 (kk := ?_)
          refine v_aload_n (q := 132) dX7_go_131 (kk := ?_)
          refine v_getR (q := 135) fX7_22 (by assumption) (by assumption) (hd := dX7_go_132) (kk := ?_)
          refine v_aload_n (q := 136) dX7_go_135 (kk := ?_)
          refine v_getI (q := 139) fX7_188 (by assumption) (hd := dX7_go_136) (kk := ?_)
          rw [hc_u_at, upd_ne (by omega), d8]
          refine v_ialdE (q := 140) (q) (by rfl) (by assumption) (by omega) (by omega) (hd := dX7_go_139) (kk := ?_)
          rw [hc_u_ne (by omega), d5, b1]
          refine v_putI (q := 143) fX7_200 (by assumption) (hd := dX7_go_140) (kk := ?_)
          refine v_aload_n (q := 144) dX7_go_143 (kk := ?_)
          refine v_aload_n (q := 145) dX7_go_144 (kk := ?_)
          refine v_getI (q := 148) fX7_185 (by assumption) (hd := dX7_go_145) (kk := ?_)
          rw [hc_u_at, upd_ne (by omega), hc_u_at, upd_ne (by omega), d7]
          refine v_putI (q := 151) fX7_191 (by assumption) (hd := dX7_go_148) (kk := ?_)
          refine v_goto 303 dX7_go_151 (kt := ?_)
          refine v_vret dX7_go_303 (hQ := ?_)
          refine hQ _ (((hG3.u (by omega)).u (by omega)).u (by omega)) ?_ ?_ ?_ ?_ (fun h => ?_) (fun h => by omega)
          · rw [hc_u_at, upd_ne (by omega), hc_u_at, upd_ne (by omega), hc_u_at, upd_ne (by omega), d7]
          · rw [hc_u_at, upd_ne (by omega), hc_u_at, upd_ne (by omega), hc_u_at, upd_ne (by omega), d8]
          · rw [hc_u_at, upd_ne (by omega), hc_u_at, upd_ne (by omega), hc_u_at, upd_at]
          · rw [hc_u_at, upd_at]
          · rw [hc_u_at, upd_ne (by omega), hc_u_at, upd_at]
        refine v_aload_n (q := 118) dX7_go_117 (kk := ?_)
        refine v_iload_n (q := 119) dX7_go_118 (kk := ?_)
        refine v_if_eqZ 126 (q := 122) dX7_go_119 (kt := fun cc => ?_) (kf := fun cc => ?_)
        · have cc' := of_decide_eq_false cc
          refine v_iconst (v := 1) (q := 127) dX7_go_126 (kk := ?_)
          exact fin 1 (by rw [k0, if_neg cc']) (Or.inr rfl)
        · have cc' := of_decide_eq_true cc
          refine v_iconst (v := 4) (q := 123) dX7_go_122 (kk := ?_)
          refine v_goto 127 dX7_go_123 (kt := ?_)
          exact fin 4 (by rw [k0, if_pos cc']) (Or.inl rfl)
  refine v_aload_n (q := 47) dX7_go_46 (kk := ?_)
  refine v_getI (q := 50) fX7_188 (by assumption) (hd := dX7_go_47) (kk := ?_)
  rw [c8]
  refine v_aload_n (q := 51) dX7_go_50 (kk := ?_)
  refine v_getI (q := 54) fX7_191 (by assumption) (hd := dX7_go_51) (kk := ?_)
  rw [c11]
  refine v_icmp_ne 61 (q := 57) dX7_go_54 (kt := fun cc => ?_) (kf := fun cc => ?_)
  · rw [show decide (nI q = e) = false from decide_eq_false cc] at main
    refine v_iconst (v := 0) (q := 62) dX7_go_61 (kk := ?_)
    exact main
  · rw [show decide (nI q = e) = true from decide_eq_true cc] at main
    refine v_iconst (v := 1) (q := 58) dX7_go_57 (kk := ?_)
    refine v_goto 62 dX7_go_58 (kt := ?_)
    exact main
end L2
