/-! the reference's text -/
def kyB (k : Nat) : Nat := ([105, 116, 99, 104, 104, 97, 114, 109, 102, 105, 110, 101] : List Nat).getD k 0
theorem kyB_lt : ∀ k, k < 12 → kyB k < 128 := by decide
def KYm (I : hcI) (m : Nat) : Prop := (∀ k, k < 12 → I (m + 6) k = nI (kyB k)) ∧ ∀ w, w < 4 → I (m + 7) w = nI (4 * w)
def eqC (tp : Nat → Int32) (q w : Nat) : Nat → Bool
  | 0 => true
  | k + 1 => eqC tp q w k && decide (tbF tp (q + k) = kyB (4 * w + k))
theorem eqC_f {tp : Nat → Int32} {q w i : Nat} (h : eqC tp q w i = false) : ∀ n, i ≤ n → eqC tp q w n = false
  | 0, hn => by obtain rfl : i = 0 := by omega
                exact h
  | n + 1, hn => by
    by_cases e : i = n + 1
    · rw [← e]; exact h
    · simp only [eqC]
      rw [eqC_f h n (by omega)]
      rfl
def kyF (tp : Nat → Int32) (tl : Nat) : Option Nat := if lxK tp tl 0 (-1) = 1 ∧ lxR tp tl 0 - lxQ tp tl 0 = 4 then fst0 (fun w => eqC tp (lxQ tp tl 0) w 4) 0 3 else none
def rtF (tp : Nat → Int32) (tl : Nat) : Nat ⊕ (Nat × List Int32 × Nat) := match kyF tp tl with
  | none => Sum.inl (lxQ tp tl 0)
  | some key => match mrun tp tl key (tl - lxR tp tl 0 + 1) (lxR tp tl 0) (lxE tp tl 0 (-1)) true [] [] 0 [false] 0 with
    | Sum.inl q => Sum.inl q
    | Sum.inr (C, A) => Sum.inr (key, C, A)
theorem rtF_none {tp : Nat → Int32} {tl : Nat} (h : kyF tp tl = none) : rtF tp tl = Sum.inl (lxQ tp tl 0) := by
  unfold rtF
  rw [h]
theorem rtF_inl {tp : Nat → Int32} {tl key q : Nat} (h : kyF tp tl = some key) (h2 : mrun tp tl key (tl - lxR tp tl 0 + 1) (lxR tp tl 0) (lxE tp tl 0 (-1)) true [] [] 0 [false] 0 = Sum.inl q) : rtF tp tl = Sum.inl q := by
  unfold rtF
  rw [h]
  simp only
  rw [h2]
theorem rtF_inr {tp : Nat → Int32} {tl key A : Nat} {C : List Int32} (h : kyF tp tl = some key) (h2 : mrun tp tl key (tl - lxR tp tl 0 + 1) (lxR tp tl 0) (lxE tp tl 0 (-1)) true [] [] 0 [false] 0 = Sum.inr (C, A)) : rtF tp tl = Sum.inr (key, C, A) := by
  unfold rtF
  rw [h]
  simp only
  rw [h2]
theorem kyF_some {tp : Nat → Int32} {tl key : Nat} (h : kyF tp tl = some key) : (lxK tp tl 0 (-1) = 1 ∧ lxR tp tl 0 - lxQ tp tl 0 = 4) ∧ key < 3 := by
  unfold kyF at h
  split at h
  next c => exact ⟨c, by have := (fst0_some _ _ _ h).2.1; omega⟩
  next => cases h
def rvF : List Int32 → Nat → Int32
  | [], _ => 0
  | c :: C, j => if j = C.length then c else rvF C j
theorem lsF_rv : ∀ C : List Int32, lsF (rvF C) C.length = C
  | [] => rfl
  | c :: C => by
    simp only [List.length_cons, lsF, rvF, if_true]
    rw [lsF_congr C.length (f' := rvF C) (fun j hj => by rw [if_neg (by omega)]), lsF_rv C]
theorem lsF_inj {f f' : Nat → Int32} : ∀ n, lsF f n = lsF f' n → ∀ j, j < n → f j = f' j
  | 0, _, j, hj => by omega
  | n + 1, h, j, hj => by
    simp only [lsF] at h
    injection h with h1 h2
    by_cases e : j = n
    · rw [e]; exact h1
    · exact lsF_inj n h2 j (by omega)
/-- the numbers with one TEXT more -/
def txF (N : hN) (nt key : Nat) (C : List Int32) (A : Nat) : hN := fun i => if i = 8 then nI (nt + 1) else if i = 93 + 2 * nt then nI (1000 * key + C.length) else if i = 94 + 2 * nt then nI A else if 121 + 96 * nt ≤ i ∧ i < 121 + 96 * nt + C.length then rvF C (i - (121 + 96 * nt)) else N i
def KM (m : Nat) (I I' : hcI) : Prop := (∀ y, y ≠ m → I' y = I y) ∧ ∀ k, ¬ (7 ≤ k ∧ k ≤ 12) → I' m k = I m k
section L11
variable {g : hcG} {S : hcS} {I : hcI} {R : hcR} {z : Nat} {Q : hcQ} {m tl : Nat} {tp : Nat → Int32}
theorem key_in {w q : Nat} (hm : MG S R m) (hky : KYm I m) (h5 : I (m + 5) = tp) (hb : TBt tp tl) (htl : tl ≤ 96) (h8 : I m 8 = nI q) (hw : w < 3) (hq : q + 4 ≤ tl) (hQ : ∀ o, V g mX7_takesKey 2 0 0 S I R z 106 [some (.ref m), some (.int (nI w)), some (.int (nI 4)), some (.int (hc_z (eqC tp q w 4))), o] [] Q) (n : Nat) : ∀ i, i + n = 4 → V g mX7_takesKey 2 0 0 S I R z 55 [some (.ref m), some (.int (nI w)), some (.int (nI 4)), some (.int (hc_z (eqC tp q w i))), some (.int (nI i))] [] Q := by
  have s0 := hm.s0
  have st := hm.s_tape
  have rt := hm.r_tape
  have sk := hm.s_keys
  have rk := hm.r_keys
  have sa := hm.s_keyAt
  have ra := hm.r_keyAt
  induction n with
  | zero =>
    intro i hi
    obtain rfl : i = 4 := by omega
    refine v_iload (q := 57) dX7_takesKey_55 (kk := ?_)
    refine v_iload_n (q := 58) dX7_takesKey_57 (kk := ?_)
    refine v_icmp_geT 106 dX7_takesKey_58 (Int32.le_refl _) (kt := ?_)
    exact hQ _
  | succ n ih =>
    intro i hi
    obtain ⟨b1, b2⟩ := hb (q + i) (by omega)
    have hk := kyB_lt (4 * w + i) (by omega)
    refine v_iload (q := 57) dX7_takesKey_55 (kk := ?_)
    refine v_iload_n (q := 58) dX7_takesKey_57 (kk := ?_)
    refine v_icmp_geF (q := 61) (t := 106) dX7_takesKey_58 (fun h => by have := (nI_leI (by omega) (by omega)).mp h; omega) (kf := ?_)
    refine v_iload_n (q := 62) dX7_takesKey_61 (kk := ?_)
    refine v_if_eqZ 106 (q := 65) dX7_takesKey_62 (kt := fun c => ?_) (kf := fun c => ?_)
    · rw [c]
      rw [eqC_f c 4 (by omega)] at hQ
      exact hQ _
    · refine v_aload_n (q := 66) dX7_takesKey_65 (kk := ?_)
      refine v_getR (q := 69) fX7_22 (by assumption) (by assumption) (hd := dX7_takesKey_66) (kk := ?_)
      refine v_aload_n (q := 70) dX7_takesKey_69 (kk := ?_)
      refine v_getI (q := 73) fX7_188 (by assumption) (hd := dX7_takesKey_70) (kk := ?_)
      rw [h8]
      refine v_iload (q := 75) dX7_takesKey_73 (kk := ?_)
      refine v_iadd (q := 76) dX7_takesKey_75 (kk := ?_)
      rw [nI_add]
      refine v_ialdE (q := 77) (q + i) (by rfl) (by assumption) (by omega) (by omega) (hd := dX7_takesKey_76) (kk := ?_)
      rw [h5, b1]
      refine v_aload_n (q := 78) dX7_takesKey_77 (kk := ?_)
      refine v_getR (q := 81) fX7_25 (by assumption) (by assumption) (hd := dX7_takesKey_78) (kk := ?_)
      refine v_aload_n (q := 82) dX7_takesKey_81 (kk := ?_)
      refine v_getR (q := 85) fX7_29 (by assumption) (by assumption) (hd := dX7_takesKey_82) (kk := ?_)
      refine v_iload_n (q := 86) dX7_takesKey_85 (kk := ?_)
      refine v_ialdE (q := 87) (w) (by rfl) (by assumption) (by omega) (by omega) (hd := dX7_takesKey_86) (kk := ?_)
      rw [hky.2 w (by omega)]
      refine v_iload (q := 89) dX7_takesKey_87 (kk := ?_)
      refine v_iadd (q := 90) dX7_takesKey_89 (kk := ?_)
      rw [nI_add]
      refine v_caldE (q := 91) (4 * w + i) (by rfl) (by assumption) (by omega) (by omega) (hd := dX7_takesKey_90) (kk := ?_)
      rw [hky.1 _ (by omega)]
      have ihi := ih (i + 1) (by omega)
      simp only [eqC, c, Bool.true_and] at ihi
      by_cases d : tbF tp (q + i) = kyB (4 * w + i)
      · rw [decide_eq_true d] at ihi
        refine v_icmp_neF (q := 94) (t := 98) dX7_takesKey_91 (by rw [d]) (kf := ?_)
        refine v_iconst (v := 1) (q := 95) dX7_takesKey_94 (kk := ?_)
        refine v_goto 99 dX7_takesKey_95 (kt := ?_)
        refine v_istore3 (q := 100) dX7_takesKey_99 (kk := ?_)
        refine v_iinc4 (q := 103) dX7_takesKey_100 (hv := nI_1 i) (kk := ?_)
        refine v_goto 55 dX7_takesKey_103 (kt := ?_)
        exact ihi
      · rw [decide_eq_false d] at ihi
        refine v_icmp_neT 98 dX7_takesKey_91 (fun h => d ((nI_eq (by omega) (by omega)).mp h)) (kt := ?_)
        refine v_iconst (v := 0) (q := 99) dX7_takesKey_98 (kk := ?_)
        refine v_istore3 (q := 100) dX7_takesKey_99 (kk := ?_)
        refine v_iinc4 (q := 103) dX7_takesKey_100 (hv := nI_1 i) (kk := ?_)
        refine v_goto 55 dX7_takesKey_103 (kt := ?_)
        exact ihi
theorem s_takesKey (hm : MG S R m) (hky : KYm I m) (h5 : I (m + 5) = tp) (h6 : I m 6 = nI tl) (htl : tl ≤ 96) (hb : TBt tp tl) (ht : TK I m tp tl 0 (-1)) (hno : kyF tp tl = none → Q (some (.int 0)) S I R z) (hyes : ∀ w, kyF tp tl = some w → ∀ I' : hcI, KM m I I' → I' m 12 = nI w → TK I' m tp tl (lxR tp tl 0) (lxE tp tl 0 (-1)) → Q (some (.int 1)) S I' R z) : Cl g mX7_takesKey 2 0 0 S I R z [.ref m] Q := by
  have s0 := hm.s0
  have sa := hm.s_keyAt
  have ra := hm.r_keyAt
  have ht' := ht
  obtain ⟨t7, t8, t9, t11, t10, t10'⟩ := ht'
  have hR := lxR_le (tp := tp) (tl := tl) (p := 0) (by omega)
  have hk5 := lxK_lt (tp := tp) (tl := tl) (p := 0) (e := -1)
  refine Cl.go [some (.ref m), none, none, none, none] ?_
  refine v_aload_n (q := 1) dX7_takesKey_0 (kk := ?_)
  refine v_getI (q := 4) fX7_194 (by assumption) (hd := dX7_takesKey_1) (kk := ?_)
  rw [t9]
  refine v_iconst (v := 1) (q := 5) dX7_takesKey_4 (kk := ?_)
  by_cases c1 : lxK tp tl 0 (-1) = 1
  · refine v_icmp_eqT 10 dX7_takesKey_5 (by rw [c1]; rfl) (kt := ?_)
    refine v_iconst (v := 0) (q := 11) dX7_takesKey_10 (kk := ?_)
    refine v_istore1 (q := 12) dX7_takesKey_11 (kk := ?_)
    have loop : ∀ (n w : Nat) (o2 o3 o4 : Option Value), w + n = 3 → (kyF tp tl = if lxR tp tl 0 - lxQ tp tl 0 = 4 then fst0 (fun w => eqC tp (lxQ tp tl 0) w 4) w n else none) → V g mX7_takesKey 2 0 0 S I R z 12 [some (.ref m), some (.int (nI w)), o2, o3, o4] [] Q := by
      intro n
      induction n with
      | zero =>
        intro w o2 o3 o4 hw hf
        obtain rfl : w = 3 := by omega
        refine v_iload_n (q := 13) dX7_takesKey_12 (kk := ?_)
        refine v_iconst (v := 3) (q := 14) dX7_takesKey_13 (kk := ?_)
        refine v_icmp_geT 127 dX7_takesKey_14 (Int32.le_refl _) (kt := ?_)
        refine v_iconst (v := 0) (q := 128) dX7_takesKey_127 (kk := ?_)
        refine v_zret dX7_takesKey_128 rfl (hQ := ?_)
        refine hno ?_
        rw [hf]
        split <;> rfl
      | succ n ih =>
        intro w o2 o3 o4 hw hf
        have tail : ∀ o, V g mX7_takesKey 2 0 0 S I R z 106 [some (.ref m), some (.int (nI w)), some (.int (nI 4)), some (.int (hc_z (decide (lxR tp tl 0 - lxQ tp tl 0 = 4) && eqC tp (lxQ tp tl 0) w 4))), o] [] Q := by
          intro o
          refine v_iload_n (q := 107) dX7_takesKey_106 (kk := ?_)
          refine v_if_eqZ 121 (q := 110) dX7_takesKey_107 (kt := fun c => ?_) (kf := fun c => ?_)
          · refine v_iinc1 (q := 124) dX7_takesKey_121 (hv := nI_1 w) (kk := ?_)
            refine v_goto 12 dX7_takesKey_124 (kt := ?_)
            refine ih (w + 1) _ _ _ (by omega) ?_
            rw [hf]
            by_cases c4 : lxR tp tl 0 - lxQ tp tl 0 = 4
            · rw [if_pos c4, if_pos c4]
              simp only [fst0]
              rw [if_neg]
              intro hh
              rw [hh, decide_eq_true c4] at c
              cases c
            · rw [if_neg c4, if_neg c4]
          · have c4 : lxR tp tl 0 - lxQ tp tl 0 = 4 := by
              rw [Bool.and_eq_true] at c
              exact of_decide_eq_true c.1
            have ce : eqC tp (lxQ tp tl 0) w 4 = true := by
              rw [Bool.and_eq_true] at c
              exact c.2
            rw [if_pos c4] at hf
            simp only [fst0] at hf
            rw [if_pos ce] at hf
            refine v_aload_n (q := 111) dX7_takesKey_110 (kk := ?_)
            refine v_iload_n (q := 112) dX7_takesKey_111 (kk := ?_)
            refine v_putI (q := 115) fX7_206 (by assumption) (hd := dX7_takesKey_112) (kk := ?_)
            have f2 : ∀ j, j ≠ 12 → hc_u I m 12 (nI w) m j = I m j := fun j hj => by rw [hc_u_at, upd_ne hj]
            refine v_aload_n (q := 116) dX7_takesKey_115 (kk := ?_)
            refine v_cV0 (N := mX7_go) (q := 119) lX7_209 iX7_go kX7_go (by assumption) dX7_takesKey_116 (s_goT hm (by rw [hc_u_ne (by omega)]; exact h5) ((f2 6 (by omega)).trans h6) htl hb (by omega) (ht.of (fun j a b => f2 j (by omega))) (fun I2 hG2 ht2 => ?_))
            refine v_iconst (v := 1) (q := 120) dX7_takesKey_119 (kk := ?_)
            refine v_zret dX7_takesKey_120 rfl (hQ := ?_)
            refine hyes w hf I2 ⟨fun y hy => (hG2.1 y hy).trans (hc_u_ne hy), fun k hk => (hG2.2 k (by omega)).trans (f2 k (by omega))⟩ ?_ ht2
            rw [hG2.2 12 (by omega), hc_u_at, upd_at]
        refine v_iload_n (q := 13) dX7_takesKey_12 (kk := ?_)
        refine v_iconst (v := 3) (q := 14) dX7_takesKey_13 (kk := ?_)
        refine v_icmp_geF (q := 17) (t := 127) dX7_takesKey_14 (fun h => by have := (nI_leI (a := 3) (by omega) (by omega)).mp h; omega) (kf := ?_)
        refine v_aload_n (q := 18) dX7_takesKey_17 (kk := ?_)
        refine v_getR (q := 21) fX7_29 (by assumption) (by assumption) (hd := dX7_takesKey_18) (kk := ?_)
        refine v_iload_n (q := 22) dX7_takesKey_21 (kk := ?_)
        refine v_iconst (v := 1) (q := 23) dX7_takesKey_22 (kk := ?_)
        refine v_iadd (q := 24) dX7_takesKey_23 (kk := ?_)
        rw [nI_1]
        refine v_ialdE (q := 25) (w + 1) (by rfl) (by assumption) (by omega) (by omega) (hd := dX7_takesKey_24) (kk := ?_)
        rw [hky.2 (w + 1) (by omega)]
        refine v_aload_n (q := 26) dX7_takesKey_25 (kk := ?_)
        refine v_getR (q := 29) fX7_29 (by assumption) (by assumption) (hd := dX7_takesKey_26) (kk := ?_)
        refine v_iload_n (q := 30) dX7_takesKey_29 (kk := ?_)
        refine v_ialdE (q := 31) (w) (by rfl) (by assumption) (by omega) (by omega) (hd := dX7_takesKey_30) (kk := ?_)
        rw [hky.2 w (by omega)]
        refine v_isub (q := 32) dX7_takesKey_31 (kk := ?_)
        rw [pk_sub (by omega), show 4 * (w + 1) - 4 * w = 4 by omega]
        refine v_istore2 (q := 33) dX7_takesKey_32 (kk := ?_)
        refine v_iload_n (q := 34) dX7_takesKey_33 (kk := ?_)
        refine v_aload_n (q := 35) dX7_takesKey_34 (kk := ?_)
        refine v_getI (q := 38) fX7_185 (by assumption) (hd := dX7_takesKey_35) (kk := ?_)
        rw [t7]
        refine v_aload_n (q := 39) dX7_takesKey_38 (kk := ?_)
        refine v_getI (q := 42) fX7_188 (by assumption) (hd := dX7_takesKey_39) (kk := ?_)
        rw [t8]
        refine v_isub (q := 43) dX7_takesKey_42 (kk := ?_)
        rw [pk_sub hR.1]
        by_cases c4 : lxR tp tl 0 - lxQ tp tl 0 = 4
        · rw [decide_eq_true c4] at tail
          simp only [Bool.true_and] at tail
          refine v_icmp_neF (q := 46) (t := 50) dX7_takesKey_43 (by rw [c4]) (kf := ?_)
          refine v_iconst (v := 1) (q := 47) dX7_takesKey_46 (kk := ?_)
          refine v_goto 51 dX7_takesKey_47 (kt := ?_)
          refine v_istore3 (q := 52) dX7_takesKey_51 (kk := ?_)
          refine v_iconst (v := 0) (q := 53) dX7_takesKey_52 (kk := ?_)
          refine v_istore4 (q := 55) dX7_takesKey_53 (kk := ?_)
          exact key_in hm hky h5 hb htl t8 (by omega) (by omega) tail 4 0 (by omega)
        · rw [decide_eq_false c4] at tail
          simp only [Bool.false_and] at tail
          refine v_icmp_neT 50 dX7_takesKey_43 (fun h => c4 ((nI_eq (a := 4) (by omega) (by omega)).mp h).symm) (kt := ?_)
          refine v_iconst (v := 0) (q := 51) dX7_takesKey_50 (kk := ?_)
          refine v_istore3 (q := 52) dX7_takesKey_51 (kk := ?_)
          refine v_iconst (v := 0) (q := 53) dX7_takesKey_52 (kk := ?_)
          refine v_istore4 (q := 55) dX7_takesKey_53 (kk := ?_)
          refine v_iload (q := 57) dX7_takesKey_55 (kk := ?_)
          refine v_iload_n (q := 58) dX7_takesKey_57 (kk := ?_)
          refine v_icmp_geF (q := 61) (t := 106) dX7_takesKey_58 (by decide) (kf := ?_)
          refine v_iload_n (q := 62) dX7_takesKey_61 (kk := ?_)
          refine v_if_eqT 106 dX7_takesKey_62 (rfl) (kt := ?_)
          exact tail _
    refine loop 3 0 _ _ _ (by omega) ?_
    unfold kyF
    by_cases c4 : lxR tp tl 0 - lxQ tp tl 0 = 4
    · rw [if_pos ⟨c1, c4⟩, if_pos c4]
    · rw [if_neg (fun h => c4 h.2), if_neg c4]
  · refine v_icmp_eqF (q := 8) (t := 10) dX7_takesKey_5 (fun h => c1 ((nI_eq (b := 1) (by omega) (by omega)).mp h)) (kf := ?_)
    refine v_iconst (v := 0) (q := 9) dX7_takesKey_8 (kk := ?_)
    refine v_zret dX7_takesKey_9 rfl (hQ := ?_)
    refine hno ?_
    unfold kyF
    rw [if_neg (fun h => c1 h.1)]
theorem s_takesE {p key : Nat} {e : Int32} {res : Nat ⊕ (List Int32 × Nat)} (hm : MG S R m) (h5 : I (m + 5) = tp) (h6 : I m 6 = nI tl) (h12 : I m 12 = nI key) (htl : tl ≤ 96) (hb : TBt tp tl) (hkey : key < 3) (hp4 : 4 ≤ p) (hp : p ≤ tl) (ht : TK I m tp tl p e) (hr : mrun tp tl key (tl - p + 1) p e true [] [] 0 [false] 0 = res)
    (hQ0 : ∀ (q : Nat) (I' : hcI), res = Sum.inl q → TM m I I' → I' m 8 = nI q → Q (some (.int 0)) S I' R z)
    (hQ1 : ∀ (C : List Int32) (A : Nat) (I' : hcI), res = Sum.inr (C, A) → TM m I I' → C.length ≤ 96 → I' m 16 = nI C.length → I' m 17 = nI A → lsF (I' (m + 8)) C.length = C → Q (some (.int 1)) S I' R z) : Cl g mX7_takesE 3 0 0 S I R z [.ref m] Q := by
  have s0 := hm.s0
  have ss := hm.s_tested
  have rs := hm.r_tested
  refine Cl.go [some (.ref m), none, none, none, none] ?_
  refine v_iconst (v := 0) (q := 1) dX7_takesE_0 (kk := ?_)
  refine v_istore1 (q := 2) dX7_takesE_1 (kk := ?_)
  refine v_iconst (v := 0) (q := 3) dX7_takesE_2 (kk := ?_)
  refine v_istore2 (q := 4) dX7_takesE_3 (kk := ?_)
  refine v_iconst (v := 1) (q := 5) dX7_takesE_4 (kk := ?_)
  refine v_istore3 (q := 6) dX7_takesE_5 (kk := ?_)
  refine v_aload_n (q := 7) dX7_takesE_6 (kk := ?_)
  refine v_iconst (v := 0) (q := 8) dX7_takesE_7 (kk := ?_)
  refine v_putI (q := 11) fX7_218 (by assumption) (hd := dX7_takesE_8) (kk := ?_)
  refine v_aload_n (q := 12) dX7_takesE_11 (kk := ?_)
  refine v_iconst (v := 0) (q := 13) dX7_takesE_12 (kk := ?_)
  refine v_putI (q := 16) fX7_224 (by assumption) (hd := dX7_takesE_13) (kk := ?_)
  refine v_aload_n (q := 17) dX7_takesE_16 (kk := ?_)
  refine v_iconst (v := 0) (q := 18) dX7_takesE_17 (kk := ?_)
  refine v_putI (q := 21) fX7_212 (by assumption) (hd := dX7_takesE_18) (kk := ?_)
  refine v_aload_n (q := 22) dX7_takesE_21 (kk := ?_)
  refine v_getR (q := 25) fX7_38 (by assumption) (by assumption) (hd := dX7_takesE_22) (kk := ?_)
  refine v_iconst (v := 0) (q := 26) dX7_takesE_25 (kk := ?_)
  refine v_iconst (v := 0) (q := 27) dX7_takesE_26 (kk := ?_)
  refine v_zastN (q := 28) (j := 0) ss (by omega) (by decide) (by rfl) (hd := dX7_takesE_27) (kk := ?_)
  obtain ⟨I1, hI1⟩ : ∃ I1, hc_u (hc_u (hc_u (hc_u I m 16 0) m 17 0) m 19 0) (m + 10) 0 0 = I1 := ⟨_, rfl⟩
  rw [hI1]
  have f2 : ∀ j, j ≠ 16 → j ≠ 17 → j ≠ 19 → I1 m j = I m j := fun j a b c => by rw [← hI1, hc_u_ne (by omega), hc_u_at, upd_ne c, hc_u_at, upd_ne b, hc_u_at, upd_ne a]
  refine takesE_loop (I := I) hm h5 h6 h12 htl hb hkey hQ0 hQ1 (tl - p + 1) p e true (I1 (m + 9)) 0 (I1 (m + 8)) 0 0 (I1 (m + 10)) 0 [false] 0 none I1 (by omega) hp (by omega) hr ?_ rfl (by omega) (by omega) ?_ (ht.of (fun j a b => f2 j (by omega) (by omega) (by omega))) ?_ ?_ rfl rfl ?_ rfl
  · show [hc_z false] = [I1 (m + 10) 0]
    rw [← hI1, hc_u_at, upd_at]
    rfl
  · rw [← hI1]
    exact ((((TM.rfl.u (by omega)).u (by omega)).u (by omega)).w (by omega))
  · rw [← hI1, hc_u_ne (by omega), hc_u_at, upd_at]; rfl
  · rw [← hI1, hc_u_ne (by omega), hc_u_at, upd_ne (by omega), hc_u_at, upd_ne (by omega), hc_u_at, upd_at]; rfl
  · rw [← hI1, hc_u_ne (by omega), hc_u_at, upd_ne (by omega), hc_u_at, upd_at]; rfl
end L11
/-- the reference's text changes no more -/
def Ft (m : Nat) (I I' : hcI) : Prop := (∀ y, y ≠ m → y ≠ m + 1 → y ≠ m + 8 → y ≠ m + 9 → y ≠ m + 10 → I' y = I y) ∧ ∀ k, ¬ (6 ≤ k ∧ k ≤ 12) → k ≠ 16 → k ≠ 17 → k ≠ 19 → I' m k = I m k
section L12
variable {g : hcG} {S : hcS} {I : hcI} {R : hcR} {z : Nat} {Q : hcQ} {m tl : Nat} {tp : Nat → Int32} {N : hN}
theorem mtext_copy {nt k : Nat} {cd : Nat → Int32} (hm : MG S R m) (hnt : nt < 14) (hk : k ≤ 96) (h16 : I m 16 = nI k) (h8 : I (m + 8) = cd) {o1 : Option Value} (hQ : ∀ I' : hcI, (∀ y, y ≠ m + 1 → I' y = I y) → (∀ i, I' (m + 1) i = if 121 + 96 * nt ≤ i ∧ i < 121 + 96 * nt + k then cd (i - (121 + 96 * nt)) else I (m + 1) i) → V g mX7_text 4 0 0 S I' R z 151 [some (.ref m), o1, some (.int (nI nt)), none] [] Q) (n : Nat) : ∀ (i : Nat) (I1 : hcI), i + n = k → (∀ y, y ≠ m + 1 → I1 y = I y) → (∀ j, I1 (m + 1) j = if 121 + 96 * nt ≤ j ∧ j < 121 + 96 * nt + i then cd (j - (121 + 96 * nt)) else I (m + 1) j) → V g mX7_text 4 0 0 S I1 R z 117 [some (.ref m), o1, some (.int (nI nt)), some (.int (nI i))] [] Q := by
  have s0 := hm.s0
  have sn := hm.s_now
  have rn := hm.r_now
  have sc := hm.s_code
  have rc := hm.r_code
  induction n with
  | zero =>
    intro i I1 hi hF h1
    obtain rfl : i = k := by omega
    have e16 : I1 m 16 = nI i := by rw [hF m (by omega)]; exact h16
    refine v_iload_n (q := 118) dX7_text_117 (kk := ?_)
    refine v_aload_n (q := 119) dX7_text_118 (kk := ?_)
    refine v_getI (q := 122) fX7_218 (by assumption) (hd := dX7_text_119) (kk := ?_)
    rw [e16]
    refine v_icmp_geT 151 dX7_text_122 (Int32.le_refl _) (kt := ?_)
    exact v_drop3 (hQ I1 hF h1)
  | succ n ih =>
    intro i I1 hi hF h1
    have e16 : I1 m 16 = nI k := by rw [hF m (by omega)]; exact h16
    have e8 : I1 (m + 8) = cd := by rw [hF _ (by omega)]; exact h8
    refine v_iload_n (q := 118) dX7_text_117 (kk := ?_)
    refine v_aload_n (q := 119) dX7_text_118 (kk := ?_)
    refine v_getI (q := 122) fX7_218 (by assumption) (hd := dX7_text_119) (kk := ?_)
    rw [e16]
    refine v_icmp_geF (q := 125) (t := 151) dX7_text_122 (fun h => by have := (nI_leI (by omega) (by omega)).mp h; omega) (kf := ?_)
    refine v_aload_n (q := 126) dX7_text_125 (kk := ?_)
    refine v_getR (q := 129) fX7_9 (by assumption) (by assumption) (hd := dX7_text_126) (kk := ?_)
    refine v_bipush (v := 121) (q := 131) dX7_text_129 (kk := ?_)
    refine v_bipush (v := 96) (q := 133) dX7_text_131 (kk := ?_)
    refine v_iload_n (q := 134) dX7_text_133 (kk := ?_)
    refine v_imul (q := 135) dX7_text_134 (kk := ?_)
    refine v_iadd (q := 136) dX7_text_135 (kk := ?_)
    refine v_iload_n (q := 137) dX7_text_136 (kk := ?_)
    refine v_iadd (q := 138) dX7_text_137 (kk := ?_)
    rw [show (121 : Int32) + 96 * nI nt + nI i = nI (121 + 96 * nt + i) by
      rw [show (96 : Int32) = nI 96 from rfl, pk_mul, show (121 : Int32) = nI 121 from rfl, nI_add, nI_add]]
    refine v_aload_n (q := 139) dX7_text_138 (kk := ?_)
    refine v_getR (q := 142) fX7_32 (by assumption) (by assumption) (hd := dX7_text_139) (kk := ?_)
    refine v_iload_n (q := 143) dX7_text_142 (kk := ?_)
    refine v_ialdE (q := 144) (i) (by rfl) (by assumption) (by omega) (by omega) (hd := dX7_text_143) (kk := ?_)
    rw [e8]
    refine v_iastE (q := 145) (121 + 96 * nt + i) (by rfl) (by assumption) (by omega) (by omega) (hd := dX7_text_144) (kk := ?_)
    refine v_iinc3 (q := 148) dX7_text_145 (hv := nI_1 i) (kk := ?_)
    refine v_goto 117 dX7_text_148 (kt := ?_)
    refine ih (i + 1) _ (by omega) (fun y hy => (hc_u_ne hy).trans (hF y hy)) (fun j => ?_)
    rw [hc_u_at]
    by_cases ej : j = 121 + 96 * nt + i
    · rw [ej, upd_at, if_pos (by omega)]
      congr 1
      omega
    · rw [upd_ne ej, h1 j]
      by_cases cj : 121 + 96 * nt ≤ j ∧ j < 121 + 96 * nt + i
      · rw [if_pos cj, if_pos (by omega)]
      · rw [if_neg cj, if_neg (by omega)]
theorem m_text (hm : MG S R m) (hky : KYm I m) (hN : I (m + 1) = N) (hn : MN N) (h5 : I (m + 5) = tp) (h6 : I m 6 = nI tl) (htl : tl ≤ 96) (hb : TBt tp tl)
    (hQ0 : ∀ (q : Nat) (I' : hcI), rtF tp tl = Sum.inl q → Ft m I I' → I' (m + 1) = N → I' m 6 = nI 0 → Q (some (.int (-100 - nI q))) S I' R z)
    (hQF : ∀ (key : Nat) (C : List Int32) (A : Nat) (I' : hcI), rtF tp tl = Sum.inr (key, C, A) → ntN N = 14 → Ft m I I' → I' (m + 1) = N → I' m 6 = nI 0 → Q (some (.int (-1000000003))) S I' R z)
    (hQ1 : ∀ (key : Nat) (C : List Int32) (A : Nat) (I' : hcI), rtF tp tl = Sum.inr (key, C, A) → ntN N < 14 → Ft m I I' → I' (m + 1) = txF N (ntN N) key C A → I' m 6 = nI 0 → Q (some (.int (nI (ntN N)))) S I' R z) : Cl g mX7_text 4 0 0 S I R z [.ref m] Q := by
  obtain ⟨np, nb, nt, sec, hw⟩ := hn
  obtain ⟨e1, e2, e3, e4⟩ := hw.e
  have n8 := hw.1.2.2.1
  rw [e3] at hQF hQ1
  have s0 := hm.s0
  have sn := hm.s_now
  have rn := hm.r_now
  have hR := lxR_le (tp := tp) (tl := tl) (p := 0) (by omega)
  refine Cl.go [some (.ref m), none, none, none] ?_
  have bad : ∀ (q : Nat) (I1 : hcI), rtF tp tl = Sum.inl q → Ft m I I1 → I1 (m + 1) = N → I1 m 8 = nI q → V g mX7_text 4 0 0 S I1 R z 32 [some (.ref m), none, none, none] [] Q := by
    intro q I1 hr hF h1 h8
    refine v_iconst (v := 0) (q := 33) dX7_text_32 (kk := ?_)
    refine v_istore1 (q := 34) dX7_text_33 (kk := ?_)
    refine v_aload_n (q := 35) dX7_text_34 (kk := ?_)
    refine v_iconst (v := 0) (q := 36) dX7_text_35 (kk := ?_)
    refine v_putI (q := 39) fX7_181 (by assumption) (hd := dX7_text_36) (kk := ?_)
    refine v_iload_n (q := 40) dX7_text_39 (kk := ?_)
    refine v_if_neF (q := 43) (t := 51) dX7_text_40 (rfl) (kf := ?_)
    refine v_bipush (v := (-100)) (q := 45) dX7_text_43 (kk := ?_)
    refine v_aload_n (q := 46) dX7_text_45 (kk := ?_)
    refine v_getI (q := 49) fX7_188 (by assumption) (hd := dX7_text_46) (kk := ?_)
    rw [hc_u_at, upd_ne (by omega), h8]
    refine v_isub (q := 50) dX7_text_49 (kk := ?_)
    refine v_iret dX7_text_50 (hQ := ?_)
    exact hQ0 q _ hr ⟨fun y a b c d f => (hc_u_ne a).trans (hF.1 y a b c d f), fun k a b c d => by rw [hc_u_at, upd_ne (by omega)]; exact hF.2 k a b c d⟩ (by rw [hc_u_ne (by omega)]; exact h1) (by rw [hc_u_at, upd_at]; rfl)
  refine v_aload_n (q := 1) dX7_text_0 (kk := ?_)
  refine v_iconst (v := 0) (q := 2) dX7_text_1 (kk := ?_)
  refine v_putI (q := 5) fX7_185 (by assumption) (hd := dX7_text_2) (kk := ?_)
  refine v_aload_n (q := 6) dX7_text_5 (kk := ?_)
  refine v_iconst (v := (-1)) (q := 7) dX7_text_6 (kk := ?_)
  refine v_putI (q := 10) fX7_191 (by assumption) (hd := dX7_text_7) (kk := ?_)
  have f0 : ∀ j, j ≠ 7 → j ≠ 11 → hc_u (hc_u I m 7 0) m 11 (-1) m j = I m j := fun j a b => by rw [hc_u_at, upd_ne b, hc_u_at, upd_ne a]
  have y0 : ∀ y, y ≠ m → hc_u (hc_u I m 7 0) m 11 (-1) y = I y := fun y hy => by rw [hc_u_ne hy, hc_u_ne hy]
  refine v_aload_n (q := 11) dX7_text_10 (kk := ?_)
  refine v_cV0 (N := mX7_go) (q := 14) lX7_209 iX7_go kX7_go (by assumption) dX7_text_11 (s_go (p := 0) (e := -1) (tp := tp) (tl := tl) hm ((y0 _ (by omega)).trans h5) ((f0 6 (by omega) (by omega)).trans h6) htl hb (by omega) (by rw [hc_u_at, upd_ne (by omega), hc_u_at, upd_at]; rfl) (by rw [hc_u_at, upd_at]) (fun I1 hG1 a7 a8 a9 a11 a10 a10' => ?_))
  have ht1 : TK I1 m tp tl 0 (-1) := ⟨a7, a8, a9, a11, a10, a10'⟩
  have y1 : ∀ y, y ≠ m → I1 y = I y := fun y hy => (hG1.1 y hy).trans (y0 y hy)
  have f1 : ∀ j, ¬ (7 ≤ j ∧ j ≤ 11) → I1 m j = I m j := fun j hj => (hG1.2 j (by omega)).trans (f0 j (by omega) (by omega))
  have hky1 : KYm I1 m := ⟨fun k hk => by rw [y1 _ (by omega)]; exact hky.1 k hk, fun w hw => by rw [y1 _ (by omega)]; exact hky.2 w hw⟩
  refine v_aload_n (q := 15) dX7_text_14 (kk := ?_)
  refine v_cV0 (N := mX7_takesKey) (q := 18) lX7_241 iX7_takesKey kX7_takesKey (by assumption) dX7_text_15 (s_takesKey hm hky1 ((y1 _ (by omega)).trans h5) ((f1 6 (by omega)).trans h6) htl hb ht1 (fun hno => ?_) (fun key hkey I2 hK2 k12 ht2 => ?_))
  · refine v_if_eqT 32 dX7_text_18 (rfl) (kt := ?_)
    exact bad _ I1 (rtF_none hno) ⟨fun y a _ _ _ _ => y1 y a, fun k a _ _ _ => f1 k (by omega)⟩ ((y1 _ (by omega)).trans hN) a8
  · obtain ⟨⟨hk1, hk4⟩, hk3⟩ := kyF_some hkey
    have y2 : ∀ y, y ≠ m → I2 y = I y := fun y hy => (hK2.1 y hy).trans (y1 y hy)
    have f2 : ∀ j, ¬ (7 ≤ j ∧ j ≤ 12) → I2 m j = I m j := fun j hj => (hK2.2 j hj).trans (f1 j (by omega))
    refine v_if_eqF (q := 21) (t := 32) dX7_text_18 (by decide) (kf := ?_)
    refine v_aload_n (q := 22) dX7_text_21 (kk := ?_)
    refine v_cV0 (N := mX7_takesE) (q := 25) lX7_244 iX7_takesE kX7_takesE (by assumption) dX7_text_22 (s_takesE hm ((y2 _ (by omega)).trans h5) ((f2 6 (by omega)).trans h6) k12 htl hb hk3 (by omega) hR.2.1 ht2 rfl (fun q I3 hres hT3 h8 => ?_) (fun C A I3 hres hT3 hlen h16 h17 hcd => ?_))
    · refine v_if_eqT 32 dX7_text_25 (rfl) (kt := ?_)
      exact bad q I3 (rtF_inl hkey hres) ⟨fun y a b c d f => (hT3.1 y a c d f).trans (y2 y a), fun k a b c d => (hT3.2 k (by omega) b c d).trans (f2 k (by omega))⟩ (by rw [hT3.1 _ (by omega) (by omega) (by omega) (by omega), y2 _ (by omega)]; exact hN) h8
    · have hr := rtF_inr hkey hres
      have y3 : ∀ y, y ≠ m → y ≠ m + 8 → y ≠ m + 9 → y ≠ m + 10 → I3 y = I y := fun y a b c d => (hT3.1 y a b c d).trans (y2 y a)
      have f3 : ∀ j, ¬ (7 ≤ j ∧ j ≤ 12) → j ≠ 16 → j ≠ 17 → j ≠ 19 → I3 m j = I m j := fun j a b c d => (hT3.2 j (by omega) b c d).trans (f2 j a)
      have h12 : I3 m 12 = nI key := (hT3.2 12 (by omega) (by omega) (by omega) (by omega)).trans k12
      have n3 : I3 (m + 1) = N := (y3 _ (by omega) (by omega) (by omega) (by omega)).trans hN
      refine v_if_eqF (q := 28) (t := 32) dX7_text_25 (by decide) (kf := ?_)
      refine v_iconst (v := 1) (q := 29) dX7_text_28 (kk := ?_)
      refine v_goto 33 dX7_text_29 (kt := ?_)
      refine v_istore1 (q := 34) dX7_text_33 (kk := ?_)
      refine v_aload_n (q := 35) dX7_text_34 (kk := ?_)
      refine v_iconst (v := 0) (q := 36) dX7_text_35 (kk := ?_)
      refine v_putI (q := 39) fX7_181 (by assumption) (hd := dX7_text_36) (kk := ?_)
      obtain ⟨I4, hI4⟩ : ∃ I4, hc_u I3 m 6 0 = I4 := ⟨_, rfl⟩
      rw [hI4]
      have y4 : ∀ y, y ≠ m → I4 y = I3 y := fun y hy => by rw [← hI4, hc_u_ne hy]
      have f4 : ∀ j, j ≠ 6 → I4 m j = I3 m j := fun j hj => by rw [← hI4, hc_u_at, upd_ne hj]
      have h46 : I4 m 6 = nI 0 := by rw [← hI4, hc_u_at, upd_at]; rfl
      have hF4 : Ft m I I4 := ⟨fun y a b c d f => (y4 y a).trans (y3 y a c d f), fun k a b c d => (f4 k (by omega)).trans (f3 k (by omega) b c d)⟩
      have n4 : I4 (m + 1) = N := (y4 _ (by omega)).trans n3
      refine v_iload_n (q := 40) dX7_text_39 (kk := ?_)
      refine v_if_neT 51 dX7_text_40 (by decide) (kt := ?_)
      refine v_aload_n (q := 52) dX7_text_51 (kk := ?_)
      refine v_getR (q := 55) fX7_9 (by assumption) (by assumption) (hd := dX7_text_52) (kk := ?_)
      refine v_bipush (v := 8) (q := 57) dX7_text_55 (kk := ?_)
      refine v_ialdE (q := 58) (8) (by rfl) (by assumption) (by omega) (by omega) (hd := dX7_text_57) (kk := ?_)
      rw [n4, n8.1]
      refine v_bipush (v := 14) (q := 60) dX7_text_58 (kk := ?_)
      by_cases c14 : nt = 14
      · refine v_icmp_neF (q := 63) (t := 66) dX7_text_60 (by rw [c14]; rfl) (kf := ?_)
        refine v_ldc (q := 65) cX7_98 dX7_text_63 (kk := ?_)
        refine v_iret dX7_text_65 (hQ := ?_)
        exact hQF key C A I4 hr c14 hF4 n4 h46
      · refine v_icmp_neT 66 dX7_text_60 (fun h => c14 ((nI_eq (b := 14) (by omega) (by omega)).mp h)) (kt := ?_)
        refine v_aload_n (q := 67) dX7_text_66 (kk := ?_)
        refine v_getR (q := 70) fX7_9 (by assumption) (by assumption) (hd := dX7_text_67) (kk := ?_)
        refine v_bipush (v := 8) (q := 72) dX7_text_70 (kk := ?_)
        refine v_ialdE (q := 73) (8) (by rfl) (by assumption) (by omega) (by omega) (hd := dX7_text_72) (kk := ?_)
        rw [n4, n8.1]
        refine v_istore2 (q := 74) dX7_text_73 (kk := ?_)
        refine v_aload_n (q := 75) dX7_text_74 (kk := ?_)
        refine v_getR (q := 78) fX7_9 (by assumption) (by assumption) (hd := dX7_text_75) (kk := ?_)
        refine v_bipush (v := 93) (q := 80) dX7_text_78 (kk := ?_)
        refine v_iconst (v := 2) (q := 81) dX7_text_80 (kk := ?_)
        refine v_iload_n (q := 82) dX7_text_81 (kk := ?_)
        refine v_imul (q := 83) dX7_text_82 (kk := ?_)
        refine v_iadd (q := 84) dX7_text_83 (kk := ?_)
        rw [show (93 : Int32) + 2 * nI nt = nI (93 + 2 * nt) by rw [show (2 : Int32) = nI 2 from rfl, pk_mul, show (93 : Int32) = nI 93 from rfl, nI_add]]
        refine v_sipush (v := 1000) (q := 87) dX7_text_84 (kk := ?_)
        refine v_aload_n (q := 88) dX7_text_87 (kk := ?_)
        refine v_getI (q := 91) fX7_206 (by assumption) (hd := dX7_text_88) (kk := ?_)
        rw [f4 12 (by omega), h12]
        refine v_imul (q := 92) dX7_text_91 (kk := ?_)
        refine v_aload_n (q := 93) dX7_text_92 (kk := ?_)
        refine v_getI (q := 96) fX7_218 (by assumption) (hd := dX7_text_93) (kk := ?_)
        rw [f4 16 (by omega), h16]
        refine v_iadd (q := 97) dX7_text_96 (kk := ?_)
        rw [show (1000 : Int32) * nI key + nI C.length = nI (1000 * key + C.length) by rw [show (1000 : Int32) = nI 1000 from rfl, pk_mul, nI_add]]
        refine v_iastE (q := 98) (93 + 2 * nt) (by rfl) (by assumption) (by omega) (by omega) (hd := dX7_text_97) (kk := ?_)
        refine v_aload_n (q := 99) dX7_text_98 (kk := ?_)
        refine v_getR (q := 102) fX7_9 (by assumption) (by assumption) (hd := dX7_text_99) (kk := ?_)
        refine v_bipush (v := 93) (q := 104) dX7_text_102 (kk := ?_)
        refine v_iconst (v := 2) (q := 105) dX7_text_104 (kk := ?_)
        refine v_iload_n (q := 106) dX7_text_105 (kk := ?_)
        refine v_imul (q := 107) dX7_text_106 (kk := ?_)
        refine v_iadd (q := 108) dX7_text_107 (kk := ?_)
        refine v_iconst (v := 1) (q := 109) dX7_text_108 (kk := ?_)
        refine v_iadd (q := 110) dX7_text_109 (kk := ?_)
        rw [show (93 : Int32) + 2 * nI nt + 1 = nI (94 + 2 * nt) by rw [show (2 : Int32) = nI 2 from rfl, pk_mul, show (93 : Int32) = nI 93 from rfl, nI_add, nI_1]; congr 1; omega]
        refine v_aload_n (q := 111) dX7_text_110 (kk := ?_)
        refine v_getI (q := 114) fX7_224 (by assumption) (hd := dX7_text_111) (kk := ?_)
        rw [hc_u_ne (by omega), f4 17 (by omega), h17]
        refine v_iastE (q := 115) (94 + 2 * nt) (by rfl) (by assumption) (by omega) (by omega) (hd := dX7_text_114) (kk := ?_)
        refine v_iconst (v := 0) (q := 116) dX7_text_115 (kk := ?_)
        refine v_istore3 (q := 117) dX7_text_116 (kk := ?_)
        obtain ⟨I5, hI5⟩ : ∃ I5, hc_u (hc_u I4 (m + 1) (93 + 2 * nt) (nI (1000 * key + C.length))) (m + 1) (94 + 2 * nt) (nI A) = I5 := ⟨_, rfl⟩
        rw [hI5]
        have y5 : ∀ y, y ≠ m + 1 → I5 y = I4 y := fun y hy => by rw [← hI5, hc_u_ne hy, hc_u_ne hy]
        refine mtext_copy (I := I5) (k := C.length) (cd := I5 (m + 8)) hm (by omega) hlen (by rw [y5 _ (by omega), f4 16 (by omega)]; exact h16) rfl (fun I6 hF6 h1 => ?_) C.length 0 I5 (by omega) (fun _ _ => rfl) (fun j => by rw [if_neg (by omega)])
        have hcd5 : ∀ j, j < C.length → I5 (m + 8) j = rvF C j := by
          rw [y5 _ (by omega), y4 _ (by omega)]
          exact lsF_inj C.length (hcd.trans (lsF_rv C).symm)
        have v8 : I6 (m + 1) 8 = nI nt := by
          rw [h1 8, if_neg (by omega), ← hI5, hc_u_at, upd_ne (by omega), hc_u_at, upd_ne (by omega), n4]
          exact n8.1
        refine v_aload_n (q := 152) dX7_text_151 (kk := ?_)
        refine v_getR (q := 155) fX7_9 (by assumption) (by assumption) (hd := dX7_text_152) (kk := ?_)
        refine v_bipush (v := 8) (q := 157) dX7_text_155 (kk := ?_)
        refine v_dup2 (q := 158) dX7_text_157 (kk := ?_)
        refine v_ialdE (q := 159) (8) (by rfl) (by assumption) (by omega) (by omega) (hd := dX7_text_158) (kk := ?_)
        rw [v8]
        refine v_iconst (v := 1) (q := 160) dX7_text_159 (kk := ?_)
        refine v_iadd (q := 161) dX7_text_160 (kk := ?_)
        rw [nI_1]
        refine v_iastE (q := 162) (8) (by rfl) (by assumption) (by omega) (by omega) (hd := dX7_text_161) (kk := ?_)
        refine v_iload_n (q := 163) dX7_text_162 (kk := ?_)
        refine v_iret dX7_text_163 (hQ := ?_)
        refine hQ1 key C A _ hr (by omega) ⟨fun y a b c d f => ?_, fun k a b c d => ?_⟩ ?_ ?_
        · rw [hc_u_ne b, hF6 y b, y5 y b]
          exact hF4.1 y a b c d f
        · rw [hc_u_ne (by omega), hF6 m (by omega), y5 m (by omega)]
          exact hF4.2 k a b c d
        · rw [hc_u_at]
          funext i
          unfold txF
          by_cases i8 : i = 8
          · rw [i8, upd_at, if_pos rfl]
          · rw [upd_ne i8, if_neg i8, h1 i]
            by_cases i1 : i = 93 + 2 * nt
            · rw [if_neg (by omega), if_pos i1, i1, ← hI5, hc_u_at, upd_ne (by omega), hc_u_at, upd_at]
            · rw [if_neg i1]
              by_cases i2 : i = 94 + 2 * nt
              · rw [if_neg (by omega), if_pos i2, i2, ← hI5, hc_u_at, upd_at]
              · rw [if_neg i2]
                by_cases i3 : 121 + 96 * nt ≤ i ∧ i < 121 + 96 * nt + C.length
                · rw [if_pos i3, if_pos i3]
                  exact hcd5 _ (by omega)
                · rw [if_neg i3, if_neg i3, ← hI5, hc_u_at, upd_ne i2, hc_u_at, upd_ne i1, n4]
        · rw [hc_u_ne (by omega), hF6 m (by omega), y5 m (by omega)]
          exact h46
end L12
