/-- the word or sign at hand, begun at p, e where the last word ended -/
def TK (I : hcI) (m : Nat) (tp : Nat → Int32) (tl p : Nat) (e : Int32) : Prop := I m 7 = nI (lxR tp tl p) ∧ I m 8 = nI (lxQ tp tl p) ∧ I m 9 = nI (lxK tp tl p e) ∧ I m 11 = lxE tp tl p e ∧ (lxK tp tl p e = 1 ∨ lxK tp tl p e = 3 → I m 10 = nI (tbF tp (lxQ tp tl p))) ∧ (lxK tp tl p e = 2 → I m 10 = nI (numF tp (lxQ tp tl p) (lxR tp tl p - lxQ tp tl p)))
theorem lxK_lt {tp : Nat → Int32} {tl p : Nat} {e : Int32} : lxK tp tl p e < 5 := by
  unfold lxK
  repeat' split
  all_goals omega
/-- the code of a NUMBER or NAME at hand -/
def lfF (tp : Nat → Int32) (tl key p : Nat) (e : Int32) : Option Int32 := if lxK tp tl p e = 2 then some (nI (numF tp (lxQ tp tl p) (lxR tp tl p - lxQ tp tl p))) else if lxK tp tl p e = 1 ∧ lxR tp tl p - lxQ tp tl p = 1 ∧ ¬ nmF key (nI (tbF tp (lxQ tp tl p))) < 0 then some (10000 + nmF key (nI (tbF tp (lxQ tp tl p)))) else none
def PM (m : Nat) (I I' : hcI) : Prop := (∀ y, y ≠ m → y ≠ m + 8 → I' y = I y) ∧ ∀ k, ¬ (7 ≤ k ∧ k ≤ 11) → k ≠ 16 → k ≠ 17 → k ≠ 19 → I' m k = I m k
section L9
variable {g : hcG} {S : hcS} {I : hcI} {R : hcR} {z : Nat} {Q : hcQ} {m tl p : Nat} {tp : Nat → Int32} {e : Int32}
theorem s_goT (hm : MG S R m) (h5 : I (m + 5) = tp) (h6 : I m 6 = nI tl) (htl : tl ≤ 96) (hb : TBt tp tl) (hp : p ≤ tl) (ht : TK I m tp tl p e) (hQ : ∀ I' : hcI, GM m I I' → TK I' m tp tl (lxR tp tl p) (lxE tp tl p e) → Q none S I' R z) : Cl g mX7_go 1 0 0 S I R z [.ref m] Q :=
  s_go hm h5 h6 htl hb (lxR_le hp).2.1 ht.1 ht.2.2.2.1 (fun I' hG a b c d f k => hQ I' hG ⟨a, b, c, d, f, k⟩)
theorem s_takesPart {key h k A : Nat} {w cd : Nat → Int32} (hm : MG S R m) (h5 : I (m + 5) = tp) (h6 : I m 6 = nI tl) (htl : tl ≤ 96) (hb : TBt tp tl) (hp : p ≤ tl) (ht : TK I m tp tl p e) (hkey : key < 3) (h12 : I m 12 = nI key) (h9 : I (m + 9) = w) (hh : h + k < 96) (h19 : I m 19 = nI h) (h16 : I m 16 = nI k) (h8 : I (m + 8) = cd) (h17 : I m 17 = nI A) (hno : lfF tp tl key p e = none → Q (some (.int 0)) S I R z) (hyes : ∀ c, lfF tp tl key p e = some c → ∀ I' : hcI, PM m I I' → TK I' m tp tl (lxR tp tl p) (lxE tp tl p e) → I' m 19 = nI (stH w 6 h) → I' m 16 = nI (k + 1 + (h - stH w 6 h)) → I' (m + 8) = cdS (upd cd k c) w (k + 1) h (h - stH w 6 h) → I' m 17 = nI (A + 1) → Q (some (.int 1)) S I' R z) : Cl g mX7_takesPart 2 0 0 S I R z [.ref m] Q := by
  have s0 := hm.s0
  have sc := hm.s_code
  have rc := hm.r_code
  have ht' := ht
  obtain ⟨t7, t8, t9, t11, t10, t10'⟩ := ht'
  have hR := lxR_le (tp := tp) hp
  have hk5 := lxK_lt (tp := tp) (tl := tl) (p := p) (e := e)
  refine Cl.go [some (.ref m), none] ?_
  have rest : ∀ c : Int32, lfF tp tl key p e = some c → ∀ o, V g mX7_takesPart 2 0 0 S I R z 87 [some (.ref m), o] [.int c, .int (nI k), .ref (m + 8)] Q := by
    intro c hc o
    refine v_iastE (q := 88) (k) (by rfl) (by assumption) (by omega) (by omega) (hd := dX7_takesPart_87) (kk := ?_)
    refine v_aload_n (q := 89) dX7_takesPart_88 (kk := ?_)
    refine v_dup (q := 90) dX7_takesPart_89 (kk := ?_)
    refine v_getI (q := 93) fX7_218 (by assumption) (hd := dX7_takesPart_90) (kk := ?_)
    rw [hc_u_ne (by omega), h16]
    refine v_iconst (v := 1) (q := 94) dX7_takesPart_93 (kk := ?_)
    refine v_iadd (q := 95) dX7_takesPart_94 (kk := ?_)
    rw [nI_1]
    refine v_putI (q := 98) fX7_218 (by assumption) (hd := dX7_takesPart_95) (kk := ?_)
    refine v_aload_n (q := 99) dX7_takesPart_98 (kk := ?_)
    refine v_dup (q := 100) dX7_takesPart_99 (kk := ?_)
    refine v_getI (q := 103) fX7_224 (by assumption) (hd := dX7_takesPart_100) (kk := ?_)
    rw [hc_u_at, upd_ne (by omega), hc_u_ne (by omega), h17]
    refine v_iconst (v := 1) (q := 104) dX7_takesPart_103 (kk := ?_)
    refine v_iadd (q := 105) dX7_takesPart_104 (kk := ?_)
    rw [nI_1]
    refine v_putI (q := 108) fX7_224 (by assumption) (hd := dX7_takesPart_105) (kk := ?_)
    refine v_aload_n (q := 109) dX7_takesPart_108 (kk := ?_)
    refine v_bipush (v := 6) (q := 111) dX7_takesPart_109 (kk := ?_)
    obtain ⟨I1, hI1⟩ : ∃ I1, hc_u (hc_u (hc_u I (m + 8) k c) m 16 (nI (k + 1))) m 17 (nI (A + 1)) = I1 := ⟨_, rfl⟩
    rw [hI1]
    have f1 : ∀ y, y ≠ m → y ≠ m + 8 → I1 y = I y := fun y a1 a2 => by rw [← hI1, hc_u_ne a1, hc_u_ne a1, hc_u_ne a2]
    have f2 : ∀ j, j ≠ 16 → j ≠ 17 → I1 m j = I m j := fun j a1 a2 => by rw [← hI1, hc_u_at, upd_ne a2, hc_u_at, upd_ne a1, hc_u_ne (by omega)]
    refine v_cV1 (N := mX7_settle) (q := 114) lX7_227 iX7_settle kX7_settle (by assumption) dX7_takesPart_111 (s_settle (h := h) (k := k + 1) (w := w) (cd := upd cd k c) hm ((f1 _ (by omega) (by omega)).trans h9) (by omega) ((f2 19 (by omega) (by omega)).trans h19) (by rw [← hI1, hc_u_at, upd_ne (by omega), hc_u_at, upd_at]) (by rw [← hI1, hc_u_ne (by omega), hc_u_ne (by omega), hc_u_at, h8]) (fun I2 hG2 a19 a16 a8 => ?_))
    refine v_aload_n (q := 115) dX7_takesPart_114 (kk := ?_)
    have g5 : I2 (m + 5) = tp := (hG2.1 _ (by omega) (by omega)).trans ((f1 _ (by omega) (by omega)).trans h5)
    have g6 : I2 m 6 = nI tl := (hG2.2 6 (by omega) (by omega)).trans ((f2 6 (by omega) (by omega)).trans h6)
    have gm : ∀ j, j ≠ 16 → j ≠ 17 → j ≠ 19 → I2 m j = I m j := fun j a1 a2 a3 => (hG2.2 j a1 a3).trans (f2 j a1 a2)
    have gt : TK I2 m tp tl p e := ⟨(gm 7 (by omega) (by omega) (by omega)).trans t7, (gm 8 (by omega) (by omega) (by omega)).trans t8, (gm 9 (by omega) (by omega) (by omega)).trans t9, (gm 11 (by omega) (by omega) (by omega)).trans t11, fun hh => (gm 10 (by omega) (by omega) (by omega)).trans (t10 hh), fun hh => (gm 10 (by omega) (by omega) (by omega)).trans (t10' hh)⟩
    refine v_cV0 (N := mX7_go) (q := 118) lX7_209 iX7_go kX7_go (by assumption) dX7_takesPart_115 (s_goT hm g5 g6 htl hb hp gt (fun I3 hG3 gt3 => ?_))
    refine v_iconst (v := 1) (q := 119) dX7_takesPart_118 (kk := ?_)
    refine v_zret dX7_takesPart_119 rfl (hQ := ?_)
    refine hyes c hc I3 ⟨fun y a1 a2 => ?_, fun j a1 a2 a3 a4 => ?_⟩ gt3 ?_ ?_ ?_ ?_
    · rw [hG3.1 y a1, hG2.1 y a1 a2]
      exact f1 y a1 a2
    · rw [hG3.2 j (by omega)]
      exact gm j a2 a3 a4
    · rw [hG3.2 19 (by omega)]; exact a19
    · rw [hG3.2 16 (by omega)]; exact a16
    · rw [hG3.1 (m + 8) (by omega)]; exact a8
    · rw [hG3.2 17 (by omega), hG2.2 17 (by omega) (by omega), ← hI1, hc_u_at, upd_at]
  have tail : V g mX7_takesPart 2 0 0 S I R z 37 [some (.ref m), none] [.int (hc_b (lxK tp tl p e = 1 ∧ lxR tp tl p - lxQ tp tl p = 1 ∧ ¬ nmF key (nI (tbF tp (lxQ tp tl p))) < 0))] Q := by
    refine v_istore1 (q := 38) dX7_takesPart_37 (kk := ?_)
    refine v_aload_n (q := 39) dX7_takesPart_38 (kk := ?_)
    refine v_getI (q := 42) fX7_194 (by assumption) (hd := dX7_takesPart_39) (kk := ?_)
    rw [t9]
    refine v_iconst (v := 2) (q := 43) dX7_takesPart_42 (kk := ?_)
    by_cases c2 : lxK tp tl p e = 2
    · have el : lfF tp tl key p e = some (nI (numF tp (lxQ tp tl p) (lxR tp tl p - lxQ tp tl p))) := by unfold lfF; rw [if_pos c2]
      refine v_icmp_eqT 52 dX7_takesPart_43 (by rw [c2]; rfl) (kt := ?_)
      refine v_aload_n (q := 53) dX7_takesPart_52 (kk := ?_)
      refine v_getR (q := 56) fX7_32 (by assumption) (by assumption) (hd := dX7_takesPart_53) (kk := ?_)
      refine v_aload_n (q := 57) dX7_takesPart_56 (kk := ?_)
      refine v_getI (q := 60) fX7_218 (by assumption) (hd := dX7_takesPart_57) (kk := ?_)
      rw [h16]
      refine v_aload_n (q := 61) dX7_takesPart_60 (kk := ?_)
      refine v_getI (q := 64) fX7_194 (by assumption) (hd := dX7_takesPart_61) (kk := ?_)
      rw [t9]
      refine v_iconst (v := 2) (q := 65) dX7_takesPart_64 (kk := ?_)
      refine v_icmp_neF (q := 68) (t := 75) dX7_takesPart_65 (by rw [c2]; rfl) (kf := ?_)
      refine v_aload_n (q := 69) dX7_takesPart_68 (kk := ?_)
      refine v_getI (q := 72) fX7_200 (by assumption) (hd := dX7_takesPart_69) (kk := ?_)
      rw [t10' c2]
      refine v_goto 87 dX7_takesPart_72 (kt := ?_)
      exact rest _ el _
    · refine v_icmp_eqF (q := 46) (t := 52) dX7_takesPart_43 (fun h' => c2 ((nI_eq (b := 2) (by omega) (by omega)).mp h')) (kf := ?_)
      refine v_iload_n (q := 47) dX7_takesPart_46 (kk := ?_)
      refine v_if_neB 52 (q := 50) dX7_takesPart_47 (kt := fun c3 => ?_) (kf := fun c3 => ?_)
      · have el : lfF tp tl key p e = some (10000 + nmF key (nI (tbF tp (lxQ tp tl p)))) := by unfold lfF; rw [if_neg c2, if_pos c3]
        refine v_aload_n (q := 53) dX7_takesPart_52 (kk := ?_)
        refine v_getR (q := 56) fX7_32 (by assumption) (by assumption) (hd := dX7_takesPart_53) (kk := ?_)
        refine v_aload_n (q := 57) dX7_takesPart_56 (kk := ?_)
        refine v_getI (q := 60) fX7_218 (by assumption) (hd := dX7_takesPart_57) (kk := ?_)
        rw [h16]
        refine v_aload_n (q := 61) dX7_takesPart_60 (kk := ?_)
        refine v_getI (q := 64) fX7_194 (by assumption) (hd := dX7_takesPart_61) (kk := ?_)
        rw [t9]
        refine v_iconst (v := 2) (q := 65) dX7_takesPart_64 (kk := ?_)
        refine v_icmp_neT 75 dX7_takesPart_65 (fun h' => c2 ((nI_eq (b := 2) (by omega) (by omega)).mp h')) (kt := ?_)
        refine v_sipush (v := 10000) (q := 78) dX7_takesPart_75 (kk := ?_)
        refine v_aload_n (q := 79) dX7_takesPart_78 (kk := ?_)
        refine v_aload_n (q := 80) dX7_takesPart_79 (kk := ?_)
        refine v_getI (q := 83) fX7_200 (by assumption) (hd := dX7_takesPart_80) (kk := ?_)
        rw [t10 (Or.inl c3.1)]
        refine v_cV1 (N := mX7_nameOf) (q := 86) lX7_221 iX7_nameOf kX7_nameOf (by assumption) dX7_takesPart_83 (s_nameOf hm hkey h12 ?_)
        refine v_iadd (q := 87) dX7_takesPart_86 (kk := ?_)
        exact rest _ el _
      · refine v_iconst (v := 0) (q := 51) dX7_takesPart_50 (kk := ?_)
        refine v_zret dX7_takesPart_51 rfl (hQ := ?_)
        exact hno (by unfold lfF; rw [if_neg c2, if_neg c3])
  refine v_aload_n (q := 1) dX7_takesPart_0 (kk := ?_)
  refine v_getI (q := 4) fX7_194 (by assumption) (hd := dX7_takesPart_1) (kk := ?_)
  rw [t9]
  refine v_iconst (v := 1) (q := 5) dX7_takesPart_4 (kk := ?_)
  by_cases c1 : lxK tp tl p e = 1
  · refine v_icmp_neF (q := 8) (t := 36) dX7_takesPart_5 (by rw [c1]; rfl) (kf := ?_)
    refine v_aload_n (q := 9) dX7_takesPart_8 (kk := ?_)
    refine v_getI (q := 12) fX7_185 (by assumption) (hd := dX7_takesPart_9) (kk := ?_)
    rw [t7]
    refine v_aload_n (q := 13) dX7_takesPart_12 (kk := ?_)
    refine v_getI (q := 16) fX7_188 (by assumption) (hd := dX7_takesPart_13) (kk := ?_)
    rw [t8]
    refine v_isub (q := 17) dX7_takesPart_16 (kk := ?_)
    rw [pk_sub hR.1]
    refine v_iconst (v := 1) (q := 18) dX7_takesPart_17 (kk := ?_)
    by_cases c2 : lxR tp tl p - lxQ tp tl p = 1
    · refine v_icmp_neF (q := 21) (t := 36) dX7_takesPart_18 (by rw [c2]; rfl) (kf := ?_)
      refine v_aload_n (q := 22) dX7_takesPart_21 (kk := ?_)
      refine v_aload_n (q := 23) dX7_takesPart_22 (kk := ?_)
      refine v_getI (q := 26) fX7_200 (by assumption) (hd := dX7_takesPart_23) (kk := ?_)
      rw [t10 (Or.inl c1)]
      refine v_cV1 (N := mX7_nameOf) (q := 29) lX7_221 iX7_nameOf kX7_nameOf (by assumption) dX7_takesPart_26 (s_nameOf hm hkey h12 ?_)
      refine v_if_lt 36 (q := 32) dX7_takesPart_29 (kt := fun c3 => ?_) (kf := fun c3 => ?_)
      · rw [hc_bf (fun h' => h'.2.2 c3)] at tail
        refine v_iconst (v := 0) (q := 37) dX7_takesPart_36 (kk := ?_)
        exact tail
      · rw [hc_bt ⟨c1, c2, c3⟩] at tail
        refine v_iconst (v := 1) (q := 33) dX7_takesPart_32 (kk := ?_)
        refine v_goto 37 dX7_takesPart_33 (kt := ?_)
        exact tail
    · rw [hc_bf (fun h' => c2 h'.2.1)] at tail
      refine v_icmp_neT 36 dX7_takesPart_18 (fun h' => c2 ((nI_eq (b := 1) (by omega) (by omega)).mp h')) (kt := ?_)
      refine v_iconst (v := 0) (q := 37) dX7_takesPart_36 (kk := ?_)
      exact tail
  · rw [hc_bf (fun h' => c1 h'.1)] at tail
    refine v_icmp_neT 36 dX7_takesPart_5 (fun h' => c1 ((nI_eq (b := 1) (by omega) (by omega)).mp h')) (kt := ?_)
    refine v_iconst (v := 0) (q := 37) dX7_takesPart_36 (kk := ?_)
    exact tail
end L9
