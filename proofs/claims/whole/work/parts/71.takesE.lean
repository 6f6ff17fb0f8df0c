theorem stl_cnt (l : Int32) : ∀ (W C : List Int32), (stl l W C).1.count (-11) = W.count (-11)
  | [], C => rfl
  | x :: W, C => by
    simp only [stl]
    split
    next c =>
      rw [stl_cnt l W (x :: C), List.count_cons]
      simp [c.1]
    next => rfl
theorem nI_dec {n : Nat} (h : 0 < n) : nI n + Int32.ofInt (-1) = nI (n - 1) := by
  obtain ⟨x, rfl⟩ : ∃ x, n = x + 1 := ⟨n - 1, by omega⟩
  rw [Nat.add_sub_cancel, ← nI_pred x, Int32.sub_eq_add_neg]
  rfl
theorem rkF_pos (x : Int32) : 0 ≤ rkF x := by
  unfold rkF
  repeat' split
  all_goals decide
theorem stl_0 : ∀ (W C : List Int32), (stl 0 W C).1 = [] ∨ ∃ W', (stl 0 W C).1 = -11 :: W'
  | [], C => Or.inl rfl
  | x :: W, C => by
    simp only [stl]
    split
    next c => exact stl_0 W (x :: C)
    next c =>
      refine Or.inr ⟨W, ?_⟩
      have : x = -11 := Decidable.byContradiction (fun n => c ⟨n, rkF_pos x⟩)
      rw [this]
def TM (m : Nat) (I I' : hcI) : Prop := (∀ y, y ≠ m → y ≠ m + 8 → y ≠ m + 9 → y ≠ m + 10 → I' y = I y) ∧ ∀ k, ¬ (7 ≤ k ∧ k ≤ 11) → k ≠ 16 → k ≠ 17 → k ≠ 19 → I' m k = I m k
theorem TM.rfl {m : Nat} {I : hcI} : TM m I I := ⟨fun _ _ _ _ _ => Eq.refl _, fun _ _ _ _ _ => Eq.refl _⟩
theorem TM.g {m : Nat} {I I1 I2 : hcI} (h : TM m I I1) (k : GM m I1 I2) : TM m I I2 := ⟨fun y a b c d => (k.1 y a).trans (h.1 y a b c d), fun j a b c d => (k.2 j (by omega)).trans (h.2 j a b c d)⟩
theorem TM.p {m : Nat} {I I1 I2 : hcI} (h : TM m I I1) (k : PM m I1 I2) : TM m I I2 := ⟨fun y a b c d => (k.1 y a b).trans (h.1 y a b c d), fun j a b c d => (k.2 j a b c d).trans (h.2 j a b c d)⟩
theorem TM.s {m : Nat} {I I1 I2 : hcI} (h : TM m I I1) (k : SM m I1 I2) : TM m I I2 := ⟨fun y a b c d => (k.1 y a b).trans (h.1 y a b c d), fun j a b c d => (k.2 j b d).trans (h.2 j a b c d)⟩
theorem TM.u {m j : Nat} {v : Int32} {I I1 : hcI} (h : TM m I I1) (hj : (7 ≤ j ∧ j ≤ 11) ∨ j = 16 ∨ j = 17 ∨ j = 19) : TM m I (hc_u I1 m j v) := ⟨fun y a b c d => (hc_u_ne a).trans (h.1 y a b c d), fun k a b c d => by rw [hc_u_at, upd_ne (by omega)]; exact h.2 k a b c d⟩
theorem TM.w {m y j : Nat} {v : Int32} {I I1 : hcI} (h : TM m I I1) (hj : y = m + 8 ∨ y = m + 9 ∨ y = m + 10) : TM m I (hc_u I1 y j v) := ⟨fun x a b c d => (hc_u_ne (by omega)).trans (h.1 x a b c d), fun k a b c d => by rw [hc_u_ne (by omega)]; exact h.2 k a b c d⟩
theorem TK.of {I I' : hcI} {m tl p : Nat} {tp : Nat → Int32} {e : Int32} (h : TK I m tp tl p e) (hk : ∀ j, 7 ≤ j → j ≤ 11 → I' m j = I m j) : TK I' m tp tl p e :=
  ⟨(hk 7 (by omega) (by omega)).trans h.1, (hk 8 (by omega) (by omega)).trans h.2.1, (hk 9 (by omega) (by omega)).trans h.2.2.1, (hk 11 (by omega) (by omega)).trans h.2.2.2.1, fun a => (hk 10 (by omega) (by omega)).trans (h.2.2.2.2.1 a), fun a => (hk 10 (by omega) (by omega)).trans (h.2.2.2.2.2 a)⟩
section L10
variable {g : hcG} {S : hcS} {I : hcI} {R : hcR} {z : Nat} {Q : hcQ} {m tl key : Nat} {tp : Nat → Int32} {res : Nat ⊕ (List Int32 × Nat)}
theorem takesE_loop (hm : MG S R m) (h5 : I (m + 5) = tp) (h6 : I m 6 = nI tl) (h12 : I m 12 = nI key) (htl : tl ≤ 96) (hb : TBt tp tl) (hkey : key < 3)
    (hQ0 : ∀ (q : Nat) (I' : hcI), res = Sum.inl q → TM m I I' → I' m 8 = nI q → Q (some (.int 0)) S I' R z)
    (hQ1 : ∀ (C : List Int32) (A : Nat) (I' : hcI), res = Sum.inr (C, A) → TM m I I' → C.length ≤ 96 → I' m 16 = nI C.length → I' m 17 = nI A → lsF (I' (m + 8)) C.length = C → Q (some (.int 1)) S I' R z) (n : Nat) :
    ∀ (p : Nat) (e : Int32) (wt : Bool) (w : Nat → Int32) (h : Nat) (cd : Nat → Int32) (k A : Nat) (ta : Nat → Int32) (pa : Nat) (T : List Bool) (nt : Nat) (o : Option Value) (I1 : hcI), tl - p < n → p ≤ tl → h + k + 4 ≤ p → mrun tp tl key n p e wt (lsF w h) (lsF cd k) A T nt = res → T.map hc_z = lsF ta (pa + 1) → (lsF w h).count (-11) = pa → pa ≤ 8 → nt ≤ 96 → TM m I I1 → TK I1 m tp tl p e → I1 m 19 = nI h → I1 m 16 = nI k → I1 (m + 8) = cd → I1 (m + 9) = w → I1 m 17 = nI A → I1 (m + 10) = ta → V g mX7_takesE 3 0 0 S I1 R z 28 [some (.ref m), some (.int (nI pa)), some (.int (nI nt)), some (.int (hc_z wt)), o] [] Q := by
  have s0 := hm.s0
  have sw := hm.s_waits
  have rwt := hm.r_waits
  have sc := hm.s_code
  have rc := hm.r_code
  have ss := hm.s_tested
  have rs := hm.r_tested
  induction n with
  | zero => intro p e wt w h cd k A ta pa T nt o I1 hn; omega
  | succ n ih =>
    intro p e wt w h cd k A ta pa T nt o I1 hn hp hh hr hT hpa hpa8 hnt hG ht h19 h16 h8 h9 h17 h10
    have hlen : T.length = pa + 1 := by
      have := congrArg List.length hT
      rwa [List.length_map, lsF_len] at this
    have ht' := ht
    obtain ⟨t7, t8, t9, t11, t10, t10'⟩ := ht'
    have e5 : I1 (m + 5) = tp := (hG.1 _ (by omega) (by omega) (by omega) (by omega)).trans h5
    have e6 : I1 m 6 = nI tl := (hG.2 6 (by omega) (by omega) (by omega) (by omega)).trans h6
    have e12 : I1 m 12 = nI key := (hG.2 12 (by omega) (by omega) (by omega) (by omega)).trans h12
    have hk5 := lxK_lt (tp := tp) (tl := tl) (p := p) (e := e)
    have hv : lxK tp tl p e = 3 → tbF tp (lxQ tp tl p) < 256 := fun c => (hb _ (lxR_gt (e := e) hp (by omega)).2.2).2
    have hgo := fun c => lxR_gt (tp := tp) (e := e) hp (show ¬ lxK tp tl p e = 0 from c)
    have fin : ∀ (p' : Nat) (e' : Int32) (wt' : Bool) (w' : Nat → Int32) (h' : Nat) (cd' : Nat → Int32) (k' A' : Nat) (ta' : Nat → Int32) (pa' : Nat) (T' : List Bool) (x2 : Option Value) (I2 : hcI), tl - p' < n → p' ≤ tl → h' + k' + 4 ≤ p' → mrun tp tl key n p' e' wt' (lsF w' h') (lsF cd' k') A' T' (List.count (-10) (lsF w' h')) = res → T'.map hc_z = lsF ta' (pa' + 1) → (lsF w' h').count (-11) = pa' → pa' ≤ 8 → TM m I I2 → TK I2 m tp tl p' e' → I2 m 19 = nI h' → I2 m 16 = nI k' → I2 (m + 8) = cd' → I2 (m + 9) = w' → I2 m 17 = nI A' → I2 (m + 10) = ta' → V g mX7_takesE 3 0 0 S I2 R z 172 [some (.ref m), some (.int (nI pa')), x2, some (.int (hc_z wt')), o] [] Q := by
      intro p' e' wt' w' h' cd' k' A' ta' pa' T' x2 I2 a1 a2 a3 a4 a5 a6 a7 a8 a9 a10 a11 a12 a13 a14 a15
      rw [lsF_nt] at a4
      have := ntC_le w' h'
      refine v_aload_n (q := 173) dX7_takesE_172 (kk := ?_)
      refine v_cV0 (N := mX7_notsOpen) (q := 176) lX7_235 iX7_notsOpen kX7_notsOpen (by assumption) dX7_takesE_173 (s_notsOpen hm a10 a13 (by omega) ?_)
      refine v_istore2 (q := 177) dX7_takesE_176 (kk := ?_)
      refine v_goto 28 dX7_takesE_177 (kt := ?_)
      exact ih p' e' wt' w' h' cd' k' A' ta' pa' T' _ o I2 a1 a2 a3 a4 a5 a6 a7 (by omega) a8 a9 a10 a11 a12 a13 a14 a15
    cases wt with
    | true =>
      have part : ¬ (lxK tp tl p e = 3 ∧ tbF tp (lxQ tp tl p) = 33 ∧ nt < 8) → ¬ (lxK tp tl p e = 3 ∧ tbF tp (lxQ tp tl p) = 40 ∧ T.length < 9) → V g mX7_takesE 3 0 0 S I1 R z 158 [some (.ref m), some (.int (nI pa)), some (.int (nI nt)), some (.int (hc_z true)), o] [] Q := by
        intro n1 n2
        refine v_aload_n (q := 159) dX7_takesE_158 (kk := ?_)
        refine v_cV0 (N := mX7_takesPart) (q := 162) lX7_231 iX7_takesPart kX7_takesPart (by assumption) dX7_takesE_159 (s_takesPart hm e5 e6 htl hb hp ht hkey e12 h9 (by omega) h19 h16 h8 h17 (fun hno => ?_) (fun c hc I2 hP b1 b2 b3 b4 b5 => ?_))
        · refine v_if_eqT 170 dX7_takesE_162 (rfl) (kt := ?_)
          refine v_iconst (v := 0) (q := 171) dX7_takesE_170 (kk := ?_)
          refine v_zret dX7_takesE_171 rfl (hQ := ?_)
          rw [mrun_bad n1 n2 hno] at hr
          exact hQ0 _ I1 hr.symm hG t8
        · have hk12 := lfF_k hc
          have hg := hgo (by omega)
          have hle := stH_le w 6 h
          have hst := stl_ls w 6 h (k + 1) (upd cd k c)
          rw [lsF_upd] at hst
          rw [mrun_leaf hc, hst] at hr
          have hcnt := stl_cnt 6 (lsF w h) (c :: lsF cd k)
          rw [hst] at hcnt
          refine v_if_eqF (q := 165) (t := 170) dX7_takesE_162 (by decide) (kf := ?_)
          refine v_iconst (v := 0) (q := 166) dX7_takesE_165 (kk := ?_)
          refine v_istore3 (q := 167) dX7_takesE_166 (kk := ?_)
          refine v_goto 172 dX7_takesE_167 (kt := ?_)
          exact fin _ _ false w (stH w 6 h) _ (k + 1 + (h - stH w 6 h)) (A + 1) ta pa T _ I2 (by omega) (by omega) (by omega) hr hT (hcnt.trans hpa) hpa8 (hG.p hP) b1 b2 b3 b4 ((hP.1 _ (by omega) (by omega)).trans h9) b5 ((hP.1 _ (by omega) (by omega)).trans h10)
      have opn : ¬ (lxK tp tl p e = 3 ∧ tbF tp (lxQ tp tl p) = 33 ∧ nt < 8) → V g mX7_takesE 3 0 0 S I1 R z 97 [some (.ref m), some (.int (nI pa)), some (.int (nI nt)), some (.int (hc_z true)), o] [] Q := by
        intro n1
        refine v_aload_n (q := 98) dX7_takesE_97 (kk := ?_)
        refine v_getI (q := 101) fX7_194 (by assumption) (hd := dX7_takesE_98) (kk := ?_)
        rw [t9]
        refine v_iconst (v := 3) (q := 102) dX7_takesE_101 (kk := ?_)
        by_cases c3 : lxK tp tl p e = 3
        · refine v_icmp_neF (q := 105) (t := 158) dX7_takesE_102 (by rw [c3]; rfl) (kf := ?_)
          have hv' := hv c3
          have hg := hgo (by omega)
          refine v_aload_n (q := 106) dX7_takesE_105 (kk := ?_)
          refine v_getI (q := 109) fX7_200 (by assumption) (hd := dX7_takesE_106) (kk := ?_)
          rw [t10 (Or.inr c3)]
          refine v_bipush (v := 40) (q := 111) dX7_takesE_109 (kk := ?_)
          by_cases c4 : tbF tp (lxQ tp tl p) = 40
          · refine v_icmp_neF (q := 114) (t := 158) dX7_takesE_111 (by rw [c4]; rfl) (kf := ?_)
            refine v_iload_n (q := 115) dX7_takesE_114 (kk := ?_)
            refine v_bipush (v := 8) (q := 117) dX7_takesE_115 (kk := ?_)
            by_cases c5 : pa < 8
            · rw [mrun_open ⟨c3, c4, by omega⟩] at hr
              refine v_icmp_geF (q := 120) (t := 158) dX7_takesE_117 (fun h' => by have := (nI_leI (a := 8) (by omega) (by omega)).mp h'; omega) (kf := ?_)
              refine v_aload_n (q := 121) dX7_takesE_120 (kk := ?_)
              refine v_getR (q := 124) fX7_35 (by assumption) (by assumption) (hd := dX7_takesE_121) (kk := ?_)
              refine v_aload_n (q := 125) dX7_takesE_124 (kk := ?_)
              refine v_getI (q := 128) fX7_212 (by assumption) (hd := dX7_takesE_125) (kk := ?_)
              rw [h19]
              refine v_bipush (v := (-11)) (q := 130) dX7_takesE_128 (kk := ?_)
              refine v_iastE (q := 131) (h) (by rfl) (by assumption) (by omega) (by omega) (hd := dX7_takesE_130) (kk := ?_)
              refine v_aload_n (q := 132) dX7_takesE_131 (kk := ?_)
              refine v_dup (q := 133) dX7_takesE_132 (kk := ?_)
              refine v_getI (q := 136) fX7_212 (by assumption) (hd := dX7_takesE_133) (kk := ?_)
              rw [hc_u_ne (by omega), h19]
              refine v_iconst (v := 1) (q := 137) dX7_takesE_136 (kk := ?_)
              refine v_iadd (q := 138) dX7_takesE_137 (kk := ?_)
              rw [nI_1]
              refine v_putI (q := 141) fX7_212 (by assumption) (hd := dX7_takesE_138) (kk := ?_)
              refine v_iinc1 (q := 144) dX7_takesE_141 (hv := nI_1 pa) (kk := ?_)
              refine v_aload_n (q := 145) dX7_takesE_144 (kk := ?_)
              refine v_getR (q := 148) fX7_38 (by assumption) (by assumption) (hd := dX7_takesE_145) (kk := ?_)
              refine v_iload_n (q := 149) dX7_takesE_148 (kk := ?_)
              refine v_iconst (v := 0) (q := 150) dX7_takesE_149 (kk := ?_)
              refine v_zastN (q := 151) ss (show pa + 1 < 10 by omega) (by decide) (by rfl) (hd := dX7_takesE_150) (kk := ?_)
              obtain ⟨I2, hI2⟩ : ∃ I2, hc_u (hc_u (hc_u I1 (m + 9) h (-11)) m 19 (nI (h + 1))) (m + 10) (pa + 1) 0 = I2 := ⟨_, rfl⟩
              rw [hI2]
              have hG2 : TM m I I2 := by rw [← hI2]; exact ((hG.w (by omega)).u (by omega)).w (by omega)
              have ht2 : TK I2 m tp tl p e := ht.of (fun j a b => by rw [← hI2, hc_u_ne (by omega), hc_u_at, upd_ne (by omega), hc_u_ne (by omega)])
              refine v_aload_n (q := 152) dX7_takesE_151 (kk := ?_)
              refine v_cV0 (N := mX7_go) (q := 155) lX7_209 iX7_go kX7_go (by assumption) dX7_takesE_152 (s_goT hm ((hG2.1 _ (by omega) (by omega) (by omega) (by omega)).trans h5) ((hG2.2 6 (by omega) (by omega) (by omega) (by omega)).trans h6) htl hb hp ht2 (fun I3 hG3 ht3 => ?_))
              refine v_goto 172 dX7_takesE_155 (kt := ?_)
              refine fin _ _ true (upd w h (-11)) (h + 1) cd k A (upd ta (pa + 1) 0) (pa + 1) (false :: T) _ I3 (by omega) (by omega) (by omega) (by rw [lsF_upd]; exact hr) ?_ ?_ (by omega) (hG2.g hG3) ht3 ?_ ?_ ?_ ?_ ?_ ?_
              · rw [lsF_upd, List.map_cons, hT]
                rfl
              · rw [lsF_upd, List.count_cons, hpa]
                rfl
              · rw [hG3.2 19 (by omega), ← hI2, hc_u_ne (by omega), hc_u_at, upd_at]
              · rw [hG3.2 16 (by omega), ← hI2, hc_u_ne (by omega), hc_u_at, upd_ne (by omega), hc_u_ne (by omega)]
                exact h16
              · rw [hG3.1 _ (by omega), ← hI2, hc_u_ne (by omega), hc_u_ne (by omega), hc_u_ne (by omega)]
                exact h8
              · rw [hG3.1 _ (by omega), ← hI2, hc_u_ne (by omega), hc_u_ne (by omega), hc_u_at, h9]
              · rw [hG3.2 17 (by omega), ← hI2, hc_u_ne (by omega), hc_u_at, upd_ne (by omega), hc_u_ne (by omega)]
                exact h17
              · rw [hG3.1 _ (by omega), ← hI2, hc_u_at, hc_u_ne (by omega), hc_u_ne (by omega), h10]
            · refine v_icmp_geT 158 dX7_takesE_117 (nI_le (a := 8) (by omega) (by omega)) (kt := ?_)
              exact part n1 (fun h' => by have := h'.2.2; omega)
          · refine v_icmp_neT 158 dX7_takesE_111 (fun h' => c4 ((nI_eq (b := 40) (by omega) (by omega)).mp h')) (kt := ?_)
            exact part n1 (fun h' => c4 h'.2.1)
        · refine v_icmp_neT 158 dX7_takesE_102 (fun h' => c3 ((nI_eq (b := 3) (by omega) (by omega)).mp h')) (kt := ?_)
          exact part n1 (fun h' => c3 h'.1)
      refine v_iload_n (q := 29) dX7_takesE_28 (kk := ?_)
      refine v_if_neT 39 dX7_takesE_29 (by decide) (kt := ?_)
      refine v_iload_n (q := 40) dX7_takesE_39 (kk := ?_)
      refine v_if_eqF (q := 43) (t := 180) dX7_takesE_40 (by decide) (kf := ?_)
      refine v_aload_n (q := 44) dX7_takesE_43 (kk := ?_)
      refine v_getI (q := 47) fX7_194 (by assumption) (hd := dX7_takesE_44) (kk := ?_)
      rw [t9]
      refine v_iconst (v := 3) (q := 48) dX7_takesE_47 (kk := ?_)
      by_cases c3 : lxK tp tl p e = 3
      · refine v_icmp_neF (q := 51) (t := 97) dX7_takesE_48 (by rw [c3]; rfl) (kf := ?_)
        have hv' := hv c3
        have hg := hgo (by omega)
        refine v_aload_n (q := 52) dX7_takesE_51 (kk := ?_)
        refine v_getI (q := 55) fX7_200 (by assumption) (hd := dX7_takesE_52) (kk := ?_)
        rw [t10 (Or.inr c3)]
        refine v_bipush (v := 33) (q := 57) dX7_takesE_55 (kk := ?_)
        by_cases c4 : tbF tp (lxQ tp tl p) = 33
        · refine v_icmp_neF (q := 60) (t := 97) dX7_takesE_57 (by rw [c4]; rfl) (kf := ?_)
          refine v_iload_n (q := 61) dX7_takesE_60 (kk := ?_)
          refine v_bipush (v := 8) (q := 63) dX7_takesE_61 (kk := ?_)
          by_cases c5 : nt < 8
          · rw [mrun_not ⟨c3, c4, c5⟩] at hr
            refine v_icmp_geF (q := 66) (t := 97) dX7_takesE_63 (fun h' => by have := (nI_leI (a := 8) (by omega) (by omega)).mp h'; omega) (kf := ?_)
            refine v_aload_n (q := 67) dX7_takesE_66 (kk := ?_)
            refine v_getR (q := 70) fX7_35 (by assumption) (by assumption) (hd := dX7_takesE_67) (kk := ?_)
            refine v_aload_n (q := 71) dX7_takesE_70 (kk := ?_)
            refine v_getI (q := 74) fX7_212 (by assumption) (hd := dX7_takesE_71) (kk := ?_)
            rw [h19]
            refine v_bipush (v := (-10)) (q := 76) dX7_takesE_74 (kk := ?_)
            refine v_iastE (q := 77) (h) (by rfl) (by assumption) (by omega) (by omega) (hd := dX7_takesE_76) (kk := ?_)
            refine v_aload_n (q := 78) dX7_takesE_77 (kk := ?_)
            refine v_dup (q := 79) dX7_takesE_78 (kk := ?_)
            refine v_getI (q := 82) fX7_212 (by assumption) (hd := dX7_takesE_79) (kk := ?_)
            rw [hc_u_ne (by omega), h19]
            refine v_iconst (v := 1) (q := 83) dX7_takesE_82 (kk := ?_)
            refine v_iadd (q := 84) dX7_takesE_83 (kk := ?_)
            rw [nI_1]
            refine v_putI (q := 87) fX7_212 (by assumption) (hd := dX7_takesE_84) (kk := ?_)
            refine v_iinc2 (q := 90) dX7_takesE_87 (hv := nI_1 nt) (kk := ?_)
            obtain ⟨I2, hI2⟩ : ∃ I2, hc_u (hc_u I1 (m + 9) h (-10)) m 19 (nI (h + 1)) = I2 := ⟨_, rfl⟩
            rw [hI2]
            have hG2 : TM m I I2 := by rw [← hI2]; exact (hG.w (by omega)).u (by omega)
            have ht2 : TK I2 m tp tl p e := ht.of (fun j a b => by rw [← hI2, hc_u_at, upd_ne (by omega), hc_u_ne (by omega)])
            refine v_aload_n (q := 91) dX7_takesE_90 (kk := ?_)
            refine v_cV0 (N := mX7_go) (q := 94) lX7_209 iX7_go kX7_go (by assumption) dX7_takesE_91 (s_goT hm ((hG2.1 _ (by omega) (by omega) (by omega) (by omega)).trans h5) ((hG2.2 6 (by omega) (by omega) (by omega) (by omega)).trans h6) htl hb hp ht2 (fun I3 hG3 ht3 => ?_))
            refine v_goto 172 dX7_takesE_94 (kt := ?_)
            refine fin _ _ true (upd w h (-10)) (h + 1) cd k A ta pa T _ I3 (by omega) (by omega) (by omega) (by rw [lsF_upd]; exact hr) hT ?_ (by omega) (hG2.g hG3) ht3 ?_ ?_ ?_ ?_ ?_ ?_
            · rw [lsF_upd, List.count_cons, hpa]
              rfl
            · rw [hG3.2 19 (by omega), ← hI2, hc_u_at, upd_at]
            · rw [hG3.2 16 (by omega), ← hI2, hc_u_at, upd_ne (by omega), hc_u_ne (by omega)]
              exact h16
            · rw [hG3.1 _ (by omega), ← hI2, hc_u_ne (by omega), hc_u_ne (by omega)]
              exact h8
            · rw [hG3.1 _ (by omega), ← hI2, hc_u_ne (by omega), hc_u_at, h9]
            · rw [hG3.2 17 (by omega), ← hI2, hc_u_at, upd_ne (by omega), hc_u_ne (by omega)]
              exact h17
            · rw [hG3.1 _ (by omega), ← hI2, hc_u_ne (by omega), hc_u_ne (by omega), h10]
          · refine v_icmp_geT 97 dX7_takesE_63 (nI_le (a := 8) (by omega) (by omega)) (kt := ?_)
            exact opn (fun h' => c5 h'.2.2)
        · refine v_icmp_neT 97 dX7_takesE_57 (fun h' => c4 ((nI_eq (b := 33) (by omega) (by omega)).mp h')) (kt := ?_)
          exact opn (fun h' => c4 h'.2.1)
      · refine v_icmp_neT 97 dX7_takesE_48 (fun h' => c3 ((nI_eq (b := 3) (by omega) (by omega)).mp h')) (kt := ?_)
        exact opn (fun h' => c3 h'.1)
    | false =>
      obtain ⟨t, T0, rfl⟩ : ∃ t T0, T = t :: T0 := by
        cases T with
        | nil => simp at hlen
        | cons t T0 => exact ⟨t, T0, rfl⟩
      have hT' : hc_z t = ta pa ∧ T0.map hc_z = lsF ta pa := by
        rw [List.map_cons] at hT
        simpa [lsF] using hT
      have sgn : ¬ lxK tp tl p e = 0 → ¬ (lxK tp tl p e = 3 ∧ tbF tp (lxQ tp tl p) = 41 ∧ 1 < (t :: T0).length) → V g mX7_takesE 3 0 0 S I1 R z 237 [some (.ref m), some (.int (nI pa)), some (.int (nI nt)), some (.int (hc_z false)), o] [] Q := by
        intro n0 n1
        have bad : ∀ o', ((if lxK tp tl p e = 3 then sgF (tbF tp (lxQ tp tl p)) else 0) = 0 ∨ (rkF (sgF (tbF tp (lxQ tp tl p))) = 3 ∧ (t :: T0).headD false = true)) → V g mX7_takesE 3 0 0 S I1 R z 266 [some (.ref m), some (.int (nI pa)), some (.int (nI nt)), some (.int (hc_z false)), o'] [] Q := by
          intro o' hc
          rw [mrun_nosign n0 n1 hc] at hr
          refine v_iconst (v := 0) (q := 267) dX7_takesE_266 (kk := ?_)
          refine v_zret dX7_takesE_267 rfl (hQ := ?_)
          exact hQ0 _ I1 hr.symm hG t8
        refine v_aload_n (q := 238) dX7_takesE_237 (kk := ?_)
        refine v_cV0 (N := mX7_signHere) (q := 241) lX7_238 iX7_signHere kX7_signHere (by assumption) dX7_takesE_238 (s_signHere hm hk5 t9 (fun c3 => ⟨hv c3, t10 (Or.inr c3)⟩) ?_)
        refine v_istore4 (q := 243) dX7_takesE_241 (kk := ?_)
        refine v_iload (q := 245) dX7_takesE_243 (kk := ?_)
        refine v_if_eq 266 (q := 248) dX7_takesE_245 (kt := fun c1 => ?_) (kf := fun c1 => ?_)
        · exact bad _ (Or.inl c1)
        · have c3 : lxK tp tl p e = 3 := Decidable.byContradiction (fun n => c1 (if_neg n))
          rw [if_pos c3] at c1 ⊢
          have hg := hgo (by omega)
          obtain ⟨s, hs⟩ : ∃ s, sgF (tbF tp (lxQ tp tl p)) = s := ⟨_, rfl⟩
          have good : ¬ (rkF s = 3 ∧ t = true) → V g mX7_takesE 3 0 0 S I1 R z 268 [some (.ref m), some (.int (nI pa)), some (.int (nI nt)), some (.int (hc_z false)), some (.int s)] [] Q := by
            intro hc
            rw [mrun_sign n0 n1 (by rw [if_pos c3, hs]; exact fun h' => h'.elim (by rw [← hs]; exact c1) hc), hs] at hr
            have store : V g mX7_takesE 3 0 0 S I1 R z 305 [some (.ref m), some (.int (nI pa)), some (.int (nI nt)), some (.int (hc_z false)), some (.int s)] [.int (hc_z (decide (rkF s = 3) || (decide (3 < rkF s) && t))), .int (nI pa), .ref (m + 10)] Q := by
              refine v_zastN (q := 306) ss (show pa < 10 by omega) (by decide) hc_zn (hd := dX7_takesE_305) (kk := ?_)
              obtain ⟨t', ht'⟩ : ∃ t', (decide (rkF s = 3) || (decide (3 < rkF s) && t)) = t' := ⟨_, rfl⟩
              rw [show (t :: T0).headD false = t from rfl, ht'] at hr
              rw [ht']
              obtain ⟨I2, hI2⟩ : ∃ I2, hc_u I1 (m + 10) pa (hc_z t') = I2 := ⟨_, rfl⟩
              rw [hI2]
              have hG2 : TM m I I2 := by rw [← hI2]; exact hG.w (by omega)
              have k2 : ∀ j, I2 m j = I1 m j := fun j => by rw [← hI2, hc_u_ne (by omega)]
              refine v_aload_n (q := 307) dX7_takesE_306 (kk := ?_)
              refine v_iload (q := 309) dX7_takesE_307 (kk := ?_)
              refine v_cS1 (N := mX7_rank) (q := 312) lX7_215 sX7_rank kX7_rank dX7_takesE_309 (s_rank ?_)
              refine v_cV1 (N := mX7_settle) (q := 315) lX7_227 iX7_settle kX7_settle (by assumption) dX7_takesE_312 (s_settle (h := h) (k := k) (w := w) (cd := cd) hm (by rw [← hI2, hc_u_ne (by omega)]; exact h9) (by omega) ((k2 19).trans h19) ((k2 16).trans h16) (by rw [← hI2, hc_u_ne (by omega)]; exact h8) (fun I3 hS3 b19 b16 b8 => ?_))
              have hle := stH_le w (rkF s) h
              have hst := stl_ls w (rkF s) h k cd
              have hcnt := stl_cnt (rkF s) (lsF w h) (lsF cd k)
              rw [hst] at hr hcnt
              have hs11 : ¬ s = -11 := by
                rw [← hs]
                intro h'
                rcases tg_sg _ (hv c3) with h | h | h | h | h | h | h | h | h | h <;> rw [h.2] at h' <;> revert h' <;> decide
              refine v_aload_n (q := 316) dX7_takesE_315 (kk := ?_)
              refine v_getR (q := 319) fX7_35 (by assumption) (by assumption) (hd := dX7_takesE_316) (kk := ?_)
              refine v_aload_n (q := 320) dX7_takesE_319 (kk := ?_)
              refine v_getI (q := 323) fX7_212 (by assumption) (hd := dX7_takesE_320) (kk := ?_)
              rw [b19]
              refine v_iload (q := 325) dX7_takesE_323 (kk := ?_)
              refine v_iastE (q := 326) (stH w (rkF s) h) (by rfl) (by assumption) (by omega) (by omega) (hd := dX7_takesE_325) (kk := ?_)
              refine v_aload_n (q := 327) dX7_takesE_326 (kk := ?_)
              refine v_dup (q := 328) dX7_takesE_327 (kk := ?_)
              refine v_getI (q := 331) fX7_212 (by assumption) (hd := dX7_takesE_328) (kk := ?_)
              rw [hc_u_ne (by omega), b19]
              refine v_iconst (v := 1) (q := 332) dX7_takesE_331 (kk := ?_)
              refine v_iadd (q := 333) dX7_takesE_332 (kk := ?_)
              rw [nI_1]
              refine v_putI (q := 336) fX7_212 (by assumption) (hd := dX7_takesE_333) (kk := ?_)
              refine v_iconst (v := 1) (q := 337) dX7_takesE_336 (kk := ?_)
              refine v_istore3 (q := 338) dX7_takesE_337 (kk := ?_)
              obtain ⟨I4, hI4⟩ : ∃ I4, hc_u (hc_u I3 (m + 9) (stH w (rkF s) h) s) m 19 (nI (stH w (rkF s) h + 1)) = I4 := ⟨_, rfl⟩
              rw [hI4]
              have hG4 : TM m I I4 := by rw [← hI4]; exact ((hG2.s hS3).w (by omega)).u (by omega)
              have ht4 : TK I4 m tp tl p e := ht.of (fun j a b => by rw [← hI4, hc_u_at, upd_ne (by omega), hc_u_ne (by omega), hS3.2 j (by omega) (by omega), k2])
              refine v_aload_n (q := 339) dX7_takesE_338 (kk := ?_)
              refine v_cV0 (N := mX7_go) (q := 342) lX7_209 iX7_go kX7_go (by assumption) dX7_takesE_339 (s_goT hm ((hG4.1 _ (by omega) (by omega) (by omega) (by omega)).trans h5) ((hG4.2 6 (by omega) (by omega) (by omega) (by omega)).trans h6) htl hb hp ht4 (fun I5 hG5 ht5 => ?_))
              refine v_goto 28 dX7_takesE_342 (kt := ?_)
              refine ih _ _ true (upd w (stH w (rkF s) h) s) (stH w (rkF s) h + 1) (cdS cd w k h (h - stH w (rkF s) h)) (k + (h - stH w (rkF s) h)) A (upd ta pa (hc_z t')) pa (t' :: T0) nt _ I5 (by omega) (by omega) (by omega) (by rw [lsF_upd]; exact hr) ?_ ?_ hpa8 hnt (hG4.g hG5) ht5 ?_ ?_ ?_ ?_ ?_ ?_
              · rw [lsF_upd, List.map_cons, hT'.2]
              · rw [lsF_upd, List.count_cons, hcnt, hpa]
                simp [hs11]
              · rw [hG5.2 19 (by omega), ← hI4, hc_u_at, upd_at]
              · rw [hG5.2 16 (by omega), ← hI4, hc_u_at, upd_ne (by omega), hc_u_ne (by omega)]
                exact b16
              · rw [hG5.1 _ (by omega), ← hI4, hc_u_ne (by omega), hc_u_ne (by omega)]
                exact b8
              · rw [hG5.1 _ (by omega), ← hI4, hc_u_ne (by omega), hc_u_at, hS3.1 _ (by omega) (by omega), ← hI2, hc_u_ne (by omega), h9]
              · rw [hG5.2 17 (by omega), ← hI4, hc_u_at, upd_ne (by omega), hc_u_ne (by omega), hS3.2 17 (by omega) (by omega), k2]
                exact h17
              · rw [hG5.1 _ (by omega), ← hI4, hc_u_ne (by omega), hc_u_ne (by omega), hS3.1 _ (by omega) (by omega), ← hI2, hc_u_at, h10]
            refine v_aload_n (q := 269) dX7_takesE_268 (kk := ?_)
            refine v_getR (q := 272) fX7_38 (by assumption) (by assumption) (hd := dX7_takesE_269) (kk := ?_)
            refine v_iload_n (q := 273) dX7_takesE_272 (kk := ?_)
            refine v_iload (q := 275) dX7_takesE_273 (kk := ?_)
            refine v_cS1 (N := mX7_rank) (q := 278) lX7_215 sX7_rank kX7_rank dX7_takesE_275 (s_rank ?_)
            refine v_iconst (v := 3) (q := 279) dX7_takesE_278 (kk := ?_)
            refine v_icmp_eq 300 (q := 282) dX7_takesE_279 (kt := fun d1 => ?_) (kf := fun d1 => ?_)
            · rw [show (decide (rkF s = 3) || (decide (3 < rkF s) && t)) = true by simp [d1]] at store
              refine v_iconst (v := 1) (q := 301) dX7_takesE_300 (kk := ?_)
              refine v_goto 305 dX7_takesE_301 (kt := ?_)
              exact store
            · refine v_iload (q := 284) dX7_takesE_282 (kk := ?_)
              refine v_cS1 (N := mX7_rank) (q := 287) lX7_215 sX7_rank kX7_rank dX7_takesE_284 (s_rank ?_)
              refine v_iconst (v := 3) (q := 288) dX7_takesE_287 (kk := ?_)
              refine v_icmp_le 304 (q := 291) dX7_takesE_288 (kt := fun d2 => ?_) (kf := fun d2 => ?_)
              · rw [show (decide (rkF s = 3) || (decide (3 < rkF s) && t)) = false by simp [d1, Int32.not_lt.mpr d2]] at store
                refine v_iconst (v := 0) (q := 305) dX7_takesE_304 (kk := ?_)
                exact store
              · refine v_aload_n (q := 292) dX7_takesE_291 (kk := ?_)
                refine v_getR (q := 295) fX7_38 (by assumption) (by assumption) (hd := dX7_takesE_292) (kk := ?_)
                refine v_iload_n (q := 296) dX7_takesE_295 (kk := ?_)
                refine v_zaldN (q := 297) ss (show pa < 10 by omega) (by decide) (hd := dX7_takesE_296) (kk := ?_)
                rw [h10, ← hT'.1]
                refine v_if_eqZ 304 (q := 300) dX7_takesE_297 (kt := fun d3 => ?_) (kf := fun d3 => ?_)
                · rw [show (decide (rkF s = 3) || (decide (3 < rkF s) && t)) = false by simp [d1, d3]] at store
                  refine v_iconst (v := 0) (q := 305) dX7_takesE_304 (kk := ?_)
                  exact store
                · rw [show (decide (rkF s = 3) || (decide (3 < rkF s) && t)) = true by simp [d3, Int32.not_le.mp d2]] at store
                  refine v_iconst (v := 1) (q := 301) dX7_takesE_300 (kk := ?_)
                  refine v_goto 305 dX7_takesE_301 (kt := ?_)
                  exact store
          rw [hs]
          refine v_iload (q := 250) dX7_takesE_248 (kk := ?_)
          refine v_cS1 (N := mX7_rank) (q := 253) lX7_215 sX7_rank kX7_rank dX7_takesE_250 (s_rank ?_)
          refine v_iconst (v := 3) (q := 254) dX7_takesE_253 (kk := ?_)
          refine v_icmp_ne 268 (q := 257) dX7_takesE_254 (kt := fun d1 => ?_) (kf := fun d1 => ?_)
          · exact good (fun h' => d1 h'.1)
          · refine v_aload_n (q := 258) dX7_takesE_257 (kk := ?_)
            refine v_getR (q := 261) fX7_38 (by assumption) (by assumption) (hd := dX7_takesE_258) (kk := ?_)
            refine v_iload_n (q := 262) dX7_takesE_261 (kk := ?_)
            refine v_zaldN (q := 263) ss (show pa < 10 by omega) (by decide) (hd := dX7_takesE_262) (kk := ?_)
            rw [h10, ← hT'.1]
            refine v_if_eqZ 268 (q := 266) dX7_takesE_263 (kt := fun d3 => ?_) (kf := fun d3 => ?_)
            · exact good (fun h' => by rw [d3] at h'; cases h'.2)
            · exact bad _ (Or.inr ⟨by rw [hs]; exact d1, d3⟩)
      refine v_iload_n (q := 29) dX7_takesE_28 (kk := ?_)
      refine v_if_neF (q := 32) (t := 39) dX7_takesE_29 (rfl) (kf := ?_)
      refine v_aload_n (q := 33) dX7_takesE_32 (kk := ?_)
      refine v_getI (q := 36) fX7_194 (by assumption) (hd := dX7_takesE_33) (kk := ?_)
      rw [t9]
      by_cases c0 : lxK tp tl p e = 0
      · have hst := stl_ls w 0 h k cd
        have hle := stH_le w 0 h
        refine v_if_eqT 345 dX7_takesE_36 (by rw [c0]; rfl) (kt := ?_)
        refine v_aload_n (q := 346) dX7_takesE_345 (kk := ?_)
        refine v_iconst (v := 0) (q := 347) dX7_takesE_346 (kk := ?_)
        refine v_cV1 (N := mX7_settle) (q := 350) lX7_227 iX7_settle kX7_settle (by assumption) dX7_takesE_347 (s_settle (h := h) (k := k) (w := w) (cd := cd) hm h9 (by omega) h19 h16 h8 (fun I3 hS3 b19 b16 b8 => ?_))
        refine v_iload_n (q := 351) dX7_takesE_350 (kk := ?_)
        by_cases cp : pa = 0
        · rw [mrun_end c0 (by omega), hst] at hr
          refine v_if_neF (q := 354) (t := 358) dX7_takesE_351 (by rw [cp]; rfl) (kf := ?_)
          refine v_iconst (v := 1) (q := 355) dX7_takesE_354 (kk := ?_)
          refine v_goto 359 dX7_takesE_355 (kt := ?_)
          refine v_zret dX7_takesE_359 rfl (hQ := ?_)
          refine hQ1 _ A I3 hr.symm (hG.s hS3) ?_ ?_ ?_ ?_
          · rw [lsF_len]
            omega
          · rw [lsF_len]
            exact b16
          · rw [hS3.2 17 (by omega) (by omega)]
            exact h17
          · rw [lsF_len, b8]
        · rw [mrun_endx c0 (by omega)] at hr
          refine v_if_neT 358 dX7_takesE_351 (fun h' => cp ((nI_eq (b := 0) (by omega) (by omega)).mp h')) (kt := ?_)
          refine v_iconst (v := 0) (q := 359) dX7_takesE_358 (kk := ?_)
          refine v_zret dX7_takesE_359 rfl (hQ := ?_)
          exact hQ0 _ I3 hr.symm (hG.s hS3) (by rw [hS3.2 8 (by omega) (by omega)]; exact t8)
      · refine v_if_eqF (q := 39) (t := 345) dX7_takesE_36 (fun h' => c0 ((nI_eq (b := 0) (by omega) (by omega)).mp h')) (kf := ?_)
        refine v_iload_n (q := 40) dX7_takesE_39 (kk := ?_)
        refine v_if_eqT 180 dX7_takesE_40 (rfl) (kt := ?_)
        refine v_aload_n (q := 181) dX7_takesE_180 (kk := ?_)
        refine v_getI (q := 184) fX7_194 (by assumption) (hd := dX7_takesE_181) (kk := ?_)
        rw [t9]
        refine v_iconst (v := 3) (q := 185) dX7_takesE_184 (kk := ?_)
        by_cases c3 : lxK tp tl p e = 3
        · refine v_icmp_neF (q := 188) (t := 237) dX7_takesE_185 (by rw [c3]; rfl) (kf := ?_)
          have hv' := hv c3
          have hg := hgo (by omega)
          refine v_aload_n (q := 189) dX7_takesE_188 (kk := ?_)
          refine v_getI (q := 192) fX7_200 (by assumption) (hd := dX7_takesE_189) (kk := ?_)
          rw [t10 (Or.inr c3)]
          refine v_bipush (v := 41) (q := 194) dX7_takesE_192 (kk := ?_)
          by_cases c4 : tbF tp (lxQ tp tl p) = 41
          · refine v_icmp_neF (q := 197) (t := 237) dX7_takesE_194 (by rw [c4]; rfl) (kf := ?_)
            refine v_iload_n (q := 198) dX7_takesE_197 (kk := ?_)
            by_cases c5 : 0 < pa
            · rw [mrun_close ⟨c3, c4, by omega⟩] at hr
              have hst := stl_ls w 0 h k cd
              have hle := stH_le w 0 h
              have hcnt := stl_cnt 0 (lsF w h) (lsF cd k)
              have h0 := stl_0 (lsF w h) (lsF cd k)
              rw [hst] at hr hcnt h0
              obtain ⟨h1, hh1⟩ : ∃ h1, stH w 0 h = h1 + 1 := by
                cases hx : stH w 0 h with
                | zero => rw [hx] at hcnt; simp [lsF] at hcnt; omega
                | succ h1 => exact ⟨h1, rfl⟩
              rw [hh1] at hr hcnt h0 hle
              have htail : (lsF w (h1 + 1)).tail = lsF w h1 := rfl
              have hc1 : List.count (-11) (lsF w h1) = pa - 1 := by
                rcases h0 with h0 | ⟨W', h0⟩
                · simp [lsF] at h0
                · have h0 : w h1 :: lsF w h1 = -11 :: W' := h0
                  have hcnt : List.count (-11) (w h1 :: lsF w h1) = List.count (-11) (lsF w h) := hcnt
                  rw [List.count_cons, hpa] at hcnt
                  injection h0 with h0 _
                  rw [h0] at hcnt
                  simp at hcnt
                  omega
              simp only at hr
              rw [htail] at hr
              refine v_if_leF (q := 201) (t := 237) dX7_takesE_198 (fun h' => by have := (nI_leI (b := 0) (by omega) (by omega)).mp h'; omega) (kf := ?_)
              refine v_aload_n (q := 202) dX7_takesE_201 (kk := ?_)
              refine v_iconst (v := 0) (q := 203) dX7_takesE_202 (kk := ?_)
              refine v_cV1 (N := mX7_settle) (q := 206) lX7_227 iX7_settle kX7_settle (by assumption) dX7_takesE_203 (s_settle (h := h) (k := k) (w := w) (cd := cd) hm h9 (by omega) h19 h16 h8 (fun I3 hS3 b19 b16 b8 => ?_))
              rw [hh1] at b19 b16 b8
              obtain ⟨k1, hk1⟩ : ∃ k1, k + (h - (h1 + 1)) = k1 := ⟨_, rfl⟩
              obtain ⟨cd1, hcd1⟩ : ∃ cd1, cdS cd w k h (h - (h1 + 1)) = cd1 := ⟨_, rfl⟩
              rw [hk1] at b16 hr
              rw [hcd1] at b8 hr
              refine v_aload_n (q := 207) dX7_takesE_206 (kk := ?_)
              refine v_dup (q := 208) dX7_takesE_207 (kk := ?_)
              refine v_getI (q := 211) fX7_212 (by assumption) (hd := dX7_takesE_208) (kk := ?_)
              rw [b19]
              refine v_iconst (v := 1) (q := 212) dX7_takesE_211 (kk := ?_)
              refine v_isub (q := 213) dX7_takesE_212 (kk := ?_)
              rw [nI_pred]
              refine v_putI (q := 216) fX7_212 (by assumption) (hd := dX7_takesE_213) (kk := ?_)
              refine v_iinc1 (q := 219) dX7_takesE_216 (hv := nI_dec c5) (kk := ?_)
              obtain ⟨I4, hI4⟩ : ∃ I4, hc_u I3 m 19 (nI h1) = I4 := ⟨_, rfl⟩
              rw [hI4]
              have hG4 : TM m I I4 := by rw [← hI4]; exact (hG.s hS3).u (by omega)
              have k4 : ∀ j, j ≠ 19 → I4 m j = I3 m j := fun j hj => by rw [← hI4, hc_u_at, upd_ne hj]
              have y4 : ∀ y, y ≠ m → I4 y = I3 y := fun y hy => by rw [← hI4, hc_u_ne hy]
              refine v_aload_n (q := 220) dX7_takesE_219 (kk := ?_)
              refine v_bipush (v := 6) (q := 222) dX7_takesE_220 (kk := ?_)
              refine v_cV1 (N := mX7_settle) (q := 225) lX7_227 iX7_settle kX7_settle (by assumption) dX7_takesE_222 (s_settle (h := h1) (k := k1) (w := w) (cd := cd1) hm (by rw [y4 _ (by omega), hS3.1 _ (by omega) (by omega)]; exact h9) (by omega) (by rw [← hI4, hc_u_at, upd_at]) (by rw [k4 16 (by omega)]; exact b16) (by rw [y4 _ (by omega)]; exact b8) (fun I5 hS5 d19 d16 d8 => ?_))
              have hst2 := stl_ls w 6 h1 k1 cd1
              have hle2 := stH_le w 6 h1
              have hcnt2 := stl_cnt 6 (lsF w h1) (lsF cd1 k1)
              rw [hst2] at hr hcnt2
              have hw5 : I5 (m + 9) = w := by rw [hS5.1 _ (by omega) (by omega), y4 _ (by omega), hS3.1 _ (by omega) (by omega)]; exact h9
              have hG5 : TM m I I5 := hG4.s hS5
              have ht5 : TK I5 m tp tl p e := ht.of (fun j a b => by rw [hS5.2 j (by omega) (by omega), k4 j (by omega), hS3.2 j (by omega) (by omega)])
              have hntc := ntC_le w (stH w 6 h1)
              refine v_aload_n (q := 226) dX7_takesE_225 (kk := ?_)
              refine v_cV0 (N := mX7_notsOpen) (q := 229) lX7_235 iX7_notsOpen kX7_notsOpen (by assumption) dX7_takesE_226 (s_notsOpen hm d19 hw5 (by omega) ?_)
              refine v_istore2 (q := 230) dX7_takesE_229 (kk := ?_)
              refine v_aload_n (q := 231) dX7_takesE_230 (kk := ?_)
              refine v_cV0 (N := mX7_go) (q := 234) lX7_209 iX7_go kX7_go (by assumption) dX7_takesE_231 (s_goT hm ((hG5.1 _ (by omega) (by omega) (by omega) (by omega)).trans h5) ((hG5.2 6 (by omega) (by omega) (by omega) (by omega)).trans h6) htl hb hp ht5 (fun I6 hG6 ht6 => ?_))
              refine v_goto 28 dX7_takesE_234 (kt := ?_)
              simp only at hr
              rw [lsF_nt] at hr
              refine ih _ _ false w (stH w 6 h1) (cdS cd1 w k1 h1 (h1 - stH w 6 h1)) (k1 + (h1 - stH w 6 h1)) A ta (pa - 1) T0 _ _ I6 (by omega) (by omega) (by omega) hr ?_ (hcnt2.trans hc1) (by omega) (by omega) (hG5.g hG6) ht6 ?_ ?_ ?_ ?_ ?_ ?_
              · rw [show pa - 1 + 1 = pa by omega]
                exact hT'.2
              · rw [hG6.2 19 (by omega)]
                exact d19
              · rw [hG6.2 16 (by omega)]
                exact d16
              · rw [hG6.1 _ (by omega)]
                exact d8
              · rw [hG6.1 _ (by omega)]
                exact hw5
              · rw [hG6.2 17 (by omega), hS5.2 17 (by omega) (by omega), k4 17 (by omega), hS3.2 17 (by omega) (by omega)]
                exact h17
              · rw [hG6.1 _ (by omega), hS5.1 _ (by omega) (by omega), y4 _ (by omega), hS3.1 _ (by omega) (by omega)]
                exact h10
            · refine v_if_leT 237 dX7_takesE_198 (nI_le (b := 0) (by omega) (by omega)) (kt := ?_)
              exact sgn c0 (fun h' => by have := h'.2.2; omega)
          · refine v_icmp_neT 237 dX7_takesE_194 (fun h' => c4 ((nI_eq (b := 41) (by omega) (by omega)).mp h')) (kt := ?_)
            exact sgn c0 (fun h' => c4 h'.2.1)
        · refine v_icmp_neT 237 dX7_takesE_185 (fun h' => c3 ((nI_eq (b := 3) (by omega) (by omega)).mp h')) (kt := ?_)
          exact sgn c0 (fun h' => c3 h'.1)
end L10
