theorem stl_not {j : Nat} {W0 Y : List Int32} (h : loR 6 W0) : stl 6 (List.replicate j (-10) ++ W0) Y = (W0, List.replicate j (-10) ++ Y) := by
  have := stl_app (k := 6) (by omega) (P := List.replicate j (-10)) (W := W0) (C := Y) (fun x hx => by rw [(List.mem_replicate.mp hx).2]; exact hiR_not)
  rw [stl_stop (k := 6) (by omega) h, List.reverse_replicate] at this
  exact this
theorem cnt_not {j : Nat} {W0 : List Int32} : (List.replicate j (-10) ++ W0).count (-10) = j + W0.count (-10) := by
  rw [List.count_append, List.count_replicate_self]
section L17
variable {g : hcG} {S : hcS} {I : hcI} {R : hcR} {z : Nat} {Q : hcQ} {r c cd tl key : Nat} {tp : Nat → Int32}
theorem s_takeClosing {p : Nat} {e : Int32} (hr : RE S I R r c cd tl tp) (hp : p ≤ tl) (ht : TKc I r tp tl p e) (hyes : lxK tp tl p e = 3 ∧ tbF tp (lxQ tp tl p) = 41 → ∀ I' : hcI, RM r I I' → TKc I' r tp tl (lxR tp tl p) (lxE tp tl p e) → Q none S I' R z) (hno : ¬ (lxK tp tl p e = 3 ∧ tbF tp (lxQ tp tl p) = 41) → (¬ 0 ≤ I r 0 → Q none S (hc_u I r 0 (nI (lxQ tp tl p))) R z) ∧ (0 ≤ I r 0 → Q none S I R z)) : Cl g mX2_takeClosing 2 0 0 S I R z [.ref r] Q := by
  have s0 := hr.1.1
  have hk5 := lxK_lt (tp := tp) (tl := tl) (p := p) (e := e)
  refine Cl.go [some (.ref r)] ?_
  refine v_aload_n (q := 1) dX2_takeClosing_0 (kk := ?_)
  refine v_bipush (v := 41) (q := 3) dX2_takeClosing_1 (kk := ?_)
  refine v_cV1 (N := mX2_isSign) (q := 6) lX2_120 iX2_isSign kX2_isSign (by assumption) dX2_takeClosing_3 (s_isSign (k := 41) hr (by omega) ksF_lt ht.2.2.1 ht.1 (fun hh => (lxR_gt (e := e) hp (by have := (ksF_2 hk5).mp hh; omega)).2.2) ?_)
  refine v_if_eqB 16 (q := 9) dX2_takeClosing_6 (kt := fun cc => ?_) (kf := fun cc => ?_)
  · have h2 := hno (fun hh => cc ⟨(ksF_2 hk5).mpr hh.1, hh.2⟩)
    refine v_aload_n (q := 17) dX2_takeClosing_16 (kk := ?_)
    refine v_cV0 (N := mX2_isFault) (q := 20) lX2_54 iX2_isFault kX2_isFault (by assumption) dX2_takeClosing_17 (s_isFault s0 (fun h0 => ?_) (fun h0 => ?_))
    · refine v_vret dX2_takeClosing_20 (hQ := ?_)
      rw [ht.1]
      exact h2.1 h0
    · refine v_vret dX2_takeClosing_20 (hQ := ?_)
      exact h2.2 h0
  · have c3 := (ksF_2 hk5).mp cc.1
    refine v_aload_n (q := 10) dX2_takeClosing_9 (kk := ?_)
    refine v_cV0 (N := mX2_goOn) (q := 13) lX2_44 iX2_goOn kX2_goOn (by assumption) dX2_takeClosing_10 (s_goOnT hr hp ht (Or.inr (Or.inr c3)) (fun I2 hM2 ht2 => ?_))
    refine v_goto 20 dX2_takeClosing_13 (kt := ?_)
    refine v_vret dX2_takeClosing_20 (hQ := ?_)
    exact hyes ⟨c3, cc.2⟩ I2 hM2 ht2
theorem piece_step {B : Nat} (hkey : key < 3) (hPc : RdP S R z r c cd tl tp key B (fun d op no I Q => Cl g mX2_takePiece d 0 0 S I R z [.ref r, .int (nI op), .int (nI no)] Q)) (hL0 : RdK S R z r c cd tl tp key B 0 15 (fun d op no I Q => Cl g mX2_takeLevel d 0 0 S I R z [.ref r, .int (nI 0), .int (nI op), .int (nI no)] Q)) : RdP S R z r c cd tl tp key (B + 1) (fun d op no I Q => Cl g mX2_takePiece d 0 0 S I R z [.ref r, .int (nI op), .int (nI no)] Q) := by
  intro d op no n p e j W0 C A t T0 I Q a1 a2 a3 a4 a5 a6 a7 a8 a9 a10 a11 a12 a13 a14 a15 hF hO
  have s0 := a7.1.1
  have htl := a7.2.2.1
  have hb := a7.2.2.2.1
  have n2 := a7.1.2.2.2.2.2.2.1
  have t6 := a10.2.2.1
  have hk5 := lxK_lt (tp := tp) (tl := tl) (p := p) (e := e)
  have hs5 := ksF_lt (k := lxK tp tl p e)
  have hR := lxR_le (tp := tp) a6
  have hQl := lxQ_le (tp := tp) a6
  obtain ⟨n1, rfl⟩ : ∃ x, n = x + 1 := ⟨n - 1, by omega⟩
  obtain ⟨W, hW⟩ : ∃ W, List.replicate j (-10) ++ W0 = W := ⟨_, rfl⟩
  have hcW : W.count (-10) = no := by rw [← hW, cnt_not]; exact a14
  have hlW : W.length = j + W0.length := by rw [← hW, List.length_append, List.length_replicate]
  have hstW : ∀ Y, stl 6 W Y = (W0, List.replicate j (-10) ++ Y) := fun Y => by rw [← hW]; exact stl_not a13
  rw [hW] at hF hO
  -- a part taken
  have leaf : ∀ (x : Int32) (I1 : hcI), lfF tp tl key p e = some x → FR r cd I I1 → I1 r 0 = I r 0 → TKc I1 r tp tl (lxR tp tl p) (lxE tp tl p e) → CD I1 r cd (x :: C) (A + 1) → Q none S I1 R z := by
    intro x I1 hx f1 k1 t1 c1
    have hk12 := lfF_k hx
    have hg := lxR_gt (tp := tp) (e := e) a6 (by omega)
    refine hO I1 f1 k1 ⟨n1, lxR tp tl p, lxE tp tl p e, x :: C, A + 1, ?_, by omega, hg.1, hg.2.1, t1, c1, by simp only [List.length_cons]; omega⟩
    rw [mrun_leaf hx, hstW]
  have bad : ∀ I1 : hcI, I1 = hc_u I r 0 (nI (lxQ tp tl p)) → ¬ (lxK tp tl p e = 3 ∧ tbF tp (lxQ tp tl p) = 33 ∧ no < 8) → ¬ (lxK tp tl p e = 3 ∧ tbF tp (lxQ tp tl p) = 40 ∧ (t :: T0).length < 9) → lfF tp tl key p e = none → Q none S I1 R z := by
    intro I1 hI1 b1 b2 b3
    have fj : ∀ i, i ≠ 0 → I1 r i = I r i := fun i hi => by rw [hI1, hc_u_at, upd_ne hi]
    refine hF (lxQ tp tl p) I1 (mrun_bad b1 b2 b3) (by rw [hI1]; exact FR.u (by omega)) ⟨by rw [hI1, hc_u_at, upd_at], by omega, ⟨C.length, by omega, (fj 8 (by omega)).trans a11.1⟩, p, e, a6, a10.of (fun i _ _ => fj i (by omega))⟩
  refine Cl.go [some (.ref r), some (.int (nI op)), some (.int (nI no))] ?_
  refine v_aload_n (q := 1) dX2_takePiece_0 (kk := ?_)
  refine v_getI (q := 4) fX2_32 (by assumption) (hd := dX2_takePiece_1) (kk := ?_)
  rw [t6]
  refine v_iconst (v := 1) (q := 5) dX2_takePiece_4 (kk := ?_)
  by_cases c2 : lxK tp tl p e = 2
  · have el : lfF tp tl key p e = some (nI (numF tp (lxQ tp tl p) (lxR tp tl p - lxQ tp tl p))) := by unfold lfF; rw [if_pos c2]
    obtain ⟨g1, g2⟩ := lx_fig c2
    refine v_icmp_neF (q := 8) (t := 19) dX2_takePiece_5 (by rw [(ksF_1 hk5).mpr c2]; rfl) (kf := ?_)
    refine v_aload_n (q := 9) dX2_takePiece_8 (kk := ?_)
    refine v_aload_n (q := 10) dX2_takePiece_9 (kk := ?_)
    refine v_cV0 (N := mX2_numberAtHand) (q := 13) lX2_111 iX2_numberAtHand kX2_numberAtHand (by assumption) dX2_takePiece_10 (s_numAt a7 a10.1 a10.2.1 hR.1 hR.2.1 g1 g2 ?_) (hdd := by omega)
    refine v_cV1 (N := mX2_takeLeaf) (q := 16) lX2_114 iX2_takeLeaf kX2_takeLeaf (by assumption) dX2_takePiece_13 (s_takeLeaf a7 a6 a10 (Or.inr (Or.inl c2)) a11 (by omega) (lfF_ok hb htl a6 hkey el).1 (fun I1 f1 k1 t1 c1 => ?_)) (hdd := by omega)
    refine v_goto 109 dX2_takePiece_16 (kt := ?_)
    refine v_vret dX2_takePiece_109 (hQ := ?_)
    exact leaf _ I1 el f1 k1 t1 c1
  · refine v_icmp_neT 19 dX2_takePiece_5 (fun hh => c2 ((ksF_1 hk5).mp ((nI_eq (b := 1) (by omega) (by omega)).mp hh))) (kt := ?_)
    refine v_aload_n (q := 20) dX2_takePiece_19 (kk := ?_)
    refine v_getI (q := 23) fX2_32 (by assumption) (hd := dX2_takePiece_20) (kk := ?_)
    rw [t6]
    by_cases c1 : lxK tp tl p e = 1
    · refine v_if_neF (q := 26) (t := 33) dX2_takePiece_23 (by rw [(ksF_0 hk5).mpr c1]; rfl) (kf := ?_)
      refine v_aload_n (q := 27) dX2_takePiece_26 (kk := ?_)
      refine v_cV0 (N := mX2_takeName) (q := 30) lX2_117 iX2_takeName kX2_takeName (by assumption) dX2_takePiece_27 (s_takeName a7 a6 a10 c1 hkey a8 a9 a11 (by omega) (fun hno => ?_) (fun x hx I1 f1 k1 t1 c1 => ?_)) (hdd := by omega)
      · refine v_goto 109 dX2_takePiece_30 (kt := ?_)
        refine v_vret dX2_takePiece_109 (hQ := ?_)
        exact bad _ rfl (fun hh => by have := hh.1; omega) (fun hh => by have := hh.1; omega) hno
      · refine v_goto 109 dX2_takePiece_30 (kt := ?_)
        refine v_vret dX2_takePiece_109 (hQ := ?_)
        exact leaf x I1 hx f1 k1 t1 c1
    · have hno : lfF tp tl key p e = none := by
        unfold lfF
        rw [if_neg c2, if_neg (fun hh => c1 hh.1)]
      have fin : ¬ (lxK tp tl p e = 3 ∧ tbF tp (lxQ tp tl p) = 33 ∧ no < 8) → ¬ (lxK tp tl p e = 3 ∧ tbF tp (lxQ tp tl p) = 40 ∧ (t :: T0).length < 9) → V g mX2_takePiece d 0 0 S I R z 105 [some (.ref r), some (.int (nI op)), some (.int (nI no))] [] Q := by
        intro b1 b2
        refine v_aload_n (q := 106) dX2_takePiece_105 (kk := ?_)
        refine v_cV0 (N := mX2_isFault) (q := 109) lX2_54 iX2_isFault kX2_isFault (by assumption) dX2_takePiece_106 (s_isFault s0 (fun _ => ?_) (fun h => absurd h a9)) (hdd := by omega)
        refine v_vret dX2_takePiece_109 (hQ := ?_)
        rw [a10.1]
        exact bad _ rfl b1 b2 hno
      have opn : ¬ (lxK tp tl p e = 3 ∧ tbF tp (lxQ tp tl p) = 33 ∧ no < 8) → V g mX2_takePiece d 0 0 S I R z 70 [some (.ref r), some (.int (nI op)), some (.int (nI no))] [] Q := by
        intro b1
        refine v_aload_n (q := 71) dX2_takePiece_70 (kk := ?_)
        refine v_bipush (v := 40) (q := 73) dX2_takePiece_71 (kk := ?_)
        refine v_cV1 (N := mX2_isSign) (q := 76) lX2_120 iX2_isSign kX2_isSign (by assumption) dX2_takePiece_73 (s_isSign (k := 40) a7 (by omega) hs5 t6 a10.1 (fun hh => (lxR_gt (e := e) a6 (by have := (ksF_2 hk5).mp hh; omega)).2.2) ?_) (hdd := by omega)
        refine v_if_eqB 105 (q := 79) dX2_takePiece_76 (kt := fun cc => ?_) (kf := fun cc => ?_)
        · exact fin b1 (fun hh => cc ⟨(ksF_2 hk5).mpr hh.1, hh.2.1⟩)
        · have c3 := (ksF_2 hk5).mp cc.1
          have hg := lxR_gt (tp := tp) (e := e) a6 (by omega)
          refine v_iload_n (q := 80) dX2_takePiece_79 (kk := ?_)
          refine v_bipush (v := 8) (q := 82) dX2_takePiece_80 (kk := ?_)
          by_cases co : op < 8
          · have m1 := mrun_open (key := key) (n := n1) (W := W) (C := C) (A := A) (nt := no) (T := t :: T0) (show lxK tp tl p e = 3 ∧ tbF tp (lxQ tp tl p) = 40 ∧ (t :: T0).length < 9 from ⟨c3, cc.2, by simp only [List.length_cons]; omega⟩)
            have hc11 : List.count (-10) (-11 :: W) = no := by rw [List.count_cons, hcW]; rfl
            rw [hc11] at m1
            rw [m1] at hF hO
            refine v_icmp_geF (q := 85) (t := 105) dX2_takePiece_82 (fun hh => by have := (nI_leI (a := 8) (by omega) (by omega)).mp hh; omega) (kf := ?_)
            refine v_aload_n (q := 86) dX2_takePiece_85 (kk := ?_)
            refine v_cV0 (N := mX2_goOn) (q := 89) lX2_44 iX2_goOn kX2_goOn (by assumption) dX2_takePiece_86 (s_goOnT a7 a6 a10 (Or.inr (Or.inr c3)) (fun I2 hM2 ht2 => ?_)) (hdd := by omega)
            have f2 : FR r cd I I2 := hM2.fr
            have k2 : I2 r 0 = I r 0 := hM2.2 0 (by omega)
            have cc2 : CD I2 r cd C A := a11.of (hM2.1 cd n2) (hM2.2 8 (by omega)) (hM2.2 9 (by omega))
            refine v_aload_n (q := 90) dX2_takePiece_89 (kk := ?_)
            refine v_iconst (v := 0) (q := 91) dX2_takePiece_90 (kk := ?_)
            refine v_iload_n (q := 92) dX2_takePiece_91 (kk := ?_)
            refine v_iconst (v := 1) (q := 93) dX2_takePiece_92 (kk := ?_)
            refine v_iadd (q := 94) dX2_takePiece_93 (kk := ?_)
            rw [nI_1]
            refine v_iload_n (q := 95) dX2_takePiece_94 (kk := ?_)
            refine v_cV3 (N := mX2_takeLevel) (q := 98) lX2_50 iX2_takeLevel kX2_takeLevel (by assumption) dX2_takePiece_95 (hL0 (d - 1) (op + 1) no n1 (lxR tp tl p) (lxE tp tl p e) (-11 :: W) C A false (t :: T0) I2 _ (by omega) (by omega) a3 (by omega) (by omega) hg.2.1 (a7.fr f2) (f2.2.2.trans a8) (by rw [k2]; exact a9) ht2 cc2 (by simp only [List.length_cons]; omega) (Or.inl rfl) hc11 (by simp only [List.length_cons]; omega) (fun _ => rfl) (fun q I3 m3 f3 pf => ?_) (fun I3 f3 k3 po => ?_)) (hdd := by omega)
            · obtain ⟨u1, u2, u3, px, ex, hpx, htx⟩ := pf
              have h0 : (0 : Int32) ≤ I3 r 0 := by rw [u1]; exact nI_le (a := 0) (by omega) (by omega)
              refine v_aload_n (q := 99) dX2_takePiece_98 (kk := ?_)
              refine v_cV0 (N := mX2_takeClosing) (q := 102) lX2_124 iX2_takeClosing kX2_takeClosing (by assumption) dX2_takePiece_99 (s_takeClosing (a7.fr (f2.trans f3)) hpx htx (fun hy I4 hM4 ht4 => ?_) (fun hn => ⟨fun h => absurd h0 h, fun _ => ?_⟩)) (hdd := by omega)
              · refine v_goto 109 dX2_takePiece_102 (kt := ?_)
                refine v_vret dX2_takePiece_109 (hQ := ?_)
                refine hF q I4 m3 ((f2.trans f3).trans hM4.fr) ⟨(hM4.2 0 (by omega)).trans u1, u2, ?_, lxR tp tl px, lxE tp tl px ex, (lxR_le hpx).2.1, ht4⟩
                obtain ⟨w, w1, w2⟩ := u3
                exact ⟨w, w1, (hM4.2 8 (by omega)).trans w2⟩
              · refine v_goto 109 dX2_takePiece_102 (kt := ?_)
                refine v_vret dX2_takePiece_109 (hQ := ?_)
                exact hF q I3 m3 (f2.trans f3) ⟨u1, u2, u3, px, ex, hpx, htx⟩
            · obtain ⟨n', p', e', P, C', A', t', q1, q2, q3, q4, q5, q6, q7, q8, q9, q10⟩ := po
              have f3' : FR r cd I I3 := f2.trans f3
              have k3' : I3 r 0 = I r 0 := k3.trans k2
              obtain ⟨n'', rfl⟩ : ∃ x, n' = x + 1 := ⟨n' - 1, by omega⟩
              simp only [List.length_cons] at q7
              rw [hc11] at q1
              refine v_aload_n (q := 99) dX2_takePiece_98 (kk := ?_)
              refine v_cV0 (N := mX2_takeClosing) (q := 102) lX2_124 iX2_takeClosing kX2_takeClosing (by assumption) dX2_takePiece_99 (s_takeClosing (a7.fr f3') q4 q5 (fun hy I4 hM4 ht4 => ?_) (fun hn => ⟨fun _ => ?_, fun h => absurd h (by rw [k3']; exact a9)⟩)) (hdd := by omega)
              · have hg' := lxR_gt (tp := tp) (e := e') q4 (by omega)
                rw [mrun_close ⟨hy.1, hy.2, by simp only [List.length_cons]; omega⟩] at q1
                have hs0 : stl 0 (P ++ -11 :: W) C' = (-11 :: W, P.reverse ++ C') := by
                  have := stl_app (k := 0) (by omega) (P := P) (W := -11 :: W) (C := C') (fun x hx => (q8 x hx).mono (by omega))
                  rw [stl_stop (k := 0) (W := -11 :: W) (by omega) (Or.inl rfl)] at this
                  exact this
                rw [hs0] at q1
                simp only [List.tail_cons] at q1
                rw [hstW] at q1
                refine v_goto 109 dX2_takePiece_102 (kt := ?_)
                refine v_vret dX2_takePiece_109 (hQ := ?_)
                exact hO I4 (f3'.trans hM4.fr) ((hM4.2 0 (by omega)).trans k3') ⟨n'', lxR tp tl p', lxE tp tl p' e', P.reverse ++ C', A', q1, by omega, by omega, hg'.2.1, ht4, q6.of (hM4.1 cd n2) (hM4.2 8 (by omega)) (hM4.2 9 (by omega)), by simp only [List.length_append, List.length_reverse]; omega⟩
              · have hbad : mrun tp tl key (n'' + 1) p' e' false (P ++ -11 :: W) C' A' (t' :: t :: T0) no = Sum.inl (lxQ tp tl p') := by
                  by_cases k0 : lxK tp tl p' e' = 0
                  · exact mrun_endx k0 (by simp only [List.length_cons]; omega)
                  · refine mrun_nosign k0 (fun hh => hn ⟨hh.1, hh.2.1⟩) ?_
                    by_cases k3 : lxK tp tl p' e' = 3
                    · have hg' := lxR_gt (tp := tp) (e := e') q4 k0
                      obtain ⟨v1, v2, v3, v4⟩ := rkN_ok _ (hb _ hg'.2.2).2
                      unfold rhF at q10
                      rw [if_pos k3] at q10 ⊢
                      rcases q10 with hh | hh
                      · exact Or.inl (v2.mpr (by omega))
                      · refine Or.inr ⟨?_, hh.2.1⟩
                        rw [(v4 (by omega)).1, hh.1]
                        rfl
                    · exact Or.inl (if_neg k3)
                have fj : ∀ i, i ≠ 0 → hc_u I3 r 0 (nI (lxQ tp tl p')) r i = I3 r i := fun i hi => by rw [hc_u_at, upd_ne hi]
                have hq' := lxQ_le (tp := tp) q4
                refine v_goto 109 dX2_takePiece_102 (kt := ?_)
                refine v_vret dX2_takePiece_109 (hQ := ?_)
                refine hF (lxQ tp tl p') _ (q1.symm.trans hbad) (f3'.trans (FR.u (by omega))) ⟨by rw [hc_u_at, upd_at], by omega, ⟨(P.reverse ++ C').length, by simp only [List.length_append, List.length_reverse]; omega, (fj 8 (by omega)).trans q6.1⟩, p', e', q4, q5.of (fun i _ _ => fj i (by omega))⟩
          · refine v_icmp_geT 105 dX2_takePiece_82 (nI_le (a := 8) (by omega) (by omega)) (kt := ?_)
            exact fin b1 (fun hh => by have := hh.2.2; simp only [List.length_cons] at this; omega)
      refine v_if_neT 33 dX2_takePiece_23 (fun hh => c1 ((ksF_0 hk5).mp ((nI_eq (b := 0) (by omega) (by omega)).mp hh))) (kt := ?_)
      refine v_aload_n (q := 34) dX2_takePiece_33 (kk := ?_)
      refine v_bipush (v := 33) (q := 36) dX2_takePiece_34 (kk := ?_)
      refine v_cV1 (N := mX2_isSign) (q := 39) lX2_120 iX2_isSign kX2_isSign (by assumption) dX2_takePiece_36 (s_isSign (k := 33) a7 (by omega) hs5 t6 a10.1 (fun hh => (lxR_gt (e := e) a6 (by have := (ksF_2 hk5).mp hh; omega)).2.2) ?_) (hdd := by omega)
      refine v_if_eqB 70 (q := 42) dX2_takePiece_39 (kt := fun cc => ?_) (kf := fun cc => ?_)
      · exact opn (fun hh => cc ⟨(ksF_2 hk5).mpr hh.1, hh.2.1⟩)
      · have c3 := (ksF_2 hk5).mp cc.1
        have hg := lxR_gt (tp := tp) (e := e) a6 (by omega)
        refine v_iload_n (q := 43) dX2_takePiece_42 (kk := ?_)
        refine v_bipush (v := 8) (q := 45) dX2_takePiece_43 (kk := ?_)
        by_cases co : no < 8
        · have m1 := mrun_not (key := key) (n := n1) (W := W) (C := C) (A := A) (T := t :: T0) (show lxK tp tl p e = 3 ∧ tbF tp (lxQ tp tl p) = 33 ∧ no < 8 from ⟨c3, cc.2, co⟩)
          have hc10 : List.count (-10) (-10 :: W) = no + 1 := by rw [List.count_cons, hcW]; rfl
          have hW1 : -10 :: W = List.replicate (j + 1) (-10) ++ W0 := by rw [← hW]; rfl
          rw [hc10, hW1] at m1
          rw [m1] at hF hO
          refine v_icmp_geF (q := 48) (t := 70) dX2_takePiece_45 (fun hh => by have := (nI_leI (a := 8) (by omega) (by omega)).mp hh; omega) (kf := ?_)
          refine v_aload_n (q := 49) dX2_takePiece_48 (kk := ?_)
          refine v_cV0 (N := mX2_goOn) (q := 52) lX2_44 iX2_goOn kX2_goOn (by assumption) dX2_takePiece_49 (s_goOnT a7 a6 a10 (Or.inr (Or.inr c3)) (fun I2 hM2 ht2 => ?_)) (hdd := by omega)
          have f2 : FR r cd I I2 := hM2.fr
          have k2 : I2 r 0 = I r 0 := hM2.2 0 (by omega)
          have cc2 : CD I2 r cd C A := a11.of (hM2.1 cd n2) (hM2.2 8 (by omega)) (hM2.2 9 (by omega))
          refine v_aload_n (q := 53) dX2_takePiece_52 (kk := ?_)
          refine v_iload_n (q := 54) dX2_takePiece_53 (kk := ?_)
          refine v_iload_n (q := 55) dX2_takePiece_54 (kk := ?_)
          refine v_iconst (v := 1) (q := 56) dX2_takePiece_55 (kk := ?_)
          refine v_iadd (q := 57) dX2_takePiece_56 (kk := ?_)
          rw [nI_1]
          refine v_cV2 (N := mX2_takePiece) (q := 60) lX2_107 iX2_takePiece kX2_takePiece (by assumption) dX2_takePiece_57 (hPc (d - 1) op (no + 1) n1 (lxR tp tl p) (lxE tp tl p e) (j + 1) W0 C A t T0 I2 _ (by omega) a2 (by omega) (by omega) (by omega) hg.2.1 (a7.fr f2) (f2.2.2.trans a8) (by rw [k2]; exact a9) ht2 cc2 (by omega) a13 (by omega) a15 (fun q I3 m3 f3 pf => ?_) (fun I3 f3 k3 po => ?_)) (hdd := by omega)
          · obtain ⟨u1, u2, ⟨w, w1, w2⟩, px, ex, hpx, htx⟩ := pf
            refine v_aload_n (q := 61) dX2_takePiece_60 (kk := ?_)
            refine v_sipush (v := 20033) (q := 64) dX2_takePiece_61 (kk := ?_)
            refine v_cV1 (N := mX2_write) (q := 67) lX2_103 iX2_write kX2_write (by assumption) dX2_takePiece_64 (s_writeX (a7.fr (f2.trans f3)) w2 w1 (fun I4 f4 k4 w4 => ?_)) (hdd := by omega)
            refine v_goto 109 dX2_takePiece_67 (kt := ?_)
            refine v_vret dX2_takePiece_109 (hQ := ?_)
            exact hF q I4 m3 ((f2.trans f3).trans f4) ⟨(k4 0 (by omega)).trans u1, u2, w4, px, ex, hpx, htx.of (fun i _ _ => k4 i (by omega))⟩
          · obtain ⟨n', p', e', X, A', q1, q2, q3, q4, q5, q6, q7⟩ := po
            refine v_aload_n (q := 61) dX2_takePiece_60 (kk := ?_)
            refine v_sipush (v := 20033) (q := 64) dX2_takePiece_61 (kk := ?_)
            refine v_cV1 (N := mX2_write) (q := 67) lX2_103 iX2_write kX2_write (by assumption) dX2_takePiece_64 (s_writeC (x := -10) (a7.fr (f2.trans f3)) q6 (by omega) (by rfl) (fun I4 f4 k4 c4 => ?_)) (hdd := by omega)
            refine v_goto 109 dX2_takePiece_67 (kt := ?_)
            refine v_vret dX2_takePiece_109 (hQ := ?_)
            refine hO I4 ((f2.trans f3).trans f4) ((k4 0 (by omega)).trans (k3.trans k2)) ⟨n', p', e', -10 :: X, A', ?_, q2, by omega, q4, q5.of (fun i _ _ => k4 i (by omega)), c4, by simp only [List.length_cons]; omega⟩
            rw [show List.replicate j (-10) ++ -10 :: X = List.replicate (j + 1) (-10) ++ X by rw [List.replicate_succ']; simp]
            exact q1
        · refine v_icmp_geT 70 dX2_takePiece_45 (nI_le (a := 8) (by omega) (by omega)) (kt := ?_)
          exact opn (fun hh => co hh.2.2)
theorem level_0 {B : Nat} (hkey : key < 3) (h : RdP S R z r c cd tl tp key B (fun d op no I Q => Cl g mX2_takePiece d 0 0 S I R z [.ref r, .int (nI op), .int (nI no)] Q)) : RdK S R z r c cd tl tp key B 0 15 (fun d op no I Q => Cl g mX2_takeLevel d 0 0 S I R z [.ref r, .int (nI 0), .int (nI op), .int (nI no)] Q) :=
  level_below (L := 0) (by omega) hkey (below_level (L := 0) (by omega) (level_below (L := 1) (by omega) hkey (below_level (L := 1) (by omega) (level_below (L := 2) (by omega) hkey (below_level (L := 2) (by omega) (level_below (L := 3) (by omega) hkey (below_level (L := 3) (by omega) (level_below (L := 4) (by omega) hkey (below_piece h)))))))))
theorem piece_all (hkey : key < 3) : ∀ B, RdP S R z r c cd tl tp key B (fun d op no I Q => Cl g mX2_takePiece d 0 0 S I R z [.ref r, .int (nI op), .int (nI no)] Q)
  | 0 => by intro d op no n p e j W0 C A t T0 I Q a1 a2 a3 a4; omega
  | B + 1 => piece_step hkey (piece_all hkey B) (level_0 hkey (piece_all hkey B))
/-- the whole of an E -/
theorem s_level0 {p : Nat} {e : Int32} {res : Nat ⊕ (List Int32 × Nat)} (hkey : key < 3) (hr : RE S I R r c cd tl tp) (hp4 : 4 ≤ p) (hp : p ≤ tl) (h7 : I r 7 = nI key) (h0 : ¬ 0 ≤ I r 0) (ht : TKc I r tp tl p e) (h8 : I r 8 = nI 0) (h9 : I r 9 = nI 0) (hm : mrun tp tl key (tl - p + 1) p e true [] [] 0 [false] 0 = res) (hF : ∀ (q : Nat) (I' : hcI), res = Sum.inl q → FR r cd I I' → PF I' r tp tl q → Q none S I' R z) (hO : ∀ I' : hcI, FR r cd I I' → I' r 0 = I r 0 → PO tp tl key 0 [] false [] p res I' r cd → Q none S I' R z) : Cl g mX2_takeLevel 111 0 0 S I R z [.ref r, .int (nI 0), .int (nI 0), .int (nI 0)] Q := by
  subst hm
  exact level_0 hkey (piece_all hkey (tl - p + 1)) 111 0 0 (tl - p + 1) p e [] [] 0 false [] I Q (by omega) (by omega) (by omega) (by omega) (by omega) hp hr h7 h0 ht ⟨h8, rfl, h9⟩ (by simp only [List.length_nil]; omega) trivial rfl rfl (fun _ => rfl) hF hO
end L17
