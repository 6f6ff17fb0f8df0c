def spTextTold (N : hN) (t w : Int32) : Int32 := if (0 ≤ t ∧ t < nI (ntN N)) ∧ (0 ≤ w ∧ w ≤ 1) then (if w = 0 then N (93 + 2 * t.toNatClampNeg) / 1000 else N (94 + 2 * t.toNatClampNeg)) else -1000000001
def spWhy (N : hN) (k : Int32) : Int32 := if 0 ≤ k ∧ k < 3 then hc_5 (cntF N k.toNatClampNeg (ntN N)) else -1000000001
theorem upd_upd {f : Nat → Int32} {k : Nat} {x y : Int32} : upd (upd f k x) k y = upd f k y := by
  funext i
  by_cases e : i = k
  · rw [e, upd_at, upd_at]
  · rw [upd_ne e, upd_ne e, upd_ne e]
section T14
variable {g : hcG} {S : hcS} {I : hcI} {R : hcR} {z : Nat} {Q : hcQ} {b m np nb nt sec wt tl : Nat} {N : hN} {tp : Nat → Int32}
theorem s_putBytes {v : Int32} {t : Nat} (hx : XSk S R b) (h9 : I b 9 = nI t) (ht : t + 4 ≤ 96) (hQ : ∀ I' : hcI, (∀ y, y ≠ b → y ≠ b + 51 → I' y = I y) → I' b = upd (I b) 9 (nI (t + 4)) → (∀ j, I' (b + 51) j = if t ≤ j ∧ j < t + 4 then sb (btN v (j - t)) else I (b + 51) j) → Q none S I' R z) : Cl g mX6_putBytes 0 0 0 S I R z [.ref b, .int v] Q := by
  refine Cl.go [some (.ref b), some (.int v), none] ?_
  refine v_bipush (v := 24) (q := 2) dX6_putBytes_0 (kk := ?_)
  refine v_istore2 (q := 3) dX6_putBytes_2 (kk := ?_)
  refine putBytes_1 (k := 0) hx h9 (by omega) (by omega) rfl ?_
  refine putBytes_1 (k := 1) (t := t + 1) hx (by rw [hc_u_at, upd_at]) (by omega) (by omega) rfl ?_
  refine putBytes_1 (k := 2) (t := t + 2) hx (by rw [hc_u_at, upd_at]) (by omega) (by omega) rfl ?_
  refine putBytes_1 (k := 3) (t := t + 3) hx (by rw [hc_u_at, upd_at]) (by omega) (by omega) rfl ?_
  refine v_iload_n (q := 4) dX6_putBytes_3 (kk := ?_)
  refine v_if_ltT 45 dX6_putBytes_4 (by decide) (kt := ?_)
  refine v_vret dX6_putBytes_45 (hQ := ?_)
  refine hQ _ (fun y h1 h2 => ?_) ?_ (fun j => ?_)
  · rw [hc_u_ne h1, hc_u_ne h2, hc_u_ne h1, hc_u_ne h2, hc_u_ne h1, hc_u_ne h2, hc_u_ne h1, hc_u_ne h2]
  · rw [hc_u_at, hc_u_ne (by omega), hc_u_at, hc_u_ne (by omega), hc_u_at, hc_u_ne (by omega), hc_u_at, hc_u_ne (by omega), upd_upd, upd_upd, upd_upd]
  · rw [hc_u_ne (by omega), hc_u_at, hc_u_ne (by omega), hc_u_at, hc_u_ne (by omega), hc_u_at, hc_u_ne (by omega), hc_u_at]
    by_cases e3 : j = t + 3
    · rw [e3, upd_at, if_pos (by omega), show t + 3 - t = 3 by omega]
    · rw [upd_ne e3]
      by_cases e2 : j = t + 2
      · rw [e2, upd_at, if_pos (by omega), show t + 2 - t = 2 by omega]
      · rw [upd_ne e2]
        by_cases e1 : j = t + 1
        · rw [e1, upd_at, if_pos (by omega), show t + 1 - t = 1 by omega]
        · rw [upd_ne e1]
          by_cases e0 : j = t
          · rw [e0, upd_at, if_pos (by omega), show t - t = 0 by omega]
          · rw [upd_ne e0, if_neg (by omega)]
theorem x_feed {a c d : Int32} (hx : XSk S R b) (h9 : I b 9 = nI tl) (h96 : tl ≤ 96) (htp : TPc I b tl tp) (h1 : 96 < tl + 12 → Q (some (.int (-1000000003))) S I R z) (hQ : tl + 12 ≤ 96 → ∀ I' : hcI, (∀ y, y ≠ b → y ≠ b + 51 → I' y = I y) → I' b = upd (I b) 9 (nI (tl + 12)) → TPc I' b (tl + 12) (fdF tp tl a c d 12) → Q (some (.int (nI (tl + 12)))) S I' R z) : Cl g mX6_feed 1 0 0 S I R z [.ref b, .int a, .int c, .int d] Q := by
  have s0 := hx.1.1
  refine Cl.go [some (.ref b), some (.int a), some (.int c), some (.int d)] ?_
  refine v_aload_n (q := 1) dX6_feed_0 (kk := ?_)
  refine v_getI (q := 4) fX6_194 (by assumption) (hd := dX6_feed_1) (kk := ?_)
  rw [h9]
  refine v_bipush (v := 12) (q := 6) dX6_feed_4 (kk := ?_)
  refine v_iadd (q := 7) dX6_feed_6 (kk := ?_)
  rw [show nI tl + 12 = nI (tl + 12) from nI_add tl 12]
  refine v_bipush (v := 96) (q := 9) dX6_feed_7 (kk := ?_)
  by_cases cc : tl + 12 ≤ 96
  · refine v_icmp_leT 15 dX6_feed_9 (nI_le (b := 96) cc (by omega)) (kt := ?_)
    refine v_aload_n (q := 16) dX6_feed_15 (kk := ?_)
    refine v_iload_n (q := 17) dX6_feed_16 (kk := ?_)
    refine v_cV1 (N := mX6_putBytes) (q := 20) lX6_197 iX6_putBytes kX6_putBytes (by assumption) dX6_feed_17 (s_putBytes hx h9 (by omega) (fun I1 hF1 hb1 ht1 => ?_))
    refine v_aload_n (q := 21) dX6_feed_20 (kk := ?_)
    refine v_iload_n (q := 22) dX6_feed_21 (kk := ?_)
    refine v_cV1 (N := mX6_putBytes) (q := 25) lX6_197 iX6_putBytes kX6_putBytes (by assumption) dX6_feed_22 (s_putBytes (t := tl + 4) hx (by rw [hb1, upd_at]) (by omega) (fun I2 hF2 hb2 ht2 => ?_))
    refine v_aload_n (q := 26) dX6_feed_25 (kk := ?_)
    refine v_iload_n (q := 27) dX6_feed_26 (kk := ?_)
    refine v_cV1 (N := mX6_putBytes) (q := 30) lX6_197 iX6_putBytes kX6_putBytes (by assumption) dX6_feed_27 (s_putBytes (t := tl + 8) hx (by rw [hb2, upd_at]) (by omega) (fun I3 hF3 hb3 ht3 => ?_))
    have e9 : I3 b = upd (I b) 9 (nI (tl + 12)) := by rw [hb3, hb2, hb1, upd_upd, upd_upd]
    refine v_aload_n (q := 31) dX6_feed_30 (kk := ?_)
    refine v_getI (q := 34) fX6_194 (by assumption) (hd := dX6_feed_31) (kk := ?_)
    rw [e9, upd_at]
    refine v_iret dX6_feed_34 (hQ := ?_)
    refine hQ cc I3 (fun y a1 a2 => (hF3 y a1 a2).trans ((hF2 y a1 a2).trans (hF1 y a1 a2))) e9 (fun j hj => ?_)
    by_cases c0 : j < tl
    · obtain ⟨t, q1, q2, q3⟩ := htp j c0
      refine ⟨t, q1, ?_, ?_⟩
      · unfold fdF
        rw [if_neg (by omega)]
        exact q2
      · rw [ht3 j, if_neg (by omega), ht2 j, if_neg (by omega), ht1 j, if_neg (by omega)]
        exact q3
    · refine ⟨btN (wdF a c d (j - tl)) ((j - tl) % 4), btN_lt _ _, ?_, ?_⟩
      · unfold fdF
        rw [if_pos (by omega)]
      · unfold wdF
        by_cases c1 : j - tl < 4
        · rw [ht3 j, if_neg (by omega), ht2 j, if_neg (by omega), ht1 j, if_pos (by omega), if_pos c1, show (j - tl) % 4 = j - tl by omega]
        · rw [if_neg c1]
          by_cases c2 : j - tl < 8
          · rw [ht3 j, if_neg (by omega), ht2 j, if_pos (by omega), if_pos c2, show (j - tl) % 4 = j - (tl + 4) by omega]
          · rw [ht3 j, if_pos (by omega), if_neg c2, show (j - tl) % 4 = j - (tl + 8) by omega]
  · refine v_icmp_leF (q := 12) (t := 15) dX6_feed_9 (fun h => cc ((nI_leI (b := 96) (by omega) (by omega)).mp h)) (kf := ?_)
    refine v_ldc (q := 14) cX6_65 dX6_feed_12 (kk := ?_)
    refine v_iret dX6_feed_14 (hQ := ?_)
    exact h1 (by omega)
theorem mfeed_loop {a c d : Int32} (hm : MG S R m) (h6 : I m 6 = nI tl) (htl : tl + 12 ≤ 96) (h5 : I (m + 5) = tp) (hQ : ∀ I' : hcI, (∀ y, y ≠ m → y ≠ m + 5 → I' y = I y) → I' m = upd (I m) 6 (nI (tl + 12)) → I' (m + 5) = fdF tp tl a c d 12 → Q (some (.int (nI (tl + 12)))) S I' R z) (r : Nat) : ∀ (i : Nat) (I1 : hcI), i + r = 12 → (∀ y, y ≠ m + 5 → I1 y = I y) → I1 (m + 5) = fdF tp tl a c d i → V g mX7_feed 0 0 0 S I1 R z 18 [some (.ref m), some (.int a), some (.int c), some (.int d), some (.int (nI i)), none] [] Q := by
  have s0 := hm.s0
  have st := hm.s_tape
  have rt := hm.r_tape
  induction r with
  | zero =>
    intro i I1 hi hF h1
    obtain rfl : i = 12 := by omega
    have e6 : I1 m 6 = nI tl := by rw [hF m (by omega)]; exact h6
    refine v_iload (q := 20) dX7_feed_18 (kk := ?_)
    refine v_bipush (v := 12) (q := 22) dX7_feed_20 (kk := ?_)
    refine v_icmp_geT 84 dX7_feed_22 (Int32.le_refl _) (kt := ?_)
    refine v_aload_n (q := 85) dX7_feed_84 (kk := ?_)
    refine v_dup (q := 86) dX7_feed_85 (kk := ?_)
    refine v_getI (q := 89) fX7_181 (by assumption) (hd := dX7_feed_86) (kk := ?_)
    rw [e6]
    refine v_bipush (v := 12) (q := 91) dX7_feed_89 (kk := ?_)
    refine v_iadd (q := 92) dX7_feed_91 (kk := ?_)
    rw [show nI tl + 12 = nI (tl + 12) from nI_add tl 12]
    refine v_putI (q := 95) fX7_181 (by assumption) (hd := dX7_feed_92) (kk := ?_)
    refine v_aload_n (q := 96) dX7_feed_95 (kk := ?_)
    refine v_getI (q := 99) fX7_181 (by assumption) (hd := dX7_feed_96) (kk := ?_)
    rw [hc_u_at, upd_at]
    refine v_iret dX7_feed_99 (hQ := ?_)
    exact hQ _ (fun y a1 a2 => (hc_u_ne a1).trans (hF y a2)) (by rw [hc_u_at, hF m (by omega)]) (by rw [hc_u_ne (by omega)]; exact h1)
  | succ r ih =>
    intro i I1 hi hF h1
    have e6 : I1 m 6 = nI tl := by rw [hF m (by omega)]; exact h6
    refine v_iload (q := 20) dX7_feed_18 (kk := ?_)
    refine v_bipush (v := 12) (q := 22) dX7_feed_20 (kk := ?_)
    refine v_icmp_geF (q := 25) (t := 84) dX7_feed_22 (fun h => by have := (nI_leI (a := 12) (by omega) (by omega)).mp h; omega) (kf := ?_)
    refine v_iload (q := 27) dX7_feed_25 (kk := ?_)
    refine v_iconst (v := 4) (q := 28) dX7_feed_27 (kk := ?_)
    have tail : V g mX7_feed 0 0 0 S I1 R z 47 [some (.ref m), some (.int a), some (.int c), some (.int d), some (.int (nI i)), none] [.int (wdF a c d i)] Q := by
      refine v_istore5 (q := 49) dX7_feed_47 (kk := ?_)
      refine v_aload_n (q := 50) dX7_feed_49 (kk := ?_)
      refine v_getR (q := 53) fX7_22 (by assumption) (by assumption) (hd := dX7_feed_50) (kk := ?_)
      refine v_aload_n (q := 54) dX7_feed_53 (kk := ?_)
      refine v_getI (q := 57) fX7_181 (by assumption) (hd := dX7_feed_54) (kk := ?_)
      rw [e6]
      refine v_iload (q := 59) dX7_feed_57 (kk := ?_)
      refine v_iadd (q := 60) dX7_feed_59 (kk := ?_)
      refine v_iload (q := 62) dX7_feed_60 (kk := ?_)
      refine v_bipush (v := 24) (q := 64) dX7_feed_62 (kk := ?_)
      refine v_bipush (v := 8) (q := 66) dX7_feed_64 (kk := ?_)
      refine v_iload (q := 68) dX7_feed_66 (kk := ?_)
      refine v_iconst (v := 4) (q := 69) dX7_feed_68 (kk := ?_)
      refine v_iremN (q := 70) (n := 4) (by omega) (by omega) (by omega) dX7_feed_69 (kk := ?_)
      refine v_imul (q := 71) dX7_feed_70 (kk := ?_)
      refine v_isub (q := 72) dX7_feed_71 (kk := ?_)
      rw [show (24 : Int32) - 8 * nI (i % 4) = nI (24 - 8 * (i % 4)) by rw [show (8 : Int32) = nI 8 from rfl, pk_mul]; exact pk_sub (a := 24) (by omega)]
      refine v_ishr (q := 73) dX7_feed_72 (kk := ?_)
      refine v_sipush (v := 255) (q := 76) dX7_feed_73 (kk := ?_)
      refine v_iand (q := 77) dX7_feed_76 (kk := ?_)
      rw [shr_b (k := i % 4) (by
        have : i % 4 = 0 ∨ i % 4 = 1 ∨ i % 4 = 2 ∨ i % 4 = 3 := by omega
        rcases this with e | e | e | e <;> rw [e] <;> decide)]
      refine v_iastE (q := 78) (tl + i) (nI_add tl i) (by assumption) (by omega) (by omega) (hd := dX7_feed_77) (kk := ?_)
      refine v_iinc4 (q := 81) dX7_feed_78 (hv := nI_1 i) (kk := ?_)
      refine v_goto 18 dX7_feed_81 (kt := ?_)
      refine v_drop5 (ih (i + 1) _ (by omega) (fun y hy => (hc_u_ne hy).trans (hF y hy)) ?_)
      rw [hc_u_at, h1]
      funext j
      by_cases e : j = tl + i
      · rw [e, upd_at]
        unfold fdF
        rw [if_pos (by omega), show tl + i - tl = i by omega]
      · rw [upd_ne e]
        unfold fdF
        by_cases cc : tl ≤ j ∧ j < tl + i
        · rw [if_pos cc, if_pos (by omega)]
        · rw [if_neg cc, if_neg (by omega)]
    unfold wdF at tail
    by_cases c1 : i < 4
    · rw [if_pos c1] at tail
      refine v_icmp_geF (q := 31) (t := 35) dX7_feed_28 (fun h => by have := (nI_leI (a := 4) (by omega) (by omega)).mp h; omega) (kf := ?_)
      refine v_iload_n (q := 32) dX7_feed_31 (kk := ?_)
      refine v_goto 47 dX7_feed_32 (kt := ?_)
      exact tail
    · rw [if_neg c1] at tail
      refine v_icmp_geT 35 dX7_feed_28 (nI_le (a := 4) (by omega) (by omega)) (kt := ?_)
      refine v_iload (q := 37) dX7_feed_35 (kk := ?_)
      refine v_bipush (v := 8) (q := 39) dX7_feed_37 (kk := ?_)
      by_cases c2 : i < 8
      · rw [if_pos c2] at tail
        refine v_icmp_geF (q := 42) (t := 46) dX7_feed_39 (fun h => by have := (nI_leI (a := 8) (by omega) (by omega)).mp h; omega) (kf := ?_)
        refine v_iload_n (q := 43) dX7_feed_42 (kk := ?_)
        refine v_goto 47 dX7_feed_43 (kt := ?_)
        exact tail
      · rw [if_neg c2] at tail
        refine v_icmp_geT 46 dX7_feed_39 (nI_le (a := 8) (by omega) (by omega)) (kt := ?_)
        refine v_iload_n (q := 47) dX7_feed_46 (kk := ?_)
        exact tail
theorem m_feed {a c d : Int32} (hm : MG S R m) (h6 : I m 6 = nI tl) (h96 : tl ≤ 96) (h5 : I (m + 5) = tp) (h1 : 96 < tl + 12 → Q (some (.int (-1000000003))) S I R z) (hQ : tl + 12 ≤ 96 → ∀ I' : hcI, (∀ y, y ≠ m → y ≠ m + 5 → I' y = I y) → I' m = upd (I m) 6 (nI (tl + 12)) → I' (m + 5) = fdF tp tl a c d 12 → Q (some (.int (nI (tl + 12)))) S I' R z) : Cl g mX7_feed 0 0 0 S I R z [.ref m, .int a, .int c, .int d] Q := by
  have s0 := hm.s0
  refine Cl.go [some (.ref m), some (.int a), some (.int c), some (.int d), none, none] ?_
  refine v_aload_n (q := 1) dX7_feed_0 (kk := ?_)
  refine v_getI (q := 4) fX7_181 (by assumption) (hd := dX7_feed_1) (kk := ?_)
  rw [h6]
  refine v_bipush (v := 12) (q := 6) dX7_feed_4 (kk := ?_)
  refine v_iadd (q := 7) dX7_feed_6 (kk := ?_)
  rw [show nI tl + 12 = nI (tl + 12) from nI_add tl 12]
  refine v_bipush (v := 96) (q := 9) dX7_feed_7 (kk := ?_)
  by_cases cc : tl + 12 ≤ 96
  · refine v_icmp_leT 15 dX7_feed_9 (nI_le (b := 96) cc (by omega)) (kt := ?_)
    refine v_iconst (v := 0) (q := 16) dX7_feed_15 (kk := ?_)
    refine v_istore4 (q := 18) dX7_feed_16 (kk := ?_)
    exact mfeed_loop hm h6 cc h5 (hQ cc) 12 0 I (by omega) (fun _ _ => rfl) (by
      rw [h5]
      funext j
      unfold fdF
      rw [if_neg (by omega)])
  · refine v_icmp_leF (q := 12) (t := 15) dX7_feed_9 (fun h => cc ((nI_leI (b := 96) (by omega) (by omega)).mp h)) (kf := ?_)
    refine v_ldc (q := 14) cX7_98 dX7_feed_12 (kk := ?_)
    refine v_iret dX7_feed_14 (hQ := ?_)
    exact h1 (by omega)
theorem x_trim {n : Int32} (hx : XSk S R b) (h9 : I b 9 = nI tl) (h1 : ¬ (0 ≤ n ∧ n ≤ nI tl) → Q (some (.int (-1000000001))) S I R z) (hQ : 0 ≤ n ∧ n ≤ nI tl → Q (some (.int n)) S (hc_u I b 9 n) R z) : Cl g mX6_trim 0 0 0 S I R z [.ref b, .int n] Q := by
  have s0 := hx.1.1
  refine Cl.go [some (.ref b), some (.int n)] ?_
  have bad : ¬ (0 ≤ n ∧ n ≤ nI tl) → V g mX6_trim 0 0 0 S I R z 12 [some (.ref b), some (.int n)] [] Q := by
    intro c
    refine v_ldc (q := 14) cX6_55 dX6_trim_12 (kk := ?_)
    refine v_iret dX6_trim_14 (hQ := ?_)
    exact h1 c
  refine v_iload_n (q := 1) dX6_trim_0 (kk := ?_)
  refine v_if_lt 12 (q := 4) dX6_trim_1 (kt := fun c1 => ?_) (kf := fun c1 => ?_)
  · exact bad (fun h => absurd h.1 (Int32.not_le.mpr c1))
  · refine v_iload_n (q := 5) dX6_trim_4 (kk := ?_)
    refine v_aload_n (q := 6) dX6_trim_5 (kk := ?_)
    refine v_getI (q := 9) fX6_194 (by assumption) (hd := dX6_trim_6) (kk := ?_)
    rw [h9]
    refine v_icmp_le 15 (q := 12) dX6_trim_9 (kt := fun c2 => ?_) (kf := fun c2 => ?_)
    · refine v_aload_n (q := 16) dX6_trim_15 (kk := ?_)
      refine v_iload_n (q := 17) dX6_trim_16 (kk := ?_)
      refine v_putI (q := 20) fX6_194 (by assumption) (hd := dX6_trim_17) (kk := ?_)
      refine v_iload_n (q := 21) dX6_trim_20 (kk := ?_)
      refine v_iret dX6_trim_21 (hQ := ?_)
      exact hQ ⟨Int32.not_lt.mp c1, c2⟩
    · exact bad (fun h => c2 h.2)
theorem m_trim {n : Int32} (hm : MG S R m) (h6 : I m 6 = nI tl) (h1 : ¬ (0 ≤ n ∧ n ≤ nI tl) → Q (some (.int (-1000000001))) S I R z) (hQ : 0 ≤ n ∧ n ≤ nI tl → Q (some (.int n)) S (hc_u I m 6 n) R z) : Cl g mX7_trim 1 0 0 S I R z [.ref m, .int n] Q := by
  have s0 := hm.s0
  refine Cl.go [some (.ref m), some (.int n)] ?_
  refine v_iload_n (q := 1) dX7_trim_0 (kk := ?_)
  refine v_iconst (v := 0) (q := 2) dX7_trim_1 (kk := ?_)
  refine v_aload_n (q := 3) dX7_trim_2 (kk := ?_)
  refine v_getI (q := 6) fX7_181 (by assumption) (hd := dX7_trim_3) (kk := ?_)
  rw [h6]
  refine v_cS3 (N := mX7_in) (q := 9) lX7_76 sX7_in kX7_in dX7_trim_6 (s_in ?_)
  refine v_if_neB 15 (q := 12) dX7_trim_9 (kt := fun c => ?_) (kf := fun c => ?_)
  · refine v_aload_n (q := 16) dX7_trim_15 (kk := ?_)
    refine v_iload_n (q := 17) dX7_trim_16 (kk := ?_)
    refine v_putI (q := 20) fX7_181 (by assumption) (hd := dX7_trim_17) (kk := ?_)
    refine v_iload_n (q := 21) dX7_trim_20 (kk := ?_)
    refine v_iret dX7_trim_21 (hQ := ?_)
    exact hQ c
  · refine v_ldc (q := 14) cX7_92 dX7_trim_12 (kk := ?_)
    refine v_iret dX7_trim_14 (hQ := ?_)
    exact h1 c
theorem x_textTold {t w : Int32} (hx : XSk S R b) (hn : XN S I R b N) (hQ : Q (some (.int (spTextTold N t w))) S I R z) : Cl g mX6_textTold 2 0 0 S I R z [.ref b, .int t, .int w] Q := by
  obtain ⟨⟨s0, r0, -⟩, ⟨hk1, -⟩, -⟩ := hx
  obtain ⟨np, nb, nt, sec, hw, hd⟩ := id hn
  obtain ⟨e1, e2, e3, e4⟩ := hw.e
  have sh := hk1.1
  have hnt := hw.1.2.2.1.2
  refine Cl.go [some (.ref b), some (.int t), some (.int w), none] ?_
  have bad : ∀ o : Option Value, ¬ ((0 ≤ t ∧ t < nI nt) ∧ (0 ≤ w ∧ w ≤ 1)) → V g mX6_textTold 2 0 0 S I R z 22 [some (.ref b), some (.int t), some (.int w), o] [] Q := by
    intro o c
    have e : spTextTold N t w = -1000000001 := by unfold spTextTold; rw [e3, if_neg c]
    rw [e] at hQ
    refine v_ldc (q := 24) cX6_55 dX6_textTold_22 (kk := ?_)
    refine v_iret dX6_textTold_24 (hQ := ?_)
    exact hQ
  refine v_aload_n (q := 1) dX6_textTold_0 (kk := ?_)
  refine v_getR (q := 4) fX6_12 (by assumption) (by assumption) (hd := dX6_textTold_1) (kk := ?_)
  refine v_iload_n (q := 5) dX6_textTold_4 (kk := ?_)
  refine v_cV1 (N := mX0_lawAt) (q := 8) lX6_215 iX0_lawAt kX0_lawAt (by assumption) dX6_textTold_5 (s_lawAt hk1 hd hw.1.2.2.1 (fun j x hj et hxx htx => ?_) (fun hno => ?_))
  · subst et
    have ct : 0 ≤ nI j ∧ nI j < nI nt := ⟨Int32.not_lt.mp (nI_pos (by omega)), nI_lt hj (by omega)⟩
    obtain ⟨⟨p1, p2⟩, key, cn, lv, htw, t0, t1, t2, u2, u3, v0, v1, v9⟩ := htx
    refine v_astore3 (q := 9) dX6_textTold_8 (kk := ?_)
    refine v_aload_n (q := 10) dX6_textTold_9 (kk := ?_)
    refine v_ifnull (q := 13) dX6_textTold_10 (kt := ?_)
    refine v_iload_n (q := 14) dX6_textTold_13 (kk := ?_)
    refine v_if_lt 22 (q := 17) dX6_textTold_14 (kt := fun c1 => ?_) (kf := fun c1 => ?_)
    · exact bad _ (fun h => absurd h.2.1 (Int32.not_le.mpr c1))
    · refine v_iload_n (q := 18) dX6_textTold_17 (kk := ?_)
      refine v_iconst (v := 1) (q := 19) dX6_textTold_18 (kk := ?_)
      refine v_icmp_le 25 (q := 22) dX6_textTold_19 (kt := fun c2 => ?_) (kf := fun c2 => ?_)
      · have e : spTextTold N (nI j) w = if w = 0 then N (93 + 2 * j) / 1000 else N (94 + 2 * j) := by unfold spTextTold; rw [e3, if_pos ⟨ct, Int32.not_lt.mp c1, c2⟩, nI_clamp (by omega)]
        rw [e] at hQ
        obtain ⟨w1, w2, w3, w4, -⟩ := htw
        refine v_iload_n (q := 26) dX6_textTold_25 (kk := ?_)
        refine v_if_ne 36 (q := 29) dX6_textTold_26 (kt := fun c3 => ?_) (kf := fun c3 => ?_)
        · rw [if_neg c3, w4] at hQ
          refine v_aload_n (q := 37) dX6_textTold_36 (kk := ?_)
          refine v_getI (q := 40) fX6_224 (by assumption) (hd := dX6_textTold_37) (kk := ?_)
          rw [v1]
          refine v_iret dX6_textTold_40 (hQ := ?_)
          exact hQ
        · rw [if_pos c3, w3] at hQ
          have e9 : nI (1000 * key + cn) / 1000 = nI key := by
            rw [show (1000 : Int32) = nI 1000 from rfl, pk_div (by omega) (by omega) (by omega)]
            congr 1
            omega
          rw [e9] at hQ
          refine v_aload_n (q := 30) dX6_textTold_29 (kk := ?_)
          refine v_getI (q := 33) fX6_219 (by assumption) (hd := dX6_textTold_30) (kk := ?_)
          rw [v0]
          refine v_goto 40 dX6_textTold_33 (kt := ?_)
          refine v_iret dX6_textTold_40 (hQ := ?_)
          exact hQ
      · exact bad _ (fun h => c2 h.2.2)
  · refine v_astoreN3 (q := 9) dX6_textTold_8 (kk := ?_)
    refine v_aload_nN (q := 10) dX6_textTold_9 (kk := ?_)
    refine v_ifnullN 22 dX6_textTold_10 (kt := ?_)
    exact bad _ (fun h => hno h.1)
theorem x_why {k : Int32} (hx : XSk S R b) (hn : XN S I R b N) (hQ : Q (some (.int (spWhy N k))) S I R z) : Cl g mX6_why 1 0 0 S I R z [.ref b, .int k] Q := by
  obtain ⟨⟨s0, r0, -⟩, ⟨hk1, -⟩, -⟩ := hx
  obtain ⟨np, nb, nt, sec, hw, hd⟩ := id hn
  obtain ⟨e1, e2, e3, e4⟩ := hw.e
  obtain ⟨sh, -, -, -, s4, -, -, -, r3, -⟩ := hk1
  have hnt := hw.1.2.2.1.2
  refine Cl.go [some (.ref b), some (.int k)] ?_
  refine v_iload_n (q := 1) dX6_why_0 (kk := ?_)
  refine v_iconst (v := 3) (q := 2) dX6_why_1 (kk := ?_)
  refine v_cS2 (N := mX6_within) (q := 5) lX6_51 sX6_within kX6_within dX6_why_2 (s_within ?_)
  refine v_if_neB 11 (q := 8) dX6_why_5 (kt := fun c => ?_) (kf := fun c => ?_)
  · obtain ⟨j, rfl, hj⟩ := nI_of6 (n := 3) rfl (by omega) c
    have e : spWhy N (nI j) = hc_5 (cntF N j nt) := by unfold spWhy; rw [if_pos c, e3, nI_clamp (by omega)]
    rw [e] at hQ
    have hc := hd.2.2.2.1 j hj
    refine v_aload_n (q := 12) dX6_why_11 (kk := ?_)
    refine v_getR (q := 15) fX6_12 (by assumption) (by assumption) (hd := dX6_why_12) (kk := ?_)
    refine v_getR (q := 18) fX6_227 (by assumption) (by assumption) (hd := dX6_why_15) (kk := ?_)
    refine v_iload_n (q := 19) dX6_why_18 (kk := ?_)
    refine v_ialdN (q := 20) (by assumption) (by omega) (by omega) (hd := dX6_why_19) (kk := ?_)
    rw [hc]
    cases hf : cntF N j nt with
    | none =>
      rw [hf] at hQ
      refine v_if_geF (q := 23) (t := 28) dX6_why_20 (by decide) (kf := ?_)
      refine v_ldc (q := 25) cX6_125 dX6_why_23 (kk := ?_)
      refine v_goto 37 dX6_why_25 (kt := ?_)
      refine v_iret dX6_why_37 (hQ := ?_)
      exact hQ
    | some t =>
      have ht := cntF_lt hf
      rw [hf] at hQ hc
      refine v_if_geT 28 dX6_why_20 (nI_pos' (by omega)) (kt := ?_)
      refine v_aload_n (q := 29) dX6_why_28 (kk := ?_)
      refine v_getR (q := 32) fX6_12 (by assumption) (by assumption) (hd := dX6_why_29) (kk := ?_)
      refine v_getR (q := 35) fX6_227 (by assumption) (by assumption) (hd := dX6_why_32) (kk := ?_)
      refine v_iload_n (q := 36) dX6_why_35 (kk := ?_)
      refine v_ialdN (q := 37) (by assumption) (by omega) (by omega) (hd := dX6_why_36) (kk := ?_)
      rw [hc]
      refine v_iret dX6_why_37 (hQ := ?_)
      exact hQ
  · have e : spWhy N k = -1000000001 := by unfold spWhy; rw [if_neg c]
    rw [e] at hQ
    refine v_ldc (q := 10) cX6_55 dX6_why_8 (kk := ?_)
    refine v_iret dX6_why_10 (hQ := ?_)
    exact hQ
theorem m_why {k : Int32} (hm : MG S R m) (hN : I (m + 1) = N) (hn : MN N) (hQ : Q (some (.int (spWhy N k))) S I R z) : Cl g mX7_why 1 0 0 S I R z [.ref m, .int k] Q := by
  have s0 := hm.s0
  obtain ⟨np, nb, nt, sec, hw⟩ := hn
  obtain ⟨e1, e2, e3, e4⟩ := hw.e
  have hnt := hw.1.2.2.1.2
  refine Cl.go [some (.ref m), some (.int k), none] ?_
  refine v_iload_n (q := 1) dX7_why_0 (kk := ?_)
  refine v_iconst (v := 0) (q := 2) dX7_why_1 (kk := ?_)
  refine v_iconst (v := 2) (q := 3) dX7_why_2 (kk := ?_)
  refine v_cS3 (N := mX7_in) (q := 6) lX7_76 sX7_in kX7_in dX7_why_3 (s_in0 3 3 rfl rfl (by omega) ?_)
  refine v_if_neB 12 (q := 9) dX7_why_6 (kt := fun c => ?_) (kf := fun c => ?_)
  · obtain ⟨j, rfl, hj⟩ := nI_of6 (n := 3) rfl (by omega) c
    have e : spWhy N (nI j) = hc_5 (cntF N j nt) := by unfold spWhy; rw [if_pos c, e3, nI_clamp (by omega)]
    rw [e] at hQ
    refine v_aload_n (q := 13) dX7_why_12 (kk := ?_)
    refine v_iload_n (q := 14) dX7_why_13 (kk := ?_)
    refine v_cV1 (N := mX7_counts) (q := 17) lX7_103 iX7_counts kX7_counts (by assumption) dX7_why_14 (s_counts (key := j) rfl hm hN hw.1.2.2.2.2.2.2.2.2.2.2 hw.1.2.2.1.1 hnt ?_)
    refine v_istore2 (q := 18) dX7_why_17 (kk := ?_)
    refine v_iload_n (q := 19) dX7_why_18 (kk := ?_)
    cases hf : cntF N j nt with
    | none =>
      rw [hf] at hQ
      refine v_if_geF (q := 22) (t := 27) dX7_why_19 (by decide) (kf := ?_)
      refine v_ldc (q := 24) cX7_75 dX7_why_22 (kk := ?_)
      refine v_goto 28 dX7_why_24 (kt := ?_)
      refine v_iret dX7_why_28 (hQ := ?_)
      exact hQ
    | some t =>
      have ht := cntF_lt hf
      rw [hf] at hQ
      refine v_if_geT 27 dX7_why_19 (nI_pos' (by omega)) (kt := ?_)
      refine v_iload_n (q := 28) dX7_why_27 (kk := ?_)
      refine v_iret dX7_why_28 (hQ := ?_)
      exact hQ
  · have e : spWhy N k = -1000000001 := by unfold spWhy; rw [if_neg c]
    rw [e] at hQ
    refine v_ldc (q := 11) cX7_92 dX7_why_9 (kk := ?_)
    refine v_iret dX7_why_11 (hQ := ?_)
    exact hQ
end T14
