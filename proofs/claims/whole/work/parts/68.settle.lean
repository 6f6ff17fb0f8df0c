/-- how many stay when signs of rank l and more are written out -/
def stH (w : Nat → Int32) (l : Int32) : Nat → Nat
  | 0 => 0
  | h + 1 => if ¬ w h = -11 ∧ l ≤ rkF (w h) then stH w l h else h + 1
theorem stH_le (w : Nat → Int32) (l : Int32) : ∀ h, stH w l h ≤ h
  | 0 => Nat.le_refl _
  | h + 1 => by
    have := stH_le w l h
    simp only [stH]
    split <;> omega
/-- the codes with n signs of w, from h down, behind the first k -/
def cdS (cd w : Nat → Int32) (k h n : Nat) : Nat → Int32 := fun i => if k ≤ i ∧ i < k + n then w (h - 1 - (i - k)) else cd i
def SM (m : Nat) (I I' : hcI) : Prop := (∀ y, y ≠ m → y ≠ m + 8 → I' y = I y) ∧ ∀ k, k ≠ 16 → k ≠ 19 → I' m k = I m k
section L8
variable {g : hcG} {S : hcS} {I : hcI} {R : hcR} {z : Nat} {Q : hcQ} {m : Nat}
theorem settle_loop {h k : Nat} {l : Int32} {w cd : Nat → Int32} (hm : MG S R m) (h9 : I (m + 9) = w) (hh : h + k ≤ 96) (hQ : ∀ I' : hcI, SM m I I' → I' m 19 = nI (stH w l h) → I' m 16 = nI (k + (h - stH w l h)) → I' (m + 8) = cdS cd w k h (h - stH w l h) → Q none S I' R z) (i : Nat) : ∀ I1 : hcI, i ≤ h → stH w l i = stH w l h → SM m I I1 → I1 m 19 = nI i → I1 m 16 = nI (k + (h - i)) → I1 (m + 8) = cdS cd w k h (h - i) → V g mX7_settle 1 0 0 S I1 R z 0 [some (.ref m), some (.int l)] [] Q := by
  have s0 := hm.s0
  have sw := hm.s_waits
  have rw' := hm.r_waits
  have sc := hm.s_code
  have rc := hm.r_code
  induction i with
  | zero =>
    intro I1 hi he hG h19 h16 h8
    have e0 : stH w l h = 0 := he.symm
    rw [e0] at hQ
    refine v_aload_n (q := 1) dX7_settle_0 (kk := ?_)
    refine v_getI (q := 4) fX7_212 (by assumption) (hd := dX7_settle_1) (kk := ?_)
    rw [h19]
    refine v_if_leT 82 dX7_settle_4 (Int32.le_refl _) (kt := ?_)
    refine v_vret dX7_settle_82 (hQ := ?_)
    exact hQ I1 hG h19 h16 h8
  | succ i ih =>
    intro I1 hi he hG h19 h16 h8
    have e9 : I1 (m + 9) = w := (hG.1 _ (by omega) (by omega)).trans h9
    have ep : nI (i + 1) - 1 = nI i := nI_pred i
    have stop : ¬ (¬ w i = -11 ∧ l ≤ rkF (w i)) → V g mX7_settle 1 0 0 S I1 R z 82 [some (.ref m), some (.int l)] [] Q := by
      intro cc
      have e0 : stH w l h = i + 1 := by rw [← he]; simp only [stH]; rw [if_neg cc]
      rw [e0] at hQ
      refine v_vret dX7_settle_82 (hQ := ?_)
      exact hQ I1 hG h19 h16 h8
    refine v_aload_n (q := 1) dX7_settle_0 (kk := ?_)
    refine v_getI (q := 4) fX7_212 (by assumption) (hd := dX7_settle_1) (kk := ?_)
    rw [h19]
    refine v_if_leF (q := 7) (t := 82) dX7_settle_4 (fun h' => by have := (nI_leI (b := 0) (by omega) (by omega)).mp h'; omega) (kf := ?_)
    refine v_aload_n (q := 8) dX7_settle_7 (kk := ?_)
    refine v_getR (q := 11) fX7_35 (by assumption) (by assumption) (hd := dX7_settle_8) (kk := ?_)
    refine v_aload_n (q := 12) dX7_settle_11 (kk := ?_)
    refine v_getI (q := 15) fX7_212 (by assumption) (hd := dX7_settle_12) (kk := ?_)
    rw [h19]
    refine v_iconst (v := 1) (q := 16) dX7_settle_15 (kk := ?_)
    refine v_isub (q := 17) dX7_settle_16 (kk := ?_)
    rw [ep]
    refine v_ialdE (q := 18) (i) (by rfl) (by assumption) (by omega) (by omega) (hd := dX7_settle_17) (kk := ?_)
    rw [e9]
    refine v_bipush (v := (-11)) (q := 20) dX7_settle_18 (kk := ?_)
    refine v_icmp_eq 82 (q := 23) dX7_settle_20 (kt := fun c1 => ?_) (kf := fun c1 => ?_)
    · exact stop (fun hh' => hh'.1 c1)
    · refine v_aload_n (q := 24) dX7_settle_23 (kk := ?_)
      refine v_getR (q := 27) fX7_35 (by assumption) (by assumption) (hd := dX7_settle_24) (kk := ?_)
      refine v_aload_n (q := 28) dX7_settle_27 (kk := ?_)
      refine v_getI (q := 31) fX7_212 (by assumption) (hd := dX7_settle_28) (kk := ?_)
      rw [h19]
      refine v_iconst (v := 1) (q := 32) dX7_settle_31 (kk := ?_)
      refine v_isub (q := 33) dX7_settle_32 (kk := ?_)
      rw [ep]
      refine v_ialdE (q := 34) (i) (by rfl) (by assumption) (by omega) (by omega) (hd := dX7_settle_33) (kk := ?_)
      rw [e9]
      refine v_cS1 (N := mX7_rank) (q := 37) lX7_215 sX7_rank kX7_rank dX7_settle_34 (s_rank ?_)
      refine v_iload_n (q := 38) dX7_settle_37 (kk := ?_)
      refine v_icmp_lt 82 (q := 41) dX7_settle_38 (kt := fun c2 => ?_) (kf := fun c2 => ?_)
      · exact stop (fun hh' => absurd hh'.2 (Int32.not_le.mpr c2))
      · have he2 : stH w l i = stH w l h := by rw [← he]; simp only [stH]; rw [if_pos ⟨c1, Int32.not_lt.mp c2⟩]
        refine v_aload_n (q := 42) dX7_settle_41 (kk := ?_)
        refine v_dup (q := 43) dX7_settle_42 (kk := ?_)
        refine v_getI (q := 46) fX7_212 (by assumption) (hd := dX7_settle_43) (kk := ?_)
        rw [h19]
        refine v_iconst (v := 1) (q := 47) dX7_settle_46 (kk := ?_)
        refine v_isub (q := 48) dX7_settle_47 (kk := ?_)
        rw [ep]
        refine v_putI (q := 51) fX7_212 (by assumption) (hd := dX7_settle_48) (kk := ?_)
        refine v_aload_n (q := 52) dX7_settle_51 (kk := ?_)
        refine v_getR (q := 55) fX7_32 (by assumption) (by assumption) (hd := dX7_settle_52) (kk := ?_)
        refine v_aload_n (q := 56) dX7_settle_55 (kk := ?_)
        refine v_getI (q := 59) fX7_218 (by assumption) (hd := dX7_settle_56) (kk := ?_)
        rw [hc_u_at, upd_ne (by omega), h16]
        refine v_aload_n (q := 60) dX7_settle_59 (kk := ?_)
        refine v_getR (q := 63) fX7_35 (by assumption) (by assumption) (hd := dX7_settle_60) (kk := ?_)
        refine v_aload_n (q := 64) dX7_settle_63 (kk := ?_)
        refine v_getI (q := 67) fX7_212 (by assumption) (hd := dX7_settle_64) (kk := ?_)
        rw [hc_u_at, upd_at]
        refine v_ialdE (q := 68) (i) (by rfl) (by assumption) (by omega) (by omega) (hd := dX7_settle_67) (kk := ?_)
        rw [hc_u_ne (by omega), e9]
        refine v_iastE (q := 69) (k + (h - (i + 1))) (by rfl) (by assumption) (by omega) (by omega) (hd := dX7_settle_68) (kk := ?_)
        refine v_aload_n (q := 70) dX7_settle_69 (kk := ?_)
        refine v_dup (q := 71) dX7_settle_70 (kk := ?_)
        refine v_getI (q := 74) fX7_218 (by assumption) (hd := dX7_settle_71) (kk := ?_)
        rw [hc_u_ne (by omega), hc_u_at, upd_ne (by omega), h16]
        refine v_iconst (v := 1) (q := 75) dX7_settle_74 (kk := ?_)
        refine v_iadd (q := 76) dX7_settle_75 (kk := ?_)
        rw [nI_1]
        refine v_putI (q := 79) fX7_218 (by assumption) (hd := dX7_settle_76) (kk := ?_)
        refine v_goto 0 dX7_settle_79 (kt := ?_)
        refine ih _ (by omega) he2 ⟨fun y a1 a2 => ?_, fun j a1 a2 => ?_⟩ ?_ ?_ ?_
        · rw [hc_u_ne a1, hc_u_ne a2, hc_u_ne a1]
          exact hG.1 y a1 a2
        · rw [hc_u_at, upd_ne a1, hc_u_ne (by omega), hc_u_at, upd_ne a2]
          exact hG.2 j a1 a2
        · rw [hc_u_at, upd_ne (by omega), hc_u_ne (by omega), hc_u_at, upd_at]
        · rw [hc_u_at, upd_at]
          congr 1
          omega
        · rw [hc_u_ne (by omega), hc_u_at, hc_u_ne (by omega), h8]
          funext j
          unfold cdS
          by_cases ej : j = k + (h - (i + 1))
          · rw [ej, upd_at, if_pos (by omega)]
            congr 1
            omega
          · rw [upd_ne ej]
            by_cases cj : k ≤ j ∧ j < k + (h - (i + 1))
            · rw [if_pos cj, if_pos (by omega)]
            · rw [if_neg cj, if_neg (by omega)]
theorem s_settle {h k : Nat} {l : Int32} {w cd : Nat → Int32} (hm : MG S R m) (h9 : I (m + 9) = w) (hh : h + k ≤ 96) (h19 : I m 19 = nI h) (h16 : I m 16 = nI k) (h8 : I (m + 8) = cd) (hQ : ∀ I' : hcI, SM m I I' → I' m 19 = nI (stH w l h) → I' m 16 = nI (k + (h - stH w l h)) → I' (m + 8) = cdS cd w k h (h - stH w l h) → Q none S I' R z) : Cl g mX7_settle 1 0 0 S I R z [.ref m, .int l] Q := by
  refine Cl.go [some (.ref m), some (.int l)] ?_
  refine settle_loop hm h9 hh hQ h I (Nat.le_refl _) rfl ⟨fun _ _ _ => rfl, fun _ _ _ => rfl⟩ h19 (by rw [h16, Nat.sub_self]; rfl) ?_
  rw [h8]
  funext j
  unfold cdS
  rw [if_neg (by omega)]
end L8
