/-- the reference at m: its cells -/
def MG (S : hcS) (R : hcR) (m : Nat) : Prop := S m = some (7, 0) ∧ (S (m + 1) = some (10, 1465) ∧ R m 0 = some (m + 1)) ∧ (S (m + 2) = some (10, 1465) ∧ R m 1 = some (m + 2)) ∧ (S (m + 3) = some (10, 1465) ∧ R m 2 = some (m + 3)) ∧ (S (m + 4) = some (10, 93) ∧ R m 4 = some (m + 4)) ∧ (S (m + 5) = some (10, 96) ∧ R m 5 = some (m + 5)) ∧ (S (m + 6) = some (9, 12) ∧ R m 13 = some (m + 6)) ∧ (S (m + 7) = some (10, 4) ∧ R m 14 = some (m + 7)) ∧ (S (m + 8) = some (10, 96) ∧ R m 15 = some (m + 8)) ∧ (S (m + 9) = some (10, 96) ∧ R m 18 = some (m + 9)) ∧ (S (m + 10) = some (11, 10) ∧ R m 20 = some (m + 10)) ∧ (S (m + 11) = some (10, 96) ∧ R m 21 = some (m + 11)) ∧ (S (m + 12) = some (10, 4) ∧ R m 22 = some (m + 12)) ∧ (S (m + 13) = some (10, 4) ∧ R m 23 = some (m + 13)) ∧ (S (m + 14) = some (10, 4) ∧ R m 24 = some (m + 14)) ∧ (S (m + 15) = some (10, 96) ∧ R m 25 = some (m + 15)) ∧ (S (m + 16) = some (10, 5) ∧ R m 26 = some (m + 16)) ∧ (S (m + 17) = some (10, 5) ∧ R m 27 = some (m + 17)) ∧ (S (m + 18) = some (10, 5) ∧ R m 28 = some (m + 18)) ∧ (S (m + 19) = some (10, 120) ∧ R m 29 = some (m + 19)) ∧ (S (m + 20) = some (10, 24) ∧ R m 30 = some (m + 20)) ∧ (S (m + 21) = some (10, 60) ∧ R m 31 = some (m + 21))
theorem MG.s0 {S : hcS} {R : hcR} {m : Nat} (h : MG S R m) : S m = some (7, 0) := h.1
theorem MG.s_now {S : hcS} {R : hcR} {m : Nat} (h : MG S R m) : S (m + 1) = some (10, 1465) := h.2.1.1
theorem MG.r_now {S : hcS} {R : hcR} {m : Nat} (h : MG S R m) : R m 0 = some (m + 1) := h.2.1.2
theorem MG.s_image {S : hcS} {R : hcR} {m : Nat} (h : MG S R m) : S (m + 2) = some (10, 1465) := h.2.2.1.1
theorem MG.r_image {S : hcS} {R : hcR} {m : Nat} (h : MG S R m) : R m 1 = some (m + 2) := h.2.2.1.2
theorem MG.s_aside {S : hcS} {R : hcR} {m : Nat} (h : MG S R m) : S (m + 3) = some (10, 1465) := h.2.2.2.1.1
theorem MG.r_aside {S : hcS} {R : hcR} {m : Nat} (h : MG S R m) : R m 2 = some (m + 3) := h.2.2.2.1.2
theorem MG.s_before {S : hcS} {R : hcR} {m : Nat} (h : MG S R m) : S (m + 4) = some (10, 93) := h.2.2.2.2.1.1
theorem MG.r_before {S : hcS} {R : hcR} {m : Nat} (h : MG S R m) : R m 4 = some (m + 4) := h.2.2.2.2.1.2
theorem MG.s_tape {S : hcS} {R : hcR} {m : Nat} (h : MG S R m) : S (m + 5) = some (10, 96) := h.2.2.2.2.2.1.1
theorem MG.r_tape {S : hcS} {R : hcR} {m : Nat} (h : MG S R m) : R m 5 = some (m + 5) := h.2.2.2.2.2.1.2
theorem MG.s_keys {S : hcS} {R : hcR} {m : Nat} (h : MG S R m) : S (m + 6) = some (9, 12) := h.2.2.2.2.2.2.1.1
theorem MG.r_keys {S : hcS} {R : hcR} {m : Nat} (h : MG S R m) : R m 13 = some (m + 6) := h.2.2.2.2.2.2.1.2
theorem MG.s_keyAt {S : hcS} {R : hcR} {m : Nat} (h : MG S R m) : S (m + 7) = some (10, 4) := h.2.2.2.2.2.2.2.1.1
theorem MG.r_keyAt {S : hcS} {R : hcR} {m : Nat} (h : MG S R m) : R m 14 = some (m + 7) := h.2.2.2.2.2.2.2.1.2
theorem MG.s_code {S : hcS} {R : hcR} {m : Nat} (h : MG S R m) : S (m + 8) = some (10, 96) := h.2.2.2.2.2.2.2.2.1.1
theorem MG.r_code {S : hcS} {R : hcR} {m : Nat} (h : MG S R m) : R m 15 = some (m + 8) := h.2.2.2.2.2.2.2.2.1.2
theorem MG.s_waits {S : hcS} {R : hcR} {m : Nat} (h : MG S R m) : S (m + 9) = some (10, 96) := h.2.2.2.2.2.2.2.2.2.1.1
theorem MG.r_waits {S : hcS} {R : hcR} {m : Nat} (h : MG S R m) : R m 18 = some (m + 9) := h.2.2.2.2.2.2.2.2.2.1.2
theorem MG.s_tested {S : hcS} {R : hcR} {m : Nat} (h : MG S R m) : S (m + 10) = some (11, 10) := h.2.2.2.2.2.2.2.2.2.2.1.1
theorem MG.r_tested {S : hcS} {R : hcR} {m : Nat} (h : MG S R m) : R m 20 = some (m + 10) := h.2.2.2.2.2.2.2.2.2.2.1.2
theorem MG.s_stack {S : hcS} {R : hcR} {m : Nat} (h : MG S R m) : S (m + 11) = some (10, 96) := h.2.2.2.2.2.2.2.2.2.2.2.1.1
theorem MG.r_stack {S : hcS} {R : hcR} {m : Nat} (h : MG S R m) : R m 21 = some (m + 11) := h.2.2.2.2.2.2.2.2.2.2.2.1.2
theorem MG.s_facts {S : hcS} {R : hcR} {m : Nat} (h : MG S R m) : S (m + 12) = some (10, 4) := h.2.2.2.2.2.2.2.2.2.2.2.2.1.1
theorem MG.r_facts {S : hcS} {R : hcR} {m : Nat} (h : MG S R m) : R m 22 = some (m + 12) := h.2.2.2.2.2.2.2.2.2.2.2.2.1.2
theorem MG.s_sorts {S : hcS} {R : hcR} {m : Nat} (h : MG S R m) : S (m + 13) = some (10, 4) := h.2.2.2.2.2.2.2.2.2.2.2.2.2.1.1
theorem MG.r_sorts {S : hcS} {R : hcR} {m : Nat} (h : MG S R m) : R m 23 = some (m + 13) := h.2.2.2.2.2.2.2.2.2.2.2.2.2.1.2
theorem MG.s_sizes {S : hcS} {R : hcR} {m : Nat} (h : MG S R m) : S (m + 14) = some (10, 4) := h.2.2.2.2.2.2.2.2.2.2.2.2.2.2.1.1
theorem MG.r_sizes {S : hcS} {R : hcR} {m : Nat} (h : MG S R m) : R m 24 = some (m + 14) := h.2.2.2.2.2.2.2.2.2.2.2.2.2.2.1.2
theorem MG.s_cells {S : hcS} {R : hcR} {m : Nat} (h : MG S R m) : S (m + 15) = some (10, 96) := h.2.2.2.2.2.2.2.2.2.2.2.2.2.2.2.1.1
theorem MG.r_cells {S : hcS} {R : hcR} {m : Nat} (h : MG S R m) : R m 25 = some (m + 15) := h.2.2.2.2.2.2.2.2.2.2.2.2.2.2.2.1.2
theorem MG.s_holds {S : hcS} {R : hcR} {m : Nat} (h : MG S R m) : S (m + 16) = some (10, 5) := h.2.2.2.2.2.2.2.2.2.2.2.2.2.2.2.2.1.1
theorem MG.r_holds {S : hcS} {R : hcR} {m : Nat} (h : MG S R m) : R m 26 = some (m + 16) := h.2.2.2.2.2.2.2.2.2.2.2.2.2.2.2.2.1.2
theorem MG.s_holdsA {S : hcS} {R : hcR} {m : Nat} (h : MG S R m) : S (m + 17) = some (10, 5) := h.2.2.2.2.2.2.2.2.2.2.2.2.2.2.2.2.2.1.1
theorem MG.r_holdsA {S : hcS} {R : hcR} {m : Nat} (h : MG S R m) : R m 27 = some (m + 17) := h.2.2.2.2.2.2.2.2.2.2.2.2.2.2.2.2.2.1.2
theorem MG.s_holdsB {S : hcS} {R : hcR} {m : Nat} (h : MG S R m) : S (m + 18) = some (10, 5) := h.2.2.2.2.2.2.2.2.2.2.2.2.2.2.2.2.2.2.1.1
theorem MG.r_holdsB {S : hcS} {R : hcR} {m : Nat} (h : MG S R m) : R m 28 = some (m + 18) := h.2.2.2.2.2.2.2.2.2.2.2.2.2.2.2.2.2.2.1.2
theorem MG.s_heldCells {S : hcS} {R : hcR} {m : Nat} (h : MG S R m) : S (m + 19) = some (10, 120) := h.2.2.2.2.2.2.2.2.2.2.2.2.2.2.2.2.2.2.2.1.1
theorem MG.r_heldCells {S : hcS} {R : hcR} {m : Nat} (h : MG S R m) : R m 29 = some (m + 19) := h.2.2.2.2.2.2.2.2.2.2.2.2.2.2.2.2.2.2.2.1.2
theorem MG.s_moved {S : hcS} {R : hcR} {m : Nat} (h : MG S R m) : S (m + 20) = some (10, 24) := h.2.2.2.2.2.2.2.2.2.2.2.2.2.2.2.2.2.2.2.2.1.1
theorem MG.r_moved {S : hcS} {R : hcR} {m : Nat} (h : MG S R m) : R m 30 = some (m + 20) := h.2.2.2.2.2.2.2.2.2.2.2.2.2.2.2.2.2.2.2.2.1.2
theorem MG.s_tells {S : hcS} {R : hcR} {m : Nat} (h : MG S R m) : S (m + 21) = some (10, 60) := h.2.2.2.2.2.2.2.2.2.2.2.2.2.2.2.2.2.2.2.2.2.1
theorem MG.r_tells {S : hcS} {R : hcR} {m : Nat} (h : MG S R m) : R m 31 = some (m + 21) := h.2.2.2.2.2.2.2.2.2.2.2.2.2.2.2.2.2.2.2.2.2.2
theorem upd_at {f : Nat → Int32} {k : Nat} {v : Int32} : upd f k v k = v := by simp [upd]
section E1
variable {g : hcG} {S : hcS} {I : hcI} {R : hcR} {z : Nat} {Q : hcQ}
theorem okC_leaf {c : Nat → Int32} {n nm k : Nat} (h : okC c n nm) (hk : k < n) (hnm : nm ≤ 3) (h0 : 0 ≤ c k) : ∃ j, c k = nI j ∧ j < 10000 + nm := by
  obtain ⟨j, hj, e⟩ := nI_of (x := c k) (Int32.not_lt.mpr h0)
  have h3 := (h.1 k hk).2.2.1 h0
  rw [e] at h3
  exact ⟨j, e, (nI_ltI hj (by omega)).mp h3⟩
theorem okC_weak {c : Nat → Int32} {n nm nm' : Nat} (h : okC c n nm) (hn : nm ≤ nm') (hm : nm' ≤ 100) : okC c n nm' := by
  refine ⟨fun k hk => ?_, h.2⟩
  obtain ⟨h1, h2, h3, h4⟩ := h.1 k hk
  refine ⟨h1, h2, fun h0 => ?_, h4⟩
  have := h3 h0
  exact Int32.lt_of_lt_of_le this ((nI_leI (by omega) (by omega)).mpr (by omega))
theorem gives_loop {x cn lv : Nat} {X Y W : Int32} {c : Nat → Int32} (s0 : S x = some (5, 0)) (s1 : S (x + 1) = some (10, cn)) (s2 : S (x + 2) = some (10, lv)) (r2 : R x 2 = some (x + 1)) (r3 : R x 3 = some (x + 2)) (hcd : ∀ k, k < cn → I (x + 1) k = trc (c k)) (ok : okC c cn 3) (hlv : lv = lvS c cn) (hcn : cn ≤ 96)
    (hQ : ∀ I' : hcI, (∀ y, y ≠ x + 2 → I' y = I y) → Q (some (.int (evF (f3 X Y W) c cn))) S I' R z) (k : Nat) :
    ∀ (i : Nat) (I' : hcI), i + k = cn → (∀ y, y ≠ x + 2 → I' y = I y) → stkIs (I' (x + 2)) (evS (f3 X Y W) c i) → V g mX5_gives 1 0 0 S I' R z 6 [some (.ref x), some (.int X), some (.int Y), some (.int W), some (.int (nI (dpS c i))), some (.int (nI i)), none] [] Q := by
  have hlv96 : lv ≤ 96 := by rw [hlv]; exact Nat.le_trans (lvS_le c cn) hcn
  induction k with
  | zero =>
    intro i I' hi hf hs
    have e : i = cn := by omega
    subst e
    refine v_iload (q := 8) dX5_gives_6 (kk := ?_)
    refine v_aload_n (q := 9) dX5_gives_8 (kk := ?_)
    refine v_getR (q := 12) fX5_16 (by assumption) (by assumption) (hd := dX5_gives_9) (kk := ?_)
    refine v_alen (q := 13) (by assumption) (hd := dX5_gives_12) (kk := ?_)
    refine v_icmp_geT 156 dX5_gives_13 (nI_le (Nat.le_refl _) (by omega)) (kt := ?_)
    rw [ok.2]
    have hl := evS_len (f := f3 X Y W) ok i (Nat.le_refl _)
    rw [ok.2] at hl
    refine v_iload (q := 158) dX5_gives_156 (kk := ?_)
    refine v_if_leF (q := 161) (t := 170) dX5_gives_158 (by decide) (kf := ?_)
    refine v_aload_n (q := 162) dX5_gives_161 (kk := ?_)
    refine v_getR (q := 165) fX5_26 (by assumption) (by assumption) (hd := dX5_gives_162) (kk := ?_)
    refine v_iconst (v := 0) (q := 166) dX5_gives_165 (kk := ?_)
    refine v_iald (q := 167) (by assumption) (vp_in_nI (n := 0) (by have := dpS_le c i; rw [ok.2] at this; omega) (by omega)) (hd := dX5_gives_166) (kk := ?_)
    refine v_goto 171 dX5_gives_167 (kt := ?_)
    refine v_iret dX5_gives_171 (hQ := ?_)
    have e2 : I' (x + 2) (0 : Int32).toNatClampNeg = evF (f3 X Y W) c i := by
      unfold evF
      cases h : evS (f3 X Y W) c i with
      | nil => rw [h] at hl; simp at hl
      | cons v r =>
        rw [h] at hl hs
        have hr : r = [] := by simpa using hl
        subst hr
        exact hs.1
    rw [e2]
    exact hQ I' hf
  | succ k ih =>
    intro i I' hi hf hs
    have hin : i < cn := by omega
    have hl := evS_len (f := f3 X Y W) ok i (by omega)
    obtain ⟨o1, o2, o3, o4⟩ := ok.1 i hin
    have hdl := dpS_le c i
    have hll : lvS c i ≤ lvS c cn := lvS_mono c (by omega)
    refine v_iload (q := 8) dX5_gives_6 (kk := ?_)
    refine v_aload_n (q := 9) dX5_gives_8 (kk := ?_)
    refine v_getR (q := 12) fX5_16 (by assumption) (by assumption) (hd := dX5_gives_9) (kk := ?_)
    refine v_alen (q := 13) (by assumption) (hd := dX5_gives_12) (kk := ?_)
    refine v_icmp_geF (q := 16) (t := 156) dX5_gives_13 (nI_ge (by omega) (by omega)) (kf := ?_)
    refine v_aload_n (q := 17) dX5_gives_16 (kk := ?_)
    refine v_getR (q := 20) fX5_16 (by assumption) (by assumption) (hd := dX5_gives_17) (kk := ?_)
    refine v_iload (q := 22) dX5_gives_20 (kk := ?_)
    refine v_ialdN (q := 23) (by assumption) (by omega) (by omega) (hd := dX5_gives_22) (kk := ?_)
    rw [hf (x + 1) (by omega), hcd i hin]
    refine v_istore6 (q := 25) dX5_gives_23 (kk := ?_)
    refine v_iload (q := 27) dX5_gives_25 (kk := ?_)
    refine v_sipush (v := 20000) (q := 30) dX5_gives_27 (kk := ?_)
    by_cases h0 : 0 ≤ c i
    · obtain ⟨j, ej, hj⟩ := okC_leaf ok hin (Nat.le_refl _) h0
      have et : trc (c i) = c i := by simp [trc, h0]
      have hlt : lvS c i + 1 ≤ lvS c cn := by
        have : lvS c (i + 1) ≤ lvS c cn := lvS_mono c (by omega)
        simpa [lvS, h0] using this
      rw [et]
      refine v_icmp_geF (q := 33) (t := 64) dX5_gives_30 (by rw [ej]; exact nI_ge (b := 20000) (by omega) (by omega)) (kf := ?_)
      refine v_iload (q := 35) dX5_gives_33 (kk := ?_)
      refine v_aload_n (q := 36) dX5_gives_35 (kk := ?_)
      refine v_getR (q := 39) fX5_26 (by assumption) (by assumption) (hd := dX5_gives_36) (kk := ?_)
      refine v_alen (q := 40) (by assumption) (hd := dX5_gives_39) (kk := ?_)
      refine v_icmp_geF (q := 43) (t := 150) dX5_gives_40 (nI_ge (by omega) (by omega)) (kf := ?_)
      refine v_aload_n (q := 44) dX5_gives_43 (kk := ?_)
      refine v_getR (q := 47) fX5_26 (by assumption) (by assumption) (hd := dX5_gives_44) (kk := ?_)
      refine v_iload (q := 49) dX5_gives_47 (kk := ?_)
      refine v_iload (q := 51) dX5_gives_49 (kk := ?_)
      refine v_iload_n (q := 52) dX5_gives_51 (kk := ?_)
      refine v_iload_n (q := 53) dX5_gives_52 (kk := ?_)
      refine v_iload_n (q := 54) dX5_gives_53 (kk := ?_)
      refine v_cS4 (N := mX5_leaf) (q := 57) lX5_29 sX5_leaf kX5_leaf dX5_gives_54 (s_leaf ej hj ?_)
      refine v_iastN (q := 58) (by assumption) (by omega) (by omega) (hd := dX5_gives_57) (kk := ?_)
      refine v_iinc4 (q := 61) dX5_gives_58 (hv := nI_1 _) (kk := ?_)
      refine v_goto 150 dX5_gives_61 (kt := ?_)
      refine v_iinc5 (q := 153) dX5_gives_150 (hv := nI_1 i) (kk := ?_)
      refine v_goto 6 dX5_gives_153 (kt := ?_)
      refine v_drop6 ?_
      have ed : dpS c i + 1 = dpS c (i + 1) := by simp [dpS, h0]
      rw [ed]
      refine ih (i + 1) _ (by omega) (fun y hy => by rw [hc_u_ne hy]; exact hf y hy) ?_
      rw [hc_u_at, ← hl]
      have ev : evS (f3 X Y W) c (i + 1) = (if c i < 10000 then c i else f3 X Y W (c i - 10000).toNatClampNeg) :: evS (f3 X Y W) c i := by simp [evS, stp1, h0]
      rw [ev]
      exact stkIs_push hs
    · by_cases h10 : c i = -10
      · have et : trc (c i) = 20033 := by rw [h10]; decide
        rw [et]
        refine v_icmp_geT 64 dX5_gives_30 (by decide) (kt := ?_)
        refine v_iload (q := 66) dX5_gives_64 (kk := ?_)
        refine v_sipush (v := 20033) (q := 69) dX5_gives_66 (kk := ?_)
        refine v_icmp_neF (q := 72) (t := 107) dX5_gives_69 (by decide) (kf := ?_)
        have h1 := o1 h0
        obtain ⟨t, ht⟩ : ∃ t, dpS c i = t + 1 := ⟨dpS c i - 1, by omega⟩
        have ed : dpS c (i + 1) = t + 1 := by simp [dpS, h0, h10, ht]
        have hev : evS (f3 X Y W) c (i + 1) = stN (evS (f3 X Y W) c i) := by simp [evS, stp1, h0, h10]
        rw [ht]
        refine v_iload (q := 74) dX5_gives_72 (kk := ?_)
        refine v_iconst (v := 1) (q := 75) dX5_gives_74 (kk := ?_)
        refine v_icmp_ltF (q := 78) (t := 150) dX5_gives_75 (fun h => absurd h (Int32.not_lt.mpr (show nI 1 ≤ nI (t + 1) from nI_le (by omega) (by omega)))) (kf := ?_)
        refine v_aload_n (q := 79) dX5_gives_78 (kk := ?_)
        refine v_getR (q := 82) fX5_26 (by assumption) (by assumption) (hd := dX5_gives_79) (kk := ?_)
        refine v_iload (q := 84) dX5_gives_82 (kk := ?_)
        refine v_iconst (v := 1) (q := 85) dX5_gives_84 (kk := ?_)
        refine v_isub (q := 86) dX5_gives_85 (kk := ?_)
        rw [nI_pred]
        refine v_aload_n (q := 87) dX5_gives_86 (kk := ?_)
        refine v_getR (q := 90) fX5_26 (by assumption) (by assumption) (hd := dX5_gives_87) (kk := ?_)
        refine v_iload (q := 92) dX5_gives_90 (kk := ?_)
        refine v_iconst (v := 1) (q := 93) dX5_gives_92 (kk := ?_)
        refine v_isub (q := 94) dX5_gives_93 (kk := ?_)
        rw [nI_pred]
        refine v_ialdN (q := 95) (by assumption) (by omega) (by omega) (hd := dX5_gives_94) (kk := ?_)
        cases es : evS (f3 X Y W) c i with
        | nil => rw [es] at hl; simp at hl; omega
        | cons v r =>
          rw [es] at hl hs hev
          have hrl : r.length = t := by simpa [ht] using hl
          have ev : I' (x + 2) t = v := by rw [← hrl]; exact hs.1
          have hs' : ∀ w, stkIs (upd (I' (x + 2)) t w) (w :: r) := fun w => by rw [← hrl]; exact stkIs_push hs.2
          rw [ev]
          refine v_if_ne 102 (q := 98) dX5_gives_95 (kt := fun cv => ?_) (kf := fun cv => ?_)
          · refine v_iconst (v := 0) (q := 103) dX5_gives_102 (kk := ?_)
            refine v_iastN (q := 104) (by assumption) (by omega) (by omega) (hd := dX5_gives_103) (kk := ?_)
            refine v_goto 150 dX5_gives_104 (kt := ?_)
            refine v_iinc5 (q := 153) dX5_gives_150 (hv := nI_1 i) (kk := ?_)
            refine v_goto 6 dX5_gives_153 (kt := ?_)
            refine v_drop6 ?_
            rw [← ed]
            refine ih (i + 1) _ (by omega) (fun y hy => by rw [hc_u_ne hy]; exact hf y hy) ?_
            rw [hc_u_at, hev]
            have := hs' 0
            simpa [stN, hc_bf cv] using this
          · refine v_iconst (v := 1) (q := 99) dX5_gives_98 (kk := ?_)
            refine v_goto 103 dX5_gives_99 (kt := ?_)
            refine v_iastN (q := 104) (by assumption) (by omega) (by omega) (hd := dX5_gives_103) (kk := ?_)
            refine v_goto 150 dX5_gives_104 (kt := ?_)
            refine v_iinc5 (q := 153) dX5_gives_150 (hv := nI_1 i) (kk := ?_)
            refine v_goto 6 dX5_gives_153 (kt := ?_)
            refine v_drop6 ?_
            rw [← ed]
            refine ih (i + 1) _ (by omega) (fun y hy => by rw [hc_u_ne hy]; exact hf y hy) ?_
            rw [hc_u_at, hev]
            have := hs' 1
            simpa [stN, hc_bt cv] using this
      · have h9 : c i = -1 ∨ c i = -2 ∨ c i = -3 ∨ c i = -4 ∨ c i = -5 ∨ c i = -6 ∨ c i = -7 ∨ c i = -8 ∨ c i = -9 := by
          rcases neg10 o4 h0 with h | h | h | h | h | h | h | h | h | h <;> simp [h] at h10 ⊢
        have et : 20000 ≤ trc (c i) ∧ ¬ trc (c i) = 20033 := by
          rcases h9 with h | h | h | h | h | h | h | h | h <;> rw [h] <;> decide
        refine v_icmp_geT 64 dX5_gives_30 (et.1) (kt := ?_)
        refine v_iload (q := 66) dX5_gives_64 (kk := ?_)
        refine v_sipush (v := 20033) (q := 69) dX5_gives_66 (kk := ?_)
        refine v_icmp_neT 107 dX5_gives_69 (et.2) (kt := ?_)
        have h2 := o2 h0 h10
        obtain ⟨t, ht⟩ : ∃ t, dpS c i = t + 2 := ⟨dpS c i - 2, by omega⟩
        have ed : dpS c (i + 1) = t + 1 := by simp [dpS, h0, h10, ht]
        have hev : evS (f3 X Y W) c (i + 1) = stB (c i) (evS (f3 X Y W) c i) := by simp [evS, stp1, h0, h10]
        rw [ht]
        refine v_iload (q := 109) dX5_gives_107 (kk := ?_)
        refine v_iconst (v := 2) (q := 110) dX5_gives_109 (kk := ?_)
        refine v_icmp_ltF (q := 113) (t := 150) dX5_gives_110 (fun h => absurd h (Int32.not_lt.mpr (show nI 2 ≤ nI (t + 2) from nI_le (by omega) (by omega)))) (kf := ?_)
        refine v_iinc4 (q := 116) dX5_gives_113 (hv := pk_m1 (t + 1)) (kk := ?_)
        refine v_aload_n (q := 117) dX5_gives_116 (kk := ?_)
        refine v_getR (q := 120) fX5_26 (by assumption) (by assumption) (hd := dX5_gives_117) (kk := ?_)
        refine v_iload (q := 122) dX5_gives_120 (kk := ?_)
        refine v_iconst (v := 1) (q := 123) dX5_gives_122 (kk := ?_)
        refine v_isub (q := 124) dX5_gives_123 (kk := ?_)
        rw [nI_pred]
        refine v_iload (q := 126) dX5_gives_124 (kk := ?_)
        refine v_sipush (v := 20000) (q := 129) dX5_gives_126 (kk := ?_)
        refine v_isub (q := 130) dX5_gives_129 (kk := ?_)
        refine v_aload_n (q := 131) dX5_gives_130 (kk := ?_)
        refine v_getR (q := 134) fX5_26 (by assumption) (by assumption) (hd := dX5_gives_131) (kk := ?_)
        refine v_iload (q := 136) dX5_gives_134 (kk := ?_)
        refine v_iconst (v := 1) (q := 137) dX5_gives_136 (kk := ?_)
        refine v_isub (q := 138) dX5_gives_137 (kk := ?_)
        rw [nI_pred]
        refine v_ialdN (q := 139) (by assumption) (by omega) (by omega) (hd := dX5_gives_138) (kk := ?_)
        refine v_aload_n (q := 140) dX5_gives_139 (kk := ?_)
        refine v_getR (q := 143) fX5_26 (by assumption) (by assumption) (hd := dX5_gives_140) (kk := ?_)
        refine v_iload (q := 145) dX5_gives_143 (kk := ?_)
        refine v_ialdN (q := 146) (by assumption) (by omega) (by omega) (hd := dX5_gives_145) (kk := ?_)
        refine v_cS3 (N := mX5_joined) (q := 149) lX5_33 sX5_joined kX5_joined dX5_gives_146 (s_joined h9 rfl ?_)
        refine v_iastN (q := 150) (by assumption) (by omega) (by omega) (hd := dX5_gives_149) (kk := ?_)
        refine v_iinc5 (q := 153) dX5_gives_150 (hv := nI_1 i) (kk := ?_)
        refine v_goto 6 dX5_gives_153 (kt := ?_)
        refine v_drop6 ?_
        rw [← ed]
        refine ih (i + 1) _ (by omega) (fun y hy => by rw [hc_u_ne hy]; exact hf y hy) ?_
        rw [hc_u_at, hev]
        cases es : evS (f3 X Y W) c i with
        | nil => rw [es] at hl; simp at hl; omega
        | cons v r =>
          cases r with
          | nil => rw [es] at hl; simp at hl; omega
          | cons w r =>
            rw [es] at hl hs
            have hrl : r.length = t := by simp at hl; omega
            have e1 : I' (x + 2) (dpS c (i + 1)) = v := by rw [ed, ← hrl]; exact hs.1
            have e2 : I' (x + 2) t = w := by rw [← hrl]; exact hs.2.1
            rw [e1, e2]
            have := stkIs_push (v := two (c i) w v) hs.2.2
            rw [hrl] at this
            exact this
theorem s_gives {x cn lv : Nat} {X Y W : Int32} {c : Nat → Int32} (s0 : S x = some (5, 0)) (s1 : S (x + 1) = some (10, cn)) (s2 : S (x + 2) = some (10, lv)) (r2 : R x 2 = some (x + 1)) (r3 : R x 3 = some (x + 2)) (hcd : ∀ k, k < cn → I (x + 1) k = trc (c k)) (ok : okC c cn 3) (hlv : lv = lvS c cn) (hcn : cn ≤ 96)
    (hQ : ∀ I' : hcI, (∀ y, y ≠ x + 2 → I' y = I y) → Q (some (.int (evF (f3 X Y W) c cn))) S I' R z) : Cl g mX5_gives 1 0 0 S I R z [.ref x, .int X, .int Y, .int W] Q := by
  refine Cl.go [some (.ref x), some (.int X), some (.int Y), some (.int W), none, none, none] ?_
  refine v_iconst (v := 0) (q := 1) dX5_gives_0 (kk := ?_)
  refine v_istore4 (q := 3) dX5_gives_1 (kk := ?_)
  refine v_iconst (v := 0) (q := 4) dX5_gives_3 (kk := ?_)
  refine v_istore5 (q := 6) dX5_gives_4 (kk := ?_)
  exact gives_loop s0 s1 s2 r2 r3 hcd ok hlv hcn hQ cn 0 I (by omega) (fun _ _ => rfl) trivial
theorem worksOut_loop {m t cn : Nat} {c : Nat → Int32} {f : Nat → Int32} (hm : MG S R m) (ht : t < 14) (hcd : c = cdN (I (m + 1)) t) (hf4 : f = I (m + 12)) (ok : okC c cn 3) (hcn : cn ≤ 96)
    (hQ : ∀ I' : hcI, (∀ y, y ≠ m + 11 → I' y = I y) → Q (some (.int (evF f c cn))) S I' R z) (k : Nat) :
    ∀ (i : Nat) (I' : hcI), i + k = cn → (∀ y, y ≠ m + 11 → I' y = I y) → stkIs (I' (m + 11)) (evS f c i) → V g mX7_worksOut 1 0 0 S I' R z 21 [some (.ref m), some (.int (nI t)), some (.int (nI (dpS c i))), some (.int (nI cn)), some (.int (nI i)), none] [] Q := by
  have s0 := hm.s0
  have sn := hm.s_now
  have rn := hm.r_now
  have ss := hm.s_stack
  have rs := hm.r_stack
  have sf := hm.s_facts
  have rf := hm.r_facts
  induction k with
  | zero =>
    intro i I' hi hf hs
    have e : i = cn := by omega
    subst e
    refine v_iload (q := 23) dX7_worksOut_21 (kk := ?_)
    refine v_iload_n (q := 24) dX7_worksOut_23 (kk := ?_)
    refine v_icmp_geT 155 dX7_worksOut_24 (nI_le (Nat.le_refl _) (by omega)) (kt := ?_)
    have hl := evS_len (f := f) ok i (Nat.le_refl _)
    rw [ok.2] at hl
    refine v_aload_n (q := 156) dX7_worksOut_155 (kk := ?_)
    refine v_getR (q := 159) fX7_42 (by assumption) (by assumption) (hd := dX7_worksOut_156) (kk := ?_)
    refine v_iconst (v := 0) (q := 160) dX7_worksOut_159 (kk := ?_)
    refine v_iald (q := 161) (by assumption) (vp_in_nI (n := 0) (by omega) (by omega)) (hd := dX7_worksOut_160) (kk := ?_)
    refine v_iret dX7_worksOut_161 (hQ := ?_)
    have e2 : I' (m + 11) (0 : Int32).toNatClampNeg = evF f c i := by
      unfold evF
      cases h : evS f c i with
      | nil => rw [h] at hl; simp at hl
      | cons v r =>
        rw [h] at hl hs
        have hr : r = [] := by simpa using hl
        subst hr
        exact hs.1
    rw [e2]
    exact hQ I' hf
  | succ k ih =>
    intro i I' hi hf hs
    have hin : i < cn := by omega
    have hl := evS_len (f := f) ok i (by omega)
    obtain ⟨o1, o2, o3, o4⟩ := ok.1 i hin
    have hdl : dpS c i ≤ i := Nat.le_trans (dpS_le c i) (lvS_le c i)
    have en : (121 : Int32) + 96 * nI t + nI i = nI (121 + 96 * t + i) := by
      rw [show (96 : Int32) = nI 96 from rfl, pk_mul, show (121 : Int32) = nI 121 from rfl, nI_add, nI_add]
    refine v_iload (q := 23) dX7_worksOut_21 (kk := ?_)
    refine v_iload_n (q := 24) dX7_worksOut_23 (kk := ?_)
    refine v_icmp_geF (q := 27) (t := 155) dX7_worksOut_24 (nI_ge (by omega) (by omega)) (kf := ?_)
    refine v_aload_n (q := 28) dX7_worksOut_27 (kk := ?_)
    refine v_getR (q := 31) fX7_9 (by assumption) (by assumption) (hd := dX7_worksOut_28) (kk := ?_)
    refine v_bipush (v := 121) (q := 33) dX7_worksOut_31 (kk := ?_)
    refine v_bipush (v := 96) (q := 35) dX7_worksOut_33 (kk := ?_)
    refine v_iload_n (q := 36) dX7_worksOut_35 (kk := ?_)
    refine v_imul (q := 37) dX7_worksOut_36 (kk := ?_)
    refine v_iadd (q := 38) dX7_worksOut_37 (kk := ?_)
    refine v_iload (q := 40) dX7_worksOut_38 (kk := ?_)
    refine v_iadd (q := 41) dX7_worksOut_40 (kk := ?_)
    rw [en]
    refine v_ialdN (q := 42) (by assumption) (by omega) (by omega) (hd := dX7_worksOut_41) (kk := ?_)
    have ec : I' (m + 1) (121 + 96 * t + i) = c i := by rw [hf (m + 1) (by omega), hcd]; rfl
    rw [ec]
    refine v_istore5 (q := 44) dX7_worksOut_42 (kk := ?_)
    refine v_iload (q := 46) dX7_worksOut_44 (kk := ?_)
    by_cases h0 : 0 ≤ c i
    · obtain ⟨j, ej, hj⟩ := okC_leaf ok hin (Nat.le_refl _) h0
      have ed : dpS c i + 1 = dpS c (i + 1) := by simp [dpS, h0]
      have ev : evS f c (i + 1) = (if c i < 10000 then c i else f (c i - 10000).toNatClampNeg) :: evS f c i := by simp [evS, stp1, h0]
      refine v_if_ltF (q := 49) (t := 85) dX7_worksOut_46 (Int32.not_lt.mpr h0) (kf := ?_)
      refine v_aload_n (q := 50) dX7_worksOut_49 (kk := ?_)
      refine v_getR (q := 53) fX7_42 (by assumption) (by assumption) (hd := dX7_worksOut_50) (kk := ?_)
      refine v_iload_n (q := 54) dX7_worksOut_53 (kk := ?_)
      refine v_iload (q := 56) dX7_worksOut_54 (kk := ?_)
      refine v_sipush (v := 10000) (q := 59) dX7_worksOut_56 (kk := ?_)
      by_cases h1 : j < 10000
      · have h1' : c i < 10000 := by rw [ej]; exact (nI_ltI (b := 10000) (by omega) (by omega)).mpr h1
        refine v_icmp_geF (q := 62) (t := 67) dX7_worksOut_59 (Int32.not_le.mpr h1') (kf := ?_)
        refine v_iload (q := 64) dX7_worksOut_62 (kk := ?_)
        refine v_goto 78 dX7_worksOut_64 (kt := ?_)
        refine v_iastN (q := 79) (by assumption) (by omega) (by omega) (hd := dX7_worksOut_78) (kk := ?_)
        refine v_iinc2 (q := 82) dX7_worksOut_79 (hv := nI_1 _) (kk := ?_)
        refine v_goto 149 dX7_worksOut_82 (kt := ?_)
        refine v_iinc4 (q := 152) dX7_worksOut_149 (hv := nI_1 i) (kk := ?_)
        refine v_goto 21 dX7_worksOut_152 (kt := ?_)
        refine v_drop5 ?_
        rw [ed]
        refine ih (i + 1) _ (by omega) (fun y hy => by rw [hc_u_ne hy]; exact hf y hy) ?_
        rw [hc_u_at, ← hl, ev, if_pos h1']
        exact stkIs_push hs
      · have h1' : ¬ c i < 10000 := by rw [ej]; exact fun h => h1 ((nI_ltI (b := 10000) (by omega) (by omega)).mp h)
        refine v_icmp_geT 67 dX7_worksOut_59 (Int32.not_lt.mp h1') (kt := ?_)
        refine v_aload_n (q := 68) dX7_worksOut_67 (kk := ?_)
        refine v_getR (q := 71) fX7_45 (by assumption) (by assumption) (hd := dX7_worksOut_68) (kk := ?_)
        refine v_iload (q := 73) dX7_worksOut_71 (kk := ?_)
        refine v_sipush (v := 10000) (q := 76) dX7_worksOut_73 (kk := ?_)
        refine v_isub (q := 77) dX7_worksOut_76 (kk := ?_)
        have e5 : c i - 10000 = nI (j - 10000) := by rw [ej]; exact pk_sub (b := 10000) (by omega)
        rw [e5]
        refine v_ialdN (q := 78) (by assumption) (by omega) (by omega) (hd := dX7_worksOut_77) (kk := ?_)
        refine v_iastN (q := 79) (by assumption) (by omega) (by omega) (hd := dX7_worksOut_78) (kk := ?_)
        refine v_iinc2 (q := 82) dX7_worksOut_79 (hv := nI_1 _) (kk := ?_)
        refine v_goto 149 dX7_worksOut_82 (kt := ?_)
        refine v_iinc4 (q := 152) dX7_worksOut_149 (hv := nI_1 i) (kk := ?_)
        refine v_goto 21 dX7_worksOut_152 (kt := ?_)
        refine v_drop5 ?_
        rw [ed]
        refine ih (i + 1) _ (by omega) (fun y hy => by rw [hc_u_ne hy]; exact hf y hy) ?_
        rw [hc_u_at, ← hl, ev, if_neg h1', e5, nI_clamp (by omega), hf (m + 12) (by omega), ← hf4]
        exact stkIs_push hs
    · by_cases h10 : c i = -10
      · refine v_if_ltT 85 dX7_worksOut_46 (Int32.not_le.mp h0) (kt := ?_)
        refine v_iload (q := 87) dX7_worksOut_85 (kk := ?_)
        refine v_bipush (v := (-10)) (q := 89) dX7_worksOut_87 (kk := ?_)
        refine v_icmp_neF (q := 92) (t := 119) dX7_worksOut_89 (h10) (kf := ?_)
        have h1 := o1 h0
        obtain ⟨u, hu⟩ : ∃ u, dpS c i = u + 1 := ⟨dpS c i - 1, by omega⟩
        have ed : dpS c (i + 1) = u + 1 := by simp [dpS, h0, h10, hu]
        have hev : evS f c (i + 1) = stN (evS f c i) := by simp [evS, stp1, h0, h10]
        rw [hu]
        refine v_aload_n (q := 93) dX7_worksOut_92 (kk := ?_)
        refine v_getR (q := 96) fX7_42 (by assumption) (by assumption) (hd := dX7_worksOut_93) (kk := ?_)
        refine v_iload_n (q := 97) dX7_worksOut_96 (kk := ?_)
        refine v_iconst (v := 1) (q := 98) dX7_worksOut_97 (kk := ?_)
        refine v_isub (q := 99) dX7_worksOut_98 (kk := ?_)
        rw [nI_pred]
        refine v_aload_n (q := 100) dX7_worksOut_99 (kk := ?_)
        refine v_getR (q := 103) fX7_42 (by assumption) (by assumption) (hd := dX7_worksOut_100) (kk := ?_)
        refine v_iload_n (q := 104) dX7_worksOut_103 (kk := ?_)
        refine v_iconst (v := 1) (q := 105) dX7_worksOut_104 (kk := ?_)
        refine v_isub (q := 106) dX7_worksOut_105 (kk := ?_)
        rw [nI_pred]
        refine v_ialdN (q := 107) (by assumption) (by omega) (by omega) (hd := dX7_worksOut_106) (kk := ?_)
        cases es : evS f c i with
        | nil => rw [es] at hl; simp at hl; omega
        | cons v r =>
          rw [es] at hl hs hev
          have hrl : r.length = u := by simpa [hu] using hl
          have ev : I' (m + 11) u = v := by rw [← hrl]; exact hs.1
          have hs' : ∀ w, stkIs (upd (I' (m + 11)) u w) (w :: r) := fun w => by rw [← hrl]; exact stkIs_push hs.2
          rw [ev]
          refine v_if_ne 114 (q := 110) dX7_worksOut_107 (kt := fun cv => ?_) (kf := fun cv => ?_)
          · refine v_iconst (v := 0) (q := 115) dX7_worksOut_114 (kk := ?_)
            refine v_iastN (q := 116) (by assumption) (by omega) (by omega) (hd := dX7_worksOut_115) (kk := ?_)
            refine v_goto 149 dX7_worksOut_116 (kt := ?_)
            refine v_iinc4 (q := 152) dX7_worksOut_149 (hv := nI_1 i) (kk := ?_)
            refine v_goto 21 dX7_worksOut_152 (kt := ?_)
            refine v_drop5 ?_
            rw [← ed]
            refine ih (i + 1) _ (by omega) (fun y hy => by rw [hc_u_ne hy]; exact hf y hy) ?_
            rw [hc_u_at, hev]
            have := hs' 0
            simpa [stN, hc_bf cv] using this
          · refine v_iconst (v := 1) (q := 111) dX7_worksOut_110 (kk := ?_)
            refine v_goto 115 dX7_worksOut_111 (kt := ?_)
            refine v_iastN (q := 116) (by assumption) (by omega) (by omega) (hd := dX7_worksOut_115) (kk := ?_)
            refine v_goto 149 dX7_worksOut_116 (kt := ?_)
            refine v_iinc4 (q := 152) dX7_worksOut_149 (hv := nI_1 i) (kk := ?_)
            refine v_goto 21 dX7_worksOut_152 (kt := ?_)
            refine v_drop5 ?_
            rw [← ed]
            refine ih (i + 1) _ (by omega) (fun y hy => by rw [hc_u_ne hy]; exact hf y hy) ?_
            rw [hc_u_at, hev]
            have := hs' 1
            simpa [stN, hc_bt cv] using this
      · have h9 : c i = -1 ∨ c i = -2 ∨ c i = -3 ∨ c i = -4 ∨ c i = -5 ∨ c i = -6 ∨ c i = -7 ∨ c i = -8 ∨ c i = -9 := by
          rcases neg10 o4 h0 with h | h | h | h | h | h | h | h | h | h <;> simp [h] at h10 ⊢
        refine v_if_ltT 85 dX7_worksOut_46 (Int32.not_le.mp h0) (kt := ?_)
        refine v_iload (q := 87) dX7_worksOut_85 (kk := ?_)
        refine v_bipush (v := (-10)) (q := 89) dX7_worksOut_87 (kk := ?_)
        refine v_icmp_neT 119 dX7_worksOut_89 (h10) (kt := ?_)
        have h2 := o2 h0 h10
        obtain ⟨u, hu⟩ : ∃ u, dpS c i = u + 2 := ⟨dpS c i - 2, by omega⟩
        have ed : dpS c (i + 1) = u + 1 := by simp [dpS, h0, h10, hu]
        have hev : evS f c (i + 1) = stB (c i) (evS f c i) := by simp [evS, stp1, h0, h10]
        rw [hu]
        refine v_iinc2 (q := 122) dX7_worksOut_119 (hv := pk_m1 (u + 1)) (kk := ?_)
        refine v_aload_n (q := 123) dX7_worksOut_122 (kk := ?_)
        refine v_getR (q := 126) fX7_42 (by assumption) (by assumption) (hd := dX7_worksOut_123) (kk := ?_)
        refine v_iload_n (q := 127) dX7_worksOut_126 (kk := ?_)
        refine v_iconst (v := 1) (q := 128) dX7_worksOut_127 (kk := ?_)
        refine v_isub (q := 129) dX7_worksOut_128 (kk := ?_)
        rw [nI_pred]
        refine v_iload (q := 131) dX7_worksOut_129 (kk := ?_)
        refine v_aload_n (q := 132) dX7_worksOut_131 (kk := ?_)
        refine v_getR (q := 135) fX7_42 (by assumption) (by assumption) (hd := dX7_worksOut_132) (kk := ?_)
        refine v_iload_n (q := 136) dX7_worksOut_135 (kk := ?_)
        refine v_iconst (v := 1) (q := 137) dX7_worksOut_136 (kk := ?_)
        refine v_isub (q := 138) dX7_worksOut_137 (kk := ?_)
        rw [nI_pred]
        refine v_ialdN (q := 139) (by assumption) (by omega) (by omega) (hd := dX7_worksOut_138) (kk := ?_)
        refine v_aload_n (q := 140) dX7_worksOut_139 (kk := ?_)
        refine v_getR (q := 143) fX7_42 (by assumption) (by assumption) (hd := dX7_worksOut_140) (kk := ?_)
        refine v_iload_n (q := 144) dX7_worksOut_143 (kk := ?_)
        refine v_ialdN (q := 145) (by assumption) (by omega) (by omega) (hd := dX7_worksOut_144) (kk := ?_)
        refine v_cS3 (N := mX7_two) (q := 148) lX7_247 sX7_two kX7_two dX7_worksOut_145 (s_two h9 ?_)
        refine v_iastN (q := 149) (by assumption) (by omega) (by omega) (hd := dX7_worksOut_148) (kk := ?_)
        refine v_iinc4 (q := 152) dX7_worksOut_149 (hv := nI_1 i) (kk := ?_)
        refine v_goto 21 dX7_worksOut_152 (kt := ?_)
        refine v_drop5 ?_
        rw [← ed]
        refine ih (i + 1) _ (by omega) (fun y hy => by rw [hc_u_ne hy]; exact hf y hy) ?_
        rw [hc_u_at, hev]
        cases es : evS f c i with
        | nil => rw [es] at hl; simp at hl; omega
        | cons v r =>
          cases r with
          | nil => rw [es] at hl; simp at hl; omega
          | cons w r =>
            rw [es] at hl hs
            have hrl : r.length = u := by simp at hl; omega
            have e1 : I' (m + 11) (dpS c (i + 1)) = v := by rw [ed, ← hrl]; exact hs.1
            have e2 : I' (m + 11) u = w := by rw [← hrl]; exact hs.2.1
            rw [e1, e2]
            have := stkIs_push (v := two (c i) w v) hs.2.2
            rw [hrl] at this
            exact this
theorem s_worksOut {m t key cn lv : Nat} (hm : MG S R m) (ht : t < 14) (htw : TW (I (m + 1)) t key cn lv)
    (hQ : ∀ I' : hcI, (∀ y, y ≠ m + 11 → I' y = I y) → Q (some (.int (evF (I (m + 12)) (cdN (I (m + 1)) t) cn))) S I' R z) : Cl g mX7_worksOut 1 0 0 S I R z [.ref m, .int (nI t)] Q := by
  obtain ⟨h1, h2, h3, h4, h5, h6⟩ := htw
  have s0 := hm.s0
  have sn := hm.s_now
  have rn := hm.r_now
  have en : (93 : Int32) + 2 * nI t = nI (93 + 2 * t) := by
    rw [show (2 : Int32) = nI 2 from rfl, pk_mul, show (93 : Int32) = nI 93 from rfl, nI_add]
  refine Cl.go [some (.ref m), some (.int (nI t)), none, none, none, none] ?_
  refine v_iconst (v := 0) (q := 1) dX7_worksOut_0 (kk := ?_)
  refine v_istore2 (q := 2) dX7_worksOut_1 (kk := ?_)
  refine v_aload_n (q := 3) dX7_worksOut_2 (kk := ?_)
  refine v_getR (q := 6) fX7_9 (by assumption) (by assumption) (hd := dX7_worksOut_3) (kk := ?_)
  refine v_bipush (v := 93) (q := 8) dX7_worksOut_6 (kk := ?_)
  refine v_iconst (v := 2) (q := 9) dX7_worksOut_8 (kk := ?_)
  refine v_iload_n (q := 10) dX7_worksOut_9 (kk := ?_)
  refine v_imul (q := 11) dX7_worksOut_10 (kk := ?_)
  refine v_iadd (q := 12) dX7_worksOut_11 (kk := ?_)
  rw [en]
  refine v_ialdN (q := 13) (by assumption) (by omega) (by omega) (hd := dX7_worksOut_12) (kk := ?_)
  rw [h3]
  refine v_sipush (v := 1000) (q := 16) dX7_worksOut_13 (kk := ?_)
  refine v_iremN (q := 17) (a := 1000 * key + cn) (n := 1000) (by omega) (by omega) (by omega) dX7_worksOut_16 (kk := ?_)
  rw [show (1000 * key + cn) % 1000 = cn by omega]
  refine v_istore3 (q := 18) dX7_worksOut_17 (kk := ?_)
  refine v_iconst (v := 0) (q := 19) dX7_worksOut_18 (kk := ?_)
  refine v_istore4 (q := 21) dX7_worksOut_19 (kk := ?_)
  exact worksOut_loop hm ht rfl rfl (okC_weak h6 (by split <;> omega) (by omega)) h2 hQ cn 0 I (by omega) (fun _ _ => rfl) trivial
end E1
