def hc_max (x y : Int32) : Int32 := if x < y then y else x
def hc_min (x y : Int32) : Int32 := if x ≤ y then x else y
def hc_abs (x : Int32) : Int32 := if 0 ≤ x then x else -x
def hc_b (p : Prop) [Decidable p] : Int32 := if p then 1 else 0
theorem hc_b0 {p : Prop} [Decidable p] : hc_b p = 0 ↔ ¬ p := by
  unfold hc_b
  split <;> simp_all
theorem hc_bt {p : Prop} [Decidable p] (h : p) : hc_b p = 1 := if_pos h
theorem hc_bf {p : Prop} [Decidable p] (h : ¬ p) : hc_b p = 0 := if_neg h
section B0
variable {g : hcG} {M : hcM} {d kc ks : Nat} {S : hcS} {I : hcI} {R : hcR} {z pc q : Nat} {L : List (Option Value)} {st : List Value} {Q : hcQ}
theorem v_if_eqB {p : Prop} [Decidable p] {off : Int} (t : Nat) (hd : decode M.2.1 pc = .ok (.ifCond .eq off, 3)) (ht : (pc : Int) + off = (t : Int) := by decide) (hq : pc + 3 = q := by rfl) (kt : ¬ p → V g M d kc ks S I R z t L st Q) (kf : p → V g M d kc ks S I R z q L st Q) : V g M d kc ks S I R z pc L (.int (hc_b p) :: st) Q :=
  v_if_eq t hd ht hq (fun h => kt (hc_b0.mp h)) (fun h => kf (Decidable.byContradiction (fun n => h (hc_b0.mpr n))))
theorem v_if_neB {p : Prop} [Decidable p] {off : Int} (t : Nat) (hd : decode M.2.1 pc = .ok (.ifCond .ne off, 3)) (ht : (pc : Int) + off = (t : Int) := by decide) (hq : pc + 3 = q := by rfl) (kt : p → V g M d kc ks S I R z t L st Q) (kf : ¬ p → V g M d kc ks S I R z q L st Q) : V g M d kc ks S I R z pc L (.int (hc_b p) :: st) Q :=
  v_if_ne t hd ht hq (fun h => kt (Decidable.byContradiction (fun n => h (hc_b0.mpr n)))) (fun h => kf (hc_b0.mp h))
end B0
section B1
variable {g : hcG} {S : hcS} {I : hcI} {R : hcR} {z : Nat} {Q : hcQ}
theorem s_max {x y : Int32} (hQ : Q (some (.int (hc_max x y))) S I R z) : Cl g mJ9_max_7cf53 0 0 0 S I R z [.int x, .int y] Q := by
  refine Cl.go [some (.int x), some (.int y)] ?_
  refine v_iload_n (q := 1) dJ9_max_7cf53_0 (kk := ?_)
  refine v_iload_n (q := 2) dJ9_max_7cf53_1 (kk := ?_)
  refine v_icmp_lt 9 (q := 5) dJ9_max_7cf53_2 (kt := fun c => ?_) (kf := fun c => ?_)
  · refine v_iload_n (q := 10) dJ9_max_7cf53_9 (kk := ?_)
    refine v_iret dJ9_max_7cf53_10 (hQ := ?_)
    simpa [hc_max, c] using hQ
  · refine v_iload_n (q := 6) dJ9_max_7cf53_5 (kk := ?_)
    refine v_goto 10 dJ9_max_7cf53_6 (kt := ?_)
    refine v_iret dJ9_max_7cf53_10 (hQ := ?_)
    simpa [hc_max, c] using hQ
theorem s_min {x y : Int32} (hQ : Q (some (.int (hc_min x y))) S I R z) : Cl g mJ9_min_7cf53 0 0 0 S I R z [.int x, .int y] Q := by
  refine Cl.go [some (.int x), some (.int y)] ?_
  refine v_iload_n (q := 1) dJ9_min_7cf53_0 (kk := ?_)
  refine v_iload_n (q := 2) dJ9_min_7cf53_1 (kk := ?_)
  refine v_icmp_gt 9 (q := 5) dJ9_min_7cf53_2 (kt := fun c => ?_) (kf := fun c => ?_)
  · refine v_iload_n (q := 10) dJ9_min_7cf53_9 (kk := ?_)
    refine v_iret dJ9_min_7cf53_10 (hQ := ?_)
    have c2 : ¬ x ≤ y := Int32.not_le.mpr c
    simpa [hc_min, c2] using hQ
  · refine v_iload_n (q := 6) dJ9_min_7cf53_5 (kk := ?_)
    refine v_goto 10 dJ9_min_7cf53_6 (kt := ?_)
    refine v_iret dJ9_min_7cf53_10 (hQ := ?_)
    have c2 : x ≤ y := Int32.not_lt.mp c
    simpa [hc_min, c2] using hQ
theorem s_abs {x : Int32} (hQ : Q (some (.int (hc_abs x))) S I R z) : Cl g mJ9_abs_0f7a4 0 0 0 S I R z [.int x] Q := by
  refine Cl.go [some (.int x)] ?_
  refine v_iload_n (q := 1) dJ9_abs_0f7a4_0 (kk := ?_)
  refine v_if_ge 9 (q := 4) dJ9_abs_0f7a4_1 (kt := fun c => ?_) (kf := fun c => ?_)
  · refine v_iload_n (q := 10) dJ9_abs_0f7a4_9 (kk := ?_)
    refine v_iret dJ9_abs_0f7a4_10 (hQ := ?_)
    simpa [hc_abs, c] using hQ
  · refine v_iload_n (q := 5) dJ9_abs_0f7a4_4 (kk := ?_)
    refine v_ineg (q := 6) dJ9_abs_0f7a4_5 (kk := ?_)
    refine v_goto 10 dJ9_abs_0f7a4_6 (kt := ?_)
    refine v_iret dJ9_abs_0f7a4_10 (hQ := ?_)
    simpa [hc_abs, c] using hQ
theorem s_within {v n : Int32} (hQ : Q (some (.int (hc_b (0 ≤ v ∧ v < n)))) S I R z) : Cl g mX6_within 0 0 0 S I R z [.int v, .int n] Q := by
  refine Cl.go [some (.int v), some (.int n)] ?_
  refine v_iload_n (q := 1) dX6_within_0 (kk := ?_)
  refine v_if_lt 13 (q := 4) dX6_within_1 (kt := fun c => ?_) (kf := fun c => ?_)
  · refine v_iconst (v := 0) (q := 14) dX6_within_13 (kk := ?_)
    refine v_zret dX6_within_14 rfl (hQ := ?_)
    have h : ¬ (0 ≤ v ∧ v < n) := fun h => Int32.not_le.mpr c h.1
    rwa [hc_bf h] at hQ
  · refine v_iload_n (q := 5) dX6_within_4 (kk := ?_)
    refine v_iload_n (q := 6) dX6_within_5 (kk := ?_)
    refine v_icmp_ge 13 (q := 9) dX6_within_6 (kt := fun c2 => ?_) (kf := fun c2 => ?_)
    · refine v_iconst (v := 0) (q := 14) dX6_within_13 (kk := ?_)
      refine v_zret dX6_within_14 rfl (hQ := ?_)
      have h : ¬ (0 ≤ v ∧ v < n) := fun h => Int32.not_lt.mpr c2 h.2
      rwa [hc_bf h] at hQ
    · refine v_iconst (v := 1) (q := 10) dX6_within_9 (kk := ?_)
      refine v_goto 14 dX6_within_10 (kt := ?_)
      refine v_zret dX6_within_14 rfl (hQ := ?_)
      have h : 0 ≤ v ∧ v < n := ⟨Int32.not_lt.mp c, Int32.not_le.mp c2⟩
      rwa [hc_bt h] at hQ
theorem s_held {v n : Int32} (hQ : Q (some (.int (hc_max 0 (hc_min v n)))) S I R z) : Cl g mX6_held 1 0 0 S I R z [.int v, .int n] Q := by
  refine Cl.go [some (.int v), some (.int n)] ?_
  refine v_iconst (v := 0) (q := 1) dX6_held_0 (kk := ?_)
  refine v_iload_n (q := 2) dX6_held_1 (kk := ?_)
  refine v_iload_n (q := 3) dX6_held_2 (kk := ?_)
  refine v_cS2 (N := mJ9_min_7cf53) (q := 6) lX6_126 sJ9_min_7cf53 kJ9_min_7cf53 dX6_held_3 (s_min ?_)
  refine v_cS2 (N := mJ9_max_7cf53) (q := 9) lX6_289 sJ9_max_7cf53 kJ9_max_7cf53 dX6_held_6 (s_max ?_)
  refine v_iret dX6_held_9 (hQ := ?_)
  exact hQ
end B1
