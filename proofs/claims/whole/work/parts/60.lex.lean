/-! words and signs of the tape -/
def scn (f : Nat → Bool) : Nat → Nat → Nat
  | 0, p => p
  | n + 1, p => if f p = true then scn f n (p + 1) else p
theorem scn_ge (f : Nat → Bool) : ∀ n p, p ≤ scn f n p ∧ scn f n p ≤ p + n
  | 0, p => ⟨Nat.le_refl _, Nat.le_refl _⟩
  | n + 1, p => by
    have := scn_ge f n (p + 1)
    simp only [scn]
    split <;> omega
def bLt (x : Nat) : Bool := decide (97 ≤ x ∧ x ≤ 122)
def bFg (x : Nat) : Bool := decide (48 ≤ x ∧ x ≤ 57)
def tbF (tp : Nat → Int32) (j : Nat) : Nat := (tp j).toNatClampNeg
def TBt (tp : Nat → Int32) (tl : Nat) : Prop := ∀ j, j < tl → tp j = nI (tbF tp j) ∧ tbF tp j < 256
theorem TPc.tb {I : hcI} {b tl : Nat} {tp : Nat → Int32} (h : TPc I b tl tp) : TBt tp tl := fun j hj => by
  obtain ⟨t, h1, h2, -⟩ := h j hj
  unfold tbF
  rw [h2, nI_clamp (by omega)]
  exact ⟨rfl, h1⟩
theorem TPc.cb {I : hcI} {b tl : Nat} {tp : Nat → Int32} (h : TPc I b tl tp) : ∀ j, j < tl → I (b + 51) j = sb (tbF tp j) := fun j hj => by
  obtain ⟨t, h1, h2, h3⟩ := h j hj
  unfold tbF
  rw [h2, nI_clamp (by omega)]
  exact h3
/-- where the next word or sign begins -/
def lxQ (tp : Nat → Int32) (tl p : Nat) : Nat := scn (fun j => decide (tbF tp j = 32)) (tl - p) p
/-- where it ends -/
def lxR (tp : Nat → Int32) (tl p : Nat) : Nat := if lxQ tp tl p = tl then tl else if bLt (tbF tp (lxQ tp tl p)) = true then scn (fun j => bLt (tbF tp j)) (tl - lxQ tp tl p) (lxQ tp tl p) else if bFg (tbF tp (lxQ tp tl p)) = true then scn (fun j => bFg (tbF tp j)) (tl - lxQ tp tl p) (lxQ tp tl p) else lxQ tp tl p + 1
/-- its kind, e where the last word ended -/
def lxK (tp : Nat → Int32) (tl p : Nat) (e : Int32) : Nat := if lxQ tp tl p = tl then 0 else if bLt (tbF tp (lxQ tp tl p)) = true then (if nI (lxQ tp tl p) = e then 4 else 1) else if bFg (tbF tp (lxQ tp tl p)) = true then (if nI (lxQ tp tl p) = e ∨ 4 < lxR tp tl p - lxQ tp tl p then 4 else 2) else 3
def lxE (tp : Nat → Int32) (tl p : Nat) (e : Int32) : Int32 := if lxQ tp tl p = tl then e else if bLt (tbF tp (lxQ tp tl p)) = true ∨ bFg (tbF tp (lxQ tp tl p)) = true then nI (lxR tp tl p) else e
def numF (tp : Nat → Int32) (q : Nat) : Nat → Nat
  | 0 => 0
  | n + 1 => 10 * numF tp q n + (tbF tp (q + n) - 48)
section L1
variable {g : hcG} {S : hcS} {I : hcI} {R : hcR} {z : Nat} {Q : hcQ} {b m tl : Nat} {tp : Nat → Int32}
theorem s_isLetter {k : Nat} (hm : MG S R m) (h5 : I (m + 5) = tp) (h6 : I m 6 = nI tl) (htl : tl ≤ 96) (hb : TBt tp tl) (hk : k ≤ 96) (hQ : Q (some (.int (hc_z (decide (k < tl) && bLt (tbF tp k))))) S I R z) : Cl g mX7_isLetter 0 0 0 S I R z [.ref m, .int (nI k)] Q := by
  have s0 := hm.s0
  have st := hm.s_tape
  have rt := hm.r_tape
  refine Cl.go [some (.ref m), some (.int (nI k))] ?_
  have no : (decide (k < tl) && bLt (tbF tp k)) = false → V g mX7_isLetter 0 0 0 S I R z 34 [some (.ref m), some (.int (nI k))] [] Q := by
    intro c
    rw [c] at hQ
    refine v_iconst (v := 0) (q := 35) dX7_isLetter_34 (kk := ?_)
    refine v_zret dX7_isLetter_35 rfl (hQ := ?_)
    exact hQ
  refine v_iload_n (q := 1) dX7_isLetter_0 (kk := ?_)
  refine v_aload_n (q := 2) dX7_isLetter_1 (kk := ?_)
  refine v_getI (q := 5) fX7_181 (by assumption) (hd := dX7_isLetter_2) (kk := ?_)
  rw [h6]
  by_cases c1 : k < tl
  · obtain ⟨e1, e2⟩ := hb k c1
    refine v_icmp_geF (q := 8) (t := 34) dX7_isLetter_5 (fun h => by have := (nI_leI (by omega) (by omega)).mp h; omega) (kf := ?_)
    refine v_aload_n (q := 9) dX7_isLetter_8 (kk := ?_)
    refine v_getR (q := 12) fX7_22 (by assumption) (by assumption) (hd := dX7_isLetter_9) (kk := ?_)
    refine v_iload_n (q := 13) dX7_isLetter_12 (kk := ?_)
    refine v_ialdE (q := 14) (k) (by rfl) (by assumption) (by omega) (by omega) (hd := dX7_isLetter_13) (kk := ?_)
    rw [h5, e1]
    refine v_bipush (v := 97) (q := 16) dX7_isLetter_14 (kk := ?_)
    by_cases c2 : 97 ≤ tbF tp k
    · refine v_icmp_ltF (q := 19) (t := 34) dX7_isLetter_16 (fun h => by have := (nI_ltI (b := 97) (by omega) (by omega)).mp h; omega) (kf := ?_)
      refine v_aload_n (q := 20) dX7_isLetter_19 (kk := ?_)
      refine v_getR (q := 23) fX7_22 (by assumption) (by assumption) (hd := dX7_isLetter_20) (kk := ?_)
      refine v_iload_n (q := 24) dX7_isLetter_23 (kk := ?_)
      refine v_ialdE (q := 25) (k) (by rfl) (by assumption) (by omega) (by omega) (hd := dX7_isLetter_24) (kk := ?_)
      rw [h5, e1]
      refine v_bipush (v := 122) (q := 27) dX7_isLetter_25 (kk := ?_)
      by_cases c3 : tbF tp k ≤ 122
      · rw [show (decide (k < tl) && bLt (tbF tp k)) = true by simp [bLt, c1, c2, c3]] at hQ
        refine v_icmp_gtF (q := 30) (t := 34) dX7_isLetter_27 (fun h => by have := (nI_ltI (a := 122) (by omega) (by omega)).mp h; omega) (kf := ?_)
        refine v_iconst (v := 1) (q := 31) dX7_isLetter_30 (kk := ?_)
        refine v_goto 35 dX7_isLetter_31 (kt := ?_)
        refine v_zret dX7_isLetter_35 rfl (hQ := ?_)
        exact hQ
      · refine v_icmp_gtT 34 dX7_isLetter_27 (nI_lt (a := 122) (by omega) (by omega)) (kt := ?_)
        exact no (by simp [bLt, c3])
    · refine v_icmp_ltT 34 dX7_isLetter_16 (nI_lt (b := 97) (by omega) (by omega)) (kt := ?_)
      exact no (by simp [bLt, c2])
  · refine v_icmp_geT 34 dX7_isLetter_5 (nI_le (by omega) (by omega)) (kt := ?_)
    exact no (by simp [c1])
theorem s_isFigure {k : Nat} (hm : MG S R m) (h5 : I (m + 5) = tp) (h6 : I m 6 = nI tl) (htl : tl ≤ 96) (hb : TBt tp tl) (hk : k ≤ 96) (hQ : Q (some (.int (hc_z (decide (k < tl) && bFg (tbF tp k))))) S I R z) : Cl g mX7_isFigure 0 0 0 S I R z [.ref m, .int (nI k)] Q := by
  have s0 := hm.s0
  have st := hm.s_tape
  have rt := hm.r_tape
  refine Cl.go [some (.ref m), some (.int (nI k))] ?_
  have no : (decide (k < tl) && bFg (tbF tp k)) = false → V g mX7_isFigure 0 0 0 S I R z 34 [some (.ref m), some (.int (nI k))] [] Q := by
    intro c
    rw [c] at hQ
    refine v_iconst (v := 0) (q := 35) dX7_isFigure_34 (kk := ?_)
    refine v_zret dX7_isFigure_35 rfl (hQ := ?_)
    exact hQ
  refine v_iload_n (q := 1) dX7_isFigure_0 (kk := ?_)
  refine v_aload_n (q := 2) dX7_isFigure_1 (kk := ?_)
  refine v_getI (q := 5) fX7_181 (by assumption) (hd := dX7_isFigure_2) (kk := ?_)
  rw [h6]
  by_cases c1 : k < tl
  · obtain ⟨e1, e2⟩ := hb k c1
    refine v_icmp_geF (q := 8) (t := 34) dX7_isFigure_5 (fun h => by have := (nI_leI (by omega) (by omega)).mp h; omega) (kf := ?_)
    refine v_aload_n (q := 9) dX7_isFigure_8 (kk := ?_)
    refine v_getR (q := 12) fX7_22 (by assumption) (by assumption) (hd := dX7_isFigure_9) (kk := ?_)
    refine v_iload_n (q := 13) dX7_isFigure_12 (kk := ?_)
    refine v_ialdE (q := 14) (k) (by rfl) (by assumption) (by omega) (by omega) (hd := dX7_isFigure_13) (kk := ?_)
    rw [h5, e1]
    refine v_bipush (v := 48) (q := 16) dX7_isFigure_14 (kk := ?_)
    by_cases c2 : 48 ≤ tbF tp k
    · refine v_icmp_ltF (q := 19) (t := 34) dX7_isFigure_16 (fun h => by have := (nI_ltI (b := 48) (by omega) (by omega)).mp h; omega) (kf := ?_)
      refine v_aload_n (q := 20) dX7_isFigure_19 (kk := ?_)
      refine v_getR (q := 23) fX7_22 (by assumption) (by assumption) (hd := dX7_isFigure_20) (kk := ?_)
      refine v_iload_n (q := 24) dX7_isFigure_23 (kk := ?_)
      refine v_ialdE (q := 25) (k) (by rfl) (by assumption) (by omega) (by omega) (hd := dX7_isFigure_24) (kk := ?_)
      rw [h5, e1]
      refine v_bipush (v := 57) (q := 27) dX7_isFigure_25 (kk := ?_)
      by_cases c3 : tbF tp k ≤ 57
      · rw [show (decide (k < tl) && bFg (tbF tp k)) = true by simp [bFg, c1, c2, c3]] at hQ
        refine v_icmp_gtF (q := 30) (t := 34) dX7_isFigure_27 (fun h => by have := (nI_ltI (a := 57) (by omega) (by omega)).mp h; omega) (kf := ?_)
        refine v_iconst (v := 1) (q := 31) dX7_isFigure_30 (kk := ?_)
        refine v_goto 35 dX7_isFigure_31 (kt := ?_)
        refine v_zret dX7_isFigure_35 rfl (hQ := ?_)
        exact hQ
      · refine v_icmp_gtT 34 dX7_isFigure_27 (nI_lt (a := 57) (by omega) (by omega)) (kt := ?_)
        exact no (by simp [bFg, c3])
    · refine v_icmp_ltT 34 dX7_isFigure_16 (nI_lt (b := 48) (by omega) (by omega)) (kt := ?_)
      exact no (by simp [bFg, c2])
  · refine v_icmp_geT 34 dX7_isFigure_5 (nI_le (by omega) (by omega)) (kt := ?_)
    exact no (by simp [c1])
end L1
