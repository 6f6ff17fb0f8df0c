/-- the number of a NAME of key k, or -1 -/
def nmF (k : Nat) (t : Int32) : Int32 := if k = 0 then (if t = 97 then 0 else if t = 100 then 1 else if t = 105 then 2 else -1) else if k = 1 then (if t = 110 then 0 else if t = 108 then 1 else -1) else (if t = 99 then 0 else if t = 104 then 1 else -1)
/-- how many of the first n are NOT -/
def ntC (w : Nat → Int32) : Nat → Nat
  | 0 => 0
  | n + 1 => ntC w n + (if w n = -10 then 1 else 0)
theorem ntC_le (w : Nat → Int32) : ∀ n, ntC w n ≤ n
  | 0 => Nat.le_refl _
  | n + 1 => by
    have := ntC_le w n
    simp only [ntC]
    split <;> omega
section L7
variable {g : hcG} {S : hcS} {I : hcI} {R : hcR} {z : Nat} {Q : hcQ} {m : Nat}
theorem s_nameOf {k : Nat} {t : Int32} (hm : MG S R m) (hk : k < 3) (h12 : I m 12 = nI k) (hQ : Q (some (.int (nmF k t))) S I R z) : Cl g mX7_nameOf 0 0 0 S I R z [.ref m, .int t] Q := by
  have s0 := hm.s0
  unfold nmF at hQ
  refine Cl.go [some (.ref m), some (.int t)] ?_
  refine v_aload_n (q := 1) dX7_nameOf_0 (kk := ?_)
  refine v_getI (q := 4) fX7_206 (by assumption) (hd := dX7_nameOf_1) (kk := ?_)
  rw [h12]
  have : k = 0 ∨ k = 1 ∨ k = 2 := by omega
  rcases this with rfl | rfl | rfl
  · rw [if_pos rfl] at hQ
    refine v_ls 32 dX7_nameOf_4 (by rfl) (kt := ?_)
    refine v_iload_n (q := 33) dX7_nameOf_32 (kk := ?_)
    refine v_bipush (v := 97) (q := 35) dX7_nameOf_33 (kk := ?_)
    refine v_icmp_ne 42 (q := 38) dX7_nameOf_35 (kt := fun c1 => ?_) (kf := fun c1 => ?_)
    · rw [if_neg c1] at hQ
      refine v_iload_n (q := 43) dX7_nameOf_42 (kk := ?_)
      refine v_bipush (v := 100) (q := 45) dX7_nameOf_43 (kk := ?_)
      refine v_icmp_ne 52 (q := 48) dX7_nameOf_45 (kt := fun c2 => ?_) (kf := fun c2 => ?_)
      · rw [if_neg c2] at hQ
        refine v_iload_n (q := 53) dX7_nameOf_52 (kk := ?_)
        refine v_bipush (v := 105) (q := 55) dX7_nameOf_53 (kk := ?_)
        refine v_icmp_ne 62 (q := 58) dX7_nameOf_55 (kt := fun c3 => ?_) (kf := fun c3 => ?_)
        · rw [if_neg c3] at hQ
          refine v_iconst (v := (-1)) (q := 63) dX7_nameOf_62 (kk := ?_)
          refine v_iret dX7_nameOf_63 (hQ := ?_)
          exact hQ
        · rw [if_pos c3] at hQ
          refine v_iconst (v := 2) (q := 59) dX7_nameOf_58 (kk := ?_)
          refine v_goto 63 dX7_nameOf_59 (kt := ?_)
          refine v_iret dX7_nameOf_63 (hQ := ?_)
          exact hQ
      · rw [if_pos c2] at hQ
        refine v_iconst (v := 1) (q := 49) dX7_nameOf_48 (kk := ?_)
        refine v_goto 63 dX7_nameOf_49 (kt := ?_)
        refine v_iret dX7_nameOf_63 (hQ := ?_)
        exact hQ
    · rw [if_pos c1] at hQ
      refine v_iconst (v := 0) (q := 39) dX7_nameOf_38 (kk := ?_)
      refine v_goto 63 dX7_nameOf_39 (kt := ?_)
      refine v_iret dX7_nameOf_63 (hQ := ?_)
      exact hQ
  · rw [if_neg (by omega), if_pos rfl] at hQ
    refine v_ls 64 dX7_nameOf_4 (by rfl) (kt := ?_)
    refine v_iload_n (q := 65) dX7_nameOf_64 (kk := ?_)
    refine v_bipush (v := 110) (q := 67) dX7_nameOf_65 (kk := ?_)
    refine v_icmp_ne 74 (q := 70) dX7_nameOf_67 (kt := fun c1 => ?_) (kf := fun c1 => ?_)
    · rw [if_neg c1] at hQ
      refine v_iload_n (q := 75) dX7_nameOf_74 (kk := ?_)
      refine v_bipush (v := 108) (q := 77) dX7_nameOf_75 (kk := ?_)
      refine v_icmp_ne 84 (q := 80) dX7_nameOf_77 (kt := fun c2 => ?_) (kf := fun c2 => ?_)
      · rw [if_neg c2] at hQ
        refine v_iconst (v := (-1)) (q := 85) dX7_nameOf_84 (kk := ?_)
        refine v_iret dX7_nameOf_85 (hQ := ?_)
        exact hQ
      · rw [if_pos c2] at hQ
        refine v_iconst (v := 1) (q := 81) dX7_nameOf_80 (kk := ?_)
        refine v_goto 85 dX7_nameOf_81 (kt := ?_)
        refine v_iret dX7_nameOf_85 (hQ := ?_)
        exact hQ
    · rw [if_pos c1] at hQ
      refine v_iconst (v := 0) (q := 71) dX7_nameOf_70 (kk := ?_)
      refine v_goto 85 dX7_nameOf_71 (kt := ?_)
      refine v_iret dX7_nameOf_85 (hQ := ?_)
      exact hQ
  · rw [if_neg (by omega), if_neg (by omega)] at hQ
    refine v_ls 86 dX7_nameOf_4 (by rfl) (kt := ?_)
    refine v_iload_n (q := 87) dX7_nameOf_86 (kk := ?_)
    refine v_bipush (v := 99) (q := 89) dX7_nameOf_87 (kk := ?_)
    refine v_icmp_ne 96 (q := 92) dX7_nameOf_89 (kt := fun c1 => ?_) (kf := fun c1 => ?_)
    · rw [if_neg c1] at hQ
      refine v_iload_n (q := 97) dX7_nameOf_96 (kk := ?_)
      refine v_bipush (v := 104) (q := 99) dX7_nameOf_97 (kk := ?_)
      refine v_icmp_ne 106 (q := 102) dX7_nameOf_99 (kt := fun c2 => ?_) (kf := fun c2 => ?_)
      · rw [if_neg c2] at hQ
        refine v_iconst (v := (-1)) (q := 107) dX7_nameOf_106 (kk := ?_)
        refine v_iret dX7_nameOf_107 (hQ := ?_)
        exact hQ
      · rw [if_pos c2] at hQ
        refine v_iconst (v := 1) (q := 103) dX7_nameOf_102 (kk := ?_)
        refine v_goto 107 dX7_nameOf_103 (kt := ?_)
        refine v_iret dX7_nameOf_107 (hQ := ?_)
        exact hQ
    · rw [if_pos c1] at hQ
      refine v_iconst (v := 0) (q := 93) dX7_nameOf_92 (kk := ?_)
      refine v_goto 107 dX7_nameOf_93 (kt := ?_)
      refine v_iret dX7_nameOf_107 (hQ := ?_)
      exact hQ
theorem notsOpen_loop {h : Nat} {w : Nat → Int32} (hm : MG S R m) (h19 : I m 19 = nI h) (h9 : I (m + 9) = w) (hh : h ≤ 96) (hQ : Q (some (.int (nI (ntC w h)))) S I R z) (n : Nat) : ∀ i, i + n = h → V g mX7_notsOpen 0 0 0 S I R z 4 [some (.ref m), some (.int (nI (ntC w i))), some (.int (nI i))] [] Q := by
  have s0 := hm.s0
  have sw := hm.s_waits
  have rw' := hm.r_waits
  induction n with
  | zero =>
    intro i hi
    obtain rfl : i = h := by omega
    refine v_iload_n (q := 5) dX7_notsOpen_4 (kk := ?_)
    refine v_aload_n (q := 6) dX7_notsOpen_5 (kk := ?_)
    refine v_getI (q := 9) fX7_212 (by assumption) (hd := dX7_notsOpen_6) (kk := ?_)
    rw [h19]
    refine v_icmp_geT 37 dX7_notsOpen_9 (Int32.le_refl _) (kt := ?_)
    refine v_iload_n (q := 38) dX7_notsOpen_37 (kk := ?_)
    refine v_iret dX7_notsOpen_38 (hQ := ?_)
    exact hQ
  | succ n ih =>
    intro i hi
    have e1 : ntC w (i + 1) = ntC w i + (if w i = -10 then 1 else 0) := rfl
    have := ih (i + 1) (by omega)
    refine v_iload_n (q := 5) dX7_notsOpen_4 (kk := ?_)
    refine v_aload_n (q := 6) dX7_notsOpen_5 (kk := ?_)
    refine v_getI (q := 9) fX7_212 (by assumption) (hd := dX7_notsOpen_6) (kk := ?_)
    rw [h19]
    refine v_icmp_geF (q := 12) (t := 37) dX7_notsOpen_9 (fun h' => by have := (nI_leI (by omega) (by omega)).mp h'; omega) (kf := ?_)
    refine v_iload_n (q := 13) dX7_notsOpen_12 (kk := ?_)
    refine v_aload_n (q := 14) dX7_notsOpen_13 (kk := ?_)
    refine v_getR (q := 17) fX7_35 (by assumption) (by assumption) (hd := dX7_notsOpen_14) (kk := ?_)
    refine v_iload_n (q := 18) dX7_notsOpen_17 (kk := ?_)
    refine v_ialdE (q := 19) (i) (by rfl) (by assumption) (by omega) (by omega) (hd := dX7_notsOpen_18) (kk := ?_)
    rw [h9]
    refine v_bipush (v := (-10)) (q := 21) dX7_notsOpen_19 (kk := ?_)
    refine v_icmp_ne 28 (q := 24) dX7_notsOpen_21 (kt := fun cc => ?_) (kf := fun cc => ?_)
    · rw [e1, if_neg cc] at this
      refine v_iconst (v := 0) (q := 29) dX7_notsOpen_28 (kk := ?_)
      refine v_iadd (q := 30) dX7_notsOpen_29 (kk := ?_)
      rw [Int32.add_zero]
      refine v_istore1 (q := 31) dX7_notsOpen_30 (kk := ?_)
      refine v_iinc2 (q := 34) dX7_notsOpen_31 (hv := nI_1 i) (kk := ?_)
      refine v_goto 4 dX7_notsOpen_34 (kt := ?_)
      exact this
    · rw [e1, if_pos cc] at this
      refine v_iconst (v := 1) (q := 25) dX7_notsOpen_24 (kk := ?_)
      refine v_goto 29 dX7_notsOpen_25 (kt := ?_)
      refine v_iadd (q := 30) dX7_notsOpen_29 (kk := ?_)
      rw [nI_1]
      refine v_istore1 (q := 31) dX7_notsOpen_30 (kk := ?_)
      refine v_iinc2 (q := 34) dX7_notsOpen_31 (hv := nI_1 i) (kk := ?_)
      refine v_goto 4 dX7_notsOpen_34 (kt := ?_)
      exact this
theorem s_notsOpen {h : Nat} {w : Nat → Int32} (hm : MG S R m) (h19 : I m 19 = nI h) (h9 : I (m + 9) = w) (hh : h ≤ 96) (hQ : Q (some (.int (nI (ntC w h)))) S I R z) : Cl g mX7_notsOpen 0 0 0 S I R z [.ref m] Q := by
  refine Cl.go [some (.ref m), none, none] ?_
  refine v_iconst (v := 0) (q := 1) dX7_notsOpen_0 (kk := ?_)
  refine v_istore1 (q := 2) dX7_notsOpen_1 (kk := ?_)
  refine v_iconst (v := 0) (q := 3) dX7_notsOpen_2 (kk := ?_)
  refine v_istore2 (q := 4) dX7_notsOpen_3 (kk := ?_)
  exact notsOpen_loop hm h19 h9 hh hQ h 0 (by omega)
end L7
