/-! change, setOff, loudest, fine -/
def okO (o : Option (Int32 × Int32)) : Prop := ∀ p, o = some p → ∃ k, k < 2 ^ 31 ∧ p.1 = nI k
theorem okO.st {o : Option (Int32 × Int32)} {k : Nat} {v : Int32} (h : okO o) (hk : k < 2 ^ 31) : okO (st o (nI k) v) := by
  cases o with
  | none => intro p e; cases e; exact ⟨k, hk, rfl⟩
  | some q =>
    obtain ⟨j, w⟩ := q
    intro p e
    by_cases c : v < w
    · rw [show CHallCoughsLaw_law_r2903_e7f799.st (some (j, w)) (nI k) v = some (nI k, v) from if_pos c] at e
      cases e
      exact ⟨k, hk, rfl⟩
    · rw [show CHallCoughsLaw_law_r2903_e7f799.st (some (j, w)) (nI k) v = some (j, w) from if_neg c] at e
      exact h p e
theorem st_m1 {o : Option (Int32 × Int32)} {x v : Int32} (h : amB (-1000000005) o = -1000000005) (hk : okO o) : st o x v = some (x, v) := by
  cases o with
  | none => rfl
  | some p =>
    obtain ⟨j, w⟩ := p
    obtain ⟨k, h1, h2⟩ := hk _ rfl
    exact absurd (h2.symm.trans h) (nI_ne5 h1)
theorem st_m2 {o : Option (Int32 × Int32)} {x v : Int32} (h : ¬ amB (-1000000005) o = -1000000005) (hl : v < amL 0 o) : st o x v = some (x, v) := by
  cases o with
  | none => rfl
  | some p =>
    obtain ⟨j, w⟩ := p
    exact if_pos hl
theorem st_m3 {o : Option (Int32 × Int32)} {x v : Int32} (h : ¬ amB (-1000000005) o = -1000000005) (hl : ¬ v < amL 0 o) : st o x v = o := by
  cases o with
  | none => exact absurd rfl h
  | some p =>
    obtain ⟨j, w⟩ := p
    exact if_neg hl
def cgF (np nb nt sec : Nat) (N : hN) (n p q : Nat) : Int32 := behW np nb nt sec (swapF N p q) n 0
def chI (f : Nat → Nat → Int32) (p : Nat) (o : Option (Int32 × Int32)) : Nat → Option (Int32 × Int32)
  | 0 => o
  | j + 1 => st (chI f p o j) (nI (100 * p + (p + 1 + j))) (f p (p + 1 + j))
def chO (f : Nat → Nat → Int32) (np : Nat) : Nat → Option (Int32 × Int32)
  | 0 => none
  | p + 1 => chI f p (chO f np p) (np - (p + 1))
theorem chI_ok {f : Nat → Nat → Int32} {p : Nat} {o : Option (Int32 × Int32)} (h : okO o) (hp : p ≤ 10) : ∀ j, j ≤ 10 → okO (chI f p o j)
  | 0, _ => h
  | j + 1, hj => (chI_ok h hp j (by omega)).st (by omega)
theorem chO_ok {f : Nat → Nat → Int32} {np : Nat} (hnp : np ≤ 10) : ∀ p, p ≤ np → okO (chO f np p)
  | 0, _ => fun p e => by cases e
  | p + 1, hp => chI_ok (chO_ok hnp p (by omega)) (by omega) _ (by omega)
def spChange (N : hN) (n : Int32) : Int32 := if 1 ≤ n ∧ n ≤ 40 then amB (-1000000005) (chO (cgF (npN N) (nbN N) (ntN N) (scN N) N n.toNatClampNeg) (npN N) (npN N)) else -1000000001
def soC (np nb nt sec : Nat) (N : hN) (p q : Nat) : Nat → Nat
  | 0 => 0
  | k + 1 => soC np nb nt sec N p q k + (if bitB (secsF N np nb nt sec k 5) q = true ∧ bitB (secsF N np nb nt sec (k + 1) 5) p = true then 1 else 0)
theorem soC_le {np nb nt sec p q : Nat} {N : hN} : ∀ k, soC np nb nt sec N p q k ≤ k
  | 0 => Nat.le_refl _
  | k + 1 => by
    have := soC_le (np := np) (nb := nb) (nt := nt) (sec := sec) (p := p) (q := q) (N := N) k
    simp only [soC]
    split <;> omega
def spSetOff (N : hN) (p q n : Int32) : Int32 := if (0 ≤ p ∧ p < nI (npN N)) ∧ (0 ≤ q ∧ q < nI (npN N)) ∧ ¬ p = q ∧ (1 ≤ n ∧ n ≤ 200) then nI (soC (npN N) (nbN N) (ntN N) (scN N) N p.toNatClampNeg q.toNatClampNeg n.toNatClampNeg) else -1000000001
theorem bit_z : ∀ k, k < 1024 → ∀ p, p < 10 → (nI k >>> (nI p &&& 31)) &&& 1 = hc_z (bitB (nI k) p) := by decide +kernel
def ldO (N : hN) : Nat → Option Nat
  | 0 => none
  | p + 1 => match ldO N p with
    | none => some p
    | some j => if N (33 + 6 * j + 5) < N (33 + 6 * p + 5) then some p else some j
def hc_5 (o : Option Nat) : Int32 := match o with
  | none => -1000000005
  | some j => nI j
def ldL (N : hN) (o : Option Nat) : Int32 := match o with
  | none => -1
  | some j => N (33 + 6 * j + 5)
theorem ldO_lt {N : hN} : ∀ p j, ldO N p = some j → j < p
  | 0, j, h => by cases h
  | p + 1, j, h => by
    simp only [ldO] at h
    cases e : ldO N p with
    | none => rw [e] at h; cases h; omega
    | some i =>
      have := ldO_lt p i e
      rw [e] at h
      simp only at h
      split at h <;> (cases h; omega)
theorem ldO_1 {N : hN} {p : Nat} (h : ldL N (ldO N p) < N (33 + 6 * p + 5)) : ldO N (p + 1) = some p := by
  simp only [ldO]
  cases e : ldO N p with
  | none => rfl
  | some j =>
    rw [e] at h
    exact if_pos h
theorem ldO_2 {N : hN} {p : Nat} (h : ¬ ldL N (ldO N p) < N (33 + 6 * p + 5)) (h0 : ¬ N (33 + 6 * p + 5) < 0) : ldO N (p + 1) = ldO N p := by
  simp only [ldO]
  cases e : ldO N p with
  | none =>
    rw [e] at h
    exfalso
    refine h (Int32.lt_of_lt_of_le (b := 0) (show (-1 : Int32) < 0 by decide) (Int32.not_lt.mp h0))
  | some j =>
    rw [e] at h
    exact if_neg h
def spLoudest (N : hN) : Int32 := hc_5 (ldO N (npN N))
def spFine (N : hN) (p : Int32) : Int32 := if 0 ≤ p ∧ p < nI (npN N) then fineF N (ntN N) p.toNatClampNeg else -1000000001
section T3
variable {g : hcG} {S : hcS} {I : hcI} {R : hcR} {z : Nat} {Q : hcQ} {b m np nb nt sec : Nat} {N : hN}
theorem change_in {n p : Nat} {far d5 : Int32} {o : Option (Int32 × Int32)} (hw : XW N np nb nt sec) (hd0 : HD S I R b (b + 1) N np nb nt) (hn : n ≤ 40) (hp : p < np) (hf : ∀ p q, p < q → q < np → cgF np nb nt sec N n p q < far) (hQ : ∀ (I' : hcI) (R' : hcR), Fh b (b + 31) I I' → Fr b R R' → XSk S R' b → V g mX6_change 6 0 0 S I' R' z 117 [some (.ref b), some (.int (nI n)), some (.int (amB d5 (chI (cgF np nb nt sec N n) p o (np - (p + 1))))), some (.int (amL far (chI (cgF np nb nt sec N n) p o (np - (p + 1))))), some (.int (nI p)), none, none] [] Q) (k : Nat) : ∀ (i : Nat) (I1 : hcI) (R1 : hcR), i + k = np - (p + 1) → Fh b (b + 31) I I1 → Fr b R R1 → XSk S R1 b → V g mX6_change 6 0 0 S I1 R1 z 41 [some (.ref b), some (.int (nI n)), some (.int (amB d5 (chI (cgF np nb nt sec N n) p o i))), some (.int (amL far (chI (cgF np nb nt sec N n) p o i))), some (.int (nI p)), some (.int (nI (p + 1 + i))), none] [] Q := by
  have hnb := hw.1.2.1.2.2
  have hnp := hw.1.1.2
  induction k with
  | zero =>
    intro i I1 R1 hi hF hR hx
    obtain rfl : i = np - (p + 1) := by omega
    have hd := hd0.keepT hw.1 hF hR
    have d2 : I1 (b + 1) 4 = nI np := hd.1.1.trans hw.1.1.1
    have hx' := hx
    obtain ⟨⟨s0, r0, -, r2, -⟩, ⟨hk1, -, hk3⟩, -⟩ := hx'
    have sh := hk1.1
    refine v_iload (q := 43) dX6_change_41 (kk := ?_)
    refine v_aload_n (q := 44) dX6_change_43 (kk := ?_)
    refine v_getR (q := 47) fX6_12 (by assumption) (by assumption) (hd := dX6_change_44) (kk := ?_)
    refine v_getI (q := 50) fX6_61 (by assumption) (hd := dX6_change_47) (kk := ?_)
    rw [d2]
    refine v_icmp_geT 117 dX6_change_50 (nI_le (by omega) (by omega)) (kt := ?_)
    exact v_drop5 (hQ I1 R1 hF hR hx)
  | succ k ih =>
    intro i I1 R1 hi hF hR hx
    have hd := hd0.keepT hw.1 hF hR
    have d2 : I1 (b + 1) 4 = nI np := hd.1.1.trans hw.1.1.1
    have hx' := hx
    obtain ⟨⟨s0, r0, -, r2, -⟩, ⟨hk1, -, hk3⟩, -⟩ := hx'
    have sh := hk1.1
    have sh3 := hk3.1
    refine v_iload (q := 43) dX6_change_41 (kk := ?_)
    refine v_aload_n (q := 44) dX6_change_43 (kk := ?_)
    refine v_getR (q := 47) fX6_12 (by assumption) (by assumption) (hd := dX6_change_44) (kk := ?_)
    refine v_getI (q := 50) fX6_61 (by assumption) (hd := dX6_change_47) (kk := ?_)
    rw [d2]
    refine v_icmp_geF (q := 53) (t := 117) dX6_change_50 (fun h => by have := (nI_leI (by omega) (by omega)).mp h; omega) (kf := ?_)
    refine v_aload_n (q := 54) dX6_change_53 (kk := ?_)
    refine v_getR (q := 57) fX6_19 (by assumption) (by assumption) (hd := dX6_change_54) (kk := ?_)
    refine v_aload_n (q := 58) dX6_change_57 (kk := ?_)
    refine v_getR (q := 61) fX6_12 (by assumption) (by assumption) (hd := dX6_change_58) (kk := ?_)
    refine v_cV1 (N := mX0_becomes) (q := 64) lX6_159 iX0_becomes kX0_becomes (by assumption) dX6_change_61 (s_Hall_becomes hk3 hk1 hd hw.1 (by omega) (by omega) (by omega) (fun I2 R2 hF2 hR2 hd2 => ?_))
    have hx2 : XSk S R2 b := hx.keepR hR2
    have hx2' := hx2
    obtain ⟨⟨-, r0', -, r2', -⟩, ⟨-, -, hk3'⟩, -⟩ := hx2'
    refine v_aload_n (q := 65) dX6_change_64 (kk := ?_)
    refine v_getR (q := 68) fX6_19 (by assumption) (by assumption) (hd := dX6_change_65) (kk := ?_)
    refine v_iload (q := 70) dX6_change_68 (kk := ?_)
    refine v_iload (q := 72) dX6_change_70 (kk := ?_)
    refine v_cV2 (N := mX0_swapSeats) (q := 75) lX6_176 iX0_swapSeats kX0_swapSeats (by assumption) dX6_change_72 (s_swapSeats hk3' hd2 (by omega) hw.1 hp (show p + 1 + i < np by omega) (by omega) (fun I3 hF3 hd3 => ?_))
    have hw1 : WF (swapF N p (p + 1 + i)) np nb nt sec := swapF_WF hw.1 hp (by omega) (by omega)
    refine v_aload_n (q := 76) dX6_change_75 (kk := ?_)
    refine v_getR (q := 79) fX6_19 (by assumption) (by assumption) (hd := dX6_change_76) (kk := ?_)
    refine v_iload_n (q := 80) dX6_change_79 (kk := ?_)
    refine v_cV1 (N := mX0_passSeconds) (q := 83) lX6_153 iX0_passSeconds kX0_passSeconds (by assumption) dX6_change_80 (s_passSeconds hk3' hd3 (by omega) hw1 (by have := hw.2.1; omega) (fun I4 hF4 hd4 => ?_))
    have hF5 : Fh b (b + 31) I I4 := fun y h1 h2 => (hF4 y h1 h2).trans ((hF3 y h1).trans ((hF2 y h1).trans (hF y h1 h2)))
    have hR5 : Fr b R R2 := Fr.trans hR hR2
    have hw4 := secsF_WF hw1 n (by have := hw.2.1; omega)
    refine v_pop (q := 84) dX6_change_83 (kk := ?_)
    refine v_aload_n (q := 85) dX6_change_84 (kk := ?_)
    refine v_getR (q := 88) fX6_19 (by assumption) (by assumption) (hd := dX6_change_85) (kk := ?_)
    refine v_cV0 (N := mX0_allCoughs) (q := 91) lX6_163 iX0_allCoughs kX0_allCoughs (by assumption) dX6_change_88 (s_allCoughs hk3' hd4 hw4 ?_)
    rw [show sumC (secsF (swapF N p (p + 1 + i)) np nb nt sec n) np = cgF np nb nt sec N n p (p + 1 + i) from rfl]
    have hs1 : chI (cgF np nb nt sec N n) p o (i + 1) = st (chI (cgF np nb nt sec N n) p o i) (nI (100 * p + (p + 1 + i))) (cgF np nb nt sec N n p (p + 1 + i)) := rfl
    refine v_istore6 (q := 93) dX6_change_91 (kk := ?_)
    refine v_iload (q := 95) dX6_change_93 (kk := ?_)
    refine v_iload_n (q := 96) dX6_change_95 (kk := ?_)
    have := ih (i + 1) I4 R2 (by omega) hF5 hR5 hx2
    refine v_icmp_ge 111 (q := 99) dX6_change_96 (kt := fun c => ?_) (kf := fun c => ?_)
    · rw [hs1, st_ge (hf p (p + 1 + i) (by omega) (by omega)) (Int32.not_lt.mpr c)] at this
      refine v_iinc5 (q := 114) dX6_change_111 (hv := nI_1 (p + 1 + i)) (kk := ?_)
      refine v_goto 41 dX6_change_114 (kt := ?_)
      exact v_drop6 this
    · rw [hs1, st_lt (Int32.not_le.mp c)] at this
      refine v_iload (q := 101) dX6_change_99 (kk := ?_)
      refine v_istore3 (q := 102) dX6_change_101 (kk := ?_)
      refine v_bipush (v := 100) (q := 104) dX6_change_102 (kk := ?_)
      refine v_iload (q := 106) dX6_change_104 (kk := ?_)
      refine v_imul (q := 107) dX6_change_106 (kk := ?_)
      refine v_iload (q := 109) dX6_change_107 (kk := ?_)
      refine v_iadd (q := 110) dX6_change_109 (kk := ?_)
      rw [show (100 : Int32) * nI p + nI (p + 1 + i) = nI (100 * p + (p + 1 + i)) by rw [show (100 : Int32) = nI 100 from rfl, pk_mul, nI_add]]
      refine v_istore2 (q := 111) dX6_change_110 (kk := ?_)
      refine v_iinc5 (q := 114) dX6_change_111 (hv := nI_1 (p + 1 + i)) (kk := ?_)
      refine v_goto 41 dX6_change_114 (kt := ?_)
      exact v_drop6 this
theorem change_out {n : Nat} {far d5 : Int32} (hw : XW N np nb nt sec) (hd0 : HD S I R b (b + 1) N np nb nt) (hn : n ≤ 40) (hf : ∀ p q, p < q → q < np → cgF np nb nt sec N n p q < far) (hQ : ∀ (I' : hcI) (R' : hcR), Fh b (b + 31) I I' → Fr b R R' → Q (some (.int (amB d5 (chO (cgF np nb nt sec N n) np np)))) S I' R' z) (k : Nat) : ∀ (i : Nat) (I1 : hcI) (R1 : hcR), i + k = np → Fh b (b + 31) I I1 → Fr b R R1 → XSk S R1 b → V g mX6_change 6 0 0 S I1 R1 z 23 [some (.ref b), some (.int (nI n)), some (.int (amB d5 (chO (cgF np nb nt sec N n) np i))), some (.int (amL far (chO (cgF np nb nt sec N n) np i))), some (.int (nI i)), none, none] [] Q := by
  have hnp := hw.1.1.2
  induction k with
  | zero =>
    intro i I1 R1 hi hF hR hx
    obtain rfl : i = np := by omega
    have hd := hd0.keepT hw.1 hF hR
    have d2 : I1 (b + 1) 4 = nI i := hd.1.1.trans hw.1.1.1
    obtain ⟨⟨s0, r0, -, r2, -⟩, ⟨hk1, -, hk3⟩, -⟩ := hx
    have sh := hk1.1
    refine v_iload (q := 25) dX6_change_23 (kk := ?_)
    refine v_aload_n (q := 26) dX6_change_25 (kk := ?_)
    refine v_getR (q := 29) fX6_12 (by assumption) (by assumption) (hd := dX6_change_26) (kk := ?_)
    refine v_getI (q := 32) fX6_61 (by assumption) (hd := dX6_change_29) (kk := ?_)
    rw [d2]
    refine v_icmp_geT 123 dX6_change_32 (Int32.le_refl _) (kt := ?_)
    refine v_iload_n (q := 124) dX6_change_123 (kk := ?_)
    refine v_iret dX6_change_124 (hQ := ?_)
    exact hQ I1 R1 hF hR
  | succ k ih =>
    intro i I1 R1 hi hF hR hx
    have hd := hd0.keepT hw.1 hF hR
    have d2 : I1 (b + 1) 4 = nI np := hd.1.1.trans hw.1.1.1
    have hx' := hx
    obtain ⟨⟨s0, r0, -, r2, -⟩, ⟨hk1, -, hk3⟩, -⟩ := hx'
    have sh := hk1.1
    refine v_iload (q := 25) dX6_change_23 (kk := ?_)
    refine v_aload_n (q := 26) dX6_change_25 (kk := ?_)
    refine v_getR (q := 29) fX6_12 (by assumption) (by assumption) (hd := dX6_change_26) (kk := ?_)
    refine v_getI (q := 32) fX6_61 (by assumption) (hd := dX6_change_29) (kk := ?_)
    rw [d2]
    refine v_icmp_geF (q := 35) (t := 123) dX6_change_32 (fun h => by have := (nI_leI (by omega) (by omega)).mp h; omega) (kf := ?_)
    refine v_iload (q := 37) dX6_change_35 (kk := ?_)
    refine v_iconst (v := 1) (q := 38) dX6_change_37 (kk := ?_)
    refine v_iadd (q := 39) dX6_change_38 (kk := ?_)
    rw [nI_1]
    refine v_istore5 (q := 41) dX6_change_39 (kk := ?_)
    refine change_in (I := I) (R := R) (o := chO (cgF np nb nt sec N n) np i) hw hd0 hn (by omega) hf (fun I' R' hF' hR' hx' => ?_) (np - (i + 1)) 0 I1 R1 (by omega) hF hR hx
    refine v_iinc4 (q := 120) dX6_change_117 (hv := nI_1 i) (kk := ?_)
    refine v_goto 23 dX6_change_120 (kt := ?_)
    exact ih (i + 1) I' R' (by omega) hF' hR' hx'
theorem x_change {n : Int32} (hx : XSk S R b) (hn : XN S I R b N) (hQ : ∀ (I' : hcI) (R' : hcR), Fh b (b + 31) I I' → Fr b R R' → Q (some (.int (spChange N n))) S I' R' z) : Cl g mX6_change 6 0 0 S I R z [.ref b, .int n] Q := by
  obtain ⟨np, nb, nt, sec, hw, hd⟩ := id hn
  obtain ⟨e1, e2, e3, e4⟩ := hw.e
  refine Cl.go [some (.ref b), some (.int n), none, none, none, none, none] ?_
  have bad : ¬ (1 ≤ n ∧ n ≤ 40) → V g mX6_change 6 0 0 S I R z 11 [some (.ref b), some (.int n), none, none, none, none, none] [] Q := by
    intro c
    have e : spChange N n = -1000000001 := by unfold spChange; rw [if_neg c]
    rw [e] at hQ
    refine v_ldc (q := 13) cX6_55 dX6_change_11 (kk := ?_)
    refine v_iret dX6_change_13 (hQ := ?_)
    exact hQ I R Fh.rfl Fr.rfl
  refine v_iload_n (q := 1) dX6_change_0 (kk := ?_)
  refine v_iconst (v := 1) (q := 2) dX6_change_1 (kk := ?_)
  refine v_icmp_lt 11 (q := 5) dX6_change_2 (kt := fun c1 => ?_) (kf := fun c1 => ?_)
  · exact bad (fun h => absurd h.1 (Int32.not_le.mpr c1))
  · refine v_iload_n (q := 6) dX6_change_5 (kk := ?_)
    refine v_bipush (v := 40) (q := 8) dX6_change_6 (kk := ?_)
    refine v_icmp_le 14 (q := 11) dX6_change_8 (kt := fun c2 => ?_) (kf := fun c2 => ?_)
    · have c : 1 ≤ n ∧ n ≤ 40 := ⟨Int32.not_lt.mp c1, c2⟩
      obtain ⟨j, hj, rfl⟩ := nI_ofL (v := n) (lo := 1) (by decide) c.1
      have hj2 : j ≤ 40 := (nI_leI (b := 40) hj (by omega)).mp c.2
      have e : spChange N (nI j) = amB (-1000000005) (chO (cgF np nb nt sec N j) np np) := by unfold spChange; rw [if_pos c, nI_clamp hj, e1, e2, e3, e4]
      rw [e] at hQ
      clear e
      refine v_ldc (q := 16) cX6_125 dX6_change_14 (kk := ?_)
      refine v_istore2 (q := 17) dX6_change_16 (kk := ?_)
      refine v_ldc (q := 19) cX6_175 dX6_change_17 (kk := ?_)
      refine v_istore3 (q := 20) dX6_change_19 (kk := ?_)
      refine v_iconst (v := 0) (q := 21) dX6_change_20 (kk := ?_)
      refine v_istore4 (q := 23) dX6_change_21 (kk := ?_)
      exact change_out (far := 2147483647) hw hd hj2 (fun p q h1 h2 => cough_lt (swapF_WF hw.1 (by omega) h2 (by omega)) (by have := hw.2.1; omega)) hQ np 0 I R (by omega) Fh.rfl Fr.rfl hx
    · exact bad (fun h => c2 h.2)
theorem mchange_in {n p : Nat} {o : Option (Int32 × Int32)} (hm : MG S R m) (hw : XW N np nb nt sec) (hn : n ≤ 40) (hp : p < np) (ho : okO o) (hB : ∀ k, k < 93 → I (m + 4) k = N k) (hQ : ∀ I' : hcI, Fm m I I' → I' (m + 1) = N → V g mX7_change 6 0 0 S I' R z 148 [some (.ref m), some (.int (nI n)), some (.int (amB (-1000000005) (chI (cgF np nb nt sec N n) p o (np - (p + 1))))), some (.int (amL 0 (chI (cgF np nb nt sec N n) p o (np - (p + 1))))), some (.int (nI p)), none, none, none, none] [] Q) (k : Nat) : ∀ (i : Nat) (I1 : hcI), i + k = np - (p + 1) → Fm m I I1 → I1 (m + 1) = N → V g mX7_change 6 0 0 S I1 R z 42 [some (.ref m), some (.int (nI n)), some (.int (amB (-1000000005) (chI (cgF np nb nt sec N n) p o i))), some (.int (amL 0 (chI (cgF np nb nt sec N n) p o i))), some (.int (nI p)), some (.int (nI (p + 1 + i))), none, none, none] [] Q := by
  have s0 := hm.s0
  have sn := hm.s_now
  have rn := hm.r_now
  have hnp := hw.1.1.2
  have h1 := hw.1.1.1
  induction k with
  | zero =>
    intro i I1 hi hF hN
    obtain rfl : i = np - (p + 1) := by omega
    refine v_iload (q := 44) dX7_change_42 (kk := ?_)
    refine v_aload_n (q := 45) dX7_change_44 (kk := ?_)
    refine v_getR (q := 48) fX7_9 (by assumption) (by assumption) (hd := dX7_change_45) (kk := ?_)
    refine v_iconst (v := 1) (q := 49) dX7_change_48 (kk := ?_)
    refine v_ialdE (q := 50) (1) (by rfl) (by assumption) (by omega) (by omega) (hd := dX7_change_49) (kk := ?_)
    rw [hN, h1]
    refine v_icmp_geT 148 dX7_change_50 (nI_le (by omega) (by omega)) (kt := ?_)
    exact v_drop5 (hQ I1 hF hN)
  | succ k ih =>
    intro i I1 hi hF hN
    have hw1 : WF (swapF N p (p + 1 + i)) np nb nt sec := swapF_WF hw.1 hp (by omega) (by omega)
    refine v_iload (q := 44) dX7_change_42 (kk := ?_)
    refine v_aload_n (q := 45) dX7_change_44 (kk := ?_)
    refine v_getR (q := 48) fX7_9 (by assumption) (by assumption) (hd := dX7_change_45) (kk := ?_)
    refine v_iconst (v := 1) (q := 49) dX7_change_48 (kk := ?_)
    refine v_ialdE (q := 50) (1) (by rfl) (by assumption) (by omega) (by omega) (hd := dX7_change_49) (kk := ?_)
    rw [hN, h1]
    refine v_icmp_geF (q := 53) (t := 148) dX7_change_50 (fun h => by have := (nI_leI (by omega) (by omega)).mp h; omega) (kf := ?_)
    refine v_aload_n (q := 54) dX7_change_53 (kk := ?_)
    refine v_iload (q := 56) dX7_change_54 (kk := ?_)
    refine v_iconst (v := 1) (q := 57) dX7_change_56 (kk := ?_)
    refine v_cV2 (N := mX7_of) (q := 60) lX7_80 iX7_of kX7_of (by assumption) dX7_change_57 (s_of (w := 1) hm (by omega) ?_)
    rw [hN]
    refine v_istore6 (q := 62) dX7_change_60 (kk := ?_)
    refine v_aload_n (q := 63) dX7_change_62 (kk := ?_)
    refine v_iload (q := 65) dX7_change_63 (kk := ?_)
    refine v_iconst (v := 1) (q := 66) dX7_change_65 (kk := ?_)
    refine v_aload_n (q := 67) dX7_change_66 (kk := ?_)
    refine v_iload (q := 69) dX7_change_67 (kk := ?_)
    refine v_iconst (v := 1) (q := 70) dX7_change_69 (kk := ?_)
    refine v_cV2 (N := mX7_of) (q := 73) lX7_80 iX7_of kX7_of (by assumption) dX7_change_70 (s_of (w := 1) hm (by omega) ?_)
    rw [hN]
    refine v_cV3 (N := mX7_put) (q := 76) lX7_84 iX7_put kX7_put (by assumption) dX7_change_73 (s_put (p := p) (w := 1) hm (by omega) ?_)
    refine v_aload_n (q := 77) dX7_change_76 (kk := ?_)
    refine v_iload (q := 79) dX7_change_77 (kk := ?_)
    refine v_iconst (v := 1) (q := 80) dX7_change_79 (kk := ?_)
    refine v_iload (q := 82) dX7_change_80 (kk := ?_)
    refine v_cV3 (N := mX7_put) (q := 85) lX7_84 iX7_put kX7_put (by assumption) dX7_change_82 (s_put (p := p + 1 + i) (w := 1) hm (by omega) ?_)
    refine v_aload_n (q := 86) dX7_change_85 (kk := ?_)
    refine v_iload_n (q := 87) dX7_change_86 (kk := ?_)
    refine v_iconst (v := 0) (q := 88) dX7_change_87 (kk := ?_)
    refine v_cV2 (N := mX7_behindAll) (q := 91) lX7_171 iX7_behindAll kX7_behindAll (by assumption) dX7_change_88 (s_behindAll (N := N) (N1 := swapF N p (p + 1 + i)) (w := 0) (by omega) hm (fun k hk => by rw [hc_u_ne (by omega), hc_u_ne (by omega), hF (m + 4) (by omega) (by omega) (by omega)]; exact hB k hk) (by rw [hc_u_at, hc_u_at, hN]; rfl) (fun i' hi' => by unfold swapF; rw [upd_ne (by omega), upd_ne (by omega)]) hw1 (by have := hw.2.1; omega) (fun I2 hF2 hN2 => ?_))
    have hF3 : Fm m I I2 := fun y a1 a2 a3 => (hF2 y a1 a2 a3).trans ((hc_u_ne a1).trans ((hc_u_ne a1).trans (hF y a1 a2 a3)))
    have hs1 : chI (cgF np nb nt sec N n) p o (i + 1) = st (chI (cgF np nb nt sec N n) p o i) (nI (100 * p + (p + 1 + i))) (cgF np nb nt sec N n p (p + 1 + i)) := rfl
    have := ih (i + 1) I2 (by omega) hF3 hN2
    rw [show behW np nb nt sec (swapF N p (p + 1 + i)) n 0 = cgF np nb nt sec N n p (p + 1 + i) from rfl]
    have hok := chI_ok (f := cgF np nb nt sec N n) (p := p) ho (by omega) i (by omega)
    generalize hx6 : N (33 + 6 * p + 1) = x6
    have pick : chI (cgF np nb nt sec N n) p o (i + 1) = some (nI (100 * p + (p + 1 + i)), cgF np nb nt sec N n p (p + 1 + i)) → V g mX7_change 6 0 0 S I2 R z 105 [some (.ref m), some (.int (nI n)), some (.int (amB (-1000000005) (chI (cgF np nb nt sec N n) p o i))), some (.int (amL 0 (chI (cgF np nb nt sec N n) p o i))), some (.int (nI p)), some (.int (nI (p + 1 + i))), some (.int x6), some (.int (cgF np nb nt sec N n p (p + 1 + i))), none] [] Q := by
      intro e
      rw [e] at this
      refine v_iconst (v := 1) (q := 106) dX7_change_105 (kk := ?_)
      refine v_goto 110 dX7_change_106 (kt := ?_)
      refine v_istore8 (q := 112) dX7_change_110 (kk := ?_)
      refine v_iload (q := 114) dX7_change_112 (kk := ?_)
      refine v_if_eqF (q := 117) (t := 128) dX7_change_114 (by decide) (kf := ?_)
      refine v_bipush (v := 100) (q := 119) dX7_change_117 (kk := ?_)
      refine v_iload (q := 121) dX7_change_119 (kk := ?_)
      refine v_imul (q := 122) dX7_change_121 (kk := ?_)
      refine v_iload (q := 124) dX7_change_122 (kk := ?_)
      refine v_iadd (q := 125) dX7_change_124 (kk := ?_)
      rw [show (100 : Int32) * nI p + nI (p + 1 + i) = nI (100 * p + (p + 1 + i)) by rw [show (100 : Int32) = nI 100 from rfl, pk_mul, nI_add]]
      refine v_goto 129 dX7_change_125 (kt := ?_)
      refine v_istore2 (q := 130) dX7_change_129 (kk := ?_)
      refine v_iload (q := 132) dX7_change_130 (kk := ?_)
      refine v_if_eqF (q := 135) (t := 140) dX7_change_132 (by decide) (kf := ?_)
      refine v_iload (q := 137) dX7_change_135 (kk := ?_)
      refine v_goto 141 dX7_change_137 (kt := ?_)
      refine v_istore3 (q := 142) dX7_change_141 (kk := ?_)
      refine v_iinc5 (q := 145) dX7_change_142 (hv := nI_1 (p + 1 + i)) (kk := ?_)
      refine v_goto 42 dX7_change_145 (kt := ?_)
      exact v_drop6 (v_drop7 (v_drop8 this))
    refine v_istore7 (q := 93) dX7_change_91 (kk := ?_)
    refine v_iload_n (q := 94) dX7_change_93 (kk := ?_)
    refine v_ldc (q := 96) cX7_75 dX7_change_94 (kk := ?_)
    refine v_icmp_eq 105 (q := 99) dX7_change_96 (kt := fun c0 => ?_) (kf := fun c0 => ?_)
    · exact pick (by rw [hs1]; exact st_m1 c0 hok)
    · refine v_iload (q := 101) dX7_change_99 (kk := ?_)
      refine v_iload_n (q := 102) dX7_change_101 (kk := ?_)
      refine v_icmp_ge 109 (q := 105) dX7_change_102 (kt := fun c => ?_) (kf := fun c => ?_)
      · rw [hs1, st_m3 c0 (Int32.not_lt.mpr c)] at this
        refine v_iconst (v := 0) (q := 110) dX7_change_109 (kk := ?_)
        refine v_istore8 (q := 112) dX7_change_110 (kk := ?_)
        refine v_iload (q := 114) dX7_change_112 (kk := ?_)
        refine v_if_eqT 128 dX7_change_114 (rfl) (kt := ?_)
        refine v_iload_n (q := 129) dX7_change_128 (kk := ?_)
        refine v_istore2 (q := 130) dX7_change_129 (kk := ?_)
        refine v_iload (q := 132) dX7_change_130 (kk := ?_)
        refine v_if_eqT 140 dX7_change_132 (rfl) (kt := ?_)
        refine v_iload_n (q := 141) dX7_change_140 (kk := ?_)
        refine v_istore3 (q := 142) dX7_change_141 (kk := ?_)
        refine v_iinc5 (q := 145) dX7_change_142 (hv := nI_1 (p + 1 + i)) (kk := ?_)
        refine v_goto 42 dX7_change_145 (kt := ?_)
        exact v_drop6 (v_drop7 (v_drop8 this))
      · exact pick (by rw [hs1]; exact st_m2 c0 (Int32.not_le.mp c))
theorem mchange_out {n : Nat} (hm : MG S R m) (hw : XW N np nb nt sec) (hn : n ≤ 40) (hB : ∀ k, k < 93 → I (m + 4) k = N k) (hQ : ∀ I' : hcI, Fm m I I' → I' (m + 1) = N → Q (some (.int (amB (-1000000005) (chO (cgF np nb nt sec N n) np np)))) S I' R z) (k : Nat) : ∀ (i : Nat) (I1 : hcI), i + k = np → Fm m I I1 → I1 (m + 1) = N → V g mX7_change 6 0 0 S I1 R z 25 [some (.ref m), some (.int (nI n)), some (.int (amB (-1000000005) (chO (cgF np nb nt sec N n) np i))), some (.int (amL 0 (chO (cgF np nb nt sec N n) np i))), some (.int (nI i)), none, none, none, none] [] Q := by
  have s0 := hm.s0
  have sn := hm.s_now
  have rn := hm.r_now
  have hnp := hw.1.1.2
  have h1 := hw.1.1.1
  induction k with
  | zero =>
    intro i I1 hi hF hN
    obtain rfl : i = np := by omega
    refine v_iload (q := 27) dX7_change_25 (kk := ?_)
    refine v_aload_n (q := 28) dX7_change_27 (kk := ?_)
    refine v_getR (q := 31) fX7_9 (by assumption) (by assumption) (hd := dX7_change_28) (kk := ?_)
    refine v_iconst (v := 1) (q := 32) dX7_change_31 (kk := ?_)
    refine v_ialdE (q := 33) (1) (by rfl) (by assumption) (by omega) (by omega) (hd := dX7_change_32) (kk := ?_)
    rw [hN, h1]
    refine v_icmp_geT 154 dX7_change_33 (Int32.le_refl _) (kt := ?_)
    refine v_iload_n (q := 155) dX7_change_154 (kk := ?_)
    refine v_iret dX7_change_155 (hQ := ?_)
    exact hQ I1 hF hN
  | succ k ih =>
    intro i I1 hi hF hN
    refine v_iload (q := 27) dX7_change_25 (kk := ?_)
    refine v_aload_n (q := 28) dX7_change_27 (kk := ?_)
    refine v_getR (q := 31) fX7_9 (by assumption) (by assumption) (hd := dX7_change_28) (kk := ?_)
    refine v_iconst (v := 1) (q := 32) dX7_change_31 (kk := ?_)
    refine v_ialdE (q := 33) (1) (by rfl) (by assumption) (by omega) (by omega) (hd := dX7_change_32) (kk := ?_)
    rw [hN, h1]
    refine v_icmp_geF (q := 36) (t := 154) dX7_change_33 (fun h => by have := (nI_leI (by omega) (by omega)).mp h; omega) (kf := ?_)
    refine v_iload (q := 38) dX7_change_36 (kk := ?_)
    refine v_iconst (v := 1) (q := 39) dX7_change_38 (kk := ?_)
    refine v_iadd (q := 40) dX7_change_39 (kk := ?_)
    rw [nI_1]
    refine v_istore5 (q := 42) dX7_change_40 (kk := ?_)
    refine mchange_in (I := I) (o := chO (cgF np nb nt sec N n) np i) hm hw hn (by omega) (chO_ok hnp i (by omega)) hB (fun I' hF' hN' => ?_) (np - (i + 1)) 0 I1 (by omega) hF hN
    refine v_iinc4 (q := 151) dX7_change_148 (hv := nI_1 i) (kk := ?_)
    refine v_goto 25 dX7_change_151 (kt := ?_)
    exact ih (i + 1) I' (by omega) hF' hN'
theorem m_change {n : Int32} (hm : MG S R m) (hN : I (m + 1) = N) (hn : MN N) (hQ : ∀ I' : hcI, Fk m I I' → I' (m + 1) = N → Q (some (.int (spChange N n))) S I' R z) : Cl g mX7_change 6 0 0 S I R z [.ref m, .int n] Q := by
  have s0 := hm.s0
  obtain ⟨np, nb, nt, sec, hw⟩ := hn
  obtain ⟨e1, e2, e3, e4⟩ := hw.e
  refine Cl.go [some (.ref m), some (.int n), none, none, none, none, none, none, none] ?_
  refine v_iload_n (q := 1) dX7_change_0 (kk := ?_)
  refine v_iconst (v := 1) (q := 2) dX7_change_1 (kk := ?_)
  refine v_bipush (v := 40) (q := 4) dX7_change_2 (kk := ?_)
  refine v_cS3 (N := mX7_in) (q := 7) lX7_76 sX7_in kX7_in dX7_change_4 (s_in ?_)
  refine v_if_neB 13 (q := 10) dX7_change_7 (kt := fun c => ?_) (kf := fun c => ?_)
  · obtain ⟨j, hj, rfl⟩ := nI_ofL (v := n) (lo := 1) (by decide) c.1
    have hj2 : j ≤ 40 := (nI_leI (b := 40) hj (by omega)).mp c.2
    have e : spChange N (nI j) = amB (-1000000005) (chO (cgF np nb nt sec N j) np np) := by unfold spChange; rw [if_pos c, nI_clamp hj, e1, e2, e3, e4]
    rw [e] at hQ
    clear e
    refine v_aload_n (q := 14) dX7_change_13 (kk := ?_)
    refine v_cV0 (N := mX7_thinks) (q := 17) lX7_168 iX7_thinks kX7_thinks (by assumption) dX7_change_14 (s_thinks hm hN (fun I1 hF1 hB => ?_))
    refine v_ldc (q := 19) cX7_75 dX7_change_17 (kk := ?_)
    refine v_istore2 (q := 20) dX7_change_19 (kk := ?_)
    refine v_iconst (v := 0) (q := 21) dX7_change_20 (kk := ?_)
    refine v_istore3 (q := 22) dX7_change_21 (kk := ?_)
    refine v_iconst (v := 0) (q := 23) dX7_change_22 (kk := ?_)
    refine v_istore4 (q := 25) dX7_change_23 (kk := ?_)
    exact mchange_out hm hw hj2 hB (fun I' hF' hN' => hQ I' (fun y a1 a2 a3 a4 => (hF' y a1 a3 a4).trans (hF1 y a2)) hN') np 0 I1 (by omega) Fm.rfl ((hF1 _ (by omega)).trans hN)
  · have e : spChange N n = -1000000001 := by unfold spChange; rw [if_neg c]
    rw [e] at hQ
    refine v_ldc (q := 12) cX7_92 dX7_change_10 (kk := ?_)
    refine v_iret dX7_change_12 (hQ := ?_)
    exact hQ I Fk.rfl hN
theorem loudest_loop (hx : XSk S R b) (hw : WF N np nb nt sec) (hd : HD S I R b (b + 1) N np nb nt) (hQ : Q (some (.int (hc_5 (ldO N np)))) S I R z) (k : Nat) : ∀ i, i + k = np → V g mX6_loudest 0 0 0 S I R z 7 [some (.ref b), some (.int (hc_5 (ldO N i))), some (.int (ldL N (ldO N i))), some (.int (nI i))] [] Q := by
  have hnp := hw.1.2
  have d2 : I (b + 1) 4 = nI np := hd.1.1.trans hw.1.1
  obtain ⟨⟨s0, r0, -, r2, -⟩, ⟨hk1, -, hk3⟩, -⟩ := hx
  have hk1' := hk1
  obtain ⟨sh, s1, -, -, -, q0, -, -, -, sp⟩ := hk1'
  induction k with
  | zero =>
    intro i hi
    obtain rfl : i = np := by omega
    refine v_iload_n (q := 8) dX6_loudest_7 (kk := ?_)
    refine v_aload_n (q := 9) dX6_loudest_8 (kk := ?_)
    refine v_getR (q := 12) fX6_12 (by assumption) (by assumption) (hd := dX6_loudest_9) (kk := ?_)
    refine v_getI (q := 15) fX6_61 (by assumption) (hd := dX6_loudest_12) (kk := ?_)
    rw [d2]
    refine v_icmp_geT 55 dX6_loudest_15 (Int32.le_refl _) (kt := ?_)
    refine v_iload_n (q := 56) dX6_loudest_55 (kk := ?_)
    refine v_iret dX6_loudest_56 (hQ := ?_)
    exact hQ
  | succ k ih =>
    intro i hi
    have hspp := (sp i (by omega)).1
    have hrpp := (sp i (by omega)).2
    have hP := hd.2.2.1 i (by omega) 5 (by omega)
    obtain ⟨cc, ec, hcc⟩ := (hw.2.2.2.2.2.2.2.2.2.1 i (by omega)).2.2.2.2.2
    have hss := hw.2.2.2.1.2
    have := ih (i + 1) (by omega)
    refine v_iload_n (q := 8) dX6_loudest_7 (kk := ?_)
    refine v_aload_n (q := 9) dX6_loudest_8 (kk := ?_)
    refine v_getR (q := 12) fX6_12 (by assumption) (by assumption) (hd := dX6_loudest_9) (kk := ?_)
    refine v_getI (q := 15) fX6_61 (by assumption) (hd := dX6_loudest_12) (kk := ?_)
    rw [d2]
    refine v_icmp_geF (q := 18) (t := 55) dX6_loudest_15 (fun h => by have := (nI_leI (by omega) (by omega)).mp h; omega) (kf := ?_)
    refine v_aload_n (q := 19) dX6_loudest_18 (kk := ?_)
    refine v_getR (q := 22) fX6_12 (by assumption) (by assumption) (hd := dX6_loudest_19) (kk := ?_)
    refine v_getR (q := 25) fX6_74 (by assumption) (by assumption) (hd := dX6_loudest_22) (kk := ?_)
    refine v_iload_n (q := 26) dX6_loudest_25 (kk := ?_)
    refine v_aaldn (q := 27) (by assumption) (by assumption) (by omega) (by omega) (hd := dX6_loudest_26) (kk := ?_)
    refine v_getI (q := 30) fX6_95 (by assumption) (hd := dX6_loudest_27) (kk := ?_)
    rw [hP]
    refine v_iload_n (q := 31) dX6_loudest_30 (kk := ?_)
    refine v_icmp_le 49 (q := 34) dX6_loudest_31 (kt := fun c => ?_) (kf := fun c => ?_)
    · rw [ldO_2 (Int32.not_lt.mpr c) (by rw [ec]; exact nI_pos (by omega))] at this
      refine v_iinc3 (q := 52) dX6_loudest_49 (hv := nI_1 i) (kk := ?_)
      refine v_goto 7 dX6_loudest_52 (kt := ?_)
      exact this
    · rw [ldO_1 (Int32.not_le.mp c)] at this
      refine v_aload_n (q := 35) dX6_loudest_34 (kk := ?_)
      refine v_getR (q := 38) fX6_12 (by assumption) (by assumption) (hd := dX6_loudest_35) (kk := ?_)
      refine v_getR (q := 41) fX6_74 (by assumption) (by assumption) (hd := dX6_loudest_38) (kk := ?_)
      refine v_iload_n (q := 42) dX6_loudest_41 (kk := ?_)
      refine v_aaldn (q := 43) (by assumption) (by assumption) (by omega) (by omega) (hd := dX6_loudest_42) (kk := ?_)
      refine v_getI (q := 46) fX6_95 (by assumption) (hd := dX6_loudest_43) (kk := ?_)
      rw [hP]
      refine v_istore2 (q := 47) dX6_loudest_46 (kk := ?_)
      refine v_iload_n (q := 48) dX6_loudest_47 (kk := ?_)
      refine v_istore1 (q := 49) dX6_loudest_48 (kk := ?_)
      refine v_iinc3 (q := 52) dX6_loudest_49 (hv := nI_1 i) (kk := ?_)
      refine v_goto 7 dX6_loudest_52 (kt := ?_)
      exact this
theorem x_loudest (hx : XSk S R b) (hn : XN S I R b N) (hQ : Q (some (.int (spLoudest N))) S I R z) : Cl g mX6_loudest 0 0 0 S I R z [.ref b] Q := by
  obtain ⟨np, nb, nt, sec, hw, hd⟩ := id hn
  obtain ⟨e1, e2, e3, e4⟩ := hw.e
  unfold spLoudest at hQ
  rw [e1] at hQ
  refine Cl.go [some (.ref b), none, none, none] ?_
  refine v_ldc (q := 2) cX6_125 dX6_loudest_0 (kk := ?_)
  refine v_istore1 (q := 3) dX6_loudest_2 (kk := ?_)
  refine v_iconst (v := (-1)) (q := 4) dX6_loudest_3 (kk := ?_)
  refine v_istore2 (q := 5) dX6_loudest_4 (kk := ?_)
  refine v_iconst (v := 0) (q := 6) dX6_loudest_5 (kk := ?_)
  refine v_istore3 (q := 7) dX6_loudest_6 (kk := ?_)
  exact loudest_loop hx hw.1 hd hQ np 0 (by omega)
theorem mloudest_loop (hm : MG S R m) (hN : I (m + 1) = N) (h1 : N 1 = nI np) (hnp : np ≤ 10) (hQ : Q (some (.int (hc_5 (ldO N np)))) S I R z) (k : Nat) : ∀ i, i + k = np → V g mX7_loudest 1 0 0 S I R z 5 [some (.ref m), some (.int (hc_5 (ldO N i))), some (.int (nI i))] [] Q := by
  have s0 := hm.s0
  have sn := hm.s_now
  have rn := hm.r_now
  induction k with
  | zero =>
    intro i hi
    obtain rfl : i = np := by omega
    refine v_iload_n (q := 6) dX7_loudest_5 (kk := ?_)
    refine v_aload_n (q := 7) dX7_loudest_6 (kk := ?_)
    refine v_getR (q := 10) fX7_9 (by assumption) (by assumption) (hd := dX7_loudest_7) (kk := ?_)
    refine v_iconst (v := 1) (q := 11) dX7_loudest_10 (kk := ?_)
    refine v_ialdE (q := 12) (1) (by rfl) (by assumption) (by omega) (by omega) (hd := dX7_loudest_11) (kk := ?_)
    rw [hN, h1]
    refine v_icmp_geT 48 dX7_loudest_12 (Int32.le_refl _) (kt := ?_)
    refine v_iload_n (q := 49) dX7_loudest_48 (kk := ?_)
    refine v_iret dX7_loudest_49 (hQ := ?_)
    exact hQ
  | succ k ih =>
    intro i hi
    have := ih (i + 1) (by omega)
    have pick : ldO N (i + 1) = some i → V g mX7_loudest 1 0 0 S I R z 36 [some (.ref m), some (.int (hc_5 (ldO N i))), some (.int (nI i))] [] Q := by
      intro e
      rw [e] at this
      refine v_iload_n (q := 37) dX7_loudest_36 (kk := ?_)
      refine v_goto 41 dX7_loudest_37 (kt := ?_)
      refine v_istore1 (q := 42) dX7_loudest_41 (kk := ?_)
      refine v_iinc2 (q := 45) dX7_loudest_42 (hv := nI_1 i) (kk := ?_)
      refine v_goto 5 dX7_loudest_45 (kt := ?_)
      exact this
    refine v_iload_n (q := 6) dX7_loudest_5 (kk := ?_)
    refine v_aload_n (q := 7) dX7_loudest_6 (kk := ?_)
    refine v_getR (q := 10) fX7_9 (by assumption) (by assumption) (hd := dX7_loudest_7) (kk := ?_)
    refine v_iconst (v := 1) (q := 11) dX7_loudest_10 (kk := ?_)
    refine v_ialdE (q := 12) (1) (by rfl) (by assumption) (by omega) (by omega) (hd := dX7_loudest_11) (kk := ?_)
    rw [hN, h1]
    refine v_icmp_geF (q := 15) (t := 48) dX7_loudest_12 (fun h => by have := (nI_leI (by omega) (by omega)).mp h; omega) (kf := ?_)
    refine v_iload_n (q := 16) dX7_loudest_15 (kk := ?_)
    refine v_ldc (q := 18) cX7_75 dX7_loudest_16 (kk := ?_)
    cases e : ldO N i with
    | none =>
      rw [e] at pick
      refine v_icmp_eqT 36 dX7_loudest_18 (rfl) (kt := ?_)
      exact pick (by simp only [ldO]; rw [e])
    | some j =>
      have hj := ldO_lt i j e
      rw [e] at pick
      refine v_icmp_eqF (q := 21) (t := 36) dX7_loudest_18 (nI_ne5 (by omega)) (kf := ?_)
      refine v_aload_n (q := 22) dX7_loudest_21 (kk := ?_)
      refine v_iload_n (q := 23) dX7_loudest_22 (kk := ?_)
      refine v_iconst (v := 5) (q := 24) dX7_loudest_23 (kk := ?_)
      refine v_cV2 (N := mX7_of) (q := 27) lX7_80 iX7_of kX7_of (by assumption) dX7_loudest_24 (s_of (w := 5) hm (by omega) ?_)
      rw [hN]
      refine v_aload_n (q := 28) dX7_loudest_27 (kk := ?_)
      refine v_iload_n (q := 29) dX7_loudest_28 (kk := ?_)
      refine v_iconst (v := 5) (q := 30) dX7_loudest_29 (kk := ?_)
      refine v_cV2 (N := mX7_of) (q := 33) lX7_80 iX7_of kX7_of (by assumption) dX7_loudest_30 (s_of (w := 5) (p := j) hm (by omega) ?_)
      rw [hN]
      refine v_icmp_le 40 (q := 36) dX7_loudest_33 (kt := fun c => ?_) (kf := fun c => ?_)
      · have e2 : ldO N (i + 1) = some j := by
          simp only [ldO]
          rw [e]
          exact if_neg (Int32.not_lt.mpr c)
        rw [e2] at this
        refine v_iload_n (q := 41) dX7_loudest_40 (kk := ?_)
        refine v_istore1 (q := 42) dX7_loudest_41 (kk := ?_)
        refine v_iinc2 (q := 45) dX7_loudest_42 (hv := nI_1 i) (kk := ?_)
        refine v_goto 5 dX7_loudest_45 (kt := ?_)
        exact this
      · exact pick (by simp only [ldO]; rw [e]; exact if_pos (Int32.not_le.mp c))
theorem m_loudest (hm : MG S R m) (hN : I (m + 1) = N) (hn : MN N) (hQ : Q (some (.int (spLoudest N))) S I R z) : Cl g mX7_loudest 1 0 0 S I R z [.ref m] Q := by
  obtain ⟨np, nb, nt, sec, hw⟩ := hn
  obtain ⟨e1, e2, e3, e4⟩ := hw.e
  unfold spLoudest at hQ
  rw [e1] at hQ
  refine Cl.go [some (.ref m), none, none] ?_
  refine v_ldc (q := 2) cX7_75 dX7_loudest_0 (kk := ?_)
  refine v_istore1 (q := 3) dX7_loudest_2 (kk := ?_)
  refine v_iconst (v := 0) (q := 4) dX7_loudest_3 (kk := ?_)
  refine v_istore2 (q := 5) dX7_loudest_4 (kk := ?_)
  exact mloudest_loop hm hN hw.1.1.1 hw.1.1.2 hQ np 0 (by omega)
theorem x_fine {p : Int32} (hx : XSk S R b) (hn : XN S I R b N) (hQ : ∀ I' : hcI, (∀ y, ¬ stk b y → I' y = I y) → Q (some (.int (spFine N p))) S I' R z) : Cl g mX6_fine 3 0 0 S I R z [.ref b, .int p] Q := by
  obtain ⟨⟨s0, r0, -⟩, ⟨hk1, -⟩, -⟩ := hx
  obtain ⟨np, nb, nt, sec, hw, hd⟩ := id hn
  obtain ⟨e1, e2, e3, e4⟩ := hw.e
  have hk1' := hk1
  obtain ⟨sh, s1, -, -, -, q0, -, -, -, sp⟩ := hk1'
  have hnp := hw.1.1.2
  refine Cl.go [some (.ref b), some (.int p)] ?_
  refine v_aload_n (q := 1) dX6_fine_0 (kk := ?_)
  refine v_getR (q := 4) fX6_12 (by assumption) (by assumption) (hd := dX6_fine_1) (kk := ?_)
  refine v_iload_n (q := 5) dX6_fine_4 (kk := ?_)
  refine v_cV1 (N := mX0_has) (q := 8) lX6_70 iX0_has kX0_has (by assumption) dX6_fine_5 (s_has hk1 hd hw.1 ?_)
  refine v_if_eqB 30 (q := 11) dX6_fine_8 (kt := fun c => ?_) (kf := fun c => ?_)
  · have e : spFine N p = -1000000001 := by unfold spFine; rw [e1, if_neg c]
    rw [e] at hQ
    refine v_ldc (q := 32) cX6_55 dX6_fine_30 (kk := ?_)
    refine v_iret dX6_fine_32 (hQ := ?_)
    exact hQ I (fun _ _ => rfl)
  · obtain ⟨j, rfl, hj⟩ := nI_of6 (n := np) rfl (by omega) c
    have hspp := (sp j (by omega)).1
    have hrpp := (sp j (by omega)).2
    have e : spFine N (nI j) = fineF N nt j := by unfold spFine; rw [e1, if_pos c, e3, nI_clamp (by omega)]
    rw [e] at hQ
    refine v_aload_n (q := 12) dX6_fine_11 (kk := ?_)
    refine v_getR (q := 15) fX6_12 (by assumption) (by assumption) (hd := dX6_fine_12) (kk := ?_)
    refine v_aload_n (q := 16) dX6_fine_15 (kk := ?_)
    refine v_getR (q := 19) fX6_12 (by assumption) (by assumption) (hd := dX6_fine_16) (kk := ?_)
    refine v_getR (q := 22) fX6_74 (by assumption) (by assumption) (hd := dX6_fine_19) (kk := ?_)
    refine v_iload_n (q := 23) dX6_fine_22 (kk := ?_)
    refine v_aaldn (q := 24) (by assumption) (by assumption) (by omega) (by omega) (hd := dX6_fine_23) (kk := ?_)
    refine v_cV1 (N := mX0_fineOf) (q := 27) lX6_191 iX0_fineOf kX0_fineOf (by assumption) dX6_fine_24 (s_fineOf hk1 hd hw.1 hj (fun I' hI' => ?_))
    refine v_goto 32 dX6_fine_27 (kt := ?_)
    refine v_iret dX6_fine_32 (hQ := ?_)
    exact hQ I' hI'
theorem m_fine {p : Int32} (hm : MG S R m) (hN : I (m + 1) = N) (hn : MN N) (hQ : ∀ I' : hcI, (∀ y, y ≠ m + 11 → y ≠ m + 12 → I' y = I y) → Q (some (.int (spFine N p))) S I' R z) : Cl g mX7_fine 2 0 0 S I R z [.ref m, .int p] Q := by
  have s0 := hm.s0
  have sn := hm.s_now
  have rn := hm.r_now
  have sf := hm.s_facts
  have rf := hm.r_facts
  obtain ⟨np, nb, nt, sec, hw⟩ := hn
  obtain ⟨e1, e2, e3, e4⟩ := hw.e
  have hnp := hw.1.1.2
  have h1 := hw.1.1.1
  have hnt := hw.1.2.2.1.2
  refine Cl.go [some (.ref m), some (.int p), none] ?_
  refine v_aload_n (q := 1) dX7_fine_0 (kk := ?_)
  refine v_iload_n (q := 2) dX7_fine_1 (kk := ?_)
  refine v_cV1 (N := mX7_isOne) (q := 5) lX7_118 iX7_isOne kX7_isOne (by assumption) dX7_fine_2 (s_isOne hm (by rw [hN]; exact h1) hnp ?_)
  refine v_if_neB 11 (q := 8) dX7_fine_5 (kt := fun c => ?_) (kf := fun c => ?_)
  · obtain ⟨j, rfl, hj⟩ := nI_of6 (n := np) rfl (by omega) c
    have e : spFine N (nI j) = fineF N nt j := by unfold spFine; rw [e1, if_pos c, e3, nI_clamp (by omega)]
    rw [e] at hQ
    refine v_aload_n (q := 12) dX7_fine_11 (kk := ?_)
    refine v_iconst (v := 2) (q := 13) dX7_fine_12 (kk := ?_)
    refine v_cV1 (N := mX7_counts) (q := 16) lX7_103 iX7_counts kX7_counts (by assumption) dX7_fine_13 (s_counts (key := 2) rfl hm hN hw.1.2.2.2.2.2.2.2.2.2.2 hw.1.2.2.1.1 hnt ?_)
    refine v_istore2 (q := 17) dX7_fine_16 (kk := ?_)
    refine v_aload_n (q := 18) dX7_fine_17 (kk := ?_)
    refine v_getR (q := 21) fX7_45 (by assumption) (by assumption) (hd := dX7_fine_18) (kk := ?_)
    refine v_iconst (v := 0) (q := 22) dX7_fine_21 (kk := ?_)
    refine v_aload_n (q := 23) dX7_fine_22 (kk := ?_)
    refine v_iload_n (q := 24) dX7_fine_23 (kk := ?_)
    refine v_iconst (v := 5) (q := 25) dX7_fine_24 (kk := ?_)
    refine v_cV2 (N := mX7_of) (q := 28) lX7_80 iX7_of kX7_of (by assumption) dX7_fine_25 (s_of (w := 5) hm (by omega) ?_)
    rw [hN]
    refine v_iastE (q := 29) (0) (by rfl) (by assumption) (by omega) (by omega) (hd := dX7_fine_28) (kk := ?_)
    refine v_aload_n (q := 30) dX7_fine_29 (kk := ?_)
    refine v_getR (q := 33) fX7_45 (by assumption) (by assumption) (hd := dX7_fine_30) (kk := ?_)
    refine v_iconst (v := 1) (q := 34) dX7_fine_33 (kk := ?_)
    refine v_aload_n (q := 35) dX7_fine_34 (kk := ?_)
    refine v_getR (q := 38) fX7_9 (by assumption) (by assumption) (hd := dX7_fine_35) (kk := ?_)
    refine v_iconst (v := 4) (q := 39) dX7_fine_38 (kk := ?_)
    refine v_ialdE (q := 40) (4) (by rfl) (by assumption) (by omega) (by omega) (hd := dX7_fine_39) (kk := ?_)
    have q1 : hc_u I (m + 12) 0 (N (33 + 6 * j + 5)) (m + 1) = N := by rw [hc_u_ne (by omega), hN]
    rw [q1]
    refine v_iastE (q := 41) (1) (by rfl) (by assumption) (by omega) (by omega) (hd := dX7_fine_40) (kk := ?_)
    generalize hI3 : hc_u (hc_u I (m + 12) 0 (N (33 + 6 * j + 5))) (m + 12) 1 (N 4) = I3
    have hF3 : ∀ y, y ≠ m + 12 → I3 y = I y := fun y hy => by rw [← hI3, hc_u_ne hy, hc_u_ne hy]
    have q3 : I3 (m + 1) = N := by rw [hF3 _ (by omega), hN]
    have f0 : ∀ k, k < 2 → I3 (m + 12) k = f3 (N (33 + 6 * j + 5)) (N 4) 0 k := fun k hk => by
      rw [← hI3]
      have : k = 0 ∨ k = 1 := by omega
      rcases this with rfl | rfl <;> simp [hc_u, f3]
    refine v_iload_n (q := 42) dX7_fine_41 (kk := ?_)
    cases hc : cntF N 2 nt with
    | none =>
      refine v_if_geF (q := 45) (t := 54) dX7_fine_42 (by decide) (kf := ?_)
      refine v_aload_n (q := 46) dX7_fine_45 (kk := ?_)
      refine v_iload_n (q := 47) dX7_fine_46 (kk := ?_)
      refine v_iconst (v := 5) (q := 48) dX7_fine_47 (kk := ?_)
      refine v_cV2 (N := mX7_of) (q := 51) lX7_80 iX7_of kX7_of (by assumption) dX7_fine_48 (s_of (w := 5) hm (by omega) ?_)
      rw [q3]
      refine v_goto 59 dX7_fine_51 (kt := ?_)
      refine v_iret dX7_fine_59 (hQ := ?_)
      have hv : N (33 + 6 * j + 5) = fineF N nt j := by
        unfold fineF
        rw [hc]
        rfl
      rw [hv]
      exact hQ I3 (fun y _ hy => hF3 y hy)
    | some t =>
      have ht := cntF_lt hc
      obtain ⟨key, cn, lv, h⟩ := hw.1.2.2.2.2.2.2.2.2.2.2 t ht
      have hcn := TW_cn h
      have hkey : key = 2 := TW_key h (cntF_key hc) (by omega)
      refine v_if_geT 54 dX7_fine_42 (nI_pos' (by omega)) (kt := ?_)
      refine v_aload_n (q := 55) dX7_fine_54 (kk := ?_)
      refine v_iload_n (q := 56) dX7_fine_55 (kk := ?_)
      refine v_cV1 (N := mX7_worksOut) (q := 59) lX7_106 iX7_worksOut kX7_worksOut (by assumption) dX7_fine_56 (s_worksOut (t := t) hm (by omega) (by rw [q3]; exact h) (fun I4 hF4 => ?_))
      rw [q3]
      have ev : evF (I3 (m + 12)) (cdN N t) cn = evF (f3 (N (33 + 6 * j + 5)) (N 4) 0) (cdN N t) cn := by
        unfold evF
        have ok := h.2.2.2.2.2
        rw [if_neg (by omega)] at ok
        rw [evS_congr ok (by omega) f0 cn (Nat.le_refl _)]
      rw [ev]
      refine v_iret dX7_fine_59 (hQ := ?_)
      have hv : evF (f3 (N (33 + 6 * j + 5)) (N 4) 0) (cdN N t) cn = fineF N nt j := by
        unfold fineF
        rw [hc]
        simp only [optM, hcn]
      rw [hv]
      exact hQ I4 (fun y h1 h2 => by rw [hF4 y h1, hF3 y h2])
  · have e : spFine N p = -1000000001 := by unfold spFine; rw [e1, if_neg c]
    rw [e] at hQ
    refine v_ldc (q := 10) cX7_92 dX7_fine_8 (kk := ?_)
    refine v_iret dX7_fine_10 (hQ := ?_)
    exact hQ I (fun _ _ _ => rfl)
theorem setOff_loop {n p q : Nat} {R1 : hcR} (hk3 : HSk S R1 (b + 31)) (s0 : S b = some (6, 0)) (r2 : R1 b 2 = some (b + 31)) (hw : WF N np nb nt sec) (hs : sec ≤ 99999) (hp : p < np) (hq : q < np) (hn : n ≤ 200) (hQ : ∀ I' : hcI, Fh b (b + 31) I I' → Q (some (.int (nI (soC np nb nt sec N p q n)))) S I' R1 z) (k : Nat) : ∀ (i : Nat) (I1 : hcI), i + k = n → Fh b (b + 31) I I1 → HD S I1 R1 b (b + 31) (secsF N np nb nt sec i) np nb nt → V g mX6_setOff 5 0 0 S I1 R1 z 59 [some (.ref b), some (.int (nI p)), some (.int (nI q)), some (.int (nI n)), some (.int (nI (soC np nb nt sec N p q i))), some (.int (nI i)), none] [] Q := by
  have sh3 := hk3.1
  have hnp := hw.1.2
  induction k with
  | zero =>
    intro i I1 hi hF hd
    obtain rfl : i = n := by omega
    refine v_iload (q := 61) dX6_setOff_59 (kk := ?_)
    refine v_iload_n (q := 62) dX6_setOff_61 (kk := ?_)
    refine v_icmp_geT 108 dX6_setOff_62 (Int32.le_refl _) (kt := ?_)
    refine v_iload (q := 110) dX6_setOff_108 (kk := ?_)
    refine v_iret dX6_setOff_110 (hQ := ?_)
    exact hQ I1 hF
  | succ k ih =>
    intro i I1 hi hF hd
    have hwi := secsF_WF hw i (by omega)
    have hwi2 := secsF_WF hw (i + 1) (by omega)
    have hso := soC_le (np := np) (nb := nb) (nt := nt) (sec := sec) (p := p) (q := q) (N := N) i
    have hs1 : soC np nb nt sec N p q (i + 1) = soC np nb nt sec N p q i + (if bitB (secsF N np nb nt sec i 5) q = true ∧ bitB (secsF N np nb nt sec (i + 1) 5) p = true then 1 else 0) := rfl
    refine v_iload (q := 61) dX6_setOff_59 (kk := ?_)
    refine v_iload_n (q := 62) dX6_setOff_61 (kk := ?_)
    refine v_icmp_geF (q := 65) (t := 108) dX6_setOff_62 (fun h => by have := (nI_leI (by omega) (by omega)).mp h; omega) (kf := ?_)
    refine v_aload_n (q := 66) dX6_setOff_65 (kk := ?_)
    refine v_getR (q := 69) fX6_19 (by assumption) (by assumption) (hd := dX6_setOff_66) (kk := ?_)
    refine v_iload_n (q := 70) dX6_setOff_69 (kk := ?_)
    refine v_cV1 (N := mX0_hasCoughed) (q := 73) lX6_180 iX0_hasCoughed kX0_hasCoughed (by assumption) dX6_setOff_70 (s_hasCoughed hk3 hd hwi (by omega) ?_)
    refine v_istore6 (q := 75) dX6_setOff_73 (kk := ?_)
    refine v_aload_n (q := 76) dX6_setOff_75 (kk := ?_)
    refine v_getR (q := 79) fX6_19 (by assumption) (by assumption) (hd := dX6_setOff_76) (kk := ?_)
    refine v_cV0 (N := mX0_passSecond) (q := 82) lX6_172 iX0_passSecond kX0_passSecond (by assumption) dX6_setOff_79 (s_passSecond hk3 hd (by omega) hwi (by omega) (fun I2 hF2 hd2 => ?_))
    have hd3 : HD S I2 R1 b (b + 31) (secsF N np nb nt sec (i + 1)) np nb nt := hd2
    have := ih (i + 1) I2 (by omega) (hF.trans hF2) hd3
    refine v_pop (q := 83) dX6_setOff_82 (kk := ?_)
    refine v_iload (q := 85) dX6_setOff_83 (kk := ?_)
    refine v_if_eqZ 102 (q := 88) dX6_setOff_85 (kt := fun c => ?_) (kf := fun c => ?_)
    · rw [hs1, if_neg (by rw [c]; simp)] at this
      refine v_iinc5 (q := 105) dX6_setOff_102 (hv := nI_1 i) (kk := ?_)
      refine v_goto 59 dX6_setOff_105 (kt := ?_)
      exact v_drop6 this
    · refine v_aload_n (q := 89) dX6_setOff_88 (kk := ?_)
      refine v_getR (q := 92) fX6_19 (by assumption) (by assumption) (hd := dX6_setOff_89) (kk := ?_)
      refine v_iload_n (q := 93) dX6_setOff_92 (kk := ?_)
      refine v_cV1 (N := mX0_hasCoughed) (q := 96) lX6_180 iX0_hasCoughed kX0_hasCoughed (by assumption) dX6_setOff_93 (s_hasCoughed hk3 hd3 hwi2 (by omega) ?_)
      refine v_if_eqZ 102 (q := 99) dX6_setOff_96 (kt := fun c2 => ?_) (kf := fun c2 => ?_)
      · rw [hs1, if_neg (by rw [c2]; simp)] at this
        refine v_iinc5 (q := 105) dX6_setOff_102 (hv := nI_1 i) (kk := ?_)
        refine v_goto 59 dX6_setOff_105 (kt := ?_)
        exact v_drop6 this
      · rw [hs1, if_pos ⟨c, c2⟩] at this
        refine v_iinc4 (q := 102) dX6_setOff_99 (hv := nI_1 (soC np nb nt sec N p q i)) (kk := ?_)
        refine v_iinc5 (q := 105) dX6_setOff_102 (hv := nI_1 i) (kk := ?_)
        refine v_goto 59 dX6_setOff_105 (kt := ?_)
        exact v_drop6 this
theorem x_setOff {p q n : Int32} (hx : XSk S R b) (hn : XN S I R b N) (hQ : ∀ (I' : hcI) (R' : hcR), Fh b (b + 31) I I' → Fr b R R' → Q (some (.int (spSetOff N p q n))) S I' R' z) : Cl g mX6_setOff 5 0 0 S I R z [.ref b, .int p, .int q, .int n] Q := by
  have hx' := hx
  obtain ⟨⟨s0, r0, -, r2, -⟩, ⟨hk1, -, hk3⟩, -⟩ := hx'
  obtain ⟨np, nb, nt, sec, hw, hd⟩ := id hn
  obtain ⟨e1, e2, e3, e4⟩ := hw.e
  have sh := hk1.1
  have sh3 := hk3.1
  have hnp := hw.1.1.2
  refine Cl.go [some (.ref b), some (.int p), some (.int q), some (.int n), none, none, none] ?_
  have bad : ¬ ((0 ≤ p ∧ p < nI np) ∧ (0 ≤ q ∧ q < nI np) ∧ ¬ p = q ∧ (1 ≤ n ∧ n ≤ 200)) → V g mX6_setOff 5 0 0 S I R z 39 [some (.ref b), some (.int p), some (.int q), some (.int n), none, none, none] [] Q := by
    intro c
    have e : spSetOff N p q n = -1000000001 := by unfold spSetOff; rw [e1, if_neg c]
    rw [e] at hQ
    refine v_ldc (q := 41) cX6_55 dX6_setOff_39 (kk := ?_)
    refine v_iret dX6_setOff_41 (hQ := ?_)
    exact hQ I R Fh.rfl Fr.rfl
  refine v_aload_n (q := 1) dX6_setOff_0 (kk := ?_)
  refine v_getR (q := 4) fX6_12 (by assumption) (by assumption) (hd := dX6_setOff_1) (kk := ?_)
  refine v_iload_n (q := 5) dX6_setOff_4 (kk := ?_)
  refine v_cV1 (N := mX0_has) (q := 8) lX6_70 iX0_has kX0_has (by assumption) dX6_setOff_5 (s_has hk1 hd hw.1 ?_)
  refine v_if_eqB 39 (q := 11) dX6_setOff_8 (kt := fun c1 => ?_) (kf := fun c1 => ?_)
  · exact bad (fun h => c1 h.1)
  · refine v_aload_n (q := 12) dX6_setOff_11 (kk := ?_)
    refine v_getR (q := 15) fX6_12 (by assumption) (by assumption) (hd := dX6_setOff_12) (kk := ?_)
    refine v_iload_n (q := 16) dX6_setOff_15 (kk := ?_)
    refine v_cV1 (N := mX0_has) (q := 19) lX6_70 iX0_has kX0_has (by assumption) dX6_setOff_16 (s_has hk1 hd hw.1 ?_)
    refine v_if_eqB 39 (q := 22) dX6_setOff_19 (kt := fun c2 => ?_) (kf := fun c2 => ?_)
    · exact bad (fun h => c2 h.2.1)
    · refine v_iload_n (q := 23) dX6_setOff_22 (kk := ?_)
      refine v_iload_n (q := 24) dX6_setOff_23 (kk := ?_)
      refine v_icmp_eq 39 (q := 27) dX6_setOff_24 (kt := fun c3 => ?_) (kf := fun c3 => ?_)
      · exact bad (fun h => h.2.2.1 c3)
      · refine v_iload_n (q := 28) dX6_setOff_27 (kk := ?_)
        refine v_iconst (v := 1) (q := 29) dX6_setOff_28 (kk := ?_)
        refine v_icmp_lt 39 (q := 32) dX6_setOff_29 (kt := fun c4 => ?_) (kf := fun c4 => ?_)
        · exact bad (fun h => absurd h.2.2.2.1 (Int32.not_le.mpr c4))
        · refine v_iload_n (q := 33) dX6_setOff_32 (kk := ?_)
          refine v_sipush (v := 200) (q := 36) dX6_setOff_33 (kk := ?_)
          refine v_icmp_le 42 (q := 39) dX6_setOff_36 (kt := fun c5 => ?_) (kf := fun c5 => ?_)
          · have c : 1 ≤ n ∧ n ≤ 200 := ⟨Int32.not_lt.mp c4, c5⟩
            obtain ⟨j, rfl, hj⟩ := nI_of6 (n := np) rfl (by omega) c1
            obtain ⟨l, rfl, hl⟩ := nI_of6 (n := np) rfl (by omega) c2
            obtain ⟨nn, hnn, rfl⟩ := nI_ofL (v := n) (lo := 1) (by decide) c.1
            have hn2 : nn ≤ 200 := (nI_leI (b := 200) hnn (by omega)).mp c.2
            have e : spSetOff N (nI j) (nI l) (nI nn) = nI (soC np nb nt sec N j l nn) := by unfold spSetOff; rw [e1, if_pos ⟨c1, c2, c3, c⟩, nI_clamp (by omega), nI_clamp (by omega), nI_clamp hnn, e2, e3, e4]
            rw [e] at hQ
            clear e
            refine v_aload_n (q := 43) dX6_setOff_42 (kk := ?_)
            refine v_getR (q := 46) fX6_19 (by assumption) (by assumption) (hd := dX6_setOff_43) (kk := ?_)
            refine v_aload_n (q := 47) dX6_setOff_46 (kk := ?_)
            refine v_getR (q := 50) fX6_12 (by assumption) (by assumption) (hd := dX6_setOff_47) (kk := ?_)
            refine v_cV1 (N := mX0_becomes) (q := 53) lX6_159 iX0_becomes kX0_becomes (by assumption) dX6_setOff_50 (s_Hall_becomes hk3 hk1 hd hw.1 (by omega) (by omega) (by omega) (fun I1 R1 hF1 hR1 hd1 => ?_))
            have hx1 : XSk S R1 b := hx.keepR hR1
            obtain ⟨⟨-, r0', -, r2', -⟩, ⟨-, -, hk3'⟩, -⟩ := hx1
            refine v_iconst (v := 0) (q := 54) dX6_setOff_53 (kk := ?_)
            refine v_istore4 (q := 56) dX6_setOff_54 (kk := ?_)
            refine v_iconst (v := 0) (q := 57) dX6_setOff_56 (kk := ?_)
            refine v_istore5 (q := 59) dX6_setOff_57 (kk := ?_)
            exact setOff_loop hk3' s0 r2' hw.1 hw.2.1 hj hl hn2 (fun I' hF' => hQ I' R1 hF' hR1) nn 0 I1 (by omega) hF1.h hd1
          · exact bad (fun h => c5 h.2.2.2.2)
theorem msetOff_loop {n p q : Nat} (hm : MG S R m) (hB : ∀ k, k < 93 → I (m + 4) k = N k) (hw : WF N np nb nt sec) (hs : sec ≤ 99999) (hp : p < np) (hq : q < np) (hn : n ≤ 200) (hQ : ∀ I' : hcI, Fm m I I' → I' (m + 1) = N → Q (some (.int (nI (soC np nb nt sec N p q n)))) S I' R z) (k : Nat) : ∀ (i : Nat) (I1 : hcI), i + k = n → Fm m I I1 → I1 (m + 1) = secsF N np nb nt sec i → V g mX7_setOff 4 0 0 S I1 R z 45 [some (.ref m), some (.int (nI p)), some (.int (nI q)), some (.int (nI n)), some (.int (nI (soC np nb nt sec N p q i))), some (.int (nI i)), none, none] [] Q := by
  have s0 := hm.s0
  have sn := hm.s_now
  have rn := hm.r_now
  have hnp := hw.1.2
  induction k with
  | zero =>
    intro i I1 hi hF hN
    obtain rfl : i = n := by omega
    refine v_iload (q := 47) dX7_setOff_45 (kk := ?_)
    refine v_iload_n (q := 48) dX7_setOff_47 (kk := ?_)
    refine v_icmp_geT 91 dX7_setOff_48 (Int32.le_refl _) (kt := ?_)
    refine v_aload_n (q := 92) dX7_setOff_91 (kk := ?_)
    refine v_cV0 (N := mX7_putsBack) (q := 95) lX7_165 iX7_putsBack kX7_putsBack (by assumption) dX7_setOff_92 (s_putsBack (N := N) hm (fun k hk => by rw [hF (m + 4) (by omega) (by omega) (by omega)]; exact hB k hk) (fun i hi => by rw [hN, secsF_hi hnp hi]) (fun I2 hF2 hN3 => ?_))
    refine v_iload (q := 97) dX7_setOff_95 (kk := ?_)
    refine v_iret dX7_setOff_97 (hQ := ?_)
    exact hQ I2 (fun y a1 a2 a3 => (hF2 y a1).trans (hF y a1 a2 a3)) hN3
  | succ k ih =>
    intro i I1 hi hF hN
    have hwi := secsF_WF hw i (by omega)
    have hwi2 := secsF_WF hw (i + 1) (by omega)
    have hso := soC_le (np := np) (nb := nb) (nt := nt) (sec := sec) (p := p) (q := q) (N := N) i
    have hs1 : soC np nb nt sec N p q (i + 1) = soC np nb nt sec N p q i + (if bitB (secsF N np nb nt sec i 5) q = true ∧ bitB (secsF N np nb nt sec (i + 1) 5) p = true then 1 else 0) := rfl
    obtain ⟨k5, e5, h5⟩ := hwi.2.2.2.2.2.1
    obtain ⟨k6, e6, h6⟩ := hwi2.2.2.2.2.2.1
    have h10 : (2 : Nat) ^ np ≤ 2 ^ 10 := Nat.pow_le_pow_right (by omega) hnp
    refine v_iload (q := 47) dX7_setOff_45 (kk := ?_)
    refine v_iload_n (q := 48) dX7_setOff_47 (kk := ?_)
    refine v_icmp_geF (q := 51) (t := 91) dX7_setOff_48 (fun h => by have := (nI_leI (by omega) (by omega)).mp h; omega) (kf := ?_)
    refine v_aload_n (q := 52) dX7_setOff_51 (kk := ?_)
    refine v_getR (q := 55) fX7_9 (by assumption) (by assumption) (hd := dX7_setOff_52) (kk := ?_)
    refine v_iconst (v := 5) (q := 56) dX7_setOff_55 (kk := ?_)
    refine v_ialdE (q := 57) (5) (by rfl) (by assumption) (by omega) (by omega) (hd := dX7_setOff_56) (kk := ?_)
    rw [hN, e5]
    refine v_iload_n (q := 58) dX7_setOff_57 (kk := ?_)
    refine v_ishr (q := 59) dX7_setOff_58 (kk := ?_)
    refine v_iconst (v := 1) (q := 60) dX7_setOff_59 (kk := ?_)
    refine v_iand (q := 61) dX7_setOff_60 (kk := ?_)
    rw [bit_z k5 (by omega) q (by omega), ← e5]
    refine v_istore6 (q := 63) dX7_setOff_61 (kk := ?_)
    refine v_aload_n (q := 64) dX7_setOff_63 (kk := ?_)
    refine v_cV0 (N := mX7_second) (q := 67) lX7_152 iX7_second kX7_second (by assumption) dX7_setOff_64 (s_second hm hN hwi (by omega) (fun I2 hF2 hN2 => ?_))
    have hN3 : I2 (m + 1) = secsF N np nb nt sec (i + 1) := hN2
    have := ih (i + 1) I2 (by omega) (hF.trans hF2) hN3
    refine v_istore7 (q := 69) dX7_setOff_67 (kk := ?_)
    refine v_iload (q := 71) dX7_setOff_69 (kk := ?_)
    refine v_aload_n (q := 72) dX7_setOff_71 (kk := ?_)
    refine v_getR (q := 75) fX7_9 (by assumption) (by assumption) (hd := dX7_setOff_72) (kk := ?_)
    refine v_iconst (v := 5) (q := 76) dX7_setOff_75 (kk := ?_)
    refine v_ialdE (q := 77) (5) (by rfl) (by assumption) (by omega) (by omega) (hd := dX7_setOff_76) (kk := ?_)
    rw [hN3, e6]
    refine v_iload_n (q := 78) dX7_setOff_77 (kk := ?_)
    refine v_ishr (q := 79) dX7_setOff_78 (kk := ?_)
    refine v_iload (q := 81) dX7_setOff_79 (kk := ?_)
    refine v_iand (q := 82) dX7_setOff_81 (kk := ?_)
    refine v_iadd (q := 83) dX7_setOff_82 (kk := ?_)
    have ev : nI (soC np nb nt sec N p q i) + ((nI k6 >>> (nI p &&& 31)) &&& hc_z (bitB (secsF N np nb nt sec i 5) q)) = nI (soC np nb nt sec N p q (i + 1)) := by
      rw [hs1]
      cases c : bitB (secsF N np nb nt sec i 5) q with
      | false =>
        rw [if_neg (by simp), show hc_z false = 0 from rfl, Int32.and_zero, Int32.add_zero]
        rfl
      | true =>
        rw [show hc_z true = 1 from rfl, bit_z k6 (by omega) p (by omega), ← e6]
        cases c2 : bitB (secsF N np nb nt sec (i + 1) 5) p with
        | false =>
          rw [if_neg (by simp), show hc_z false = 0 from rfl, Int32.add_zero]
          rfl
        | true =>
          rw [if_pos ⟨rfl, rfl⟩, show hc_z true = 1 from rfl, nI_1]
    rw [ev]
    refine v_istore4 (q := 85) dX7_setOff_83 (kk := ?_)
    refine v_iinc5 (q := 88) dX7_setOff_85 (hv := nI_1 i) (kk := ?_)
    refine v_goto 45 dX7_setOff_88 (kt := ?_)
    exact v_drop6 (v_drop7 this)
theorem m_setOff {p q n : Int32} (hm : MG S R m) (hN : I (m + 1) = N) (hn : MN N) (hQ : ∀ I' : hcI, Fk m I I' → I' (m + 1) = N → Q (some (.int (spSetOff N p q n))) S I' R z) : Cl g mX7_setOff 4 0 0 S I R z [.ref m, .int p, .int q, .int n] Q := by
  have s0 := hm.s0
  obtain ⟨np, nb, nt, sec, hw⟩ := hn
  obtain ⟨e1, e2, e3, e4⟩ := hw.e
  have hnp := hw.1.1.2
  have h1 := hw.1.1.1
  refine Cl.go [some (.ref m), some (.int p), some (.int q), some (.int n), none, none, none, none] ?_
  have bad : ¬ ((0 ≤ p ∧ p < nI np) ∧ (0 ≤ q ∧ q < nI np) ∧ ¬ p = q ∧ (1 ≤ n ∧ n ≤ 200)) → V g mX7_setOff 4 0 0 S I R z 32 [some (.ref m), some (.int p), some (.int q), some (.int n), none, none, none, none] [] Q := by
    intro c
    have e : spSetOff N p q n = -1000000001 := by unfold spSetOff; rw [e1, if_neg c]
    rw [e] at hQ
    refine v_ldc (q := 34) cX7_92 dX7_setOff_32 (kk := ?_)
    refine v_iret dX7_setOff_34 (hQ := ?_)
    exact hQ I Fk.rfl hN
  refine v_aload_n (q := 1) dX7_setOff_0 (kk := ?_)
  refine v_iload_n (q := 2) dX7_setOff_1 (kk := ?_)
  refine v_cV1 (N := mX7_isOne) (q := 5) lX7_118 iX7_isOne kX7_isOne (by assumption) dX7_setOff_2 (s_isOne hm (by rw [hN]; exact h1) hnp ?_)
  refine v_if_eqB 32 (q := 8) dX7_setOff_5 (kt := fun c1 => ?_) (kf := fun c1 => ?_)
  · exact bad (fun h => c1 h.1)
  · refine v_aload_n (q := 9) dX7_setOff_8 (kk := ?_)
    refine v_iload_n (q := 10) dX7_setOff_9 (kk := ?_)
    refine v_cV1 (N := mX7_isOne) (q := 13) lX7_118 iX7_isOne kX7_isOne (by assumption) dX7_setOff_10 (s_isOne hm (by rw [hN]; exact h1) hnp ?_)
    refine v_if_eqB 32 (q := 16) dX7_setOff_13 (kt := fun c2 => ?_) (kf := fun c2 => ?_)
    · exact bad (fun h => c2 h.2.1)
    · refine v_iload_n (q := 17) dX7_setOff_16 (kk := ?_)
      refine v_iload_n (q := 18) dX7_setOff_17 (kk := ?_)
      refine v_icmp_eq 32 (q := 21) dX7_setOff_18 (kt := fun c3 => ?_) (kf := fun c3 => ?_)
      · exact bad (fun h => h.2.2.1 c3)
      · refine v_iload_n (q := 22) dX7_setOff_21 (kk := ?_)
        refine v_iconst (v := 1) (q := 23) dX7_setOff_22 (kk := ?_)
        refine v_sipush (v := 200) (q := 26) dX7_setOff_23 (kk := ?_)
        refine v_cS3 (N := mX7_in) (q := 29) lX7_76 sX7_in kX7_in dX7_setOff_26 (s_in ?_)
        refine v_if_neB 35 (q := 32) dX7_setOff_29 (kt := fun c => ?_) (kf := fun c => ?_)
        · obtain ⟨j, rfl, hj⟩ := nI_of6 (n := np) rfl (by omega) c1
          obtain ⟨l, rfl, hl⟩ := nI_of6 (n := np) rfl (by omega) c2
          obtain ⟨nn, hnn, rfl⟩ := nI_ofL (v := n) (lo := 1) (by decide) c.1
          have hn2 : nn ≤ 200 := (nI_leI (b := 200) hnn (by omega)).mp c.2
          have e : spSetOff N (nI j) (nI l) (nI nn) = nI (soC np nb nt sec N j l nn) := by unfold spSetOff; rw [e1, if_pos ⟨c1, c2, c3, c⟩, nI_clamp (by omega), nI_clamp (by omega), nI_clamp hnn, e2, e3, e4]
          rw [e] at hQ
          clear e
          refine v_aload_n (q := 36) dX7_setOff_35 (kk := ?_)
          refine v_cV0 (N := mX7_thinks) (q := 39) lX7_168 iX7_thinks kX7_thinks (by assumption) dX7_setOff_36 (s_thinks hm hN (fun I1 hF1 hB => ?_))
          refine v_iconst (v := 0) (q := 40) dX7_setOff_39 (kk := ?_)
          refine v_istore4 (q := 42) dX7_setOff_40 (kk := ?_)
          refine v_iconst (v := 0) (q := 43) dX7_setOff_42 (kk := ?_)
          refine v_istore5 (q := 45) dX7_setOff_43 (kk := ?_)
          exact msetOff_loop hm hB hw.1 hw.2.1 hj hl hn2 (fun I' hF' hN' => hQ I' (fun y a1 a2 a3 a4 => (hF' y a1 a3 a4).trans (hF1 y a2)) hN') nn 0 I1 (by omega) Fm.rfl ((hF1 _ (by omega)).trans hN)
        · exact bad (fun h => c h.2.2.2)
end T3
