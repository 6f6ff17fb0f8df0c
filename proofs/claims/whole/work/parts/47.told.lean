/-! the sheets, as both sides hold them; toldBy -/
def SHc (I : hcI) (b : Nat) (so si ce : Nat → Int32) : Prop := ∀ k, k < 4 → I (b + 53 + 2 * k) 1 = so k ∧ I (b + 53 + 2 * k) 2 = si k ∧ ∀ j, j < 24 → I (b + 54 + 2 * k) j = ce (24 * k + j)
def SHm (I : hcI) (m : Nat) (so si ce : Nat → Int32) : Prop := I (m + 13) = so ∧ I (m + 14) = si ∧ I (m + 15) = ce
def SW (so si : Nat → Int32) : Prop := ∀ k, k < 4 → (so k = -1 ∨ so k = 0 ∨ so k = 1) ∧ ∃ s, si k = nI s ∧ s ≤ 24
theorem SW.neg {so si : Nat → Int32} {k : Nat} (h : SW so si) (hk : k < 4) : so k < 0 ↔ so k = -1 := by
  rcases (h k hk).1 with e | e | e <;> rw [e] <;> decide
theorem SHc.keep {I I' : hcI} {b : Nat} {so si ce : Nat → Int32} (h : SHc I b so si ce) (hF : ∀ y, b + 53 ≤ y → y < b + 61 → I' y = I y) : SHc I' b so si ce := fun k hk => by
  rw [hF _ (by omega) (by omega), hF _ (by omega) (by omega)]
  exact h k hk
theorem SHc.keepT {I I' : hcI} {b : Nat} {so si ce : Nat → Int32} (h : SHc I b so si ce) (hF : Fh b (b + 31) I I') : SHc I' b so si ce := h.keep (fun y h1 h2 => hF y (by omega) (by unfold stk; omega))
def otC (np nb nt sec : Nat) (N : hN) (p : Nat) (pl : Nat → Int32) : Nat → Nat
  | 0 => 0
  | k + 1 => otC np nb nt sec N p pl k + (if ¬ pl k = -1000000005 ∧ ¬ decide (¬ pl k = 0) = bitB (secsF N np nb nt sec (k + 1) 5) p then 1 else 0)
theorem otC_le {np nb nt sec p : Nat} {N : hN} {pl : Nat → Int32} : ∀ k, otC np nb nt sec N p pl k ≤ k
  | 0 => Nat.le_refl _
  | k + 1 => by
    have := otC_le (np := np) (nb := nb) (nt := nt) (sec := sec) (p := p) (N := N) (pl := pl) k
    simp only [otC]
    split <;> omega
def otF (np nb nt sec : Nat) (N : hN) (p : Nat) (pl : Nat → Int32) (s k : Nat) : Int32 := nI (otC np nb nt sec (upd N (33 + 6 * p) (nI k)) p pl s)
def spToldBy (N : hN) (so si ce : Nat → Int32) (sh p w : Int32) : Int32 := if (0 ≤ sh ∧ sh < 4) ∧ (0 ≤ p ∧ p < nI (npN N)) ∧ (0 ≤ w ∧ w ≤ 1) then (if so sh.toNatClampNeg = -1 then -1000000011 else if w = 0 then amB 0 (sto (otF (npN N) (nbN N) (ntN N) (scN N) N p.toNatClampNeg (fun j => ce (24 * sh.toNatClampNeg + j)) (si sh.toNatClampNeg).toNatClampNeg) 6) else amL 0 (sto (otF (npN N) (nbN N) (ntN N) (scN N) N p.toNatClampNeg (fun j => ce (24 * sh.toNatClampNeg + j)) (si sh.toNatClampNeg).toNatClampNeg) 6)) else -1000000001
theorem hc_zz {x y : Bool} : hc_z x = hc_z y ↔ x = y := by cases x <;> cases y <;> decide
section T4
variable {g : hcG} {S : hcS} {I : hcI} {R : hcR} {z : Nat} {Q : hcQ} {b m np nb nt sec : Nat} {N : hN} {so si ce : Nat → Int32}
theorem secO_loop {p s a : Nat} {k0 : Int32} {pl : Nat → Int32} {R1 : hcR} (hk3 : HSk S R1 (b + 31)) (s0 : S b = some (6, 0)) (r2 : R1 b 2 = some (b + 31)) (hra : RowAt S R1 a) (ha : b + 46 ≤ a ∧ a + 1 < b + 103) (hsz : I a 2 = nI s) (hs24 : s ≤ 24) (hpl : ∀ j, j < 24 → I (a + 1) j = pl j) (hw : WF N np nb nt sec) (hs : sec ≤ 99999) (hp : p < np) (hQ : ∀ I' : hcI, Fh b (b + 31) I I' → Q (some (.int (nI (otC np nb nt sec N p pl s)))) S I' R1 z) (k : Nat) : ∀ (i : Nat) (I1 : hcI), i + k = s → Fh b (b + 31) I I1 → HD S I1 R1 b (b + 31) (secsF N np nb nt sec i) np nb nt → V g mX6_secondsOtherwise 5 0 0 S I1 R1 z 30 [some (.ref b), some (.ref a), some (.int (nI p)), some (.int k0), some (.int (nI (otC np nb nt sec N p pl i))), some (.int (nI i)), none] [] Q := by
  have sh3 := hk3.1
  have hnp := hw.1.2
  have hra' := hra
  obtain ⟨sa, sa1, ra0⟩ := hra'
  induction k with
  | zero =>
    intro i I1 hi hF hd
    obtain rfl : i = s := by omega
    have e1 : I1 a 2 = nI i := by rw [hF a (by omega) (by unfold stk; omega)]; exact hsz
    refine v_iload (q := 32) dX6_secondsOtherwise_30 (kk := ?_)
    refine v_aload_n (q := 33) dX6_secondsOtherwise_32 (kk := ?_)
    refine v_getI (q := 36) fX6_234 (by assumption) (hd := dX6_secondsOtherwise_33) (kk := ?_)
    rw [e1]
    refine v_icmp_geT 95 dX6_secondsOtherwise_36 (Int32.le_refl _) (kt := ?_)
    refine v_iload (q := 97) dX6_secondsOtherwise_95 (kk := ?_)
    refine v_iret dX6_secondsOtherwise_97 (hQ := ?_)
    exact hQ I1 hF
  | succ k ih =>
    intro i I1 hi hF hd
    have hwi := secsF_WF hw i (by omega)
    have hwi2 := secsF_WF hw (i + 1) (by omega)
    have hot := otC_le (np := np) (nb := nb) (nt := nt) (sec := sec) (p := p) (N := N) (pl := pl) i
    have hs1 : otC np nb nt sec N p pl (i + 1) = otC np nb nt sec N p pl i + (if ¬ pl i = -1000000005 ∧ ¬ decide (¬ pl i = 0) = bitB (secsF N np nb nt sec (i + 1) 5) p then 1 else 0) := rfl
    have e1 : I1 a 2 = nI s := by rw [hF a (by omega) (by unfold stk; omega)]; exact hsz
    refine v_iload (q := 32) dX6_secondsOtherwise_30 (kk := ?_)
    refine v_aload_n (q := 33) dX6_secondsOtherwise_32 (kk := ?_)
    refine v_getI (q := 36) fX6_234 (by assumption) (hd := dX6_secondsOtherwise_33) (kk := ?_)
    rw [e1]
    refine v_icmp_geF (q := 39) (t := 95) dX6_secondsOtherwise_36 (fun h => by have := (nI_leI (by omega) (by omega)).mp h; omega) (kf := ?_)
    refine v_aload_n (q := 40) dX6_secondsOtherwise_39 (kk := ?_)
    refine v_getR (q := 43) fX6_19 (by assumption) (by assumption) (hd := dX6_secondsOtherwise_40) (kk := ?_)
    refine v_cV0 (N := mX0_passSecond) (q := 46) lX6_172 iX0_passSecond kX0_passSecond (by assumption) dX6_secondsOtherwise_43 (s_passSecond hk3 hd (by omega) hwi (by omega) (fun I2 hF2 hd2 => ?_))
    have hd3 : HD S I2 R1 b (b + 31) (secsF N np nb nt sec (i + 1)) np nb nt := hd2
    have hF3 := hF.trans hF2
    have e2 : I2 (a + 1) i = pl i := by rw [hF3 (a + 1) (by omega) (by unfold stk; omega)]; exact hpl i (by omega)
    have := ih (i + 1) I2 (by omega) hF3 hd3
    have rest : V g mX6_secondsOtherwise 5 0 0 S I2 R1 z 62 [some (.ref b), some (.ref a), some (.int (nI p)), some (.int k0), some (.int (nI (otC np nb nt sec N p pl i))), some (.int (nI i)), none] [.int (hc_z (decide (¬ pl i = 0)))] Q := by
      refine v_istore6 (q := 64) dX6_secondsOtherwise_62 (kk := ?_)
      refine v_aload_n (q := 65) dX6_secondsOtherwise_64 (kk := ?_)
      refine v_iload (q := 67) dX6_secondsOtherwise_65 (kk := ?_)
      refine v_cV1 (N := mX3_isNumber) (q := 70) lX6_241 iX3_isNumber kX3_isNumber (by assumption) dX6_secondsOtherwise_67 (s_Row_isNumber hra (by omega) ?_)
      rw [e2]
      refine v_if_eqB 89 (q := 73) dX6_secondsOtherwise_70 (kt := fun c => ?_) (kf := fun c => ?_)
      · rw [hs1, if_neg (fun h => c h.1)] at this
        refine v_iinc5 (q := 92) dX6_secondsOtherwise_89 (hv := nI_1 i) (kk := ?_)
        refine v_goto 30 dX6_secondsOtherwise_92 (kt := ?_)
        exact v_drop6 this
      · refine v_iload (q := 75) dX6_secondsOtherwise_73 (kk := ?_)
        refine v_aload_n (q := 76) dX6_secondsOtherwise_75 (kk := ?_)
        refine v_getR (q := 79) fX6_19 (by assumption) (by assumption) (hd := dX6_secondsOtherwise_76) (kk := ?_)
        refine v_iload_n (q := 80) dX6_secondsOtherwise_79 (kk := ?_)
        refine v_cV1 (N := mX0_hasCoughed) (q := 83) lX6_180 iX0_hasCoughed kX0_hasCoughed (by assumption) dX6_secondsOtherwise_80 (s_hasCoughed hk3 hd3 hwi2 (by omega) ?_)
        refine v_icmp_eq 89 (q := 86) dX6_secondsOtherwise_83 (kt := fun c2 => ?_) (kf := fun c2 => ?_)
        · rw [hs1, if_neg (fun h => h.2 (hc_zz.mp c2))] at this
          refine v_iinc5 (q := 92) dX6_secondsOtherwise_89 (hv := nI_1 i) (kk := ?_)
          refine v_goto 30 dX6_secondsOtherwise_92 (kt := ?_)
          exact v_drop6 this
        · rw [hs1, if_pos ⟨c, fun h => c2 (hc_zz.mpr h)⟩] at this
          refine v_iinc4 (q := 89) dX6_secondsOtherwise_86 (hv := nI_1 (otC np nb nt sec N p pl i)) (kk := ?_)
          refine v_iinc5 (q := 92) dX6_secondsOtherwise_89 (hv := nI_1 i) (kk := ?_)
          refine v_goto 30 dX6_secondsOtherwise_92 (kt := ?_)
          exact v_drop6 this
    refine v_pop (q := 47) dX6_secondsOtherwise_46 (kk := ?_)
    refine v_aload_n (q := 48) dX6_secondsOtherwise_47 (kk := ?_)
    refine v_getR (q := 51) fX6_236 (by assumption) (by assumption) (hd := dX6_secondsOtherwise_48) (kk := ?_)
    refine v_iload (q := 53) dX6_secondsOtherwise_51 (kk := ?_)
    refine v_ialdN (q := 54) (by assumption) (by omega) (by omega) (hd := dX6_secondsOtherwise_53) (kk := ?_)
    rw [e2]
    refine v_if_eq 61 (q := 57) dX6_secondsOtherwise_54 (kt := fun c => ?_) (kf := fun c => ?_)
    · rw [show decide (¬ pl i = 0) = false by rw [c]; rfl] at rest
      refine v_iconst (v := 0) (q := 62) dX6_secondsOtherwise_61 (kk := ?_)
      exact rest
    · rw [show decide (¬ pl i = 0) = true from decide_eq_true c] at rest
      refine v_iconst (v := 1) (q := 58) dX6_secondsOtherwise_57 (kk := ?_)
      refine v_goto 62 dX6_secondsOtherwise_58 (kt := ?_)
      exact rest
theorem s_secO {p s a k0 : Nat} {pl : Nat → Int32} (hx : XSk S R b) (hw : XW N np nb nt sec) (hd : HD S I R b (b + 1) N np nb nt) (hra : RowAt S R a) (ha : b + 46 ≤ a ∧ a + 1 < b + 103) (hsz : I a 2 = nI s) (hs24 : s ≤ 24) (hpl : ∀ j, j < 24 → I (a + 1) j = pl j) (hp : p < np) (hk0 : k0 < 6) (hQ : ∀ (I' : hcI) (R' : hcR), Fh b (b + 31) I I' → Fr b R R' → Q (some (.int (otF np nb nt sec N p pl s k0))) S I' R' z) : Cl g mX6_secondsOtherwise 5 0 0 S I R z [.ref b, .ref a, .int (nI p), .int (nI k0)] Q := by
  have hx' := hx
  obtain ⟨⟨s0, r0, -, r2, -⟩, ⟨hk1, -, hk3⟩, -⟩ := hx'
  have sh := hk1.1
  have sh3 := hk3.1
  have hnp := hw.1.1.2
  refine Cl.go [some (.ref b), some (.ref a), some (.int (nI p)), some (.int (nI k0)), none, none, none] ?_
  refine v_aload_n (q := 1) dX6_secondsOtherwise_0 (kk := ?_)
  refine v_getR (q := 4) fX6_19 (by assumption) (by assumption) (hd := dX6_secondsOtherwise_1) (kk := ?_)
  refine v_aload_n (q := 5) dX6_secondsOtherwise_4 (kk := ?_)
  refine v_getR (q := 8) fX6_12 (by assumption) (by assumption) (hd := dX6_secondsOtherwise_5) (kk := ?_)
  refine v_cV1 (N := mX0_becomes) (q := 11) lX6_159 iX0_becomes kX0_becomes (by assumption) dX6_secondsOtherwise_8 (s_Hall_becomes hk3 hk1 hd hw.1 (by omega) (by omega) (by omega) (fun I1 R1 hF1 hR1 hd1 => ?_))
  have hx1 : XSk S R1 b := hx.keepR hR1
  obtain ⟨⟨-, r0', -, r2', -⟩, ⟨-, -, hk3'⟩, -⟩ := hx1
  have hk3x := hk3'
  obtain ⟨-, s31, -, -, -, r30, -, -, -, sp⟩ := hk3x
  have hspp := (sp p (by omega)).1
  have hrpp := (sp p (by omega)).2
  refine v_aload_n (q := 12) dX6_secondsOtherwise_11 (kk := ?_)
  refine v_getR (q := 15) fX6_19 (by assumption) (by assumption) (hd := dX6_secondsOtherwise_12) (kk := ?_)
  refine v_getR (q := 18) fX6_74 (by assumption) (by assumption) (hd := dX6_secondsOtherwise_15) (kk := ?_)
  refine v_iload_n (q := 19) dX6_secondsOtherwise_18 (kk := ?_)
  refine v_aaldn (q := 20) (by assumption) (by assumption) (by omega) (by omega) (hd := dX6_secondsOtherwise_19) (kk := ?_)
  refine v_iload_n (q := 21) dX6_secondsOtherwise_20 (kk := ?_)
  refine v_putI (q := 24) fX6_78 (by assumption) (hd := dX6_secondsOtherwise_21) (kk := ?_)
  refine v_iconst (v := 0) (q := 25) dX6_secondsOtherwise_24 (kk := ?_)
  refine v_istore4 (q := 27) dX6_secondsOtherwise_25 (kk := ?_)
  refine v_iconst (v := 0) (q := 28) dX6_secondsOtherwise_27 (kk := ?_)
  refine v_istore5 (q := 30) dX6_secondsOtherwise_28 (kk := ?_)
  have hd2 : HD S (hc_u I1 (b + 31 + 5 + p) 0 (nI k0)) R1 b (b + 31) (upd N (33 + 6 * p) (nI k0)) np nb nt := hd1.p (j := 0) (by omega) hp hnp hw.1.2.1.2.2 (by omega)
  have hw2 : WF (upd N (33 + 6 * p) (nI k0)) np nb nt sec := (hw.p (j := 0) hp (by omega)).1
  have hF2 : Fh b (b + 31) I (hc_u I1 (b + 31 + 5 + p) 0 (nI k0)) := fun y h1 h2 => (hc_u_ne (by omega)).trans (hF1 y h1)
  exact secO_loop (I := I) hk3' s0 r2' (hra.keepR hR1 (by omega)) ha hsz hs24 hpl hw2 hw.2.1 hp (fun I' hF' => hQ I' R1 hF' hR1) s 0 _ (by omega) hF2 hd2
theorem toldBy_loop {a p s : Nat} {pl : Nat → Int32} {x w far : Int32} (hw : XW N np nb nt sec) (hd0 : HD S I R b (b + 1) N np nb nt) (ha : b + 46 ≤ a ∧ a + 1 < b + 103) (hra : RowAt S R a) (hsz : I a 2 = nI s) (hs24 : s ≤ 24) (hpl : ∀ j, j < 24 → I (a + 1) j = pl j) (hp : p < np) (hf : ∀ k, otF np nb nt sec N p pl s k < far) (hQ : ∀ (I' : hcI) (R' : hcR), Fh b (b + 31) I I' → Fr b R R' → Q (some (.int (if w = 0 then amB 0 (sto (otF np nb nt sec N p pl s) 6) else amL 0 (sto (otF np nb nt sec N p pl s) 6)))) S I' R' z) (k : Nat) : ∀ (i : Nat) (I1 : hcI) (R1 : hcR), i + k = 6 → Fh b (b + 31) I I1 → Fr b R R1 → XSk S R1 b → V g mX6_toldBy 6 0 0 S I1 R1 z 61 [some (.ref b), some (.int x), some (.int (nI p)), some (.int w), some (.ref a), some (.int (amB 0 (sto (otF np nb nt sec N p pl s) i))), some (.int (amL far (sto (otF np nb nt sec N p pl s) i))), some (.int (nI i)), none] [] Q := by
  induction k with
  | zero =>
    intro i I1 R1 hi hF hR hx
    obtain rfl : i = 6 := by omega
    refine v_iload (q := 63) dX6_toldBy_61 (kk := ?_)
    refine v_bipush (v := 6) (q := 65) dX6_toldBy_63 (kk := ?_)
    refine v_icmp_geT 100 dX6_toldBy_65 (Int32.le_refl _) (kt := ?_)
    refine v_iload_n (q := 101) dX6_toldBy_100 (kk := ?_)
    refine v_if_ne 109 (q := 104) dX6_toldBy_101 (kt := fun c => ?_) (kf := fun c => ?_)
    · rw [if_neg c] at hQ
      obtain ⟨i0, w0, e0, -⟩ := sto_some (f := otF np nb nt sec N p pl s) 6 (by omega)
      rw [e0] at hQ ⊢
      refine v_iload (q := 111) dX6_toldBy_109 (kk := ?_)
      refine v_iret dX6_toldBy_111 (hQ := ?_)
      exact hQ I1 R1 hF hR
    · rw [if_pos c] at hQ
      refine v_iload (q := 106) dX6_toldBy_104 (kk := ?_)
      refine v_goto 111 dX6_toldBy_106 (kt := ?_)
      refine v_iret dX6_toldBy_111 (hQ := ?_)
      exact hQ I1 R1 hF hR
  | succ k ih =>
    intro i I1 R1 hi hF hR hx
    have hd := hd0.keepT hw.1 hF hR
    have s0 := hx.1.1
    have e1 : I1 a 2 = nI s := by rw [hF a (by omega) (by unfold stk; omega)]; exact hsz
    have e2 : ∀ j, j < 24 → I1 (a + 1) j = pl j := fun j hj => by rw [hF (a + 1) (by omega) (by unfold stk; omega)]; exact hpl j hj
    refine v_iload (q := 63) dX6_toldBy_61 (kk := ?_)
    refine v_bipush (v := 6) (q := 65) dX6_toldBy_63 (kk := ?_)
    refine v_icmp_geF (q := 68) (t := 100) dX6_toldBy_65 (fun h => by have := (nI_leI (a := 6) (by omega) (by omega)).mp h; omega) (kf := ?_)
    refine v_aload_n (q := 69) dX6_toldBy_68 (kk := ?_)
    refine v_aload (q := 71) dX6_toldBy_69 (kk := ?_)
    refine v_iload_n (q := 72) dX6_toldBy_71 (kk := ?_)
    refine v_iload (q := 74) dX6_toldBy_72 (kk := ?_)
    refine v_cV3 (N := mX6_secondsOtherwise) (q := 77) lX6_187 iX6_secondsOtherwise kX6_secondsOtherwise (by assumption) dX6_toldBy_74 (s_secO hx hw hd (hra.keepR hR (by omega)) ha e1 hs24 e2 hp (show i < 6 by omega) (fun I2 R2 hF2 hR2 => ?_))
    have hs1 : sto (otF np nb nt sec N p pl s) (i + 1) = st (sto (otF np nb nt sec N p pl s) i) (nI i) (otF np nb nt sec N p pl s i) := rfl
    have := ih (i + 1) I2 R2 (by omega) (hF.trans hF2) (hR.trans hR2) (hx.keepR hR2)
    refine v_istore8 (q := 79) dX6_toldBy_77 (kk := ?_)
    refine v_iload (q := 81) dX6_toldBy_79 (kk := ?_)
    refine v_iload (q := 83) dX6_toldBy_81 (kk := ?_)
    refine v_icmp_ge 94 (q := 86) dX6_toldBy_83 (kt := fun c => ?_) (kf := fun c => ?_)
    · rw [hs1, st_ge (hf i) (Int32.not_lt.mpr c)] at this
      refine v_iinc7 (q := 97) dX6_toldBy_94 (hv := nI_1 i) (kk := ?_)
      refine v_goto 61 dX6_toldBy_97 (kt := ?_)
      exact v_drop8 this
    · rw [hs1, st_lt (Int32.not_le.mp c)] at this
      refine v_iload (q := 88) dX6_toldBy_86 (kk := ?_)
      refine v_istore6 (q := 90) dX6_toldBy_88 (kk := ?_)
      refine v_iload (q := 92) dX6_toldBy_90 (kk := ?_)
      refine v_istore5 (q := 94) dX6_toldBy_92 (kk := ?_)
      refine v_iinc7 (q := 97) dX6_toldBy_94 (hv := nI_1 i) (kk := ?_)
      refine v_goto 61 dX6_toldBy_97 (kt := ?_)
      exact v_drop8 this
theorem x_toldBy {sh p w : Int32} (hx : XSk S R b) (hn : XN S I R b N) (hsw : SW so si) (hsc : SHc I b so si ce) (hQ : ∀ (I' : hcI) (R' : hcR), Fh b (b + 31) I I' → Fr b R R' → Q (some (.int (spToldBy N so si ce sh p w))) S I' R' z) : Cl g mX6_toldBy 6 0 0 S I R z [.ref b, .int sh, .int p, .int w] Q := by
  have hx' := hx
  obtain ⟨⟨s0, r0, -, r2, -, r4, -⟩, ⟨hk1, -, hk3⟩, -, ⟨s49, h49⟩, -⟩ := hx'
  obtain ⟨np, nb, nt, sec, hw, hd⟩ := id hn
  obtain ⟨e1, e2, e3, e4⟩ := hw.e
  have shh := hk1.1
  have hnp := hw.1.1.2
  refine Cl.go [some (.ref b), some (.int sh), some (.int p), some (.int w), none, none, none, none, none] ?_
  have bad : ¬ ((0 ≤ sh ∧ sh < 4) ∧ (0 ≤ p ∧ p < nI np) ∧ (0 ≤ w ∧ w ≤ 1)) → V g mX6_toldBy 6 0 0 S I R z 28 [some (.ref b), some (.int sh), some (.int p), some (.int w), none, none, none, none, none] [] Q := by
    intro c
    have e : spToldBy N so si ce sh p w = -1000000001 := by unfold spToldBy; rw [e1, if_neg c]
    rw [e] at hQ
    refine v_ldc (q := 30) cX6_55 dX6_toldBy_28 (kk := ?_)
    refine v_iret dX6_toldBy_30 (hQ := ?_)
    exact hQ I R Fh.rfl Fr.rfl
  refine v_iload_n (q := 1) dX6_toldBy_0 (kk := ?_)
  refine v_iconst (v := 4) (q := 2) dX6_toldBy_1 (kk := ?_)
  refine v_cS2 (N := mX6_within) (q := 5) lX6_51 sX6_within kX6_within dX6_toldBy_2 (s_within ?_)
  refine v_if_eqB 28 (q := 8) dX6_toldBy_5 (kt := fun c1 => ?_) (kf := fun c1 => ?_)
  · exact bad (fun h => c1 h.1)
  · refine v_aload_n (q := 9) dX6_toldBy_8 (kk := ?_)
    refine v_getR (q := 12) fX6_12 (by assumption) (by assumption) (hd := dX6_toldBy_9) (kk := ?_)
    refine v_iload_n (q := 13) dX6_toldBy_12 (kk := ?_)
    refine v_cV1 (N := mX0_has) (q := 16) lX6_70 iX0_has kX0_has (by assumption) dX6_toldBy_13 (s_has hk1 hd hw.1 ?_)
    refine v_if_eqB 28 (q := 19) dX6_toldBy_16 (kt := fun c2 => ?_) (kf := fun c2 => ?_)
    · exact bad (fun h => c2 h.2.1)
    · refine v_iload_n (q := 20) dX6_toldBy_19 (kk := ?_)
      refine v_if_lt 28 (q := 23) dX6_toldBy_20 (kt := fun c3 => ?_) (kf := fun c3 => ?_)
      · exact bad (fun h => absurd h.2.2.1 (Int32.not_le.mpr c3))
      · refine v_iload_n (q := 24) dX6_toldBy_23 (kk := ?_)
        refine v_iconst (v := 1) (q := 25) dX6_toldBy_24 (kk := ?_)
        refine v_icmp_le 31 (q := 28) dX6_toldBy_25 (kt := fun c4 => ?_) (kf := fun c4 => ?_)
        · obtain ⟨k, rfl, hk⟩ := nI_of6 (n := 4) rfl (by omega) c1
          obtain ⟨j, rfl, hj⟩ := nI_of6 (n := np) rfl (by omega) c2
          have c34 : 0 ≤ w ∧ w ≤ 1 := ⟨Int32.not_lt.mp c3, c4⟩
          obtain ⟨q1, q2, q3⟩ := hsc k hk
          obtain ⟨-, s, es, hs24⟩ := hsw k hk
          obtain ⟨rk, hra⟩ := h49 k hk
          have hra' := hra
          obtain ⟨sa, sa1, ra0⟩ := hra'
          have e : spToldBy N so si ce (nI k) (nI j) w = if so k = -1 then -1000000011 else if w = 0 then amB 0 (sto (otF np nb nt sec N j (fun j => ce (24 * k + j)) s) 6) else amL 0 (sto (otF np nb nt sec N j (fun j => ce (24 * k + j)) s) 6) := by
            unfold spToldBy
            rw [e1, if_pos ⟨c1, c2, c34⟩, nI_clamp (by omega), nI_clamp (by omega), e2, e3, e4, es, nI_clamp (by omega)]
          rw [e] at hQ
          clear e
          refine v_aload_n (q := 32) dX6_toldBy_31 (kk := ?_)
          refine v_getR (q := 35) fX6_31 (by assumption) (by assumption) (hd := dX6_toldBy_32) (kk := ?_)
          refine v_iload_n (q := 36) dX6_toldBy_35 (kk := ?_)
          refine v_aaldn (q := 37) (by assumption) (by assumption) (by omega) (by omega) (hd := dX6_toldBy_36) (kk := ?_)
          refine v_astore4 (q := 39) dX6_toldBy_37 (kk := ?_)
          refine v_aload (q := 41) dX6_toldBy_39 (kk := ?_)
          refine v_getI (q := 44) fX6_183 (by assumption) (hd := dX6_toldBy_41) (kk := ?_)
          rw [q1]
          refine v_iconst (v := (-1)) (q := 45) dX6_toldBy_44 (kk := ?_)
          refine v_icmp_ne 51 (q := 48) dX6_toldBy_45 (kt := fun c5 => ?_) (kf := fun c5 => ?_)
          · rw [if_neg c5] at hQ
            refine v_iconst (v := 0) (q := 52) dX6_toldBy_51 (kk := ?_)
            refine v_istore5 (q := 54) dX6_toldBy_52 (kk := ?_)
            refine v_ldc (q := 56) cX6_175 dX6_toldBy_54 (kk := ?_)
            refine v_istore6 (q := 58) dX6_toldBy_56 (kk := ?_)
            refine v_iconst (v := 0) (q := 59) dX6_toldBy_58 (kk := ?_)
            refine v_istore7 (q := 61) dX6_toldBy_59 (kk := ?_)
            exact toldBy_loop (far := 2147483647) hw hd (by omega) hra (q2.trans es) hs24 (pl := fun j => ce (24 * k + j)) (fun j hj => by rw [show b + 53 + 2 * k + 1 = b + 54 + 2 * k by omega]; exact q3 j hj) hj (fun i => far_lt (h := _) rfl (by have := otC_le (np := np) (nb := nb) (nt := nt) (sec := sec) (p := j) (N := upd N (33 + 6 * j) (nI i)) (pl := fun j => ce (24 * k + j)) s; omega)) hQ 6 0 I R (by omega) Fh.rfl Fr.rfl hx
          · rw [if_pos c5] at hQ
            refine v_ldc (q := 50) cX6_186 dX6_toldBy_48 (kk := ?_)
            refine v_iret dX6_toldBy_50 (hQ := ?_)
            exact hQ I R Fh.rfl Fr.rfl
        · exact bad (fun h => c4 h.2.2.2)
theorem s_isSheet {s : Int32} (hQ : Q (some (.int (hc_b (0 ≤ s ∧ s < 4)))) S I R z) : Cl g mX7_isSheet 1 0 0 S I R z [.int s] Q := by
  refine Cl.go [some (.int s)] ?_
  refine v_iload_n (q := 1) dX7_isSheet_0 (kk := ?_)
  refine v_iconst (v := 0) (q := 2) dX7_isSheet_1 (kk := ?_)
  refine v_iconst (v := 3) (q := 3) dX7_isSheet_2 (kk := ?_)
  refine v_cS3 (N := mX7_in) (q := 6) lX7_76 sX7_in kX7_in dX7_isSheet_3 (s_in0 4 4 rfl rfl (by omega) ?_)
  refine v_zret dX7_isSheet_6 hc_nz (hQ := ?_)
  exact hQ
theorem mother_loop {p s k : Nat} {k0 : Int32} (hk : k < 4) (hm : MG S R m) (hB : ∀ j, j < 93 → I (m + 4) j = N j) {N1 : hN} (h93 : ∀ i, 93 ≤ i → N1 i = N i) (hz : I (m + 14) = si) (hc : I (m + 15) = ce) (es : si k = nI s) (hs24 : s ≤ 24) (hw : WF N1 np nb nt sec) (hs : sec ≤ 99999) (hp : p < np) (hQ : ∀ I' : hcI, Fm m I I' → I' (m + 1) = N → Q (some (.int (nI (otC np nb nt sec N1 p (fun j => ce (24 * k + j)) s)))) S I' R z) (r : Nat) : ∀ (i : Nat) (I1 : hcI), i + r = s → Fm m I I1 → I1 (m + 1) = secsF N1 np nb nt sec i → V g mX7_otherwise 4 0 0 S I1 R z 13 [some (.ref m), some (.int (nI k)), some (.int (nI p)), some (.int k0), some (.int (nI (otC np nb nt sec N1 p (fun j => ce (24 * k + j)) i))), some (.int (nI i)), none, none] [] Q := by
  have s0 := hm.s0
  have sn := hm.s_now
  have rn := hm.r_now
  have sz := hm.s_sizes
  have rz := hm.r_sizes
  have sc := hm.s_cells
  have rc := hm.r_cells
  have hnp := hw.1.2
  induction r with
  | zero =>
    intro i I1 hi hF hN
    obtain rfl : i = s := by omega
    refine v_iload (q := 15) dX7_otherwise_13 (kk := ?_)
    refine v_aload_n (q := 16) dX7_otherwise_15 (kk := ?_)
    refine v_getR (q := 19) fX7_51 (by assumption) (by assumption) (hd := dX7_otherwise_16) (kk := ?_)
    refine v_iload_n (q := 20) dX7_otherwise_19 (kk := ?_)
    refine v_ialdE (q := 21) (k) (by rfl) (by assumption) (by omega) (by omega) (hd := dX7_otherwise_20) (kk := ?_)
    rw [hF (m + 14) (by omega) (by omega) (by omega), hz, es]
    refine v_icmp_geT 99 dX7_otherwise_21 (Int32.le_refl _) (kt := ?_)
    refine v_aload_n (q := 100) dX7_otherwise_99 (kk := ?_)
    refine v_cV0 (N := mX7_putsBack) (q := 103) lX7_165 iX7_putsBack kX7_putsBack (by assumption) dX7_otherwise_100 (s_putsBack (N := N) hm (fun k hk => by rw [hF (m + 4) (by omega) (by omega) (by omega)]; exact hB k hk) (fun i hi => by rw [hN, secsF_hi hnp hi]; exact h93 i hi) (fun I2 hF2 hN3 => ?_))
    refine v_iload (q := 105) dX7_otherwise_103 (kk := ?_)
    refine v_iret dX7_otherwise_105 (hQ := ?_)
    exact hQ I2 (fun y a1 a2 a3 => (hF2 y a1).trans (hF y a1 a2 a3)) hN3
  | succ r ih =>
    intro i I1 hi hF hN
    have hwi := secsF_WF hw i (by omega)
    have hwi2 := secsF_WF hw (i + 1) (by omega)
    have hot := otC_le (np := np) (nb := nb) (nt := nt) (sec := sec) (p := p) (N := N1) (pl := fun j => ce (24 * k + j)) i
    have hs1 : otC np nb nt sec N1 p (fun j => ce (24 * k + j)) (i + 1) = otC np nb nt sec N1 p (fun j => ce (24 * k + j)) i + (if ¬ ce (24 * k + i) = -1000000005 ∧ ¬ decide (¬ ce (24 * k + i) = 0) = bitB (secsF N1 np nb nt sec (i + 1) 5) p then 1 else 0) := rfl
    obtain ⟨k6, e6, h6⟩ := hwi2.2.2.2.2.2.1
    have h10 : (2 : Nat) ^ np ≤ 2 ^ 10 := Nat.pow_le_pow_right (by omega) hnp
    refine v_iload (q := 15) dX7_otherwise_13 (kk := ?_)
    refine v_aload_n (q := 16) dX7_otherwise_15 (kk := ?_)
    refine v_getR (q := 19) fX7_51 (by assumption) (by assumption) (hd := dX7_otherwise_16) (kk := ?_)
    refine v_iload_n (q := 20) dX7_otherwise_19 (kk := ?_)
    refine v_ialdE (q := 21) (k) (by rfl) (by assumption) (by omega) (by omega) (hd := dX7_otherwise_20) (kk := ?_)
    rw [hF (m + 14) (by omega) (by omega) (by omega), hz, es]
    refine v_icmp_geF (q := 24) (t := 99) dX7_otherwise_21 (fun h => by have := (nI_leI (by omega) (by omega)).mp h; omega) (kf := ?_)
    refine v_aload_n (q := 25) dX7_otherwise_24 (kk := ?_)
    refine v_cV0 (N := mX7_second) (q := 28) lX7_152 iX7_second kX7_second (by assumption) dX7_otherwise_25 (s_second hm hN hwi (by omega) (fun I2 hF2 hN2 => ?_))
    have hN3 : I2 (m + 1) = secsF N1 np nb nt sec (i + 1) := hN2
    have hF3 := hF.trans hF2
    have := ih (i + 1) I2 (by omega) hF3 hN3
    refine v_istore6 (q := 30) dX7_otherwise_28 (kk := ?_)
    refine v_aload_n (q := 31) dX7_otherwise_30 (kk := ?_)
    refine v_getR (q := 34) fX7_54 (by assumption) (by assumption) (hd := dX7_otherwise_31) (kk := ?_)
    refine v_bipush (v := 24) (q := 36) dX7_otherwise_34 (kk := ?_)
    refine v_iload_n (q := 37) dX7_otherwise_36 (kk := ?_)
    refine v_imul (q := 38) dX7_otherwise_37 (kk := ?_)
    refine v_iload (q := 40) dX7_otherwise_38 (kk := ?_)
    refine v_iadd (q := 41) dX7_otherwise_40 (kk := ?_)
    rw [show (24 : Int32) * nI k + nI i = nI (24 * k + i) by rw [show (24 : Int32) = nI 24 from rfl, pk_mul, nI_add]]
    refine v_ialdE (q := 42) (24 * k + i) (by rfl) (by assumption) (by omega) (by omega) (hd := dX7_otherwise_41) (kk := ?_)
    rw [hF3 (m + 15) (by omega) (by omega) (by omega), hc]
    generalize hx6 : pop10 (secS (secsF N1 np nb nt sec i) np nb nt (sec + i)) = x6
    generalize hot' : otC np nb nt sec N1 p (fun j => ce (24 * k + j)) i = o6
    have fin : ∀ (c : Nat), otC np nb nt sec N1 p (fun j => ce (24 * k + j)) (i + 1) = o6 + c → V g mX7_otherwise 4 0 0 S I2 R z 90 [some (.ref m), some (.int (nI k)), some (.int (nI p)), some (.int k0), some (.int (nI o6)), some (.int (nI i)), some (.int (nI x6)), some (.int (ce (24 * k + i)))] [.int (nI c), .int (nI o6)] Q := by
      intro c hc
      rw [hc] at this
      refine v_iadd (q := 91) dX7_otherwise_90 (kk := ?_)
      rw [nI_add]
      refine v_istore4 (q := 93) dX7_otherwise_91 (kk := ?_)
      refine v_iinc5 (q := 96) dX7_otherwise_93 (hv := nI_1 i) (kk := ?_)
      refine v_goto 13 dX7_otherwise_96 (kt := ?_)
      exact v_drop6 (v_drop7 this)
    rw [hot'] at hs1
    refine v_istore7 (q := 44) dX7_otherwise_42 (kk := ?_)
    refine v_iload (q := 46) dX7_otherwise_44 (kk := ?_)
    refine v_iload (q := 48) dX7_otherwise_46 (kk := ?_)
    refine v_ldc (q := 50) cX7_75 dX7_otherwise_48 (kk := ?_)
    refine v_icmp_eq 89 (q := 53) dX7_otherwise_50 (kt := fun c => ?_) (kf := fun c => ?_)
    · refine v_iconst (v := 0) (q := 90) dX7_otherwise_89 (kk := ?_)
      exact fin 0 (by rw [hs1, if_neg (fun h => h.1 c)])
    · have mid : V g mX7_otherwise 4 0 0 S I2 R z 63 [some (.ref m), some (.int (nI k)), some (.int (nI p)), some (.int k0), some (.int (nI o6)), some (.int (nI i)), some (.int (nI x6)), some (.int (ce (24 * k + i)))] [.int (hc_z (decide (¬ ce (24 * k + i) = 0))), .int (nI o6)] Q := by
        have last : V g mX7_otherwise 4 0 0 S I2 R z 82 [some (.ref m), some (.int (nI k)), some (.int (nI p)), some (.int k0), some (.int (nI o6)), some (.int (nI i)), some (.int (nI x6)), some (.int (ce (24 * k + i)))] [.int (hc_z (bitB (secsF N1 np nb nt sec (i + 1) 5) p)), .int (hc_z (decide (¬ ce (24 * k + i) = 0))), .int (nI o6)] Q := by
          refine v_icmp_eq 89 (q := 85) dX7_otherwise_82 (kt := fun c2 => ?_) (kf := fun c2 => ?_)
          · refine v_iconst (v := 0) (q := 90) dX7_otherwise_89 (kk := ?_)
            exact fin 0 (by rw [hs1, if_neg (fun h => h.2 (hc_zz.mp c2))])
          · refine v_iconst (v := 1) (q := 86) dX7_otherwise_85 (kk := ?_)
            refine v_goto 90 dX7_otherwise_86 (kt := ?_)
            exact fin 1 (by rw [hs1, if_pos ⟨c, fun h => c2 (hc_zz.mpr h)⟩])
        refine v_aload_n (q := 64) dX7_otherwise_63 (kk := ?_)
        refine v_getR (q := 67) fX7_9 (by assumption) (by assumption) (hd := dX7_otherwise_64) (kk := ?_)
        refine v_iconst (v := 5) (q := 68) dX7_otherwise_67 (kk := ?_)
        refine v_ialdE (q := 69) (5) (by rfl) (by assumption) (by omega) (by omega) (hd := dX7_otherwise_68) (kk := ?_)
        rw [hN3]
        refine v_iload_n (q := 70) dX7_otherwise_69 (kk := ?_)
        refine v_ishr (q := 71) dX7_otherwise_70 (kk := ?_)
        refine v_iconst (v := 1) (q := 72) dX7_otherwise_71 (kk := ?_)
        refine v_iand (q := 73) dX7_otherwise_72 (kk := ?_)
        refine v_iconst (v := 1) (q := 74) dX7_otherwise_73 (kk := ?_)
        refine v_icmp_ne 81 (q := 77) dX7_otherwise_74 (kt := fun c2 => ?_) (kf := fun c2 => ?_)
        · have c3 : bitB (secsF N1 np nb nt sec (i + 1) 5) p = false := decide_eq_false c2
          rw [c3] at last
          refine v_iconst (v := 0) (q := 82) dX7_otherwise_81 (kk := ?_)
          exact last
        · have c3 : bitB (secsF N1 np nb nt sec (i + 1) 5) p = true := decide_eq_true c2
          rw [c3] at last
          refine v_iconst (v := 1) (q := 78) dX7_otherwise_77 (kk := ?_)
          refine v_goto 82 dX7_otherwise_78 (kt := ?_)
          exact last
      refine v_iload (q := 55) dX7_otherwise_53 (kk := ?_)
      refine v_if_eq 62 (q := 58) dX7_otherwise_55 (kt := fun c2 => ?_) (kf := fun c2 => ?_)
      · rw [show decide (¬ ce (24 * k + i) = 0) = false by rw [c2]; rfl] at mid
        refine v_iconst (v := 0) (q := 63) dX7_otherwise_62 (kk := ?_)
        exact mid
      · rw [show decide (¬ ce (24 * k + i) = 0) = true from decide_eq_true c2] at mid
        refine v_iconst (v := 1) (q := 59) dX7_otherwise_58 (kk := ?_)
        refine v_goto 63 dX7_otherwise_59 (kt := ?_)
        exact mid
theorem s_other {p s k k0 : Nat} (hk : k < 4) (hm : MG S R m) (hN : I (m + 1) = N) (hB : ∀ j, j < 93 → I (m + 4) j = N j) (hz : I (m + 14) = si) (hc : I (m + 15) = ce) (es : si k = nI s) (hs24 : s ≤ 24) (hw : XW N np nb nt sec) (hp : p < np) (hk0 : k0 < 6) (hQ : ∀ I' : hcI, Fm m I I' → I' (m + 1) = N → Q (some (.int (otF np nb nt sec N p (fun j => ce (24 * k + j)) s k0))) S I' R z) : Cl g mX7_otherwise 4 0 0 S I R z [.ref m, .int (nI k), .int (nI p), .int (nI k0)] Q := by
  have s0 := hm.s0
  have hnp := hw.1.1.2
  have hw2 : WF (upd N (33 + 6 * p) (nI k0)) np nb nt sec := (hw.p (j := 0) hp (by omega)).1
  refine Cl.go [some (.ref m), some (.int (nI k)), some (.int (nI p)), some (.int (nI k0)), none, none, none, none] ?_
  refine v_aload_n (q := 1) dX7_otherwise_0 (kk := ?_)
  refine v_iload_n (q := 2) dX7_otherwise_1 (kk := ?_)
  refine v_iconst (v := 0) (q := 3) dX7_otherwise_2 (kk := ?_)
  refine v_iload_n (q := 4) dX7_otherwise_3 (kk := ?_)
  refine v_cV3 (N := mX7_put) (q := 7) lX7_84 iX7_put kX7_put (by assumption) dX7_otherwise_4 (s_put (p := p) (w := 0) hm (by omega) ?_)
  refine v_iconst (v := 0) (q := 8) dX7_otherwise_7 (kk := ?_)
  refine v_istore4 (q := 10) dX7_otherwise_8 (kk := ?_)
  refine v_iconst (v := 0) (q := 11) dX7_otherwise_10 (kk := ?_)
  refine v_istore5 (q := 13) dX7_otherwise_11 (kk := ?_)
  exact mother_loop (I := I) hk hm hB (fun i hi => upd_ne (by omega)) hz hc es hs24 hw2 hw.2.1 hp hQ s 0 _ (by omega) Fm.u (by rw [hc_u_at, hN]; rfl)
theorem mtoldBy_loop {p s k : Nat} {w : Int32} (hk : k < 4) (hm : MG S R m) (hB : ∀ j, j < 93 → I (m + 4) j = N j) (hz : I (m + 14) = si) (hc : I (m + 15) = ce) (es : si k = nI s) (hs24 : s ≤ 24) (hw : XW N np nb nt sec) (hp : p < np) (hQ : ∀ I' : hcI, Fm m I I' → I' (m + 1) = N → Q (some (.int (if w = 0 then amB 0 (sto (otF np nb nt sec N p (fun j => ce (24 * k + j)) s) 6) else amL 0 (sto (otF np nb nt sec N p (fun j => ce (24 * k + j)) s) 6)))) S I' R z) (r : Nat) : ∀ (i : Nat) (I1 : hcI), i + r = 6 → 1 ≤ i → Fm m I I1 → I1 (m + 1) = N → V g mX7_toldBy 5 0 0 S I1 R z 58 [some (.ref m), some (.int (nI k)), some (.int (nI p)), some (.int w), some (.int (amB 0 (sto (otF np nb nt sec N p (fun j => ce (24 * k + j)) s) i))), some (.int (amL 0 (sto (otF np nb nt sec N p (fun j => ce (24 * k + j)) s) i))), some (.int (nI i)), none] [] Q := by
  have s0 := hm.s0
  induction r with
  | zero =>
    intro i I1 hi h1 hF hN
    obtain rfl : i = 6 := by omega
    refine v_iload (q := 60) dX7_toldBy_58 (kk := ?_)
    refine v_bipush (v := 6) (q := 62) dX7_toldBy_60 (kk := ?_)
    refine v_icmp_geT 113 dX7_toldBy_62 (Int32.le_refl _) (kt := ?_)
    refine v_iload_n (q := 114) dX7_toldBy_113 (kk := ?_)
    refine v_if_ne 122 (q := 117) dX7_toldBy_114 (kt := fun c => ?_) (kf := fun c => ?_)
    · rw [if_neg c] at hQ
      refine v_iload (q := 124) dX7_toldBy_122 (kk := ?_)
      refine v_iret dX7_toldBy_124 (hQ := ?_)
      exact hQ I1 hF hN
    · rw [if_pos c] at hQ
      refine v_iload (q := 119) dX7_toldBy_117 (kk := ?_)
      refine v_goto 124 dX7_toldBy_119 (kt := ?_)
      refine v_iret dX7_toldBy_124 (hQ := ?_)
      exact hQ I1 hF hN
  | succ r ih =>
    intro i I1 hi h1 hF hN
    obtain ⟨i0, w0, e0, hi0⟩ := sto_some (f := otF np nb nt sec N p (fun j => ce (24 * k + j)) s) i (by omega)
    refine v_iload (q := 60) dX7_toldBy_58 (kk := ?_)
    refine v_bipush (v := 6) (q := 62) dX7_toldBy_60 (kk := ?_)
    refine v_icmp_geF (q := 65) (t := 113) dX7_toldBy_62 (fun h => by have := (nI_leI (a := 6) (by omega) (by omega)).mp h; omega) (kf := ?_)
    refine v_aload_n (q := 66) dX7_toldBy_65 (kk := ?_)
    refine v_iload_n (q := 67) dX7_toldBy_66 (kk := ?_)
    refine v_iload_n (q := 68) dX7_toldBy_67 (kk := ?_)
    refine v_iload (q := 70) dX7_toldBy_68 (kk := ?_)
    refine v_cV3 (N := mX7_otherwise) (q := 73) lX7_178 iX7_otherwise kX7_otherwise (by assumption) dX7_toldBy_70 (s_other hk hm hN (fun j hj => by rw [hF (m + 4) (by omega) (by omega) (by omega)]; exact hB j hj) ((hF (m + 14) (by omega) (by omega) (by omega)).trans hz) ((hF (m + 15) (by omega) (by omega) (by omega)).trans hc) es hs24 hw hp (show i < 6 by omega) (fun I2 hF2 hN2 => ?_))
    have hs1 : sto (otF np nb nt sec N p (fun j => ce (24 * k + j)) s) (i + 1) = st (sto (otF np nb nt sec N p (fun j => ce (24 * k + j)) s) i) (nI i) (otF np nb nt sec N p (fun j => ce (24 * k + j)) s i) := rfl
    have := ih (i + 1) I2 (by omega) (by omega) (hF.trans hF2) hN2
    refine v_istore7 (q := 75) dX7_toldBy_73 (kk := ?_)
    refine v_iload (q := 77) dX7_toldBy_75 (kk := ?_)
    refine v_iload (q := 79) dX7_toldBy_77 (kk := ?_)
    refine v_icmp_ge 87 (q := 82) dX7_toldBy_79 (kt := fun c => ?_) (kf := fun c => ?_)
    · have e1 : sto (otF np nb nt sec N p (fun j => ce (24 * k + j)) s) (i + 1) = sto (otF np nb nt sec N p (fun j => ce (24 * k + j)) s) i := by
        rw [e0] at c
        rw [hs1, e0]
        exact if_neg (Int32.not_lt.mpr c)
      rw [e1] at this
      refine v_iload (q := 89) dX7_toldBy_87 (kk := ?_)
      refine v_istore4 (q := 91) dX7_toldBy_89 (kk := ?_)
      refine v_iload (q := 93) dX7_toldBy_91 (kk := ?_)
      refine v_iload (q := 95) dX7_toldBy_93 (kk := ?_)
      refine v_icmp_geT 103 dX7_toldBy_95 (c) (kt := ?_)
      refine v_iload (q := 105) dX7_toldBy_103 (kk := ?_)
      refine v_istore5 (q := 107) dX7_toldBy_105 (kk := ?_)
      refine v_iinc6 (q := 110) dX7_toldBy_107 (hv := nI_1 i) (kk := ?_)
      refine v_goto 58 dX7_toldBy_110 (kt := ?_)
      exact v_drop7 this
    · have e1 : sto (otF np nb nt sec N p (fun j => ce (24 * k + j)) s) (i + 1) = some (nI i, otF np nb nt sec N p (fun j => ce (24 * k + j)) s i) := by
        rw [e0] at c
        rw [hs1, e0]
        exact if_pos (Int32.not_le.mp c)
      rw [e1] at this
      refine v_iload (q := 84) dX7_toldBy_82 (kk := ?_)
      refine v_goto 89 dX7_toldBy_84 (kt := ?_)
      refine v_istore4 (q := 91) dX7_toldBy_89 (kk := ?_)
      refine v_iload (q := 93) dX7_toldBy_91 (kk := ?_)
      refine v_iload (q := 95) dX7_toldBy_93 (kk := ?_)
      refine v_icmp_geF (q := 98) (t := 103) dX7_toldBy_95 (c) (kf := ?_)
      refine v_iload (q := 100) dX7_toldBy_98 (kk := ?_)
      refine v_goto 105 dX7_toldBy_100 (kt := ?_)
      refine v_istore5 (q := 107) dX7_toldBy_105 (kk := ?_)
      refine v_iinc6 (q := 110) dX7_toldBy_107 (hv := nI_1 i) (kk := ?_)
      refine v_goto 58 dX7_toldBy_110 (kt := ?_)
      exact v_drop7 this
theorem m_toldBy {sh p w : Int32} (hm : MG S R m) (hN : I (m + 1) = N) (hn : MN N) (hsw : SW so si) (hsm : SHm I m so si ce) (hQ : ∀ I' : hcI, Fk m I I' → I' (m + 1) = N → Q (some (.int (spToldBy N so si ce sh p w))) S I' R z) : Cl g mX7_toldBy 5 0 0 S I R z [.ref m, .int sh, .int p, .int w] Q := by
  have s0 := hm.s0
  have ss := hm.s_sorts
  have rs := hm.r_sorts
  obtain ⟨np, nb, nt, sec, hw⟩ := hn
  obtain ⟨e1, e2, e3, e4⟩ := hw.e
  obtain ⟨q1, q2, q3⟩ := hsm
  have hnp := hw.1.1.2
  have h1 := hw.1.1.1
  refine Cl.go [some (.ref m), some (.int sh), some (.int p), some (.int w), none, none, none, none] ?_
  have bad : ¬ ((0 ≤ sh ∧ sh < 4) ∧ (0 ≤ p ∧ p < nI np) ∧ (0 ≤ w ∧ w ≤ 1)) → V g mX7_toldBy 5 0 0 S I R z 24 [some (.ref m), some (.int sh), some (.int p), some (.int w), none, none, none, none] [] Q := by
    intro c
    have e : spToldBy N so si ce sh p w = -1000000001 := by unfold spToldBy; rw [e1, if_neg c]
    rw [e] at hQ
    refine v_ldc (q := 26) cX7_92 dX7_toldBy_24 (kk := ?_)
    refine v_iret dX7_toldBy_26 (hQ := ?_)
    exact hQ I Fk.rfl hN
  refine v_iload_n (q := 1) dX7_toldBy_0 (kk := ?_)
  refine v_cS1 (N := mX7_isSheet) (q := 4) lX7_174 sX7_isSheet kX7_isSheet dX7_toldBy_1 (s_isSheet ?_)
  refine v_if_eqB 24 (q := 7) dX7_toldBy_4 (kt := fun c1 => ?_) (kf := fun c1 => ?_)
  · exact bad (fun h => c1 h.1)
  · refine v_aload_n (q := 8) dX7_toldBy_7 (kk := ?_)
    refine v_iload_n (q := 9) dX7_toldBy_8 (kk := ?_)
    refine v_cV1 (N := mX7_isOne) (q := 12) lX7_118 iX7_isOne kX7_isOne (by assumption) dX7_toldBy_9 (s_isOne hm (by rw [hN]; exact h1) hnp ?_)
    refine v_if_eqB 24 (q := 15) dX7_toldBy_12 (kt := fun c2 => ?_) (kf := fun c2 => ?_)
    · exact bad (fun h => c2 h.2.1)
    · refine v_iload_n (q := 16) dX7_toldBy_15 (kk := ?_)
      refine v_iconst (v := 0) (q := 17) dX7_toldBy_16 (kk := ?_)
      refine v_iconst (v := 1) (q := 18) dX7_toldBy_17 (kk := ?_)
      refine v_cS3 (N := mX7_in) (q := 21) lX7_76 sX7_in kX7_in dX7_toldBy_18 (s_in ?_)
      refine v_if_neB 27 (q := 24) dX7_toldBy_21 (kt := fun c34 => ?_) (kf := fun c34 => ?_)
      · obtain ⟨k, rfl, hk⟩ := nI_of6 (n := 4) rfl (by omega) c1
        obtain ⟨j, rfl, hj⟩ := nI_of6 (n := np) rfl (by omega) c2
        obtain ⟨-, s, es, hs24⟩ := hsw k hk
        have e : spToldBy N so si ce (nI k) (nI j) w = if so k = -1 then -1000000011 else if w = 0 then amB 0 (sto (otF np nb nt sec N j (fun j => ce (24 * k + j)) s) 6) else amL 0 (sto (otF np nb nt sec N j (fun j => ce (24 * k + j)) s) 6) := by
          unfold spToldBy
          rw [e1, if_pos ⟨c1, c2, c34⟩, nI_clamp (by omega), nI_clamp (by omega), e2, e3, e4, es, nI_clamp (by omega)]
        rw [e] at hQ
        clear e
        refine v_aload_n (q := 28) dX7_toldBy_27 (kk := ?_)
        refine v_getR (q := 31) fX7_48 (by assumption) (by assumption) (hd := dX7_toldBy_28) (kk := ?_)
        refine v_iload_n (q := 32) dX7_toldBy_31 (kk := ?_)
        refine v_ialdE (q := 33) (k) (by rfl) (by assumption) (by omega) (by omega) (hd := dX7_toldBy_32) (kk := ?_)
        rw [q1]
        refine v_if_ge 39 (q := 36) dX7_toldBy_33 (kt := fun c5 => ?_) (kf := fun c5 => ?_)
        · rw [if_neg (fun h => absurd ((hsw.neg hk).mpr h) (Int32.not_lt.mpr c5))] at hQ
          refine v_aload_n (q := 40) dX7_toldBy_39 (kk := ?_)
          refine v_cV0 (N := mX7_thinks) (q := 43) lX7_168 iX7_thinks kX7_thinks (by assumption) dX7_toldBy_40 (s_thinks hm hN (fun I1 hF1 hB => ?_))
          have hN1 : I1 (m + 1) = N := (hF1 _ (by omega)).trans hN
          have hz1 : I1 (m + 14) = si := (hF1 _ (by omega)).trans q2
          have hc1 : I1 (m + 15) = ce := (hF1 _ (by omega)).trans q3
          refine v_iconst (v := 0) (q := 44) dX7_toldBy_43 (kk := ?_)
          refine v_istore4 (q := 46) dX7_toldBy_44 (kk := ?_)
          refine v_aload_n (q := 47) dX7_toldBy_46 (kk := ?_)
          refine v_iload_n (q := 48) dX7_toldBy_47 (kk := ?_)
          refine v_iload_n (q := 49) dX7_toldBy_48 (kk := ?_)
          refine v_iconst (v := 0) (q := 50) dX7_toldBy_49 (kk := ?_)
          refine v_cV3 (N := mX7_otherwise) (q := 53) lX7_178 iX7_otherwise kX7_otherwise (by assumption) dX7_toldBy_50 (s_other (k0 := 0) hk hm hN1 hB hz1 hc1 es hs24 hw hj (by omega) (fun I2 hF2 hN2 => ?_))
          refine v_istore5 (q := 55) dX7_toldBy_53 (kk := ?_)
          refine v_iconst (v := 1) (q := 56) dX7_toldBy_55 (kk := ?_)
          refine v_istore6 (q := 58) dX7_toldBy_56 (kk := ?_)
          exact mtoldBy_loop (I := I1) hk hm hB hz1 hc1 es hs24 hw hj (fun I' hF' hN' => hQ I' (fun y a1 a2 a3 a4 => (hF' y a1 a3 a4).trans (hF1 y a2)) hN') 5 1 I2 (by omega) (by omega) hF2 hN2
        · rw [if_pos ((hsw.neg hk).mp (Int32.not_le.mp c5))] at hQ
          refine v_ldc (q := 38) cX7_177 dX7_toldBy_36 (kk := ?_)
          refine v_iret dX7_toldBy_38 (hQ := ?_)
          exact hQ I Fk.rfl hN
      · exact bad (fun h => c34 h.2.2)
end T4
