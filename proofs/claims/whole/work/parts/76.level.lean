/-! the class's reading, level by level, against the machine -/
def rkN (t : Nat) : Nat := if t = 124 then 1 else if t = 38 then 2 else if t = 60 ∨ t = 61 ∨ t = 62 then 3 else if t = 43 ∨ t = 45 then 4 else if t = 42 ∨ t = 47 then 5 else 0
theorem rkN_ok : ∀ t, t < 256 → lvH t = nI (rkN t) - 1 ∧ (sgF t = 0 ↔ rkN t = 0) ∧ rkN t ≤ 5 ∧ (¬ rkN t = 0 → rkF (sgF t) = nI (rkN t) ∧ ¬ sgF t = -10 ∧ ¬ sgF t = -11 ∧ trc (sgF t) = 20000 + sb t) := by decide +kernel
def rhF (tp : Nat → Int32) (tl p : Nat) (e : Int32) : Nat := if lxK tp tl p e = 3 then rkN (tbF tp (lxQ tp tl p)) else 0
theorem lv_ne : ∀ a, a < 6 → ∀ b, b < 5 → (nI a - 1 = nI b ↔ a = b + 1) := by decide
/-- a fault has been found at q -/
def PF (I : hcI) (r : Nat) (tp : Nat → Int32) (tl q : Nat) : Prop := I r 0 = nI q ∧ q ≤ 96 ∧ (∃ w, w ≤ 96 ∧ I r 8 = nI w) ∧ ∃ p e, p ≤ tl ∧ TKc I r tp tl p e
def PO (tp : Nat → Int32) (tl key L : Nat) (W : List Int32) (t : Bool) (T0 : List Bool) (p : Nat) (res : Nat ⊕ (List Int32 × Nat)) (I : hcI) (r cd : Nat) : Prop :=
  ∃ (n' p' : Nat) (e' : Int32) (P C' : List Int32) (A' : Nat) (t' : Bool), mrun tp tl key n' p' e' false (P ++ W) C' A' (t' :: T0) (W.count (-10)) = res ∧ tl - p' < n' ∧ p < p' ∧ p' ≤ tl ∧ TKc I r tp tl p' e' ∧ CD I r cd (P.reverse ++ C') A' ∧ P.length + W.length + C'.length + 4 ≤ p' ∧ (∀ x ∈ P, hiR (L + 1) x) ∧ (3 ≤ L → t' = t) ∧ (rhF tp tl p' e' ≤ L ∨ (rhF tp tl p' e' = 3 ∧ t' = true ∧ L ≤ 2))
def PP (tp : Nat → Int32) (tl key j : Nat) (W0 : List Int32) (T : List Bool) (p : Nat) (res : Nat ⊕ (List Int32 × Nat)) (I : hcI) (r cd : Nat) : Prop :=
  ∃ (n' p' : Nat) (e' : Int32) (X : List Int32) (A' : Nat), mrun tp tl key n' p' e' false W0 (List.replicate j (-10) ++ X) A' T (W0.count (-10)) = res ∧ tl - p' < n' ∧ p < p' ∧ p' ≤ tl ∧ TKc I r tp tl p' e' ∧ CD I r cd X A' ∧ j + W0.length + X.length + 4 ≤ p'
def RdK (S : hcS) (R : hcR) (z r c cd tl : Nat) (tp : Nat → Int32) (key B L K : Nat) (F : Nat → Nat → Nat → hcI → hcQ → Prop) : Prop :=
  ∀ (d op no n p : Nat) (e : Int32) (W C : List Int32) (A : Nat) (t : Bool) (T0 : List Bool) (I : hcI) (Q : hcQ), K + 11 * (8 - op) + (8 - no) ≤ d → op ≤ 8 → no ≤ 8 → tl - p < B → tl - p < n → p ≤ tl → RE S I R r c cd tl tp → I r 7 = nI key → ¬ 0 ≤ I r 0 → TKc I r tp tl p e → CD I r cd C A → W.length + C.length + 4 ≤ p → loR (L + 1) W → W.count (-10) = no → T0.length = op → (L ≤ 2 → t = false) → (∀ (q : Nat) (I' : hcI), mrun tp tl key n p e true W C A (t :: T0) no = Sum.inl q → FR r cd I I' → PF I' r tp tl q → Q none S I' R z) → (∀ I' : hcI, FR r cd I I' → I' r 0 = I r 0 → PO tp tl key L W t T0 p (mrun tp tl key n p e true W C A (t :: T0) no) I' r cd → Q none S I' R z) → F d op no I Q
def RdP (S : hcS) (R : hcR) (z r c cd tl : Nat) (tp : Nat → Int32) (key B : Nat) (F : Nat → Nat → Nat → hcI → hcQ → Prop) : Prop :=
  ∀ (d op no n p : Nat) (e : Int32) (j : Nat) (W0 C : List Int32) (A : Nat) (t : Bool) (T0 : List Bool) (I : hcI) (Q : hcQ), 5 + 11 * (8 - op) + (8 - no) ≤ d → op ≤ 8 → no ≤ 8 → tl - p < B → tl - p < n → p ≤ tl → RE S I R r c cd tl tp → I r 7 = nI key → ¬ 0 ≤ I r 0 → TKc I r tp tl p e → CD I r cd C A → j + W0.length + C.length + 4 ≤ p → loR 6 W0 → j + W0.count (-10) = no → T0.length = op → (∀ (q : Nat) (I' : hcI), mrun tp tl key n p e true (List.replicate j (-10) ++ W0) C A (t :: T0) no = Sum.inl q → FR r cd I I' → PF I' r tp tl q → Q none S I' R z) → (∀ I' : hcI, FR r cd I I' → I' r 0 = I r 0 → PP tp tl key j W0 (t :: T0) p (mrun tp tl key n p e true (List.replicate j (-10) ++ W0) C A (t :: T0) no) I' r cd → Q none S I' R z) → F d op no I Q
section L16
variable {g : hcG} {S : hcS} {R : hcR} {z : Nat} {r c cd tl key : Nat} {tp : Nat → Int32}
theorem below_level {B L : Nat} (hL : L < 4) (h : RdK S R z r c cd tl tp key B (L + 1) (15 - 2 * (L + 1)) (fun d op no I Q => Cl g mX2_takeLevel d 0 0 S I R z [.ref r, .int (nI (L + 1)), .int (nI op), .int (nI no)] Q)) : RdK S R z r c cd tl tp key B (L + 1) (14 - 2 * L) (fun d op no I Q => Cl g mX2_takeBelow d 0 0 S I R z [.ref r, .int (nI L), .int (nI op), .int (nI no)] Q) := by
  intro d op no n p e W C A t T0 I Q a1 a2 a3 a4 a5 a6 a7 a8 a9 a10 a11 a12 a13 a14 a15 a16 hF hO
  have s0 := a7.1.1
  refine Cl.go [some (.ref r), some (.int (nI L)), some (.int (nI op)), some (.int (nI no))] ?_
  refine v_aload_n (q := 1) dX2_takeBelow_0 (kk := ?_)
  refine v_getI (q := 4) fX2_35 (by assumption) (hd := dX2_takeBelow_1) (kk := ?_)
  refine v_if_ltT 8 dX2_takeBelow_4 (Int32.not_le.mp a9) (kt := ?_)
  refine v_iload_n (q := 9) dX2_takeBelow_8 (kk := ?_)
  refine v_iconst (v := 4) (q := 10) dX2_takeBelow_9 (kk := ?_)
  refine v_icmp_ltT 22 dX2_takeBelow_10 (nI_lt (b := 4) hL (by omega)) (kt := ?_)
  refine v_aload_n (q := 23) dX2_takeBelow_22 (kk := ?_)
  refine v_iload_n (q := 24) dX2_takeBelow_23 (kk := ?_)
  refine v_iconst (v := 1) (q := 25) dX2_takeBelow_24 (kk := ?_)
  refine v_iadd (q := 26) dX2_takeBelow_25 (kk := ?_)
  rw [nI_1]
  refine v_iload_n (q := 27) dX2_takeBelow_26 (kk := ?_)
  refine v_iload_n (q := 28) dX2_takeBelow_27 (kk := ?_)
  refine v_cV3 (N := mX2_takeLevel) (q := 31) lX2_50 iX2_takeLevel kX2_takeLevel (by assumption) dX2_takeBelow_28 (h (d - 1) op no n p e W C A t T0 I _ (by omega) a2 a3 a4 a5 a6 a7 a8 a9 a10 a11 a12 a13 a14 a15 a16 (fun q I1 m1 f1 pf => ?_) (fun I1 f1 k1 po => ?_)) (hdd := by omega)
  · refine v_vret dX2_takeBelow_31 (hQ := ?_)
    exact hF q I1 m1 f1 pf
  · refine v_vret dX2_takeBelow_31 (hQ := ?_)
    exact hO I1 f1 k1 po
theorem rh_le {p : Nat} {e : Int32} (hb : TBt tp tl) (hp : p ≤ tl) : rhF tp tl p e ≤ 5 := by
  unfold rhF
  split
  next h => exact (rkN_ok _ (hb _ (lxR_gt (e := e) hp (by omega)).2.2).2).2.2.1
  next => omega
theorem below_piece {B : Nat} (h : RdP S R z r c cd tl tp key B (fun d op no I Q => Cl g mX2_takePiece d 0 0 S I R z [.ref r, .int (nI op), .int (nI no)] Q)) : RdK S R z r c cd tl tp key B 5 6 (fun d op no I Q => Cl g mX2_takeBelow d 0 0 S I R z [.ref r, .int (nI 4), .int (nI op), .int (nI no)] Q) := by
  intro d op no n p e W C A t T0 I Q a1 a2 a3 a4 a5 a6 a7 a8 a9 a10 a11 a12 a13 a14 a15 a16 hF hO
  have s0 := a7.1.1
  refine Cl.go [some (.ref r), some (.int (nI 4)), some (.int (nI op)), some (.int (nI no))] ?_
  refine v_aload_n (q := 1) dX2_takeBelow_0 (kk := ?_)
  refine v_getI (q := 4) fX2_35 (by assumption) (hd := dX2_takeBelow_1) (kk := ?_)
  refine v_if_ltT 8 dX2_takeBelow_4 (Int32.not_le.mp a9) (kt := ?_)
  refine v_iload_n (q := 9) dX2_takeBelow_8 (kk := ?_)
  refine v_iconst (v := 4) (q := 10) dX2_takeBelow_9 (kk := ?_)
  refine v_icmp_ltF (q := 13) (t := 22) dX2_takeBelow_10 (by decide) (kf := ?_)
  refine v_aload_n (q := 14) dX2_takeBelow_13 (kk := ?_)
  refine v_iload_n (q := 15) dX2_takeBelow_14 (kk := ?_)
  refine v_iload_n (q := 16) dX2_takeBelow_15 (kk := ?_)
  refine v_cV2 (N := mX2_takePiece) (q := 19) lX2_107 iX2_takePiece kX2_takePiece (by assumption) dX2_takeBelow_16 (h (d - 1) op no n p e 0 W C A t T0 I _ (by omega) a2 a3 a4 a5 a6 a7 a8 a9 a10 a11 (by omega) a13 (by omega) a15 (fun q I1 m1 f1 pf => ?_) (fun I1 f1 k1 po => ?_)) (hdd := by omega)
  · refine v_goto 31 dX2_takeBelow_19 (kt := ?_)
    refine v_vret dX2_takeBelow_31 (hQ := ?_)
    exact hF q I1 m1 f1 pf
  · refine v_goto 31 dX2_takeBelow_19 (kt := ?_)
    refine v_vret dX2_takeBelow_31 (hQ := ?_)
    obtain ⟨n', p', e', X, A', q1, q2, q3, q4, q5, q6, q7⟩ := po
    exact hO I1 f1 k1 ⟨n', p', e', [], X, A', t, q1, q2, q3, q4, q5, q6, by simp only [List.length_nil]; omega, fun x hx => absurd hx List.not_mem_nil, fun _ => rfl, Or.inl (rh_le a7.2.2.2.1 q4)⟩
theorem level_below {B L : Nat} (hL : L ≤ 4) (hkey : key < 3) (h : RdK S R z r c cd tl tp key B (L + 1) (14 - 2 * L) (fun d op no I Q => Cl g mX2_takeBelow d 0 0 S I R z [.ref r, .int (nI L), .int (nI op), .int (nI no)] Q)) : RdK S R z r c cd tl tp key B L (15 - 2 * L) (fun d op no I Q => Cl g mX2_takeLevel d 0 0 S I R z [.ref r, .int (nI L), .int (nI op), .int (nI no)] Q) := by
  intro d op no n p e W C A t T0 I Q a1 a2 a3 a4 a5 a6 a7 a8 a9 a10 a11 a12 a13 a14 a15 a16 hF hO
  have s0 := a7.1.1
  have htl := a7.2.2.1
  have hb := a7.2.2.2.1
  have hcb := a7.2.2.2.2
  have sc := a7.1.2.2.2.2.1
  have r2 := a7.1.2.2.2.1
  have n1 := a7.1.2.2.2.2.2.1
  have n2 := a7.1.2.2.2.2.2.2.1
  have n3 := a7.1.2.2.2.2.2.2.2
  obtain ⟨res, hres⟩ : ∃ res, mrun tp tl key n p e true W C A (t :: T0) no = res := ⟨_, rfl⟩
  rw [hres] at hF hO
  -- a fault: the loop ends
  have flt : ∀ (q k : Nat) (I1 : hcI) (o : Option Value), k < 96 → res = Sum.inl q → FR r cd I I1 → PF I1 r tp tl q → V g mX2_takeLevel d 0 0 S I1 R z 10 [some (.ref r), some (.int (nI L)), some (.int (nI op)), some (.int (nI no)), some (.int (nI k)), o] [] Q := by
    intro q k I1 o hk m1 f1 pf
    refine v_iload (q := 12) dX2_takeLevel_10 (kk := ?_)
    refine v_bipush (v := 96) (q := 14) dX2_takeLevel_12 (kk := ?_)
    refine v_icmp_geF (q := 17) (t := 76) dX2_takeLevel_14 (fun hh => by have := (nI_leI (a := 96) (by omega) (by omega)).mp hh; omega) (kf := ?_)
    refine v_aload_n (q := 18) dX2_takeLevel_17 (kk := ?_)
    refine v_getI (q := 21) fX2_35 (by assumption) (hd := dX2_takeLevel_18) (kk := ?_)
    rw [pf.1]
    refine v_if_geT 76 dX2_takeLevel_21 (nI_le (a := 0) (by omega) (by have := pf.2.1; omega)) (kt := ?_)
    refine v_vret dX2_takeLevel_76 (hQ := ?_)
    exact hF q I1 m1 f1 pf
  have loop : ∀ (b k : Nat) (I1 : hcI) (o : Option Value) (n' p' : Nat) (e' : Int32) (P C' : List Int32) (A' : Nat) (t' : Bool), tl - p' < b → k + 4 ≤ p' → FR r cd I I1 → I1 r 0 = I r 0 → mrun tp tl key n' p' e' false (P ++ W) C' A' (t' :: T0) (W.count (-10)) = res → tl - p' < n' → p < p' → p' ≤ tl → TKc I1 r tp tl p' e' → CD I1 r cd (P.reverse ++ C') A' → P.length + W.length + C'.length + 4 ≤ p' → (∀ x ∈ P, hiR (L + 1) x) → (2 ≤ L → t' = t) → (rhF tp tl p' e' ≤ L + 1 ∨ (rhF tp tl p' e' = 3 ∧ t' = true ∧ L + 1 ≤ 2)) → V g mX2_takeLevel d 0 0 S I1 R z 10 [some (.ref r), some (.int (nI L)), some (.int (nI op)), some (.int (nI no)), some (.int (nI k)), o] [] Q := by
    intro b
    induction b with
    | zero => intro k I1 o n' p' e' P C' A' t' hb0; omega
    | succ b ih =>
      intro k I1 o n' p' e' P C' A' t' hb0 hk4 f1 k1 m1 hn' hpp hp' ht1 hc1 hl1 hP hT hE
      have re1 := a7.fr f1
      have hk5 := lxK_lt (tp := tp) (tl := tl) (p := p') (e := e')
      have hlv : (if ksF (lxK tp tl p' e') = 2 then lvH (tbF tp (lxQ tp tl p')) else -1) = nI (rhF tp tl p' e') - 1 := by
        unfold rhF
        by_cases c3 : lxK tp tl p' e' = 3
        · rw [if_pos ((ksF_2 hk5).mpr c3), if_pos c3]
          exact (rkN_ok _ (hb _ (lxR_gt (e := e') hp' (by omega)).2.2).2).1
        · rw [if_neg (fun hh => c3 ((ksF_2 hk5).mp hh)), if_neg c3]
          rfl
      have hrh := rh_le (e := e') hb hp'
      refine v_iload (q := 12) dX2_takeLevel_10 (kk := ?_)
      refine v_bipush (v := 96) (q := 14) dX2_takeLevel_12 (kk := ?_)
      refine v_icmp_geF (q := 17) (t := 76) dX2_takeLevel_14 (fun hh => by have := (nI_leI (a := 96) (by omega) (by omega)).mp hh; omega) (kf := ?_)
      refine v_aload_n (q := 18) dX2_takeLevel_17 (kk := ?_)
      refine v_getI (q := 21) fX2_35 (by assumption) (hd := dX2_takeLevel_18) (kk := ?_)
      refine v_if_geF (q := 24) (t := 76) dX2_takeLevel_21 (by rw [k1]; exact a9) (kf := ?_)
      refine v_aload_n (q := 25) dX2_takeLevel_24 (kk := ?_)
      refine v_cV0 (N := mX2_levelAtHand) (q := 28) lX2_100 iX2_levelAtHand kX2_levelAtHand (by assumption) dX2_takeLevel_25 (s_levelAtHand re1 ksF_lt ht1.2.2.1 ht1.1 (fun hh => (lxR_gt (e := e') hp' (by have := (ksF_2 hk5).mp hh; omega)).2.2) ?_) (hdd := by omega)
      rw [hlv]
      refine v_iload_n (q := 29) dX2_takeLevel_28 (kk := ?_)
      by_cases cr : rhF tp tl p' e' = L + 1
      · have c3 : lxK tp tl p' e' = 3 := by
          unfold rhF at cr
          by_cases c3 : lxK tp tl p' e' = 3
          · exact c3
          · rw [if_neg c3] at cr; omega
        have hgt := lxR_gt (e := e') (tp := tp) hp' (by omega)
        have hv := (hb _ hgt.2.2).2
        have cr' : rkN (tbF tp (lxQ tp tl p')) = L + 1 := by unfold rhF at cr; rw [if_pos c3] at cr; exact cr
        obtain ⟨v1, v2, v3, v4⟩ := rkN_ok _ hv
        obtain ⟨v5, v6, v7, v8⟩ := v4 (by omega)
        rw [cr'] at v5
        obtain ⟨n2', rfl⟩ : ∃ x, n' = x + 1 := ⟨n' - 1, by omega⟩
        have hs3 : rkF (sgF (tbF tp (lxQ tp tl p'))) = 3 ↔ L = 2 := by
          rw [v5]
          constructor
          · intro hh
            have := (nI_eq (b := 3) (by omega) (by omega)).mp hh
            omega
          · intro hh
            rw [hh]; rfl
        have hs3' : 3 < rkF (sgF (tbF tp (lxQ tp tl p'))) ↔ 3 ≤ L := by
          rw [v5]
          constructor
          · intro hh
            have := (nI_ltI (a := 3) (by omega) (by omega)).mp hh
            omega
          · intro hh
            exact nI_lt (a := 3) (by omega) (by omega)
        rw [mrun_sign (by omega) (fun hh => by have := hh.2.1; rw [this] at cr'; revert cr'; have : rkN 41 = 0 := by decide
                                               rw [this]; omega) (by
          rw [if_pos c3]
          rintro (hh | hh)
          · have := v2.mp hh; omega
          · have h2 := hs3.mp hh.1
            have h3 : t' = true := hh.2
            rw [hT (by omega), a16 (by omega)] at h3
            cases h3)] at m1
        have hst : stl (rkF (sgF (tbF tp (lxQ tp tl p')))) (P ++ W) C' = (W, P.reverse ++ C') := by
          rw [v5, stl_app (by omega) hP, stl_stop (by omega) a13]
        rw [hst] at m1
        obtain ⟨s, hs⟩ : ∃ s, sgF (tbF tp (lxQ tp tl p')) = s := ⟨_, rfl⟩
        rw [hs] at m1 v5 v6 v7 v8 hs3 hs3'
        obtain ⟨t2, ht2⟩ : ∃ t2, (decide (rkF s = 3) || (decide (3 < rkF s) && (t' :: T0).headD false)) = t2 := ⟨_, rfl⟩
        simp only [List.tail_cons] at m1
        rw [ht2] at m1
        have ht2' : t2 = (decide (L = 2) || (decide (3 ≤ L) && t')) := by
          rw [← ht2]
          simp only [List.headD_cons, hs3, hs3']
        have hcnt : (s :: W).count (-10) = no := by
          rw [List.count_cons, a14]
          simp [v6]
        rw [a14] at m1
        have t4 := ht1.1
        refine v_icmp_neF (q := 32) (t := 76) dX2_takeLevel_29 (by rw [cr]; exact (lv_ne (L + 1) (by omega) L (by omega)).mpr rfl) (kf := ?_)
        refine v_aload_n (q := 33) dX2_takeLevel_32 (kk := ?_)
        refine v_getR (q := 36) fX2_15 (by assumption) (by assumption) (hd := dX2_takeLevel_33) (kk := ?_)
        refine v_aload_n (q := 37) dX2_takeLevel_36 (kk := ?_)
        refine v_getI (q := 40) fX2_71 (by assumption) (hd := dX2_takeLevel_37) (kk := ?_)
        rw [t4]
        refine v_baldN (q := 41) sc (show lxQ tp tl p' < 96 by omega) (by omega) dX2_takeLevel_40 (kk := ?_)
        rw [f1.1 c n1 (fun hh => n3 hh.symm), hcb _ hgt.2.2]
        refine v_istore5 (q := 43) dX2_takeLevel_41 (kk := ?_)
        refine v_aload_n (q := 44) dX2_takeLevel_43 (kk := ?_)
        refine v_cV0 (N := mX2_goOn) (q := 47) lX2_44 iX2_goOn kX2_goOn (by assumption) dX2_takeLevel_44 (s_goOnT re1 hp' ht1 (Or.inr (Or.inr c3)) (fun I2 hM2 htk2 => ?_)) (hdd := by omega)
        have f2 : FR r cd I I2 := f1.trans hM2.fr
        have k2 : I2 r 0 = I r 0 := (hM2.2 0 (by omega)).trans k1
        have c2 : CD I2 r cd (P.reverse ++ C') A' := hc1.of (hM2.1 cd n2) (hM2.2 8 (by omega)) (hM2.2 9 (by omega))
        refine v_aload_n (q := 48) dX2_takeLevel_47 (kk := ?_)
        refine v_iload_n (q := 49) dX2_takeLevel_48 (kk := ?_)
        refine v_iload_n (q := 50) dX2_takeLevel_49 (kk := ?_)
        refine v_iload_n (q := 51) dX2_takeLevel_50 (kk := ?_)
        refine v_cV3 (N := mX2_takeBelow) (q := 54) lX2_97 iX2_takeBelow kX2_takeBelow (by assumption) dX2_takeLevel_51 (h (d - 1) op no n2' (lxR tp tl p') (lxE tp tl p' e') (s :: W) (P.reverse ++ C') A' t2 T0 I2 _ (by omega) a2 a3 (by omega) (by omega) hgt.2.1 (a7.fr f2) (f2.2.2.trans a8) (by rw [k2]; exact a9) htk2 c2 (by simp only [List.length_cons, List.length_append, List.length_reverse]; omega) (Or.inr ⟨L + 1, v5, by omega, by omega⟩) hcnt a15 (fun hl => by rw [ht2']; simp; omega) (fun q I3 m3 f3 pf => ?_) (fun I3 f3 k3 po => ?_)) (hdd := by omega)
        · rw [m3] at m1
          obtain ⟨w, hw1, hw2⟩ := pf.2.2.1
          refine v_aload_n (q := 55) dX2_takeLevel_54 (kk := ?_)
          refine v_sipush (v := 20000) (q := 58) dX2_takeLevel_55 (kk := ?_)
          refine v_iload (q := 60) dX2_takeLevel_58 (kk := ?_)
          refine v_iadd (q := 61) dX2_takeLevel_60 (kk := ?_)
          refine v_cV1 (N := mX2_write) (q := 64) lX2_103 iX2_write kX2_write (by assumption) dX2_takeLevel_61 (s_writeX (a7.fr (f2.trans f3)) hw2 hw1 (fun I4 f4 k4 w4 => ?_)) (hdd := by omega)
          have pf4 : PF I4 r tp tl q := by
            obtain ⟨px, ex, hpx, htx⟩ := pf.2.2.2
            exact ⟨(k4 0 (by omega)).trans pf.1, pf.2.1, w4, px, ex, hpx, htx.of (fun j b1 b2 => k4 j (by omega))⟩
          refine v_iload_n (q := 65) dX2_takeLevel_64 (kk := ?_)
          refine v_iconst (v := 2) (q := 66) dX2_takeLevel_65 (kk := ?_)
          by_cases l2 : L = 2
          · refine v_icmp_neF (q := 69) (t := 70) dX2_takeLevel_66 (by rw [l2]; rfl) (kf := ?_)
            refine v_vret dX2_takeLevel_69 (hQ := ?_)
            exact hF q I4 m1.symm ((f2.trans f3).trans f4) pf4
          · refine v_icmp_neT 70 dX2_takeLevel_66 (fun hh => l2 ((nI_eq (b := 2) (by omega) (by omega)).mp hh)) (kt := ?_)
            refine v_iinc4 (q := 73) dX2_takeLevel_70 (hv := nI_1 k) (kk := ?_)
            refine v_goto 10 dX2_takeLevel_73 (kt := ?_)
            exact flt q (k + 1) I4 _ (by omega) m1.symm ((f2.trans f3).trans f4) pf4
        · obtain ⟨n3', p3, e3, P3, C3, A3, t3, q1, q2, q3, q4, q5, q6, q7, q8, q9, q10⟩ := po
          rw [m1] at q1
          have f3' : FR r cd I I3 := f2.trans f3
          have hP3 : ∀ x ∈ P3 ++ [s], hiR (L + 1) x := by
            intro x hx
            rcases List.mem_append.mp hx with hx | hx
            · exact (q8 x hx).mono (by omega)
            · rw [List.mem_singleton.mp hx]
              exact ⟨v7, L + 1, v5, by omega, by omega⟩
          have happ : P3 ++ s :: W = (P3 ++ [s]) ++ W := by simp
          rw [happ, hcnt] at q1
          simp only [List.length_cons] at q7
          have hX : s :: (P3.reverse ++ C3) = (P3 ++ [s]).reverse ++ C3 := by simp
          refine v_aload_n (q := 55) dX2_takeLevel_54 (kk := ?_)
          refine v_sipush (v := 20000) (q := 58) dX2_takeLevel_55 (kk := ?_)
          refine v_iload (q := 60) dX2_takeLevel_58 (kk := ?_)
          refine v_iadd (q := 61) dX2_takeLevel_60 (kk := ?_)
          refine v_cV1 (N := mX2_write) (q := 64) lX2_103 iX2_write kX2_write (by assumption) dX2_takeLevel_61 (s_writeC (x := s) (a7.fr f3') q6 (by simp only [List.length_append, List.length_reverse]; omega) (by rw [v8]) (fun I4 f4 k4 c4 => ?_)) (hdd := by omega)
          have f4' : FR r cd I I4 := f3'.trans f4
          have k4' : I4 r 0 = I r 0 := ((k4 0 (by omega)).trans k3).trans k2
          rw [hX] at c4
          have htk4 : TKc I4 r tp tl p3 e3 := q5.of (fun j b1 b2 => k4 j (by omega))
          have hlen4 : (P3 ++ [s]).length + W.length + C3.length + 4 ≤ p3 := by simp only [List.length_append, List.length_cons, List.length_nil]; omega
          refine v_iload_n (q := 65) dX2_takeLevel_64 (kk := ?_)
          refine v_iconst (v := 2) (q := 66) dX2_takeLevel_65 (kk := ?_)
          by_cases l2 : L = 2
          · refine v_icmp_neF (q := 69) (t := 70) dX2_takeLevel_66 (by rw [l2]; rfl) (kf := ?_)
            refine v_vret dX2_takeLevel_69 (hQ := ?_)
            refine hO I4 f4' k4' ⟨n3', p3, e3, P3 ++ [s], C3, A3, t3, by rw [a14]; exact q1, q2, by omega, q4, htk4, c4, hlen4, hP3, fun hh => by omega, ?_⟩
            have h3 : t3 = t2 := q9 (by omega)
            have h4 : t2 = true := by rw [ht2', l2]; rfl
            rcases q10 with hh | hh
            · by_cases h5 : rhF tp tl p3 e3 = 3
              · exact Or.inr ⟨h5, h3.trans h4, by omega⟩
              · exact Or.inl (by omega)
            · omega
          · refine v_icmp_neT 70 dX2_takeLevel_66 (fun hh => l2 ((nI_eq (b := 2) (by omega) (by omega)).mp hh)) (kt := ?_)
            refine v_iinc4 (q := 73) dX2_takeLevel_70 (hv := nI_1 k) (kk := ?_)
            refine v_goto 10 dX2_takeLevel_73 (kt := ?_)
            refine ih (k + 1) I4 _ n3' p3 e3 (P3 ++ [s]) C3 A3 t3 (by omega) (by omega) f4' k4' (by rw [a14]; exact q1) q2 (by omega) q4 htk4 c4 hlen4 hP3 (fun hh => ?_) q10
            have h3 : t3 = t2 := q9 (by omega)
            rw [h3, ht2', hT hh]
            simp [l2, show 3 ≤ L by omega]
      · refine v_icmp_neT 76 dX2_takeLevel_29 (fun hh => cr ((lv_ne _ (by omega) L (by omega)).mp hh)) (kt := ?_)
        refine v_vret dX2_takeLevel_76 (hQ := ?_)
        refine hO I1 f1 k1 ⟨n', p', e', P, C', A', t', m1, hn', hpp, hp', ht1, hc1, hl1, hP, fun hh => hT (by omega), ?_⟩
        rcases hE with hh | hh
        · exact Or.inl (by omega)
        · exact Or.inr ⟨hh.1, hh.2.1, by omega⟩
  refine Cl.go [some (.ref r), some (.int (nI L)), some (.int (nI op)), some (.int (nI no)), none, none] ?_
  refine v_aload_n (q := 1) dX2_takeLevel_0 (kk := ?_)
  refine v_iload_n (q := 2) dX2_takeLevel_1 (kk := ?_)
  refine v_iload_n (q := 3) dX2_takeLevel_2 (kk := ?_)
  refine v_iload_n (q := 4) dX2_takeLevel_3 (kk := ?_)
  refine v_cV3 (N := mX2_takeBelow) (q := 7) lX2_97 iX2_takeBelow kX2_takeBelow (by assumption) dX2_takeLevel_4 (h (d - 1) op no n p e W C A t T0 I _ (by omega) a2 a3 a4 a5 a6 a7 a8 a9 a10 a11 a12 (a13.mono (by omega)) a14 a15 (fun hl => a16 (by omega)) (fun q I1 m1 f1 pf => ?_) (fun I1 f1 k1 po => ?_)) (hdd := by omega)
  · refine v_iconst (v := 0) (q := 8) dX2_takeLevel_7 (kk := ?_)
    refine v_istore4 (q := 10) dX2_takeLevel_8 (kk := ?_)
    exact flt q 0 I1 _ (by omega) (hres.symm.trans m1) f1 pf
  · obtain ⟨n', p', e', P, C', A', t', q1, q2, q3, q4, q5, q6, q7, q8, q9, q10⟩ := po
    rw [hres] at q1
    refine v_iconst (v := 0) (q := 8) dX2_takeLevel_7 (kk := ?_)
    refine v_istore4 (q := 10) dX2_takeLevel_8 (kk := ?_)
    exact loop (tl - p' + 1) 0 I1 _ n' p' e' P C' A' t' (by omega) (by omega) f1 k1 q1 q2 q3 q4 q5 q6 q7 (fun x hx => (q8 x hx).mono (by omega)) (fun hh => q9 (by omega)) q10
end L16
