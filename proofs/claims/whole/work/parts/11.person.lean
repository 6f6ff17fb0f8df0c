section P1
variable {g : hcG} {S : hcS} {I : hcI} {R : hcR} {z : Nat} {Q : hcQ}
theorem hc_lt6 {j : Nat} (h : j < 6) : j = 0 ∨ j = 1 ∨ j = 2 ∨ j = 3 ∨ j = 4 ∨ j = 5 := by omega
theorem s_Person_init {a : Nat} (hQ : Q none S I R z) : Cl g mX1_init 1 0 0 S I R z [.ref a] Q := by
  refine Cl.go [some (.ref a)] ?_
  refine v_aload_n (q := 1) dX1_init_0 (kk := ?_)
  refine v_obj (q := 4) lX1_3 hc_oi hc_oc dX1_init_1 (kk := ?_)
  refine v_vret dX1_init_4 (hQ := ?_)
  exact hQ
theorem s_Person_becomes {a o : Nat} (ha : S a = some (1, 0)) (ho : S o = some (1, 0)) (hQ : ∀ I' : hcI, (∀ x, x ≠ a → I' x = I x) → (∀ j, j < 6 → I' a j = I o j) → Q none S I' R z) : Cl g mX1_becomes 0 0 0 S I R z [.ref a, .ref o] Q := by
  refine Cl.go [some (.ref a), some (.ref o)] ?_
  refine v_aload_n (q := 1) dX1_becomes_0 (kk := ?_)
  refine v_aload_n (q := 2) dX1_becomes_1 (kk := ?_)
  refine v_getI (q := 5) fX1_9 (by assumption) (hd := dX1_becomes_2) (kk := ?_)
  refine v_putI (q := 8) fX1_9 (by assumption) (hd := dX1_becomes_5) (kk := ?_)
  refine v_aload_n (q := 9) dX1_becomes_8 (kk := ?_)
  refine v_aload_n (q := 10) dX1_becomes_9 (kk := ?_)
  refine v_getI (q := 13) fX1_15 (by assumption) (hd := dX1_becomes_10) (kk := ?_)
  refine v_putI (q := 16) fX1_15 (by assumption) (hd := dX1_becomes_13) (kk := ?_)
  refine v_aload_n (q := 17) dX1_becomes_16 (kk := ?_)
  refine v_aload_n (q := 18) dX1_becomes_17 (kk := ?_)
  refine v_getI (q := 21) fX1_18 (by assumption) (hd := dX1_becomes_18) (kk := ?_)
  refine v_putI (q := 24) fX1_18 (by assumption) (hd := dX1_becomes_21) (kk := ?_)
  refine v_aload_n (q := 25) dX1_becomes_24 (kk := ?_)
  refine v_aload_n (q := 26) dX1_becomes_25 (kk := ?_)
  refine v_getI (q := 29) fX1_21 (by assumption) (hd := dX1_becomes_26) (kk := ?_)
  refine v_putI (q := 32) fX1_21 (by assumption) (hd := dX1_becomes_29) (kk := ?_)
  refine v_aload_n (q := 33) dX1_becomes_32 (kk := ?_)
  refine v_aload_n (q := 34) dX1_becomes_33 (kk := ?_)
  refine v_getI (q := 37) fX1_24 (by assumption) (hd := dX1_becomes_34) (kk := ?_)
  refine v_putI (q := 40) fX1_24 (by assumption) (hd := dX1_becomes_37) (kk := ?_)
  refine v_aload_n (q := 41) dX1_becomes_40 (kk := ?_)
  refine v_aload_n (q := 42) dX1_becomes_41 (kk := ?_)
  refine v_getI (q := 45) fX1_27 (by assumption) (hd := dX1_becomes_42) (kk := ?_)
  refine v_putI (q := 48) fX1_27 (by assumption) (hd := dX1_becomes_45) (kk := ?_)
  refine v_vret dX1_becomes_48 (hQ := ?_)
  refine hQ _ (fun x hx => ?_) (fun j hj => ?_)
  · funext j
    simp [hc_u, hx]
  · rcases hc_lt6 hj with rfl | rfl | rfl | rfl | rfl | rfl <;> simp [hc_u]
theorem s_Person_comesNew {a : Nat} {k s w : Int32} (ha : S a = some (1, 0)) (hQ : ∀ I' : hcI, (∀ x, x ≠ a → I' x = I x) → I' a 0 = k → I' a 1 = s → I' a 2 = w → I' a 3 = 0 → I' a 4 = 0 → I' a 5 = 0 → Q none S I' R z) : Cl g mX1_comesNew 0 0 0 S I R z [.ref a, .int k, .int s, .int w] Q := by
  refine Cl.go [some (.ref a), some (.int k), some (.int s), some (.int w)] ?_
  refine v_aload_n (q := 1) dX1_comesNew_0 (kk := ?_)
  refine v_iload_n (q := 2) dX1_comesNew_1 (kk := ?_)
  refine v_putI (q := 5) fX1_9 (by assumption) (hd := dX1_comesNew_2) (kk := ?_)
  refine v_aload_n (q := 6) dX1_comesNew_5 (kk := ?_)
  refine v_iload_n (q := 7) dX1_comesNew_6 (kk := ?_)
  refine v_putI (q := 10) fX1_15 (by assumption) (hd := dX1_comesNew_7) (kk := ?_)
  refine v_aload_n (q := 11) dX1_comesNew_10 (kk := ?_)
  refine v_iload_n (q := 12) dX1_comesNew_11 (kk := ?_)
  refine v_putI (q := 15) fX1_18 (by assumption) (hd := dX1_comesNew_12) (kk := ?_)
  refine v_aload_n (q := 16) dX1_comesNew_15 (kk := ?_)
  refine v_iconst (v := 0) (q := 17) dX1_comesNew_16 (kk := ?_)
  refine v_putI (q := 20) fX1_21 (by assumption) (hd := dX1_comesNew_17) (kk := ?_)
  refine v_aload_n (q := 21) dX1_comesNew_20 (kk := ?_)
  refine v_iconst (v := 0) (q := 22) dX1_comesNew_21 (kk := ?_)
  refine v_putI (q := 25) fX1_24 (by assumption) (hd := dX1_comesNew_22) (kk := ?_)
  refine v_aload_n (q := 26) dX1_comesNew_25 (kk := ?_)
  refine v_iconst (v := 0) (q := 27) dX1_comesNew_26 (kk := ?_)
  refine v_putI (q := 30) fX1_27 (by assumption) (hd := dX1_comesNew_27) (kk := ?_)
  refine v_vret dX1_comesNew_30 (hQ := ?_)
  refine hQ _ (fun x hx => ?_) ?_ ?_ ?_ ?_ ?_ ?_
  · funext j
    simp [hc_u, hx]
  all_goals simp [hc_u]
theorem s_Person_changeAge {a : Nat} {v : Int32} (ha : S a = some (1, 0)) (hQ : Q (some (.int (I a 2))) S (hc_u I a 2 v) R z) : Cl g mX1_changeAge 0 0 0 S I R z [.ref a, .int v] Q := by
  refine Cl.go [some (.ref a), some (.int v), none] ?_
  refine v_aload_n (q := 1) dX1_changeAge_0 (kk := ?_)
  refine v_getI (q := 4) fX1_18 (by assumption) (hd := dX1_changeAge_1) (kk := ?_)
  refine v_istore2 (q := 5) dX1_changeAge_4 (kk := ?_)
  refine v_aload_n (q := 6) dX1_changeAge_5 (kk := ?_)
  refine v_iload_n (q := 7) dX1_changeAge_6 (kk := ?_)
  refine v_putI (q := 10) fX1_18 (by assumption) (hd := dX1_changeAge_7) (kk := ?_)
  refine v_iload_n (q := 11) dX1_changeAge_10 (kk := ?_)
  refine v_iret dX1_changeAge_11 (hQ := ?_)
  exact hQ
theorem s_Person_changeItch {a : Nat} {v : Int32} (ha : S a = some (1, 0)) (hQ : Q (some (.int (I a 3))) S (hc_u I a 3 v) R z) : Cl g mX1_changeItch 0 0 0 S I R z [.ref a, .int v] Q := by
  refine Cl.go [some (.ref a), some (.int v), none] ?_
  refine v_aload_n (q := 1) dX1_changeItch_0 (kk := ?_)
  refine v_getI (q := 4) fX1_21 (by assumption) (hd := dX1_changeItch_1) (kk := ?_)
  refine v_istore2 (q := 5) dX1_changeItch_4 (kk := ?_)
  refine v_aload_n (q := 6) dX1_changeItch_5 (kk := ?_)
  refine v_iload_n (q := 7) dX1_changeItch_6 (kk := ?_)
  refine v_putI (q := 10) fX1_21 (by assumption) (hd := dX1_changeItch_7) (kk := ?_)
  refine v_iload_n (q := 11) dX1_changeItch_10 (kk := ?_)
  refine v_iret dX1_changeItch_11 (hQ := ?_)
  exact hQ
theorem s_Person_changeSweet {a : Nat} {v : Int32} (ha : S a = some (1, 0)) (hQ : Q (some (.int (I a 4))) S (hc_u I a 4 v) R z) : Cl g mX1_changeSweet 0 0 0 S I R z [.ref a, .int v] Q := by
  refine Cl.go [some (.ref a), some (.int v), none] ?_
  refine v_aload_n (q := 1) dX1_changeSweet_0 (kk := ?_)
  refine v_getI (q := 4) fX1_24 (by assumption) (hd := dX1_changeSweet_1) (kk := ?_)
  refine v_istore2 (q := 5) dX1_changeSweet_4 (kk := ?_)
  refine v_aload_n (q := 6) dX1_changeSweet_5 (kk := ?_)
  refine v_iload_n (q := 7) dX1_changeSweet_6 (kk := ?_)
  refine v_putI (q := 10) fX1_24 (by assumption) (hd := dX1_changeSweet_7) (kk := ?_)
  refine v_iload_n (q := 11) dX1_changeSweet_10 (kk := ?_)
  refine v_iret dX1_changeSweet_11 (hQ := ?_)
  exact hQ
/-- WORTH by kind, age, seat -/
def hc_worth (k : Nat) (age seat : Int32) : Int32 := match k with
  | 1 => age + 4
  | 2 => 100 - age
  | 3 => 2 * (age + 4)
  | 4 => 94 - age
  | 5 => seat
  | _ => age
theorem s_Person_worth {a k : Nat} (ha : S a = some (1, 0)) (hk : k < 6) (hk0 : I a 0 = nI k) (hQ : Q (some (.int (hc_worth k (I a 2) (I a 1)))) S I R z) : Cl g mX1_worth 0 0 0 S I R z [.ref a] Q := by
  refine Cl.go [some (.ref a)] ?_
  refine v_aload_n (q := 1) dX1_worth_0 (kk := ?_)
  refine v_getI (q := 4) fX1_9 (by assumption) (hd := dX1_worth_1) (kk := ?_)
  rw [hk0]
  rcases hc_lt6 hk with rfl | rfl | rfl | rfl | rfl | rfl
  · refine v_tsOut 80 dX1_worth_4 (by decide) (kt := ?_)
    refine v_aload_n (q := 81) dX1_worth_80 (kk := ?_)
    refine v_getI (q := 84) fX1_18 (by assumption) (hd := dX1_worth_81) (kk := ?_)
    refine v_iret dX1_worth_84 (hQ := ?_)
    exact hQ
  · refine v_tsIn 40 dX1_worth_4 (by decide) (by decide) (by rfl) (kt := ?_)
    refine v_aload_n (q := 41) dX1_worth_40 (kk := ?_)
    refine v_getI (q := 44) fX1_18 (by assumption) (hd := dX1_worth_41) (kk := ?_)
    refine v_iconst (v := 4) (q := 45) dX1_worth_44 (kk := ?_)
    refine v_iadd (q := 46) dX1_worth_45 (kk := ?_)
    refine v_iret dX1_worth_46 (hQ := ?_)
    exact hQ
  · refine v_tsIn 56 dX1_worth_4 (by decide) (by decide) (by rfl) (kt := ?_)
    refine v_bipush (v := 100) (q := 58) dX1_worth_56 (kk := ?_)
    refine v_aload_n (q := 59) dX1_worth_58 (kk := ?_)
    refine v_getI (q := 62) fX1_18 (by assumption) (hd := dX1_worth_59) (kk := ?_)
    refine v_isub (q := 63) dX1_worth_62 (kk := ?_)
    refine v_iret dX1_worth_63 (hQ := ?_)
    exact hQ
  · refine v_tsIn 47 dX1_worth_4 (by decide) (by decide) (by rfl) (kt := ?_)
    refine v_iconst (v := 2) (q := 48) dX1_worth_47 (kk := ?_)
    refine v_aload_n (q := 49) dX1_worth_48 (kk := ?_)
    refine v_getI (q := 52) fX1_18 (by assumption) (hd := dX1_worth_49) (kk := ?_)
    refine v_iconst (v := 4) (q := 53) dX1_worth_52 (kk := ?_)
    refine v_iadd (q := 54) dX1_worth_53 (kk := ?_)
    refine v_imul (q := 55) dX1_worth_54 (kk := ?_)
    refine v_iret dX1_worth_55 (hQ := ?_)
    exact hQ
  · refine v_tsIn 64 dX1_worth_4 (by decide) (by decide) (by rfl) (kt := ?_)
    refine v_bipush (v := 100) (q := 66) dX1_worth_64 (kk := ?_)
    refine v_aload_n (q := 67) dX1_worth_66 (kk := ?_)
    refine v_getI (q := 70) fX1_18 (by assumption) (hd := dX1_worth_67) (kk := ?_)
    refine v_isub (q := 71) dX1_worth_70 (kk := ?_)
    refine v_bipush (v := 6) (q := 73) dX1_worth_71 (kk := ?_)
    refine v_isub (q := 74) dX1_worth_73 (kk := ?_)
    refine v_iret dX1_worth_74 (hQ := ?_)
    have e : 100 - I a 2 - 6 = 94 - I a 2 := by grind
    rw [e]
    exact hQ
  · refine v_tsIn 75 dX1_worth_4 (by decide) (by decide) (by rfl) (kt := ?_)
    refine v_aload_n (q := 76) dX1_worth_75 (kk := ?_)
    refine v_getI (q := 79) fX1_15 (by assumption) (hd := dX1_worth_76) (kk := ?_)
    refine v_iret dX1_worth_79 (hQ := ?_)
    exact hQ
/-- of a kind, or of one under it -/
def hc_und (k : Nat) (o : Int32) : Prop := o = 0 ∨ nI k = o ∨ (o = 1 ∧ k = 3) ∨ (o = 2 ∧ k = 4)
theorem hc_und0 (o : Int32) : hc_und 0 o ↔ o = 0 := by
  unfold hc_und
  constructor
  · rintro (h | h | ⟨_, h⟩ | ⟨_, h⟩)
    · exact h
    · exact h.symm
    · omega
    · omega
  · exact Or.inl
theorem hc_und1 {k : Nat} (hk : k = 1 ∨ k = 2 ∨ k = 5) (o : Int32) : hc_und k o ↔ o = nI k ∨ o = 0 := by
  unfold hc_und
  constructor
  · rintro (h | h | ⟨_, h⟩ | ⟨_, h⟩)
    · exact Or.inr h
    · exact Or.inl h.symm
    · omega
    · omega
  · rintro (h | h)
    · exact Or.inr (Or.inl h.symm)
    · exact Or.inl h
theorem hc_und3 (o : Int32) : hc_und 3 o ↔ o = 3 ∨ o = 1 ∨ o = 0 := by
  unfold hc_und
  constructor
  · rintro (h | h | ⟨h, _⟩ | ⟨_, h⟩)
    · exact Or.inr (Or.inr h)
    · exact Or.inl h.symm
    · exact Or.inr (Or.inl h)
    · omega
  · rintro (h | h | h)
    · exact Or.inr (Or.inl h.symm)
    · exact Or.inr (Or.inr (Or.inl ⟨h, rfl⟩))
    · exact Or.inl h
theorem hc_und4 (o : Int32) : hc_und 4 o ↔ o = 4 ∨ o = 2 ∨ o = 0 := by
  unfold hc_und
  constructor
  · rintro (h | h | ⟨_, h⟩ | ⟨h, _⟩)
    · exact Or.inr (Or.inr h)
    · exact Or.inl h.symm
    · omega
    · exact Or.inr (Or.inl h)
  · rintro (h | h | h)
    · exact Or.inr (Or.inl h.symm)
    · exact Or.inr (Or.inr (Or.inr ⟨h, rfl⟩))
    · exact Or.inl h
theorem isOf_0 {a : Nat} {o : Int32} {n : Nat} (hn : n < 5) (h1 : o = 0 → Q (some (.int 1)) S I R z) (h0 : ¬ o = 0 → Q (some (.int 0)) S I R z) : V g mX1_isOf 0 0 0 S I R z 7 [some (.ref a), some (.int o), some (.int 0), some (.int (nI n))] [] Q := by
  refine v_iload_n (q := 8) dX1_isOf_7 (kk := ?_)
  refine v_bipush (v := 6) (q := 10) dX1_isOf_8 (kk := ?_)
  refine v_icmp_geF (q := 13) (t := 42) dX1_isOf_10 (fun h => absurd h (nI_ge (b := 6) (by omega) (by omega))) (kf := ?_)
  refine v_iload_n (q := 14) dX1_isOf_13 (kk := ?_)
  refine v_if_ltF (q := 17) (t := 42) dX1_isOf_14 (by decide) (kf := ?_)
  refine v_iload_n (q := 18) dX1_isOf_17 (kk := ?_)
  refine v_bipush (v := 6) (q := 20) dX1_isOf_18 (kk := ?_)
  refine v_icmp_geF (q := 23) (t := 42) dX1_isOf_20 (by decide) (kf := ?_)
  refine v_iload_n (q := 24) dX1_isOf_23 (kk := ?_)
  refine v_iload_n (q := 25) dX1_isOf_24 (kk := ?_)
  refine v_icmp_ne 30 (q := 28) dX1_isOf_25 (kt := fun c => ?_) (kf := fun c => ?_)
  · refine v_above (q := 33) nX1_30 dX1_isOf_30 (kk := ?_)
    refine v_iload_n (q := 34) dX1_isOf_33 (kk := ?_)
    refine v_aboveld (q := 35) (vp_in_nI (n := 0) (by omega) (by omega)) (hd := dX1_isOf_34) (kk := ?_)
    refine v_istore2 (q := 36) dX1_isOf_35 (kk := ?_)
    refine v_iinc3 (q := 39) dX1_isOf_36 (hv := nI_1 n) (kk := ?_)
    refine v_goto 7 dX1_isOf_39 (kt := ?_)
    refine v_iload_n (q := 8) dX1_isOf_7 (kk := ?_)
    refine v_bipush (v := 6) (q := 10) dX1_isOf_8 (kk := ?_)
    refine v_icmp_geF (q := 13) (t := 42) dX1_isOf_10 (fun h => absurd h (nI_ge (b := 6) (by omega) (by omega))) (kf := ?_)
    refine v_iload_n (q := 14) dX1_isOf_13 (kk := ?_)
    refine v_if_ltT 42 dX1_isOf_14 (by decide) (kt := ?_)
    refine v_iconst (v := 0) (q := 43) dX1_isOf_42 (kk := ?_)
    refine v_zret dX1_isOf_43 rfl (hQ := ?_)
    exact h0 (fun e => c e.symm)
  · refine v_iconst (v := 1) (q := 29) dX1_isOf_28 (kk := ?_)
    refine v_zret dX1_isOf_29 rfl (hQ := ?_)
    exact h1 c.symm
theorem isOf_1 {a k : Nat} (hk : k = 1 ∨ k = 2 ∨ k = 5) {o : Int32} {n : Nat} (hn : n < 4) (h1 : o = nI k ∨ o = 0 → Q (some (.int 1)) S I R z) (h0 : ¬ (o = nI k ∨ o = 0) → Q (some (.int 0)) S I R z) : V g mX1_isOf 0 0 0 S I R z 7 [some (.ref a), some (.int o), some (.int (nI k)), some (.int (nI n))] [] Q := by
  refine v_iload_n (q := 8) dX1_isOf_7 (kk := ?_)
  refine v_bipush (v := 6) (q := 10) dX1_isOf_8 (kk := ?_)
  refine v_icmp_geF (q := 13) (t := 42) dX1_isOf_10 (fun h => absurd h (nI_ge (b := 6) (by omega) (by omega))) (kf := ?_)
  refine v_iload_n (q := 14) dX1_isOf_13 (kk := ?_)
  refine v_if_ltF (q := 17) (t := 42) dX1_isOf_14 (nI_pos (by omega)) (kf := ?_)
  refine v_iload_n (q := 18) dX1_isOf_17 (kk := ?_)
  refine v_bipush (v := 6) (q := 20) dX1_isOf_18 (kk := ?_)
  refine v_icmp_geF (q := 23) (t := 42) dX1_isOf_20 (fun h => absurd h (nI_ge (b := 6) (by omega) (by omega))) (kf := ?_)
  refine v_iload_n (q := 24) dX1_isOf_23 (kk := ?_)
  refine v_iload_n (q := 25) dX1_isOf_24 (kk := ?_)
  refine v_icmp_ne 30 (q := 28) dX1_isOf_25 (kt := fun c => ?_) (kf := fun c => ?_)
  · refine v_above (q := 33) nX1_30 dX1_isOf_30 (kk := ?_)
    refine v_iload_n (q := 34) dX1_isOf_33 (kk := ?_)
    refine v_aboveld (q := 35) (vp_in_nI (by omega) (by omega)) (hd := dX1_isOf_34) (kk := ?_)
    have e : hc_above (nI k).toNatClampNeg = 0 := by
      rcases hk with rfl | rfl | rfl <;> rfl
    rw [e]
    refine v_istore2 (q := 36) dX1_isOf_35 (kk := ?_)
    refine v_iinc3 (q := 39) dX1_isOf_36 (hv := nI_1 n) (kk := ?_)
    refine v_goto 7 dX1_isOf_39 (kt := ?_)
    exact isOf_0 (by omega) (fun e => h1 (Or.inr e)) (fun e => h0 (fun h => h.elim (fun x => c x.symm) e))
  · refine v_iconst (v := 1) (q := 29) dX1_isOf_28 (kk := ?_)
    refine v_zret dX1_isOf_29 rfl (hQ := ?_)
    exact h1 (Or.inl c.symm)
theorem isOf_2 {a k j : Nat} (hk : (k = 3 ∧ j = 1) ∨ (k = 4 ∧ j = 2)) {o : Int32} {n : Nat} (hn : n < 3) (h1 : o = nI k ∨ o = nI j ∨ o = 0 → Q (some (.int 1)) S I R z) (h0 : ¬ (o = nI k ∨ o = nI j ∨ o = 0) → Q (some (.int 0)) S I R z) : V g mX1_isOf 0 0 0 S I R z 7 [some (.ref a), some (.int o), some (.int (nI k)), some (.int (nI n))] [] Q := by
  refine v_iload_n (q := 8) dX1_isOf_7 (kk := ?_)
  refine v_bipush (v := 6) (q := 10) dX1_isOf_8 (kk := ?_)
  refine v_icmp_geF (q := 13) (t := 42) dX1_isOf_10 (fun h => absurd h (nI_ge (b := 6) (by omega) (by omega))) (kf := ?_)
  refine v_iload_n (q := 14) dX1_isOf_13 (kk := ?_)
  refine v_if_ltF (q := 17) (t := 42) dX1_isOf_14 (nI_pos (by omega)) (kf := ?_)
  refine v_iload_n (q := 18) dX1_isOf_17 (kk := ?_)
  refine v_bipush (v := 6) (q := 20) dX1_isOf_18 (kk := ?_)
  refine v_icmp_geF (q := 23) (t := 42) dX1_isOf_20 (fun h => absurd h (nI_ge (b := 6) (by omega) (by omega))) (kf := ?_)
  refine v_iload_n (q := 24) dX1_isOf_23 (kk := ?_)
  refine v_iload_n (q := 25) dX1_isOf_24 (kk := ?_)
  refine v_icmp_ne 30 (q := 28) dX1_isOf_25 (kt := fun c => ?_) (kf := fun c => ?_)
  · refine v_above (q := 33) nX1_30 dX1_isOf_30 (kk := ?_)
    refine v_iload_n (q := 34) dX1_isOf_33 (kk := ?_)
    refine v_aboveld (q := 35) (vp_in_nI (by omega) (by omega)) (hd := dX1_isOf_34) (kk := ?_)
    have e : hc_above (nI k).toNatClampNeg = nI j := by
      rcases hk with ⟨rfl, rfl⟩ | ⟨rfl, rfl⟩ <;> rfl
    rw [e]
    refine v_istore2 (q := 36) dX1_isOf_35 (kk := ?_)
    refine v_iinc3 (q := 39) dX1_isOf_36 (hv := nI_1 n) (kk := ?_)
    refine v_goto 7 dX1_isOf_39 (kt := ?_)
    exact isOf_1 (by omega) (by omega) (fun e => h1 (Or.inr e)) (fun e => h0 (fun h => h.elim (fun x => c x.symm) e))
  · refine v_iconst (v := 1) (q := 29) dX1_isOf_28 (kk := ?_)
    refine v_zret dX1_isOf_29 rfl (hQ := ?_)
    exact h1 (Or.inl c.symm)
theorem s_Person_isOf {a k : Nat} {o : Int32} (ha : S a = some (1, 0)) (hk : k < 6) (hk0 : I a 0 = nI k) (h1 : hc_und k o → Q (some (.int 1)) S I R z) (h0 : ¬ hc_und k o → Q (some (.int 0)) S I R z) : Cl g mX1_isOf 0 0 0 S I R z [.ref a, .int o] Q := by
  refine Cl.go [some (.ref a), some (.int o), none, none] ?_
  refine v_aload_n (q := 1) dX1_isOf_0 (kk := ?_)
  refine v_getI (q := 4) fX1_9 (by assumption) (hd := dX1_isOf_1) (kk := ?_)
  rw [hk0]
  refine v_istore2 (q := 5) dX1_isOf_4 (kk := ?_)
  refine v_iconst (v := 0) (q := 6) dX1_isOf_5 (kk := ?_)
  refine v_istore3 (q := 7) dX1_isOf_6 (kk := ?_)
  have hz : (0 : Int32) = nI 0 := rfl
  rcases hc_lt6 hk with rfl | rfl | rfl | rfl | rfl | rfl
  · exact isOf_0 (n := 0) (by omega) (fun e => h1 ((hc_und0 o).mpr e)) (fun e => h0 (fun h => e ((hc_und0 o).mp h)))
  · exact isOf_1 (n := 0) (by omega) (by omega) (fun e => h1 ((hc_und1 (by omega) o).mpr e)) (fun e => h0 (fun h => e ((hc_und1 (by omega) o).mp h)))
  · exact isOf_1 (n := 0) (by omega) (by omega) (fun e => h1 ((hc_und1 (by omega) o).mpr e)) (fun e => h0 (fun h => e ((hc_und1 (by omega) o).mp h)))
  · exact isOf_2 (j := 1) (n := 0) (by omega) (by omega) (fun e => h1 ((hc_und3 o).mpr e)) (fun e => h0 (fun h => e ((hc_und3 o).mp h)))
  · exact isOf_2 (j := 2) (n := 0) (by omega) (by omega) (fun e => h1 ((hc_und4 o).mpr e)) (fun e => h0 (fun h => e ((hc_und4 o).mp h)))
  · exact isOf_1 (n := 0) (by omega) (by omega) (fun e => h1 ((hc_und1 (by omega) o).mpr e)) (fun e => h0 (fun h => e ((hc_und1 (by omega) o).mp h)))
end P1
section P2
variable {g : hcG} {S : hcS} {I : hcI} {R : hcR} {z : Nat} {Q : hcQ}
/-- a Row at a, its places at a + 1 -/
def RowAt (S : hcS) (R : hcR) (a : Nat) : Prop := S a = some (3, 0) ∧ S (a + 1) = some (10, 24) ∧ R a 0 = some (a + 1)
theorem s_Row_isNumber {a j : Nat} (ha : RowAt S R a) (hj : j < 24) (hQ : Q (some (.int (hc_b (¬ I (a + 1) j = -1000000005)))) S I R z) : Cl g mX3_isNumber 0 0 0 S I R z [.ref a, .int (nI j)] Q := by
  obtain ⟨h1, h2, h3⟩ := ha
  refine Cl.go [some (.ref a), some (.int (nI j))] ?_
  refine v_aload_n (q := 1) dX3_isNumber_0 (kk := ?_)
  refine v_getR (q := 4) fX3_9 (by assumption) (by assumption) (hd := dX3_isNumber_1) (kk := ?_)
  refine v_iload_n (q := 5) dX3_isNumber_4 (kk := ?_)
  refine v_ialdN (q := 6) (by assumption) (by assumption) (by decide) (hd := dX3_isNumber_5) (kk := ?_)
  refine v_ldc (q := 8) cX3_22 dX3_isNumber_6 (kk := ?_)
  refine v_icmp_eq 15 (q := 11) dX3_isNumber_8 (kt := fun c => ?_) (kf := fun c => ?_)
  · refine v_iconst (v := 0) (q := 16) dX3_isNumber_15 (kk := ?_)
    refine v_zret dX3_isNumber_16 rfl (hQ := ?_)
    rwa [hc_bf (fun h => h c)] at hQ
  · refine v_iconst (v := 1) (q := 12) dX3_isNumber_11 (kk := ?_)
    refine v_goto 16 dX3_isNumber_12 (kt := ?_)
    refine v_zret dX3_isNumber_16 rfl (hQ := ?_)
    rwa [hc_bt c] at hQ
theorem s_Row_hasStretch {a : Nat} {x y : Int32} (ha : RowAt S R a) (hQ : Q (some (.int (hc_b (0 ≤ y ∧ y ≤ I a 2 ∧ 0 ≤ x ∧ x ≤ I a 2 - y)))) S I R z) : Cl g mX3_hasStretch 0 0 0 S I R z [.ref a, .int x, .int y] Q := by
  obtain ⟨h1, h2, h3⟩ := ha
  refine Cl.go [some (.ref a), some (.int x), some (.int y)] ?_
  refine v_iload_n (q := 1) dX3_hasStretch_0 (kk := ?_)
  refine v_if_lt 30 (q := 4) dX3_hasStretch_1 (kt := fun c => ?_) (kf := fun c => ?_)
  · refine v_iconst (v := 0) (q := 31) dX3_hasStretch_30 (kk := ?_)
    refine v_zret dX3_hasStretch_31 rfl (hQ := ?_)
    rwa [hc_bf (fun h => Int32.not_le.mpr c h.1)] at hQ
  · refine v_iload_n (q := 5) dX3_hasStretch_4 (kk := ?_)
    refine v_aload_n (q := 6) dX3_hasStretch_5 (kk := ?_)
    refine v_getI (q := 9) fX3_19 (by assumption) (hd := dX3_hasStretch_6) (kk := ?_)
    refine v_icmp_gt 30 (q := 12) dX3_hasStretch_9 (kt := fun c2 => ?_) (kf := fun c2 => ?_)
    · refine v_iconst (v := 0) (q := 31) dX3_hasStretch_30 (kk := ?_)
      refine v_zret dX3_hasStretch_31 rfl (hQ := ?_)
      rwa [hc_bf (fun h => Int32.not_le.mpr c2 h.2.1)] at hQ
    · refine v_iload_n (q := 13) dX3_hasStretch_12 (kk := ?_)
      refine v_if_lt 30 (q := 16) dX3_hasStretch_13 (kt := fun c3 => ?_) (kf := fun c3 => ?_)
      · refine v_iconst (v := 0) (q := 31) dX3_hasStretch_30 (kk := ?_)
        refine v_zret dX3_hasStretch_31 rfl (hQ := ?_)
        rwa [hc_bf (fun h => Int32.not_le.mpr c3 h.2.2.1)] at hQ
      · refine v_iload_n (q := 17) dX3_hasStretch_16 (kk := ?_)
        refine v_aload_n (q := 18) dX3_hasStretch_17 (kk := ?_)
        refine v_getI (q := 21) fX3_19 (by assumption) (hd := dX3_hasStretch_18) (kk := ?_)
        refine v_iload_n (q := 22) dX3_hasStretch_21 (kk := ?_)
        refine v_isub (q := 23) dX3_hasStretch_22 (kk := ?_)
        refine v_icmp_gt 30 (q := 26) dX3_hasStretch_23 (kt := fun c4 => ?_) (kf := fun c4 => ?_)
        · refine v_iconst (v := 0) (q := 31) dX3_hasStretch_30 (kk := ?_)
          refine v_zret dX3_hasStretch_31 rfl (hQ := ?_)
          rwa [hc_bf (fun h => Int32.not_le.mpr c4 h.2.2.2)] at hQ
        · refine v_iconst (v := 1) (q := 27) dX3_hasStretch_26 (kk := ?_)
          refine v_goto 31 dX3_hasStretch_27 (kt := ?_)
          refine v_zret dX3_hasStretch_31 rfl (hQ := ?_)
          rwa [hc_bt ⟨Int32.not_lt.mp c, Int32.not_lt.mp c2, Int32.not_lt.mp c3, Int32.not_lt.mp c4⟩] at hQ
theorem clears_loop {a : Nat} {s n : Int32} (ha : RowAt S R a) (k : Nat) : ∀ (i : Nat) (I' : hcI), i + k = 24 → (∀ x, x ≠ a + 1 → I' x = I x) → (∀ j, j < i → I' (a + 1) j = 0) → (∀ I2 : hcI, (∀ x, x ≠ a + 1 → I2 x = I x) → (∀ j, j < 24 → I2 (a + 1) j = 0) → V g mX3_clears 0 0 0 S I2 R z 21 [some (.ref a), some (.int s), some (.int n), some (.int 24)] [] Q) → V g mX3_clears 0 0 0 S I' R z 2 [some (.ref a), some (.int s), some (.int n), some (.int (nI i))] [] Q := by
  obtain ⟨h1, h2, h3⟩ := ha
  induction k with
  | zero =>
    intro i I' hi hf hz hK
    have e : i = 24 := by omega
    subst e
    refine v_iload_n (q := 3) dX3_clears_2 (kk := ?_)
    refine v_bipush (v := 24) (q := 5) dX3_clears_3 (kk := ?_)
    refine v_icmp_geT 21 dX3_clears_5 (by decide) (kt := ?_)
    exact hK I' hf hz
  | succ k ih =>
    intro i I' hi hf hz hK
    refine v_iload_n (q := 3) dX3_clears_2 (kk := ?_)
    refine v_bipush (v := 24) (q := 5) dX3_clears_3 (kk := ?_)
    refine v_icmp_geF (q := 8) (t := 21) dX3_clears_5 (nI_ge (b := 24) (by omega) (by omega)) (kf := ?_)
    refine v_aload_n (q := 9) dX3_clears_8 (kk := ?_)
    refine v_getR (q := 12) fX3_9 (by assumption) (by assumption) (hd := dX3_clears_9) (kk := ?_)
    refine v_iload_n (q := 13) dX3_clears_12 (kk := ?_)
    refine v_iconst (v := 0) (q := 14) dX3_clears_13 (kk := ?_)
    refine v_iastN (q := 15) (by assumption) (by omega) (by decide) (hd := dX3_clears_14) (kk := ?_)
    refine v_iinc3 (q := 18) dX3_clears_15 (hv := nI_1 i) (kk := ?_)
    refine v_goto 2 dX3_clears_18 (kt := ?_)
    refine ih (i + 1) _ (by omega) (fun x hx => ?_) (fun j hj => ?_) hK
    · rw [hc_u_ne hx]
      exact hf x hx
    · by_cases e : j = i
      · simp [hc_u, e]
      · simp only [hc_u, e, and_false, if_false]
        exact hz j (by omega)
theorem s_Row_clears {a : Nat} {s n : Int32} (ha : RowAt S R a) (hQ : ∀ I' : hcI, (∀ x, x ≠ a → x ≠ a + 1 → I' x = I x) → (∀ j, j < 24 → I' (a + 1) j = 0) → I' a 1 = s → I' a 2 = n → Q none S I' R z) : Cl g mX3_clears 0 0 0 S I R z [.ref a, .int s, .int n] Q := by
  refine Cl.go [some (.ref a), some (.int s), some (.int n), none] ?_
  refine v_iconst (v := 0) (q := 1) dX3_clears_0 (kk := ?_)
  refine v_istore3 (q := 2) dX3_clears_1 (kk := ?_)
  refine clears_loop (n := n) ha 24 0 I (by omega) (fun _ _ => rfl) (fun j hj => by omega) (fun I2 h1 h2 => ?_)
  obtain ⟨r1, r2, r3⟩ := ha
  refine v_aload_n (q := 22) dX3_clears_21 (kk := ?_)
  refine v_iload_n (q := 23) dX3_clears_22 (kk := ?_)
  refine v_putI (q := 26) fX3_15 (by assumption) (hd := dX3_clears_23) (kk := ?_)
  refine v_aload_n (q := 27) dX3_clears_26 (kk := ?_)
  refine v_iload_n (q := 28) dX3_clears_27 (kk := ?_)
  refine v_putI (q := 31) fX3_19 (by assumption) (hd := dX3_clears_28) (kk := ?_)
  refine v_vret dX3_clears_31 (hQ := ?_)
  refine hQ _ (fun x hx hx2 => ?_) (fun j hj => ?_) ?_ ?_
  · rw [hc_u_ne hx, hc_u_ne hx]
    exact h1 x hx2
  · rw [hc_u_ne (by omega), hc_u_ne (by omega)]
    exact h2 j hj
  · simp [hc_u]
  · simp [hc_u]
end P2
