theorem SW.sheet {so si ce : Nat → Int32} {sh s n : Int32} (h : SW so si) : SW (spSheet so si ce sh s n).2.1 (spSheet so si ce sh s n).2.2.1 := by
  unfold spSheet
  by_cases c : (0 ≤ sh ∧ sh < 4) ∧ (-1 ≤ s ∧ s ≤ 1)
  · rw [if_pos c]
    by_cases c1 : s = -1
    · rw [if_pos c1]
      intro k hk
      by_cases e : k = sh.toNatClampNeg
      · show (upd so _ _ k = _ ∨ _) ∧ _
        rw [e, upd_at]
        exact ⟨Or.inl rfl, 0, by show upd si _ _ _ = _; rw [upd_at]; rfl, by omega⟩
      · show (upd so _ _ k = _ ∨ upd so _ _ k = _ ∨ upd so _ _ k = _) ∧ ∃ x, upd si _ _ k = nI x ∧ _
        rw [upd_ne e, upd_ne e]
        exact h k hk
    · rw [if_neg c1]
      by_cases c2 : 24 < n
      · rw [if_pos c2]; exact h
      · rw [if_neg c2]
        by_cases c3 : n < 0
        · rw [if_pos c3]; exact h
        · rw [if_neg c3]
          intro k hk
          by_cases e : k = sh.toNatClampNeg
          · obtain ⟨j, hj, rfl⟩ := nI_of (x := n) c3
            have hj2 : j ≤ 24 := (nI_leI (b := 24) hj (by omega)).mp (Int32.not_lt.mp c2)
            have hs : s = 0 ∨ s = 1 := by
              have a1 := Int32.le_iff_toInt_le.mp c.2.1
              have a2 := Int32.le_iff_toInt_le.mp c.2.2
              rw [show (-1 : Int32).toInt = -1 from rfl] at a1
              rw [show (1 : Int32).toInt = 1 from rfl] at a2
              have a3 : ¬ s.toInt = -1 := fun hh => c1 (Int32.toInt_inj.mp hh)
              have : s.toInt = 0 ∨ s.toInt = 1 := by omega
              exact this.imp (fun hh => Int32.toInt_inj.mp hh) (fun hh => Int32.toInt_inj.mp hh)
            show (upd so _ _ k = _ ∨ upd so _ _ k = _ ∨ upd so _ _ k = _) ∧ ∃ x, upd si _ _ k = nI x ∧ _
            rw [e, upd_at, upd_at]
            exact ⟨Or.inr hs, j, rfl, hj2⟩
          · show (upd so _ _ k = _ ∨ upd so _ _ k = _ ∨ upd so _ _ k = _) ∧ ∃ x, upd si _ _ k = nI x ∧ _
            rw [upd_ne e, upd_ne e]
            exact h k hk
  · rw [if_neg c]; exact h
theorem spMark_k {so si ce : Nat → Int32} {sh p v : Int32} : (spMark so si ce sh p v).2.1 = so ∧ (spMark so si ce sh p v).2.2.1 = si := by
  unfold spMark
  repeat' split
  all_goals exact ⟨rfl, rfl⟩
theorem spCopy_k {so si ce : Nat → Int32} {f p t a n : Int32} : (spCopy so si ce f p t a n).2.1 = so ∧ (spCopy so si ce f p t a n).2.2.1 = si := by
  unfold spCopy
  repeat' split
  all_goals exact ⟨rfl, rfl⟩
