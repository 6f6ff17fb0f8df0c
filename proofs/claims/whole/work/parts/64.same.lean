/-- the class's sort of a kind -/
def ksF (k : Nat) : Nat := if k = 0 then 3 else if k = 1 then 0 else if k = 2 then 1 else if k = 3 then 2 else 4
/-- both sides know alike where the last word ended -/
def LI (e : Int32) (p s : Nat) : Prop := (s < 2 → e = nI p) ∧ (¬ s < 2 → ∀ j, p ≤ j → j ≤ 96 → ¬ nI j = e)
theorem lxQ_le {tp : Nat → Int32} {tl p : Nat} (hp : p ≤ tl) : p ≤ lxQ tp tl p ∧ lxQ tp tl p ≤ tl := by
  have := scn_ge (fun j => decide (tbF tp j = 32)) (tl - p) p
  unfold lxQ
  omega
theorem scn_pos {f : Nat → Bool} {n p : Nat} (hn : 0 < n) (h : f p = true) : p < scn f n p := by
  obtain ⟨k, rfl⟩ : ∃ k, n = k + 1 := ⟨n - 1, by omega⟩
  simp only [scn]
  rw [if_pos h]
  have := scn_ge f k (p + 1)
  omega
theorem lxR_le {tp : Nat → Int32} {tl p : Nat} (hp : p ≤ tl) : lxQ tp tl p ≤ lxR tp tl p ∧ lxR tp tl p ≤ tl ∧ (lxQ tp tl p < tl → lxQ tp tl p < lxR tp tl p) := by
  have h1 := lxQ_le (tp := tp) hp
  have h2 := scn_ge (fun j => bLt (tbF tp j)) (tl - lxQ tp tl p) (lxQ tp tl p)
  have h3 := scn_ge (fun j => bFg (tbF tp j)) (tl - lxQ tp tl p) (lxQ tp tl p)
  unfold lxR
  by_cases c : lxQ tp tl p = tl
  · rw [if_pos c]
    exact ⟨by omega, by omega, by omega⟩
  · rw [if_neg c]
    by_cases c1 : bLt (tbF tp (lxQ tp tl p)) = true
    · rw [if_pos c1]
      exact ⟨by omega, by omega, fun h => scn_pos (by omega) c1⟩
    · rw [if_neg c1]
      by_cases c2 : bFg (tbF tp (lxQ tp tl p)) = true
      · rw [if_pos c2]
        exact ⟨by omega, by omega, fun h => scn_pos (by omega) c2⟩
      · rw [if_neg c2]
        exact ⟨by omega, by omega, by omega⟩
theorem LI_close {tp : Nat → Int32} {tl p s : Nat} {e : Int32} (hp : p ≤ tl) (htl : tl ≤ 96) (h : LI e p s) : nI (lxQ tp tl p) = e ↔ (decide (s < 2) = true ∧ lxQ tp tl p = p) := by
  have h1 := lxQ_le (tp := tp) hp
  by_cases c : s < 2
  · rw [h.1 c]
    constructor
    · intro hh
      exact ⟨decide_eq_true c, (nI_eq (by omega) (by omega)).mp hh⟩
    · intro hh
      rw [hh.2]
  · constructor
    · intro hh
      exact absurd hh (h.2 c _ h1.1 (by omega))
    · intro hh
      exact absurd (of_decide_eq_true hh.1) c
theorem lx_same {tp : Nat → Int32} {tl p s : Nat} {e : Int32} (hp : p ≤ tl) (htl : tl ≤ 96) (h : LI e p s) : lxC tp tl p (decide (s < 2)) = ksF (lxK tp tl p e) := by
  have hcl := LI_close (tp := tp) hp htl h
  unfold lxC lxK
  by_cases c : lxQ tp tl p = tl
  · rw [if_pos c, if_pos c]; rfl
  · rw [if_neg c, if_neg c]
    by_cases c1 : bLt (tbF tp (lxQ tp tl p)) = true
    · rw [if_pos c1, if_pos c1]
      by_cases c3 : nI (lxQ tp tl p) = e
      · rw [if_pos c3, if_pos (hcl.mp c3)]; rfl
      · rw [if_neg c3, if_neg (fun hh => c3 (hcl.mpr hh))]; rfl
    · rw [if_neg c1, if_neg c1]
      by_cases c2 : bFg (tbF tp (lxQ tp tl p)) = true
      · rw [if_pos c2, if_pos c2]
        by_cases c3 : nI (lxQ tp tl p) = e ∨ 4 < lxR tp tl p - lxQ tp tl p
        · rw [if_pos c3, if_pos (c3.imp hcl.mp id)]; rfl
        · rw [if_neg c3, if_neg (fun hh => c3 (hh.imp hcl.mpr id))]; rfl
      · rw [if_neg c2, if_neg c2]; rfl
theorem LI_next {tp : Nat → Int32} {tl p s : Nat} {e : Int32} (hp : p ≤ tl) (htl : tl ≤ 96) (h : LI e p s) (hk : lxK tp tl p e = 1 ∨ lxK tp tl p e = 2 ∨ lxK tp tl p e = 3) : LI (lxE tp tl p e) (lxR tp tl p) (ksF (lxK tp tl p e)) := by
  have h1 := lxQ_le (tp := tp) hp
  have h2 := lxR_le (tp := tp) hp
  have ct : ¬ lxQ tp tl p = tl := fun c => by
    have : lxK tp tl p e = 0 := by unfold lxK; rw [if_pos c]
    omega
  have hE : lxE tp tl p e = if bLt (tbF tp (lxQ tp tl p)) = true ∨ bFg (tbF tp (lxQ tp tl p)) = true then nI (lxR tp tl p) else e := by unfold lxE; rw [if_neg ct]
  by_cases cw : bLt (tbF tp (lxQ tp tl p)) = true ∨ bFg (tbF tp (lxQ tp tl p)) = true
  · rw [if_pos cw] at hE
    have hk2 : ksF (lxK tp tl p e) < 2 := by
      have hne : lxK tp tl p e ≠ 3 := by
        unfold lxK
        rw [if_neg ct]
        by_cases c1 : bLt (tbF tp (lxQ tp tl p)) = true
        · rw [if_pos c1]; split <;> omega
        · rw [if_neg c1, if_pos (cw.resolve_left c1)]; split <;> omega
      rcases hk with hk | hk | hk
      · rw [hk]; decide
      · rw [hk]; decide
      · exact absurd hk hne
    exact ⟨fun _ => hE, fun hh => absurd hk2 hh⟩
  · rw [if_neg cw] at hE
    have k3 : lxK tp tl p e = 3 := by
      unfold lxK
      rw [if_neg ct, if_neg (fun hh => cw (Or.inl hh)), if_neg (fun hh => cw (Or.inr hh))]
    rw [k3, hE]
    refine ⟨fun hh => absurd hh (by decide), fun _ j hj hj2 => ?_⟩
    have h3 := h2.2.2 (by omega)
    by_cases c : s < 2
    · rw [h.1 c]
      intro hh
      have := (nI_eq (by omega) (by omega)).mp hh
      omega
    · exact h.2 c j (by omega) hj2
theorem LI_0 : LI (-1) 0 2 := ⟨fun h => by omega, fun _ j _ hj hh => by
  have := nI_pos (n := j) (by omega)
  rw [hh] at this
  exact this (by decide)⟩
