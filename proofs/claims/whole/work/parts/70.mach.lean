/-! the reading of a TEXT as a machine over lists: W the signs that wait (the last first), C the codes (the last first), A the leaves, T which open ones have had a test -/
def lsF (f : Nat → Int32) : Nat → List Int32
  | 0 => []
  | n + 1 => f n :: lsF f n
theorem lsF_congr {f f' : Nat → Int32} : ∀ n, (∀ j, j < n → f j = f' j) → lsF f n = lsF f' n
  | 0, _ => rfl
  | n + 1, h => by
    simp only [lsF]
    rw [h n (by omega), lsF_congr n (fun j hj => h j (by omega))]
theorem lsF_len (f : Nat → Int32) : ∀ n, (lsF f n).length = n
  | 0 => rfl
  | n + 1 => by simp only [lsF, List.length_cons, lsF_len f n]
theorem lsF_upd {f : Nat → Int32} {n : Nat} {v : Int32} : lsF (upd f n v) (n + 1) = v :: lsF f n := by
  simp only [lsF]
  rw [upd_at, lsF_congr n (fun j hj => upd_ne (by omega))]
theorem lsF_nt (w : Nat → Int32) : ∀ n, (lsF w n).count (-10) = ntC w n
  | 0 => rfl
  | n + 1 => by
    simp only [lsF, ntC, List.count_cons, lsF_nt w n, beq_iff_eq]
def stl (l : Int32) : List Int32 → List Int32 → List Int32 × List Int32
  | [], C => ([], C)
  | x :: W, C => if ¬ x = -11 ∧ l ≤ rkF x then stl l W (x :: C) else (x :: W, C)
theorem stl_ls (w : Nat → Int32) (l : Int32) : ∀ (h k : Nat) (cd : Nat → Int32), stl l (lsF w h) (lsF cd k) = (lsF w (stH w l h), lsF (cdS cd w k h (h - stH w l h)) (k + (h - stH w l h)))
  | 0, k, cd => by
    simp only [lsF, stl, stH]
    exact Prod.ext rfl (lsF_congr k (f := cd) (f' := cdS cd w k 0 (0 - 0)) (fun j hj => by unfold cdS; rw [if_neg (by omega)]))
  | h + 1, k, cd => by
    have hle := stH_le w l h
    simp only [lsF, stl, stH]
    by_cases c : ¬ w h = -11 ∧ l ≤ rkF (w h)
    · rw [if_pos c, if_pos c, ← lsF_upd, stl_ls w l h (k + 1) (upd cd k (w h))]
      refine Prod.ext rfl ?_
      show lsF _ _ = lsF _ _
      rw [show k + 1 + (h - stH w l h) = k + (h + 1 - stH w l h) by omega]
      refine lsF_congr _ (fun i hi => ?_)
      unfold cdS
      by_cases ei : i = k
      · rw [ei, if_neg (by omega), if_pos (by omega), upd_at, Nat.sub_self]
        rfl
      · rw [upd_ne ei]
        by_cases ci : k ≤ i ∧ i < k + (h + 1 - stH w l h)
        · rw [if_pos (by omega), if_pos ci]
          congr 1
          omega
        · rw [if_neg (by omega), if_neg ci]
    · rw [if_neg c, if_neg c]
      refine Prod.ext rfl ?_
      show lsF cd k = lsF _ _
      rw [show k + (h + 1 - (h + 1)) = k by omega]
      exact lsF_congr k (fun j hj => by unfold cdS; rw [if_neg (by omega)])
theorem stl_len (l : Int32) : ∀ (W C : List Int32), (stl l W C).1.length + (stl l W C).2.length = W.length + C.length
  | [], C => by simp [stl]
  | x :: W, C => by
    simp only [stl]
    split
    · rw [stl_len l W (x :: C)]
      simp only [List.length_cons]
      omega
    · rfl
/-- ranks as numbers -/
def hiR (k : Nat) (x : Int32) : Prop := ¬ x = -11 ∧ ∃ ρ, rkF x = nI ρ ∧ k ≤ ρ ∧ ρ ≤ 6
def loR (k : Nat) : List Int32 → Prop
  | [] => True
  | x :: _ => x = -11 ∨ ∃ ρ, rkF x = nI ρ ∧ ρ < k ∧ ρ ≤ 6
theorem stl_app {k : Nat} (hk : k ≤ 6) : ∀ {P W C : List Int32}, (∀ x ∈ P, hiR k x) → stl (nI k) (P ++ W) C = stl (nI k) W (P.reverse ++ C)
  | [], W, C, _ => rfl
  | x :: P, W, C, h => by
    obtain ⟨h1, ρ, h2, h3, h4⟩ := h x List.mem_cons_self
    show stl (nI k) (x :: (P ++ W)) C = _
    simp only [stl]
    rw [if_pos ⟨h1, by rw [h2]; exact nI_le h3 (by omega)⟩, stl_app hk (fun y hy => h y (List.mem_cons_of_mem _ hy))]
    simp
theorem stl_stop {k : Nat} (hk : k ≤ 6) : ∀ {W C : List Int32}, loR k W → stl (nI k) W C = (W, C)
  | [], C, _ => rfl
  | x :: W, C, h => by
    simp only [stl]
    rw [if_neg]
    rintro ⟨h1, h2⟩
    rcases h with h | ⟨ρ, h3, h4, h5⟩
    · exact h1 h
    · rw [h3] at h2
      have := (nI_leI (by omega) (by omega)).mp h2
      omega
theorem loR.mono {k k' : Nat} (hk : k ≤ k') : ∀ {W : List Int32}, loR k W → loR k' W
  | [], _ => trivial
  | x :: W, h => h.imp id (fun ⟨ρ, h1, h2, h3⟩ => ⟨ρ, h1, by omega, h3⟩)
theorem hiR.mono {k k' : Nat} {x : Int32} (hk : k' ≤ k) (h : hiR k x) : hiR k' x := ⟨h.1, by
  obtain ⟨ρ, h1, h2, h3⟩ := h.2
  exact ⟨ρ, h1, by omega, h3⟩⟩
theorem hiR_not : hiR 6 (-10) := ⟨by decide, 6, by decide, by omega, by omega⟩
section
variable (tp : Nat → Int32) (tl key : Nat)
def mrun : Nat → Nat → Int32 → Bool → List Int32 → List Int32 → Nat → List Bool → Nat → Nat ⊕ (List Int32 × Nat)
  | 0, _, _, _, _, _, _, _, _ => Sum.inl 0
  | n + 1, p, e, true, W, C, A, T, nt =>
    if lxK tp tl p e = 3 ∧ tbF tp (lxQ tp tl p) = 33 ∧ nt < 8 then mrun n (lxR tp tl p) (lxE tp tl p e) true (-10 :: W) C A T (List.count (-10) (-10 :: W))
    else if lxK tp tl p e = 3 ∧ tbF tp (lxQ tp tl p) = 40 ∧ T.length < 9 then mrun n (lxR tp tl p) (lxE tp tl p e) true (-11 :: W) C A (false :: T) (List.count (-10) (-11 :: W))
    else match lfF tp tl key p e with
      | none => Sum.inl (lxQ tp tl p)
      | some c => mrun n (lxR tp tl p) (lxE tp tl p e) false (stl 6 W (c :: C)).1 (stl 6 W (c :: C)).2 (A + 1) T (List.count (-10) (stl 6 W (c :: C)).1)
  | n + 1, p, e, false, W, C, A, T, nt =>
    if lxK tp tl p e = 0 then (if T.length = 1 then Sum.inr ((stl 0 W C).2, A) else Sum.inl (lxQ tp tl p))
    else if lxK tp tl p e = 3 ∧ tbF tp (lxQ tp tl p) = 41 ∧ 1 < T.length then mrun n (lxR tp tl p) (lxE tp tl p e) false (stl 6 (stl 0 W C).1.tail (stl 0 W C).2).1 (stl 6 (stl 0 W C).1.tail (stl 0 W C).2).2 A T.tail (List.count (-10) (stl 6 (stl 0 W C).1.tail (stl 0 W C).2).1)
    else if (if lxK tp tl p e = 3 then sgF (tbF tp (lxQ tp tl p)) else 0) = 0 ∨ (rkF (sgF (tbF tp (lxQ tp tl p))) = 3 ∧ T.headD false = true) then Sum.inl (lxQ tp tl p)
    else mrun n (lxR tp tl p) (lxE tp tl p e) true (sgF (tbF tp (lxQ tp tl p)) :: (stl (rkF (sgF (tbF tp (lxQ tp tl p)))) W C).1) (stl (rkF (sgF (tbF tp (lxQ tp tl p)))) W C).2 A ((decide (rkF (sgF (tbF tp (lxQ tp tl p))) = 3) || (decide (3 < rkF (sgF (tbF tp (lxQ tp tl p)))) && T.headD false)) :: T.tail) nt
end
section
variable {tp : Nat → Int32} {tl key n p : Nat} {e : Int32} {W C : List Int32} {A : Nat} {T : List Bool} {nt : Nat}
theorem mrun_not (h : lxK tp tl p e = 3 ∧ tbF tp (lxQ tp tl p) = 33 ∧ nt < 8) : mrun tp tl key (n + 1) p e true W C A T nt = mrun tp tl key n (lxR tp tl p) (lxE tp tl p e) true (-10 :: W) C A T (List.count (-10) (-10 :: W)) := by
  rw [mrun, if_pos h]
theorem mrun_open (h : lxK tp tl p e = 3 ∧ tbF tp (lxQ tp tl p) = 40 ∧ T.length < 9) : mrun tp tl key (n + 1) p e true W C A T nt = mrun tp tl key n (lxR tp tl p) (lxE tp tl p e) true (-11 :: W) C A (false :: T) (List.count (-10) (-11 :: W)) := by
  rw [mrun, if_neg (fun h' => by have := h'.2.1; have := h.2.1; omega), if_pos h]
theorem lfF_k {c : Int32} (h : lfF tp tl key p e = some c) : lxK tp tl p e = 1 ∨ lxK tp tl p e = 2 := by
  unfold lfF at h
  by_cases c2 : lxK tp tl p e = 2
  · exact Or.inr c2
  · rw [if_neg c2] at h
    split at h
    next c => exact Or.inl c.1
    next => cases h
theorem mrun_leaf {c : Int32} (h : lfF tp tl key p e = some c) : mrun tp tl key (n + 1) p e true W C A T nt = mrun tp tl key n (lxR tp tl p) (lxE tp tl p e) false (stl 6 W (c :: C)).1 (stl 6 W (c :: C)).2 (A + 1) T (List.count (-10) (stl 6 W (c :: C)).1) := by
  have := lfF_k h
  rw [mrun, if_neg (fun h' => by have := h'.1; omega), if_neg (fun h' => by have := h'.1; omega), h]
theorem mrun_bad (h1 : ¬ (lxK tp tl p e = 3 ∧ tbF tp (lxQ tp tl p) = 33 ∧ nt < 8)) (h2 : ¬ (lxK tp tl p e = 3 ∧ tbF tp (lxQ tp tl p) = 40 ∧ T.length < 9)) (h : lfF tp tl key p e = none) : mrun tp tl key (n + 1) p e true W C A T nt = Sum.inl (lxQ tp tl p) := by
  rw [mrun, if_neg h1, if_neg h2, h]
theorem mrun_end (h : lxK tp tl p e = 0) (hT : T.length = 1) : mrun tp tl key (n + 1) p e false W C A T nt = Sum.inr ((stl 0 W C).2, A) := by
  rw [mrun, if_pos h, if_pos hT]
theorem mrun_endx (h : lxK tp tl p e = 0) (hT : ¬ T.length = 1) : mrun tp tl key (n + 1) p e false W C A T nt = Sum.inl (lxQ tp tl p) := by
  rw [mrun, if_pos h, if_neg hT]
theorem mrun_close (h : lxK tp tl p e = 3 ∧ tbF tp (lxQ tp tl p) = 41 ∧ 1 < T.length) : mrun tp tl key (n + 1) p e false W C A T nt = mrun tp tl key n (lxR tp tl p) (lxE tp tl p e) false (stl 6 (stl 0 W C).1.tail (stl 0 W C).2).1 (stl 6 (stl 0 W C).1.tail (stl 0 W C).2).2 A T.tail (List.count (-10) (stl 6 (stl 0 W C).1.tail (stl 0 W C).2).1) := by
  rw [mrun, if_neg (by omega), if_pos h]
theorem mrun_nosign (h0 : ¬ lxK tp tl p e = 0) (h1 : ¬ (lxK tp tl p e = 3 ∧ tbF tp (lxQ tp tl p) = 41 ∧ 1 < T.length)) (h : (if lxK tp tl p e = 3 then sgF (tbF tp (lxQ tp tl p)) else 0) = 0 ∨ (rkF (sgF (tbF tp (lxQ tp tl p))) = 3 ∧ T.headD false = true)) : mrun tp tl key (n + 1) p e false W C A T nt = Sum.inl (lxQ tp tl p) := by
  rw [mrun, if_neg h0, if_neg h1, if_pos h]
theorem mrun_sign (h0 : ¬ lxK tp tl p e = 0) (h1 : ¬ (lxK tp tl p e = 3 ∧ tbF tp (lxQ tp tl p) = 41 ∧ 1 < T.length)) (h : ¬ ((if lxK tp tl p e = 3 then sgF (tbF tp (lxQ tp tl p)) else 0) = 0 ∨ (rkF (sgF (tbF tp (lxQ tp tl p))) = 3 ∧ T.headD false = true))) : mrun tp tl key (n + 1) p e false W C A T nt = mrun tp tl key n (lxR tp tl p) (lxE tp tl p e) true (sgF (tbF tp (lxQ tp tl p)) :: (stl (rkF (sgF (tbF tp (lxQ tp tl p)))) W C).1) (stl (rkF (sgF (tbF tp (lxQ tp tl p)))) W C).2 A ((decide (rkF (sgF (tbF tp (lxQ tp tl p))) = 3) || (decide (3 < rkF (sgF (tbF tp (lxQ tp tl p)))) && T.headD false)) :: T.tail) nt := by
  rw [mrun, if_neg h0, if_neg h1, if_neg h]
theorem lxK_0 (hp : p ≤ tl) : lxK tp tl p e = 0 ↔ lxQ tp tl p = tl := by
  unfold lxK
  constructor
  · intro h
    by_cases c : lxQ tp tl p = tl
    · exact c
    · rw [if_neg c] at h
      repeat' split at h
      all_goals omega
  · intro c
    rw [if_pos c]
theorem lxR_gt (hp : p ≤ tl) (h : ¬ lxK tp tl p e = 0) : p < lxR tp tl p ∧ lxR tp tl p ≤ tl ∧ lxQ tp tl p < tl := by
  have h1 := lxQ_le (tp := tp) hp
  have h2 := lxR_le (tp := tp) hp
  have h3 : ¬ lxQ tp tl p = tl := fun c => h ((lxK_0 hp).mpr c)
  have h4 := h2.2.2 (by omega)
  omega
end
