theorem scn_all {f : Nat → Bool} : ∀ n p j, p ≤ j → j < scn f n p → f j = true
  | 0, p, j, h1, h2 => by simp only [scn] at h2; omega
  | n + 1, p, j, h1, h2 => by
    simp only [scn] at h2
    split at h2
    next c =>
      by_cases e : j = p
      · rw [e]; exact c
      · exact scn_all n (p + 1) j (by omega) h2
    next c => omega
theorem lx_fig {tp : Nat → Int32} {tl p : Nat} {e : Int32} (h : lxK tp tl p e = 2) : lxR tp tl p - lxQ tp tl p ≤ 4 ∧ ∀ j, lxQ tp tl p ≤ j → j < lxR tp tl p → bFg (tbF tp j) = true := by
  unfold lxK at h
  split at h
  · omega
  next c0 =>
    split at h
    · split at h <;> omega
    next c1 =>
      split at h
      next c2 =>
        split at h
        · omega
        next c3 =>
          refine ⟨by omega, fun j h1 h2 => ?_⟩
          unfold lxR at h2
          rw [if_neg c0, if_neg c1, if_pos c2] at h2
          exact scn_all (f := fun j => bFg (tbF tp j)) _ _ j h1 h2
      · omega
def dpL : List Int32 → Nat
  | [] => 0
  | c :: C => if 0 ≤ c then dpL C + 1 else if c = -10 then dpL C else dpL C - 1
def lvL : List Int32 → Nat
  | [] => 0
  | c :: C => if 0 ≤ c then lvL C + 1 else lvL C
def okL (nm : Nat) : List Int32 → Prop
  | [] => True
  | c :: C => okL nm C ∧ (¬ 0 ≤ c → 1 ≤ dpL C) ∧ (¬ 0 ≤ c → ¬ c = -10 → 2 ≤ dpL C) ∧ (0 ≤ c → c < nI (10000 + nm)) ∧ -10 ≤ c
theorem dpL_ls (c : Nat → Int32) : ∀ n, dpL (lsF c n) = dpS c n
  | 0 => rfl
  | n + 1 => by simp only [lsF, dpL, dpS, dpL_ls c n]
theorem lvL_ls (c : Nat → Int32) : ∀ n, lvL (lsF c n) = lvS c n
  | 0 => rfl
  | n + 1 => by simp only [lsF, lvL, lvS, lvL_ls c n]
theorem okL_ls {c : Nat → Int32} {nm : Nat} : ∀ n, okL nm (lsF c n) → ∀ k, k < n → (¬ 0 ≤ c k → 1 ≤ dpS c k) ∧ (¬ 0 ≤ c k → ¬ c k = -10 → 2 ≤ dpS c k) ∧ (0 ≤ c k → c k < nI (10000 + nm)) ∧ -10 ≤ c k
  | 0, _, k, hk => by omega
  | n + 1, h, k, hk => by
    have h' : okL nm (c n :: lsF c n) := h
    obtain ⟨h1, h2⟩ := h'
    rw [dpL_ls] at h2
    by_cases e : k = n
    · rw [e]; exact h2
    · exact okL_ls n h1 k (by omega)
def bnL : List Int32 → Nat
  | [] => 0
  | x :: W => if x = -10 ∨ x = -11 then bnL W else bnL W + 1
def ngL (W : List Int32) : Prop := ∀ x ∈ W, ¬ 0 ≤ x ∧ -11 ≤ x
theorem up10 {x : Int32} (h : -11 ≤ x) (hn : ¬ x = -11) : -10 ≤ x := by
  have h1 : (-11 : Int) ≤ x.toInt := by simpa using Int32.le_iff_toInt_le.mp h
  have h2 : ¬ x.toInt = -11 := fun hh => hn (Int32.toInt_inj.mp (by rw [hh]; rfl))
  refine Int32.le_iff_toInt_le.mpr ?_
  show (-10 : Int) ≤ _
  omega
theorem stl_ok {nm : Nat} {l : Int32} : ∀ (W C : List Int32), okL nm C → ngL W → dpL C = bnL W + 1 → okL nm (stl l W C).2 ∧ lvL (stl l W C).2 = lvL C ∧ ngL (stl l W C).1 ∧ dpL (stl l W C).2 = bnL (stl l W C).1 + 1
  | [], C, h1, h2, h3 => ⟨h1, rfl, h2, h3⟩
  | x :: W, C, h1, h2, h3 => by
    simp only [stl]
    split
    next c =>
      obtain ⟨x1, x2⟩ := h2 x List.mem_cons_self
      have hok : okL nm (x :: C) := by
        refine ⟨h1, fun _ => by omega, fun _ hx => ?_, fun hx => absurd hx x1, up10 x2 c.1⟩
        have : bnL (x :: W) = bnL W + 1 := by simp only [bnL]; rw [if_neg (by simp [hx, c.1])]
        omega
      have hdp : dpL (x :: C) = bnL W + 1 := by
        simp only [dpL]
        rw [if_neg x1]
        by_cases hx : x = -10
        · rw [if_pos hx, h3]
          simp only [bnL]
          rw [if_pos (Or.inl hx)]
        · rw [if_neg hx, h3]
          simp only [bnL]
          rw [if_neg (by simp [hx, c.1])]
          omega
      have hlv : lvL (x :: C) = lvL C := by
        simp only [lvL]
        rw [if_neg x1]
      rw [← hlv]
      exact stl_ok W (x :: C) hok (fun y hy => h2 y (List.mem_cons_of_mem _ hy)) hdp
    next c => exact ⟨h1, rfl, h2, h3⟩
theorem nmF_lt {k : Nat} {t : Int32} (hk : k < 3) (h : ¬ nmF k t < 0) : 0 ≤ 10000 + nmF k t ∧ 10000 + nmF k t < nI (10000 + (if k = 0 then 3 else 2)) ∧ -10 ≤ 10000 + nmF k t := by
  have : k = 0 ∨ k = 1 ∨ k = 2 := by omega
  unfold nmF at h ⊢
  rcases this with rfl | rfl | rfl
  · simp only [if_true] at h ⊢
    repeat' split
    all_goals first | decide | (exfalso; revert h; simp_all; done)
  · simp only [if_true, if_neg (show ¬ (1 : Nat) = 0 by omega)] at h ⊢
    repeat' split
    all_goals first | decide | (exfalso; revert h; simp_all; done)
  · simp only [if_neg (show ¬ (2 : Nat) = 0 by omega), if_neg (show ¬ (2 : Nat) = 1 by omega)] at h ⊢
    repeat' split
    all_goals first | decide | (exfalso; revert h; simp_all; done)
theorem lfF_ok {tp : Nat → Int32} {tl key p : Nat} {e c : Int32} (hb : TBt tp tl) (htl : tl ≤ 96) (hp : p ≤ tl) (hk : key < 3) (h : lfF tp tl key p e = some c) : 0 ≤ c ∧ c < nI (10000 + (if key = 0 then 3 else 2)) ∧ -10 ≤ c := by
  unfold lfF at h
  by_cases c2 : lxK tp tl p e = 2
  · rw [if_pos c2] at h
    cases h
    obtain ⟨f1, f2⟩ := lx_fig c2
    have hr := lxR_le (tp := tp) hp
    have := numF_le (q := lxQ tp tl p) hb (lxR tp tl p - lxQ tp tl p) f1 (fun j hj => ⟨by omega, f2 _ (by omega) (by omega)⟩)
    have h4 : 10 ^ (lxR tp tl p - lxQ tp tl p) ≤ 10 ^ 4 := Nat.pow_le_pow_right (by omega) f1
    have h5 : numF tp (lxQ tp tl p) (lxR tp tl p - lxQ tp tl p) < 10000 := by omega
    have h6 : (0 : Int32) ≤ nI (numF tp (lxQ tp tl p) (lxR tp tl p - lxQ tp tl p)) := nI_le (a := 0) (by omega) (by omega)
    exact ⟨h6, nI_lt (by omega) (by split <;> omega), Int32.le_trans (by decide) h6⟩
  · rw [if_neg c2] at h
    split at h
    next c1 =>
      cases h
      exact nmF_lt hk c1.2.2
    next => cases h
def MI (nm : Nat) (wt : Bool) (W C : List Int32) (A : Nat) (T : List Bool) : Prop := okL nm C ∧ lvL C = A ∧ ngL W ∧ dpL C = bnL W + (if wt = true then 0 else 1) ∧ T.length = W.count (-11) + 1
theorem sg_ng : ∀ t, t < 256 → ¬ sgF t = 0 → ¬ 0 ≤ sgF t ∧ -11 ≤ sgF t ∧ ¬ sgF t = -10 ∧ ¬ sgF t = -11 := by decide +kernel
theorem ngL_cons {x : Int32} {W : List Int32} (hx : ¬ 0 ≤ x ∧ -11 ≤ x) (h : ngL W) : ngL (x :: W) := fun y hy => (List.mem_cons.mp hy).elim (fun e => by rw [e]; exact hx) (h y)
theorem mrun_ok {tp : Nat → Int32} {tl key : Nat} (hb : TBt tp tl) (htl : tl ≤ 96) (hk : key < 3) (C' : List Int32) (A' n : Nat) : ∀ (p : Nat) (e : Int32) (wt : Bool) (W C : List Int32) (A : Nat) (T : List Bool) (nt : Nat), MI (if key = 0 then 3 else 2) wt W C A T → W.length + C.length + 4 ≤ p → p ≤ tl → mrun tp tl key n p e wt W C A T nt = Sum.inr (C', A') → okL (if key = 0 then 3 else 2) C' ∧ dpL C' = 1 ∧ lvL C' = A' ∧ C'.length ≤ 96 := by
  induction n with
  | zero => intro p e wt W C A T nt _ _ _ h; simp [mrun] at h
  | succ n ih =>
    intro p e wt W C A T nt hM hl hp h
    obtain ⟨m1, m2, m3, m4, m5⟩ := hM
    have hg := fun c => lxR_gt (tp := tp) (e := e) hp (show ¬ lxK tp tl p e = 0 from c)
    cases wt with
    | true =>
      by_cases c1 : lxK tp tl p e = 3 ∧ tbF tp (lxQ tp tl p) = 33 ∧ nt < 8
      · rw [mrun_not c1] at h
        have := hg (by omega)
        refine ih _ _ true _ _ _ _ _ ⟨m1, m2, ngL_cons (by decide) m3, ?_, ?_⟩ (by simp only [List.length_cons]; omega) (by omega) h
        · rw [m4]; rfl
        · rw [m5, List.count_cons]; rfl
      · by_cases c2 : lxK tp tl p e = 3 ∧ tbF tp (lxQ tp tl p) = 40 ∧ T.length < 9
        · rw [mrun_open c2] at h
          have := hg (by omega)
          refine ih _ _ true _ _ _ _ _ ⟨m1, m2, ngL_cons (by decide) m3, ?_, ?_⟩ (by simp only [List.length_cons]; omega) (by omega) h
          · rw [m4]; rfl
          · rw [List.length_cons, m5, List.count_cons]; rfl
        · cases hc : lfF tp tl key p e with
          | none => rw [mrun_bad c1 c2 hc] at h; cases h
          | some c =>
            rw [mrun_leaf hc] at h
            have hk12 := lfF_k hc
            have := hg (by omega)
            obtain ⟨l1, l2, l3⟩ := lfF_ok hb htl hp hk hc
            have ok1 : okL (if key = 0 then 3 else 2) (c :: C) := ⟨m1, fun hh => absurd l1 hh, fun hh => absurd l1 hh, fun _ => l2, l3⟩
            have dp1 : dpL (c :: C) = bnL W + 1 := by simp only [dpL]; rw [if_pos l1, m4]; rfl
            have lv1 : lvL (c :: C) = A + 1 := by simp only [lvL]; rw [if_pos l1, m2]
            obtain ⟨q1, q2, q3, q4⟩ := stl_ok (l := 6) W (c :: C) ok1 m3 dp1
            have hlen := stl_len 6 W (c :: C)
            simp only [List.length_cons] at hlen
            exact ih _ _ false _ _ _ _ _ ⟨q1, q2.trans lv1, q3, q4, by rw [stl_cnt]; exact m5⟩ (by omega) (by omega) h
    | false =>
      have dp0 : dpL C = bnL W + 1 := m4
      by_cases c0 : lxK tp tl p e = 0
      · by_cases cT : T.length = 1
        · rw [mrun_end c0 cT] at h
          injection h with h
          injection h with h1 h2
          obtain ⟨q1, q2, q3, q4⟩ := stl_ok (l := 0) W C m1 m3 dp0
          have hlen := stl_len 0 W C
          have hcnt := stl_cnt 0 W C
          have hnil : (stl 0 W C).1 = [] := by
            rcases stl_0 W C with h0 | ⟨W', h0⟩
            · exact h0
            · rw [h0, List.count_cons] at hcnt
              simp at hcnt
              omega
          rw [hnil] at q4 hlen
          rw [h1] at q1 q2 q4 hlen
          rw [h2] at m2
          simp only [List.length_nil] at hlen
          exact ⟨q1, q4, q2.trans m2, by omega⟩
        · rw [mrun_endx c0 cT] at h; cases h
      · have := hg c0
        by_cases c1 : lxK tp tl p e = 3 ∧ tbF tp (lxQ tp tl p) = 41 ∧ 1 < T.length
        · rw [mrun_close c1] at h
          obtain ⟨q1, q2, q3, q4⟩ := stl_ok (l := 0) W C m1 m3 dp0
          have hlen := stl_len 0 W C
          have hcnt := stl_cnt 0 W C
          rcases stl_0 W C with h0 | ⟨W', h0⟩
          · rw [h0] at hcnt
            simp at hcnt
            omega
          · rw [h0] at q3 q4 hlen hcnt h
            have q4' : dpL (stl 0 W C).2 = bnL W' + 1 := by rw [q4]; rfl
            obtain ⟨r1, r2, r3, r4⟩ := stl_ok (l := 6) W' (stl 0 W C).2 q1 (fun y hy => q3 y (List.mem_cons_of_mem _ hy)) q4'
            have hlen2 := stl_len 6 W' (stl 0 W C).2
            simp only [List.length_cons, List.tail_cons] at hlen h
            refine ih _ _ false _ _ _ _ _ ⟨r1, r2.trans (q2.trans m2), r3, r4, ?_⟩ (by omega) (by omega) h
            rw [stl_cnt, List.length_tail, m5, ← hcnt, List.count_cons]
            simp
        · by_cases c2 : (if lxK tp tl p e = 3 then sgF (tbF tp (lxQ tp tl p)) else 0) = 0 ∨ (rkF (sgF (tbF tp (lxQ tp tl p))) = 3 ∧ T.headD false = true)
          · rw [mrun_nosign c0 c1 c2] at h; cases h
          · rw [mrun_sign c0 c1 c2] at h
            have c3 : lxK tp tl p e = 3 := Decidable.byContradiction (fun n => c2 (Or.inl (if_neg n)))
            rw [if_pos c3] at c2
            obtain ⟨g1, g2, g3, g4⟩ := sg_ng _ (hb _ this.2.2).2 (fun hh => c2 (Or.inl hh))
            obtain ⟨q1, q2, q3, q4⟩ := stl_ok (l := rkF (sgF (tbF tp (lxQ tp tl p)))) W C m1 m3 dp0
            have hlen := stl_len (rkF (sgF (tbF tp (lxQ tp tl p)))) W C
            have hcnt := stl_cnt (rkF (sgF (tbF tp (lxQ tp tl p)))) W C
            refine ih _ _ true _ _ _ _ _ ⟨q1, q2.trans m2, ngL_cons ⟨g1, g2⟩ q3, ?_, ?_⟩ (by simp only [List.length_cons]; omega) (by omega) h
            · rw [q4]
              simp only [bnL]
              rw [if_neg (by simp [g3, g4])]
              rfl
            · rw [List.length_cons, List.length_tail, List.count_cons, hcnt, m5]
              simp [g4]
