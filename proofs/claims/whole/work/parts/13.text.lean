theorem hc_nz {p : Prop} [Decidable p] : narrow .boolean (.int (hc_b p)) = .int (hc_b p) := by
  unfold hc_b
  split <;> rfl
def hc_z (b : Bool) : Int32 := match b with
  | true => 1
  | false => 0
theorem hc_zt {b : Bool} (h : b = true) : hc_z b = 1 := by rw [h]; rfl
theorem hc_zf {b : Bool} (h : b = false) : hc_z b = 0 := by rw [h]; rfl
theorem hc_zn {b : Bool} : narrow .boolean (.int (hc_z b)) = .int (hc_z b) := by cases b <;> rfl
theorem hc_z0 {b : Bool} : hc_z b = 0 ↔ b = false := by cases b <;> simp [hc_z]
section T0
variable {g : hcG} {M : hcM} {d kc ks : Nat} {S : hcS} {I : hcI} {R : hcR} {z pc q : Nat} {st : List Value} {Q : hcQ}
theorem v_drop {L : List (Option Value)} (k : Nat) (kk : V g M d kc ks S I R z pc (L.set k none) st Q) : V g M d kc ks S I R z pc L st Q := by
  refine v_loc (L.set k none) (by simp) (fun i v h => ?_) kk
  by_cases e : k = i
  · subst e
    have hlt : k < (L.set k none).length := (List.getElem?_eq_some_iff.mp h).1
    rw [List.length_set] at hlt
    rw [List.getElem?_set_self hlt] at h
    simp at h
  · rw [List.getElem?_set_ne e] at h
    exact h
theorem v_drop0 {y0 : Option Value} {r : List (Option Value)} (kk : V g M d kc ks S I R z pc (none :: r) st Q) : V g M d kc ks S I R z pc (y0 :: r) st Q := v_drop 0 kk
theorem v_drop1 {x0 y0 : Option Value} {r : List (Option Value)} (kk : V g M d kc ks S I R z pc (x0 :: none :: r) st Q) : V g M d kc ks S I R z pc (x0 :: y0 :: r) st Q := v_drop 1 kk
theorem v_drop2 {x0 x1 y0 : Option Value} {r : List (Option Value)} (kk : V g M d kc ks S I R z pc (x0 :: x1 :: none :: r) st Q) : V g M d kc ks S I R z pc (x0 :: x1 :: y0 :: r) st Q := v_drop 2 kk
theorem v_drop3 {x0 x1 x2 y0 : Option Value} {r : List (Option Value)} (kk : V g M d kc ks S I R z pc (x0 :: x1 :: x2 :: none :: r) st Q) : V g M d kc ks S I R z pc (x0 :: x1 :: x2 :: y0 :: r) st Q := v_drop 3 kk
theorem v_drop4 {x0 x1 x2 x3 y0 : Option Value} {r : List (Option Value)} (kk : V g M d kc ks S I R z pc (x0 :: x1 :: x2 :: x3 :: none :: r) st Q) : V g M d kc ks S I R z pc (x0 :: x1 :: x2 :: x3 :: y0 :: r) st Q := v_drop 4 kk
theorem v_drop5 {x0 x1 x2 x3 x4 y0 : Option Value} {r : List (Option Value)} (kk : V g M d kc ks S I R z pc (x0 :: x1 :: x2 :: x3 :: x4 :: none :: r) st Q) : V g M d kc ks S I R z pc (x0 :: x1 :: x2 :: x3 :: x4 :: y0 :: r) st Q := v_drop 5 kk
theorem v_drop6 {x0 x1 x2 x3 x4 x5 y0 : Option Value} {r : List (Option Value)} (kk : V g M d kc ks S I R z pc (x0 :: x1 :: x2 :: x3 :: x4 :: x5 :: none :: r) st Q) : V g M d kc ks S I R z pc (x0 :: x1 :: x2 :: x3 :: x4 :: x5 :: y0 :: r) st Q := v_drop 6 kk
theorem v_drop7 {x0 x1 x2 x3 x4 x5 x6 y0 : Option Value} {r : List (Option Value)} (kk : V g M d kc ks S I R z pc (x0 :: x1 :: x2 :: x3 :: x4 :: x5 :: x6 :: none :: r) st Q) : V g M d kc ks S I R z pc (x0 :: x1 :: x2 :: x3 :: x4 :: x5 :: x6 :: y0 :: r) st Q := v_drop 7 kk
theorem v_drop8 {x0 x1 x2 x3 x4 x5 x6 x7 y0 : Option Value} {r : List (Option Value)} (kk : V g M d kc ks S I R z pc (x0 :: x1 :: x2 :: x3 :: x4 :: x5 :: x6 :: x7 :: none :: r) st Q) : V g M d kc ks S I R z pc (x0 :: x1 :: x2 :: x3 :: x4 :: x5 :: x6 :: x7 :: y0 :: r) st Q := v_drop 8 kk
theorem v_drop9 {x0 x1 x2 x3 x4 x5 x6 x7 x8 y0 : Option Value} {r : List (Option Value)} (kk : V g M d kc ks S I R z pc (x0 :: x1 :: x2 :: x3 :: x4 :: x5 :: x6 :: x7 :: x8 :: none :: r) st Q) : V g M d kc ks S I R z pc (x0 :: x1 :: x2 :: x3 :: x4 :: x5 :: x6 :: x7 :: x8 :: y0 :: r) st Q := v_drop 9 kk
theorem v_if_eqZ {L : List (Option Value)} {b : Bool} {off : Int} (t : Nat) (hd : decode M.2.1 pc = .ok (.ifCond .eq off, 3)) (ht : (pc : Int) + off = (t : Int) := by decide) (hq : pc + 3 = q := by rfl) (kt : b = false → V g M d kc ks S I R z t L st Q) (kf : b = true → V g M d kc ks S I R z q L st Q) : V g M d kc ks S I R z pc L (.int (hc_z b) :: st) Q :=
  v_if_eq t hd ht hq (fun h => kt (hc_z0.mp h)) (fun h => kf (by cases b <;> simp_all [hc_z]))
theorem v_if_neZ {L : List (Option Value)} {b : Bool} {off : Int} (t : Nat) (hd : decode M.2.1 pc = .ok (.ifCond .ne off, 3)) (ht : (pc : Int) + off = (t : Int) := by decide) (hq : pc + 3 = q := by rfl) (kt : b = true → V g M d kc ks S I R z t L st Q) (kf : b = false → V g M d kc ks S I R z q L st Q) : V g M d kc ks S I R z pc L (.int (hc_z b) :: st) Q :=
  v_if_ne t hd ht hq (fun h => kt (by cases b <;> simp_all [hc_z])) (fun h => kf (hc_z0.mp h))
theorem v_iremN {L : List (Option Value)} {a n : Nat} (ha : a < 2 ^ 31) (h0 : 0 < n) (hn : n < 2 ^ 31) (hd : decode M.2.1 pc = .ok (.irem, 1)) (hq : pc + 1 = q := by rfl) (kk : V g M d kc ks S I R z q L (.int (nI (a % n)) :: st) Q) : V g M d kc ks S I R z pc L (.int (nI n) :: .int (nI a) :: st) Q :=
  v_irem hd (nI_ne0 h0 hn) hq (by rw [pk_rem ha h0 hn]; exact kk)
theorem v_ialdE {L : List (Option Value)} {a n : Nat} {i : Int32} (k : Nat) (hi : i = nI k) (ha : S a = some (10, n)) (hk : k < n) (hn : n < 2 ^ 31) (hd : decode M.2.1 pc = .ok (.iaload, 1)) (hq : pc + 1 = q := by rfl) (kk : V g M d kc ks S I R z q L (.int (I a k) :: st) Q) : V g M d kc ks S I R z pc L (.int i :: .ref a :: st) Q := by
  subst hi
  exact v_ialdN ha hk hn hd hq kk
theorem v_zaldE {L : List (Option Value)} {a n : Nat} {i : Int32} (k : Nat) (hi : i = nI k) (ha : S a = some (11, n)) (hk : k < n) (hn : n < 2 ^ 31) (hd : decode M.2.1 pc = .ok (.baload, 1)) (hq : pc + 1 = q := by rfl) (kk : V g M d kc ks S I R z q L (.int (I a k) :: st) Q) : V g M d kc ks S I R z pc L (.int i :: .ref a :: st) Q := by
  subst hi
  exact v_zaldN ha hk hn hd hq kk
theorem v_baldE {L : List (Option Value)} {a n : Nat} {i : Int32} (k : Nat) (hi : i = nI k) (ha : S a = some (8, n)) (hk : k < n) (hn : n < 2 ^ 31) (hd : decode M.2.1 pc = .ok (.baload, 1)) (hq : pc + 1 = q := by rfl) (kk : V g M d kc ks S I R z q L (.int (I a k) :: st) Q) : V g M d kc ks S I R z pc L (.int i :: .ref a :: st) Q := by
  subst hi
  exact v_baldN ha hk hn hd hq kk
theorem v_caldE {L : List (Option Value)} {a n : Nat} {i : Int32} (k : Nat) (hi : i = nI k) (ha : S a = some (9, n)) (hk : k < n) (hn : n < 2 ^ 31) (hd : decode M.2.1 pc = .ok (.caload, 1)) (hq : pc + 1 = q := by rfl) (kk : V g M d kc ks S I R z q L (.int (I a k) :: st) Q) : V g M d kc ks S I R z pc L (.int i :: .ref a :: st) Q := by
  subst hi
  exact v_caldN ha hk hn hd hq kk
theorem v_iastE {L : List (Option Value)} {a n : Nat} {i x : Int32} (k : Nat) (hi : i = nI k) (ha : S a = some (10, n)) (hk : k < n) (hn : n < 2 ^ 31) (hd : decode M.2.1 pc = .ok (.iastore, 1)) (hq : pc + 1 = q := by rfl) (kk : V g M d kc ks S (hc_u I a k x) R z q L st Q) : V g M d kc ks S I R z pc L (.int x :: .int i :: .ref a :: st) Q := by
  subst hi
  exact v_iastN ha hk hn hd hq kk
theorem v_aaldE {L : List (Option Value)} {a n t x : Nat} {i : Int32} (k : Nat) (hi : i = nI k) (ha : S a = some (t, n)) (hv : R a k = some x) (hk : k < n) (hn : n < 2 ^ 31) (hd : decode M.2.1 pc = .ok (.aaload, 1)) (ht : 12 ≤ t := by decide) (hq : pc + 1 = q := by rfl) (kk : V g M d kc ks S I R z q L (.ref x :: st) Q) : V g M d kc ks S I R z pc L (.int i :: .ref a :: st) Q := by
  subst hi
  exact v_aaldn ha hv hk hn hd ht hq kk
end T0
def stkIs (A : Nat → Int32) : List Int32 → Prop
  | [] => True
  | x :: r => A r.length = x ∧ stkIs A r
theorem stkIs_congr {A A' : Nat → Int32} : ∀ {s : List Int32}, (∀ i, i < s.length → A' i = A i) → stkIs A s → stkIs A' s
  | [], _, _ => trivial
  | x :: r, h, ⟨h1, h2⟩ => ⟨by rw [h _ (by simp)]; exact h1, stkIs_congr (fun i hi => h i (by simp; omega)) h2⟩
theorem stkIs_push {A : Nat → Int32} {s : List Int32} {v : Int32} (h : stkIs A s) : stkIs (upd A s.length v) (v :: s) :=
  ⟨by simp [upd], stkIs_congr (fun i hi => by simp [upd]; omega) h⟩
/-- the class's code of the reference's -/
def trc (c : Int32) : Int32 := if 0 ≤ c then c else if c = -1 then 20124 else if c = -2 then 20038 else if c = -3 then 20060 else if c = -4 then 20061 else if c = -5 then 20062 else if c = -6 then 20043 else if c = -7 then 20045 else if c = -8 then 20042 else if c = -9 then 20047 else 20033
theorem neg10 {c : Int32} (h : -10 ≤ c) (h0 : ¬ 0 ≤ c) : c = -1 ∨ c = -2 ∨ c = -3 ∨ c = -4 ∨ c = -5 ∨ c = -6 ∨ c = -7 ∨ c = -8 ∨ c = -9 ∨ c = -10 := by
  have h1 : (-10 : Int) ≤ c.toInt := by simpa using Int32.le_iff_toInt_le.mp h
  have h2 : c.toInt < 0 := by
    have := Int32.not_le.mp h0
    simpa using Int32.lt_iff_toInt_lt.mp this
  have key : ∀ (v : Int32), c.toInt = v.toInt → c = v := fun v hv => Int32.toInt_inj.mp hv
  have : c.toInt = -1 ∨ c.toInt = -2 ∨ c.toInt = -3 ∨ c.toInt = -4 ∨ c.toInt = -5 ∨ c.toInt = -6 ∨ c.toInt = -7 ∨ c.toInt = -8 ∨ c.toInt = -9 ∨ c.toInt = -10 := by omega
  rcases this with h | h | h | h | h | h | h | h | h | h
  · exact Or.inl (key _ h)
  · exact Or.inr (Or.inl (key _ h))
  · exact Or.inr (Or.inr (Or.inl (key _ h)))
  · exact Or.inr (Or.inr (Or.inr (Or.inl (key _ h))))
  · exact Or.inr (Or.inr (Or.inr (Or.inr (Or.inl (key _ h)))))
  · exact Or.inr (Or.inr (Or.inr (Or.inr (Or.inr (Or.inl (key _ h))))))
  · exact Or.inr (Or.inr (Or.inr (Or.inr (Or.inr (Or.inr (Or.inl (key _ h)))))))
  · exact Or.inr (Or.inr (Or.inr (Or.inr (Or.inr (Or.inr (Or.inr (Or.inl (key _ h))))))))
  · exact Or.inr (Or.inr (Or.inr (Or.inr (Or.inr (Or.inr (Or.inr (Or.inr (Or.inl (key _ h)))))))))
  · exact Or.inr (Or.inr (Or.inr (Or.inr (Or.inr (Or.inr (Or.inr (Or.inr (Or.inr (key _ h)))))))))
section T1
variable {g : hcG} {S : hcS} {I : hcI} {R : hcR} {z : Nat} {Q : hcQ}
theorem s_leaf {c x y w : Int32} {n : Nat} (hc : c = nI n) (hn : n < 10003) (hQ : Q (some (.int (if c < 10000 then c else f3 x y w (c - 10000).toNatClampNeg))) S I R z) : Cl g mX5_leaf 0 0 0 S I R z [.int c, .int x, .int y, .int w] Q := by
  refine Cl.go [some (.int c), some (.int x), some (.int y), some (.int w)] ?_
  subst hc
  refine v_iload_n (q := 1) dX5_leaf_0 (kk := ?_)
  by_cases h : n < 10000
  · have h2 : nI n < 10000 := (nI_ltI (b := 10000) (by omega) (by omega)).mpr h
    rw [if_pos h2] at hQ
    refine v_tsOut 34 dX5_leaf_1 (Or.inl (by rw [nI_toInt (by omega)]; omega)) (kt := ?_)
    refine v_iload_n (q := 35) dX5_leaf_34 (kk := ?_)
    refine v_iret dX5_leaf_35 (hQ := ?_)
    exact hQ
  · have h2 : ¬ nI n < 10000 := fun e => h ((nI_ltI (b := 10000) (by omega) (by omega)).mp e)
    rw [if_neg h2] at hQ
    have : n = 10000 ∨ n = 10001 ∨ n = 10002 := by omega
    rcases this with rfl | rfl | rfl
    · refine v_tsIn 28 dX5_leaf_1 (by decide) (by decide) (by rfl) (kt := ?_)
      refine v_iload_n (q := 29) dX5_leaf_28 (kk := ?_)
      refine v_iret dX5_leaf_29 (hQ := ?_)
      exact hQ
    · refine v_tsIn 30 dX5_leaf_1 (by decide) (by decide) (by rfl) (kt := ?_)
      refine v_iload_n (q := 31) dX5_leaf_30 (kk := ?_)
      refine v_iret dX5_leaf_31 (hQ := ?_)
      exact hQ
    · refine v_tsIn 32 dX5_leaf_1 (by decide) (by decide) (by rfl) (kt := ?_)
      refine v_iload_n (q := 33) dX5_leaf_32 (kk := ?_)
      refine v_iret dX5_leaf_33 (hQ := ?_)
      exact hQ
theorem s_joined {c x y s : Int32} (hc : c = -1 ∨ c = -2 ∨ c = -3 ∨ c = -4 ∨ c = -5 ∨ c = -6 ∨ c = -7 ∨ c = -8 ∨ c = -9) (hs : s = trc c - 20000) (hQ : Q (some (.int (two c x y))) S I R z) : Cl g mX5_joined 0 0 0 S I R z [.int s, .int x, .int y] Q := by
  refine Cl.go [some (.int s), some (.int x), some (.int y)] ?_
  subst hs
  refine v_iload_n (q := 1) dX5_joined_0 (kk := ?_)
  rcases hc with rfl | rfl | rfl | rfl | rfl | rfl | rfl | rfl | rfl
  · have e : two (-1) x y = hc_b (¬ x = 0 ∨ ¬ y = 0) := by simp [two]
    rw [e] at hQ
    refine v_tsOut 187 dX5_joined_1 (by decide) (kt := ?_)
    refine v_iload_n (q := 188) dX5_joined_187 (kk := ?_)
    refine v_if_ne 195 (q := 191) dX5_joined_188 (kt := fun c => ?_) (kf := fun c => ?_)
    · refine v_iconst (v := 1) (q := 196) dX5_joined_195 (kk := ?_)
      refine v_goto 200 dX5_joined_196 (kt := ?_)
      refine v_iret dX5_joined_200 (hQ := ?_)
      rwa [hc_bt (Or.inl c)] at hQ
    · refine v_iload_n (q := 192) dX5_joined_191 (kk := ?_)
      refine v_if_eq 199 (q := 195) dX5_joined_192 (kt := fun c2 => ?_) (kf := fun c2 => ?_)
      · refine v_iconst (v := 0) (q := 200) dX5_joined_199 (kk := ?_)
        refine v_iret dX5_joined_200 (hQ := ?_)
        rwa [hc_bf (fun h => h.elim (fun n => n c) (fun n => n c2))] at hQ
      · refine v_iconst (v := 1) (q := 196) dX5_joined_195 (kk := ?_)
        refine v_goto 200 dX5_joined_196 (kt := ?_)
        refine v_iret dX5_joined_200 (hQ := ?_)
        rwa [hc_bt (Or.inr c2)] at hQ
  · have e : two (-2) x y = hc_b (¬ x = 0 ∧ ¬ y = 0) := by simp [two]
    rw [e] at hQ
    refine v_tsIn 173 dX5_joined_1 (by decide) (by decide) (by rfl) (kt := ?_)
    refine v_iload_n (q := 174) dX5_joined_173 (kk := ?_)
    refine v_if_eq 185 (q := 177) dX5_joined_174 (kt := fun c => ?_) (kf := fun c => ?_)
    · refine v_iconst (v := 0) (q := 186) dX5_joined_185 (kk := ?_)
      refine v_iret dX5_joined_186 (hQ := ?_)
      rwa [hc_bf (fun h => h.1 c)] at hQ
    · refine v_iload_n (q := 178) dX5_joined_177 (kk := ?_)
      refine v_if_eq 185 (q := 181) dX5_joined_178 (kt := fun c2 => ?_) (kf := fun c2 => ?_)
      · refine v_iconst (v := 0) (q := 186) dX5_joined_185 (kk := ?_)
        refine v_iret dX5_joined_186 (hQ := ?_)
        rwa [hc_bf (fun h => h.2 c2)] at hQ
      · refine v_iconst (v := 1) (q := 182) dX5_joined_181 (kk := ?_)
        refine v_goto 186 dX5_joined_182 (kt := ?_)
        refine v_iret dX5_joined_186 (hQ := ?_)
        rwa [hc_bt ⟨c, c2⟩] at hQ
  · have e : two (-3) x y = hc_b (x < y) := by simp [two]
    rw [e] at hQ
    refine v_tsIn 140 dX5_joined_1 (by decide) (by decide) (by rfl) (kt := ?_)
    refine v_iload_n (q := 141) dX5_joined_140 (kk := ?_)
    refine v_iload_n (q := 142) dX5_joined_141 (kk := ?_)
    refine v_icmp_ge 149 (q := 145) dX5_joined_142 (kt := fun c => ?_) (kf := fun c => ?_)
    · refine v_iconst (v := 0) (q := 150) dX5_joined_149 (kk := ?_)
      refine v_iret dX5_joined_150 (hQ := ?_)
      rwa [hc_bf (Int32.not_lt.mpr c)] at hQ
    · refine v_iconst (v := 1) (q := 146) dX5_joined_145 (kk := ?_)
      refine v_goto 150 dX5_joined_146 (kt := ?_)
      refine v_iret dX5_joined_150 (hQ := ?_)
      rwa [hc_bt (Int32.not_le.mp c)] at hQ
  · have e : two (-4) x y = hc_b (x = y) := by simp [two]
    rw [e] at hQ
    refine v_tsIn 151 dX5_joined_1 (by decide) (by decide) (by rfl) (kt := ?_)
    refine v_iload_n (q := 152) dX5_joined_151 (kk := ?_)
    refine v_iload_n (q := 153) dX5_joined_152 (kk := ?_)
    refine v_icmp_ne 160 (q := 156) dX5_joined_153 (kt := fun c => ?_) (kf := fun c => ?_)
    · refine v_iconst (v := 0) (q := 161) dX5_joined_160 (kk := ?_)
      refine v_iret dX5_joined_161 (hQ := ?_)
      rwa [hc_bf c] at hQ
    · refine v_iconst (v := 1) (q := 157) dX5_joined_156 (kk := ?_)
      refine v_goto 161 dX5_joined_157 (kt := ?_)
      refine v_iret dX5_joined_161 (hQ := ?_)
      rwa [hc_bt c] at hQ
  · have e : two (-5) x y = hc_b (y < x) := by simp [two]
    rw [e] at hQ
    refine v_tsIn 162 dX5_joined_1 (by decide) (by decide) (by rfl) (kt := ?_)
    refine v_iload_n (q := 163) dX5_joined_162 (kk := ?_)
    refine v_iload_n (q := 164) dX5_joined_163 (kk := ?_)
    refine v_icmp_le 171 (q := 167) dX5_joined_164 (kt := fun c => ?_) (kf := fun c => ?_)
    · refine v_iconst (v := 0) (q := 172) dX5_joined_171 (kk := ?_)
      refine v_iret dX5_joined_172 (hQ := ?_)
      rwa [hc_bf (Int32.not_lt.mpr c)] at hQ
    · refine v_iconst (v := 1) (q := 168) dX5_joined_167 (kk := ?_)
      refine v_goto 172 dX5_joined_168 (kt := ?_)
      refine v_iret dX5_joined_172 (hQ := ?_)
      rwa [hc_bt (Int32.not_le.mp c)] at hQ
  · have e : two (-6) x y = x + y := by simp [two]
    rw [e] at hQ
    refine v_tsIn 116 dX5_joined_1 (by decide) (by decide) (by rfl) (kt := ?_)
    refine v_iload_n (q := 117) dX5_joined_116 (kk := ?_)
    refine v_iload_n (q := 118) dX5_joined_117 (kk := ?_)
    refine v_iadd (q := 119) dX5_joined_118 (kk := ?_)
    refine v_iret dX5_joined_119 (hQ := ?_)
    exact hQ
  · have e : two (-7) x y = x - y := by simp [two]
    rw [e] at hQ
    refine v_tsIn 120 dX5_joined_1 (by decide) (by decide) (by rfl) (kt := ?_)
    refine v_iload_n (q := 121) dX5_joined_120 (kk := ?_)
    refine v_iload_n (q := 122) dX5_joined_121 (kk := ?_)
    refine v_isub (q := 123) dX5_joined_122 (kk := ?_)
    refine v_iret dX5_joined_123 (hQ := ?_)
    exact hQ
  · have e : two (-8) x y = x * y := by simp [two]
    rw [e] at hQ
    refine v_tsIn 124 dX5_joined_1 (by decide) (by decide) (by rfl) (kt := ?_)
    refine v_iload_n (q := 125) dX5_joined_124 (kk := ?_)
    refine v_iload_n (q := 126) dX5_joined_125 (kk := ?_)
    refine v_imul (q := 127) dX5_joined_126 (kk := ?_)
    refine v_iret dX5_joined_127 (hQ := ?_)
    exact hQ
  · have e : two (-9) x y = if y = 0 then 0 else x / y := by simp [two]
    rw [e] at hQ
    refine v_tsIn 128 dX5_joined_1 (by decide) (by decide) (by rfl) (kt := ?_)
    refine v_iload_n (q := 129) dX5_joined_128 (kk := ?_)
    refine v_if_ne 136 (q := 132) dX5_joined_129 (kt := fun c => ?_) (kf := fun c => ?_)
    · refine v_iload_n (q := 137) dX5_joined_136 (kk := ?_)
      refine v_iload_n (q := 138) dX5_joined_137 (kk := ?_)
      refine v_idiv (q := 139) dX5_joined_138 c (kk := ?_)
      refine v_iret dX5_joined_139 (hQ := ?_)
      rwa [if_neg c] at hQ
    · refine v_iconst (v := 0) (q := 133) dX5_joined_132 (kk := ?_)
      refine v_goto 139 dX5_joined_133 (kt := ?_)
      refine v_iret dX5_joined_139 (hQ := ?_)
      rwa [if_pos c] at hQ
theorem s_two {c x y : Int32} (hc : c = -1 ∨ c = -2 ∨ c = -3 ∨ c = -4 ∨ c = -5 ∨ c = -6 ∨ c = -7 ∨ c = -8 ∨ c = -9) (hQ : Q (some (.int (two c x y))) S I R z) : Cl g mX7_two 0 0 0 S I R z [.int c, .int x, .int y] Q := by
  refine Cl.go [some (.int c), some (.int x), some (.int y)] ?_
  refine v_iload_n (q := 1) dX7_two_0 (kk := ?_)
  rcases hc with rfl | rfl | rfl | rfl | rfl | rfl | rfl | rfl | rfl
  · have e : two (-1) x y = hc_b (¬ x = 0 ∨ ¬ y = 0) := by simp [two]
    rw [e] at hQ
    refine v_tsIn 48 dX7_two_1 (by decide) (by decide) (by rfl) (kt := ?_)
    refine v_iload_n (q := 49) dX7_two_48 (kk := ?_)
    refine v_if_ne 56 (q := 52) dX7_two_49 (kt := fun c => ?_) (kf := fun c => ?_)
    · refine v_iconst (v := 1) (q := 57) dX7_two_56 (kk := ?_)
      refine v_goto 61 dX7_two_57 (kt := ?_)
      refine v_iret dX7_two_61 (hQ := ?_)
      rwa [hc_bt (Or.inl c)] at hQ
    · refine v_iload_n (q := 53) dX7_two_52 (kk := ?_)
      refine v_if_eq 60 (q := 56) dX7_two_53 (kt := fun c2 => ?_) (kf := fun c2 => ?_)
      · refine v_iconst (v := 0) (q := 61) dX7_two_60 (kk := ?_)
        refine v_iret dX7_two_61 (hQ := ?_)
        rwa [hc_bf (fun h => h.elim (fun n => n c) (fun n => n c2))] at hQ
      · refine v_iconst (v := 1) (q := 57) dX7_two_56 (kk := ?_)
        refine v_goto 61 dX7_two_57 (kt := ?_)
        refine v_iret dX7_two_61 (hQ := ?_)
        rwa [hc_bt (Or.inr c2)] at hQ
  · have e : two (-2) x y = hc_b (¬ x = 0 ∧ ¬ y = 0) := by simp [two]
    rw [e] at hQ
    refine v_tsIn 62 dX7_two_1 (by decide) (by decide) (by rfl) (kt := ?_)
    refine v_iload_n (q := 63) dX7_two_62 (kk := ?_)
    refine v_if_eq 74 (q := 66) dX7_two_63 (kt := fun c => ?_) (kf := fun c => ?_)
    · refine v_iconst (v := 0) (q := 75) dX7_two_74 (kk := ?_)
      refine v_iret dX7_two_75 (hQ := ?_)
      rwa [hc_bf (fun h => h.1 c)] at hQ
    · refine v_iload_n (q := 67) dX7_two_66 (kk := ?_)
      refine v_if_eq 74 (q := 70) dX7_two_67 (kt := fun c2 => ?_) (kf := fun c2 => ?_)
      · refine v_iconst (v := 0) (q := 75) dX7_two_74 (kk := ?_)
        refine v_iret dX7_two_75 (hQ := ?_)
        rwa [hc_bf (fun h => h.2 c2)] at hQ
      · refine v_iconst (v := 1) (q := 71) dX7_two_70 (kk := ?_)
        refine v_goto 75 dX7_two_71 (kt := ?_)
        refine v_iret dX7_two_75 (hQ := ?_)
        rwa [hc_bt ⟨c, c2⟩] at hQ
  · have e : two (-3) x y = hc_b (x < y) := by simp [two]
    rw [e] at hQ
    refine v_tsIn 76 dX7_two_1 (by decide) (by decide) (by rfl) (kt := ?_)
    refine v_iload_n (q := 77) dX7_two_76 (kk := ?_)
    refine v_iload_n (q := 78) dX7_two_77 (kk := ?_)
    refine v_icmp_ge 85 (q := 81) dX7_two_78 (kt := fun c => ?_) (kf := fun c => ?_)
    · refine v_iconst (v := 0) (q := 86) dX7_two_85 (kk := ?_)
      refine v_iret dX7_two_86 (hQ := ?_)
      rwa [hc_bf (Int32.not_lt.mpr c)] at hQ
    · refine v_iconst (v := 1) (q := 82) dX7_two_81 (kk := ?_)
      refine v_goto 86 dX7_two_82 (kt := ?_)
      refine v_iret dX7_two_86 (hQ := ?_)
      rwa [hc_bt (Int32.not_le.mp c)] at hQ
  · have e : two (-4) x y = hc_b (x = y) := by simp [two]
    rw [e] at hQ
    refine v_tsIn 87 dX7_two_1 (by decide) (by decide) (by rfl) (kt := ?_)
    refine v_iload_n (q := 88) dX7_two_87 (kk := ?_)
    refine v_iload_n (q := 89) dX7_two_88 (kk := ?_)
    refine v_icmp_ne 96 (q := 92) dX7_two_89 (kt := fun c => ?_) (kf := fun c => ?_)
    · refine v_iconst (v := 0) (q := 97) dX7_two_96 (kk := ?_)
      refine v_iret dX7_two_97 (hQ := ?_)
      rwa [hc_bf c] at hQ
    · refine v_iconst (v := 1) (q := 93) dX7_two_92 (kk := ?_)
      refine v_goto 97 dX7_two_93 (kt := ?_)
      refine v_iret dX7_two_97 (hQ := ?_)
      rwa [hc_bt c] at hQ
  · have e : two (-5) x y = hc_b (y < x) := by simp [two]
    rw [e] at hQ
    refine v_tsIn 98 dX7_two_1 (by decide) (by decide) (by rfl) (kt := ?_)
    refine v_iload_n (q := 99) dX7_two_98 (kk := ?_)
    refine v_iload_n (q := 100) dX7_two_99 (kk := ?_)
    refine v_icmp_le 107 (q := 103) dX7_two_100 (kt := fun c => ?_) (kf := fun c => ?_)
    · refine v_iconst (v := 0) (q := 108) dX7_two_107 (kk := ?_)
      refine v_iret dX7_two_108 (hQ := ?_)
      rwa [hc_bf (Int32.not_lt.mpr c)] at hQ
    · refine v_iconst (v := 1) (q := 104) dX7_two_103 (kk := ?_)
      refine v_goto 108 dX7_two_104 (kt := ?_)
      refine v_iret dX7_two_108 (hQ := ?_)
      rwa [hc_bt (Int32.not_le.mp c)] at hQ
  · have e : two (-6) x y = x + y := by simp [two]
    rw [e] at hQ
    refine v_tsIn 109 dX7_two_1 (by decide) (by decide) (by rfl) (kt := ?_)
    refine v_iload_n (q := 110) dX7_two_109 (kk := ?_)
    refine v_iload_n (q := 111) dX7_two_110 (kk := ?_)
    refine v_iadd (q := 112) dX7_two_111 (kk := ?_)
    refine v_iret dX7_two_112 (hQ := ?_)
    exact hQ
  · have e : two (-7) x y = x - y := by simp [two]
    rw [e] at hQ
    refine v_tsIn 113 dX7_two_1 (by decide) (by decide) (by rfl) (kt := ?_)
    refine v_iload_n (q := 114) dX7_two_113 (kk := ?_)
    refine v_iload_n (q := 115) dX7_two_114 (kk := ?_)
    refine v_isub (q := 116) dX7_two_115 (kk := ?_)
    refine v_iret dX7_two_116 (hQ := ?_)
    exact hQ
  · have e : two (-8) x y = x * y := by simp [two]
    rw [e] at hQ
    refine v_tsIn 117 dX7_two_1 (by decide) (by decide) (by rfl) (kt := ?_)
    refine v_iload_n (q := 118) dX7_two_117 (kk := ?_)
    refine v_iload_n (q := 119) dX7_two_118 (kk := ?_)
    refine v_imul (q := 120) dX7_two_119 (kk := ?_)
    refine v_iret dX7_two_120 (hQ := ?_)
    exact hQ
  · have e : two (-9) x y = if y = 0 then 0 else x / y := by simp [two]
    rw [e] at hQ
    refine v_tsOut 121 dX7_two_1 (by decide) (kt := ?_)
    refine v_iload_n (q := 122) dX7_two_121 (kk := ?_)
    refine v_if_ne 129 (q := 125) dX7_two_122 (kt := fun c => ?_) (kf := fun c => ?_)
    · refine v_iload_n (q := 130) dX7_two_129 (kk := ?_)
      refine v_iload_n (q := 131) dX7_two_130 (kk := ?_)
      refine v_idiv (q := 132) dX7_two_131 c (kk := ?_)
      refine v_iret dX7_two_132 (hQ := ?_)
      rwa [if_neg c] at hQ
    · refine v_iconst (v := 0) (q := 126) dX7_two_125 (kk := ?_)
      refine v_goto 132 dX7_two_126 (kt := ?_)
      refine v_iret dX7_two_132 (hQ := ?_)
      rwa [if_pos c] at hQ
end T1
