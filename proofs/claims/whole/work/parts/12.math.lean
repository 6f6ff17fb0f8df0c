/-! the hall as numbers, N, in the reference's layout; both sides are tied to it -/
abbrev hN : Type := Nat → Int32
def fst0 (f : Nat → Bool) : Nat → Nat → Option Nat
  | _, 0 => none
  | i, n + 1 => if f i = true then some i else fst0 f (i + 1) n
theorem fst0_congr {f f' : Nat → Bool} : ∀ (n i : Nat), (∀ j, i ≤ j → j < i + n → f j = f' j) → fst0 f i n = fst0 f' i n
  | 0, i, _ => rfl
  | n + 1, i, h => by
    simp only [fst0]
    rw [h i (Nat.le_refl _) (by omega), fst0_congr n (i + 1) (fun j h1 h2 => h j (by omega) (by omega))]
theorem fst0_some {f : Nat → Bool} : ∀ (n i p : Nat), fst0 f i n = some p → i ≤ p ∧ p < i + n ∧ f p = true
  | 0, i, p, h => by simp [fst0] at h
  | n + 1, i, p, h => by
    simp only [fst0] at h
    split at h
    next c => simp only [Option.some.injEq] at h; subst h; exact ⟨Nat.le_refl _, by omega, c⟩
    next c =>
      obtain ⟨h1, h2, h3⟩ := fst0_some n (i + 1) p h
      exact ⟨by omega, by omega, h3⟩
theorem fst0_none {f : Nat → Bool} : ∀ (n i : Nat), fst0 f i n = none → ∀ p, i ≤ p → p < i + n → f p = false
  | 0, i, h, p, h1, h2 => by omega
  | n + 1, i, h, p, h1, h2 => by
    simp only [fst0] at h
    split at h
    next c => cases h
    next c =>
      by_cases e : p = i
      · subst e
        simpa using c
      · exact fst0_none n (i + 1) h p (by omega) (by omega)
def hc_o (o : Option Nat) : Int32 := match o with
  | none => -1
  | some p => nI p
def whoF (N : hN) (np : Nat) (seat : Int32) : Option Nat := fst0 (fun p => decide (N (33 + 6 * p + 1) = seat)) 0 np
/-- the TEXT that counts for key k, of the first t -/
def cntF (N : hN) (k : Nat) : Nat → Option Nat
  | 0 => none
  | t + 1 => if N (93 + 2 * t) / 1000 = nI k then some t else cntF N k t
def hc_wi (v lo hi : Int32) : Int32 := if v < lo then lo else if hi < v then hi else v
def two (c x y : Int32) : Int32 :=
  if c = -1 then hc_b (¬ x = 0 ∨ ¬ y = 0) else if c = -2 then hc_b (¬ x = 0 ∧ ¬ y = 0) else if c = -3 then hc_b (x < y) else if c = -4 then hc_b (x = y) else if c = -5 then hc_b (y < x)
  else if c = -6 then x + y else if c = -7 then x - y else if c = -8 then x * y else if y = 0 then 0 else x / y
def stN : List Int32 → List Int32
  | [] => []
  | x :: r => hc_b (x = 0) :: r
def stB (c : Int32) : List Int32 → List Int32
  | y :: x :: r => two c x y :: r
  | r => r
def stp1 (f : Nat → Int32) (c : Int32) (s : List Int32) : List Int32 :=
  if 0 ≤ c then (if c < 10000 then c else f (c - 10000).toNatClampNeg) :: s
  else if c = -10 then stN s
  else stB c s
def evS (f : Nat → Int32) (c : Nat → Int32) : Nat → List Int32
  | 0 => []
  | n + 1 => stp1 f (c n) (evS f c n)
/-- how deep the stack is behind n codes; how many leaves they hold -/
def dpS (c : Nat → Int32) : Nat → Nat
  | 0 => 0
  | n + 1 => if 0 ≤ c n then dpS c n + 1 else if c n = -10 then dpS c n else dpS c n - 1
def lvS (c : Nat → Int32) : Nat → Nat
  | 0 => 0
  | n + 1 => if 0 ≤ c n then lvS c n + 1 else lvS c n
theorem dpS_le (c : Nat → Int32) : ∀ n, dpS c n ≤ lvS c n
  | 0 => Nat.le_refl _
  | n + 1 => by
    have := dpS_le c n
    simp only [dpS, lvS]
    split
    · omega
    · split <;> omega
theorem lvS_le (c : Nat → Int32) : ∀ n, lvS c n ≤ n
  | 0 => Nat.le_refl _
  | n + 1 => by
    have := lvS_le c n
    simp only [lvS]
    split <;> omega
theorem lvS_mono (c : Nat → Int32) : ∀ {m n : Nat}, m ≤ n → lvS c m ≤ lvS c n := by
  intro m n h
  induction n with
  | zero => have : m = 0 := by omega
            subst this; exact Nat.le_refl _
  | succ n ih =>
    by_cases e : m = n + 1
    · subst e; exact Nat.le_refl _
    · have := ih (by omega)
      simp only [lvS]
      split <;> omega
/-- n codes that can be worked out, with names below nm -/
def okC (c : Nat → Int32) (n nm : Nat) : Prop := (∀ k, k < n → (¬ 0 ≤ c k → 1 ≤ dpS c k) ∧ (¬ 0 ≤ c k → ¬ c k = -10 → 2 ≤ dpS c k) ∧ (0 ≤ c k → c k < nI (10000 + nm)) ∧ -10 ≤ c k) ∧ dpS c n = 1
theorem evS_len {f : Nat → Int32} {c : Nat → Int32} {n nm : Nat} (h : okC c n nm) : ∀ k, k ≤ n → (evS f c k).length = dpS c k
  | 0, _ => rfl
  | k + 1, hk => by
    have ih := evS_len (f := f) h k (by omega)
    obtain ⟨h1, h2, -, -⟩ := h.1 k (by omega)
    simp only [evS, stp1, dpS]
    by_cases c1 : 0 ≤ c k
    · simp only [c1, if_true, List.length_cons, ih]
    · simp only [c1, if_false]
      by_cases c2 : c k = -10
      · simp only [c2, if_true]
        have := h1 c1
        cases e : evS f c k with
        | nil => rw [e] at ih; simp at ih; omega
        | cons x r => rw [e] at ih; simpa [stN] using ih
      · simp only [c2, if_false]
        have := h2 c1 c2
        cases e : evS f c k with
        | nil => rw [e] at ih; simp at ih; omega
        | cons x r =>
          cases r with
          | nil => rw [e] at ih; simp at ih; omega
          | cons y r => rw [e] at ih; simp [stB] at ih ⊢; omega
/-- what is worked out doesn't depend on names that the codes don't have -/
theorem evS_congr {f f' : Nat → Int32} {c : Nat → Int32} {n nm : Nat} (h : okC c n nm) (hnm : nm ≤ 100) (hf : ∀ j, j < nm → f j = f' j) : ∀ k, k ≤ n → evS f c k = evS f' c k
  | 0, _ => rfl
  | k + 1, hk => by
    have ih := evS_congr h hnm hf k (by omega)
    obtain ⟨-, -, h3, -⟩ := h.1 k (by omega)
    simp only [evS, ih, stp1]
    by_cases c1 : 0 ≤ c k
    · simp only [c1, if_true]
      by_cases c2 : c k < 10000
      · simp only [c2, if_true]
      · simp only [c2, if_false]
        have h3 := h3 c1
        obtain ⟨j, hj, e⟩ := nI_of (x := c k) (Int32.not_lt.mpr c1)
        rw [e] at h3 c2 ⊢
        have h4 : j < 10000 + nm := (nI_ltI hj (by omega)).mp h3
        have h5 : 10000 ≤ j := by
          rcases Nat.lt_or_ge j 10000 with q | q
          · exact absurd (show nI j < nI 10000 from (nI_ltI hj (by omega)).mpr q) c2
          · exact q
        have e2 : nI j - 10000 = nI (j - 10000) := pk_sub (b := 10000) h5
        rw [e2, nI_clamp (by omega), hf _ (by omega)]
    · simp only [c1, if_false]
def evF (f : Nat → Int32) (c : Nat → Int32) (n : Nat) : Int32 := (evS f c n).headD 0
def cdN (N : hN) (t : Nat) : Nat → Int32 := fun k => N (121 + 96 * t + k)
def cnN (N : hN) (t : Nat) : Nat := (N (93 + 2 * t)).toNatClampNeg % 1000
def f3 (x y w : Int32) : Nat → Int32 := fun j => if j = 0 then x else if j = 1 then y else w
/-- TEXT t as the numbers hold it: key, codes, leaves -/
def TW (N : hN) (t key cn lv : Nat) : Prop := key < 3 ∧ cn ≤ 96 ∧ N (93 + 2 * t) = nI (1000 * key + cn) ∧ N (94 + 2 * t) = nI lv ∧ lv = lvS (cdN N t) cn ∧ okC (cdN N t) cn (if key = 0 then 3 else 2)
/-- one of PEOPLE, as the numbers hold it -/
def PW (N : hN) (p sec : Nat) : Prop := (∃ k, N (33 + 6 * p) = nI k ∧ k < 6) ∧ (∃ k, N (33 + 6 * p + 1) = nI k ∧ k < 30) ∧ (∃ k, N (33 + 6 * p + 2) = nI k ∧ k < 100) ∧ (∃ k, N (33 + 6 * p + 3) = nI k ∧ k < 1000) ∧ (∃ k, N (33 + 6 * p + 4) = nI k ∧ k < 100) ∧ (∃ k, N (33 + 6 * p + 5) = nI k ∧ k ≤ sec)
def WF (N : hN) (np nb nt sec : Nat) : Prop :=
  (N 1 = nI np ∧ np ≤ 10) ∧ (N 2 = nI nb ∧ 1 ≤ nb ∧ nb ≤ 24) ∧ (N 8 = nI nt ∧ nt ≤ 14) ∧ (N 3 = nI sec ∧ sec ≤ 110000) ∧ (∃ h, N 4 = nI h ∧ h ≤ 9999 * sec) ∧ (∃ k, N 5 = nI k ∧ k < 2 ^ np) ∧ (∃ k, N 6 = nI k ∧ k < 100) ∧ (∃ k, N 7 = nI k ∧ k < 10) ∧ (∀ k, k < nb → ∃ x, N (9 + k) = nI x ∧ x < 100) ∧ (∀ p, p < np → PW N p sec) ∧ (∀ t, t < nt → ∃ key cn lv, TW N t key cn lv)
def optM (o : Option Nat) (x : Int32) (f : Nat → Int32) : Int32 := match o with
  | none => x
  | some t => f t
def growF (N : hN) (nt p : Nat) : Int32 := if 0 < N (33 + 6 * p + 4) then 0 else hc_wi (optM (cntF N 0 nt) (1 + N (33 + 6 * p + 2) / 20 + N 6 / 10) (fun t => evF (f3 (N (33 + 6 * p + 2)) (N 6) (N (33 + 6 * p + 3))) (cdN N t) (cnN N t))) 0 99
def harmF (N : hN) (nb nt sec n : Nat) : Int32 := optM (cntF N 1 nt) (nI n * hc_wi (60 - N (9 + sec % nb)) 0 60) (fun t => hc_wi (evF (f3 (nI n) (N (9 + sec % nb)) 0) (cdN N t) (cnN N t)) 0 9999)
def fineF (N : hN) (nt p : Nat) : Int32 := optM (cntF N 2 nt) (N (33 + 6 * p + 5)) (fun t => evF (f3 (N (33 + 6 * p + 5)) (N 4) 0) (cdN N t) (cnN N t))
def bitB (x : Int32) (q : Nat) : Bool := decide ((x >>> (nI q &&& 31)) &&& 1 = 1)
def offB (N : hN) (np p : Nat) : Bool := (fst0 (fun q => decide (¬ q = p) && bitB (N 5) q && decide (-(N 7) ≤ N (33 + 6 * q + 1) - N (33 + 6 * p + 1)) && decide (N (33 + 6 * q + 1) - N (33 + 6 * p + 1) ≤ N 7)) 0 np).isSome
def goB (N : hN) (np nb sec p : Nat) : Bool :=
  if N (33 + 6 * p) = 1 then decide (200 ≤ N (33 + 6 * p + 3)) || (decide (100 ≤ N (33 + 6 * p + 3)) && decide (N (9 + sec % nb) = 0))
  else if N (33 + 6 * p) = 2 then decide (200 ≤ N (33 + 6 * p + 3)) || (decide (100 ≤ N (33 + 6 * p + 3)) && decide (50 ≤ N (9 + sec % nb)))
  else if N (33 + 6 * p) = 3 then (decide (200 ≤ N (33 + 6 * p + 3)) || (decide (100 ≤ N (33 + 6 * p + 3)) && decide (N (9 + sec % nb) = 0))) || (decide (50 ≤ N (33 + 6 * p + 3)) && offB N np p)
  else if N (33 + 6 * p) = 4 then (decide (200 ≤ N (33 + 6 * p + 3)) || (decide (100 ≤ N (33 + 6 * p + 3)) && decide (50 ≤ N (9 + sec % nb)))) || (decide (nI (sec % 60) = N (33 + 6 * p + 2) - N (33 + 6 * p + 2) / 60 * 60) && decide (0 < N (33 + 6 * p + 3)))
  else if N (33 + 6 * p) = 5 then decide (nI (sec % 30) = N (33 + 6 * p + 1))
  else decide (100 ≤ N (33 + 6 * p + 3))
/-- a SECOND, step by step -/
def grow1 (N : hN) (nt p : Nat) : hN := upd (upd N (33 + 6 * p + 3) (hc_wi (N (33 + 6 * p + 3) + growF N nt p) 0 999)) (33 + 6 * p + 4) (if 0 < N (33 + 6 * p + 4) then N (33 + 6 * p + 4) - 1 else 0)
def growA (N : hN) (nt : Nat) : Nat → hN
  | 0 => N
  | p + 1 => grow1 (growA N nt p) nt p
def setA (N : hN) (np nb sec : Nat) : Nat → Nat
  | 0 => 0
  | p + 1 => setA N np nb sec p + (if goB N np nb sec p = true then 2 ^ p else 0)
def pop10 (n : Nat) : Nat := (List.range 10).foldl (fun s i => s + n / 2 ^ i % 2) 0
def cough1 (N : hN) (s p : Nat) : hN := if s / 2 ^ p % 2 = 1 then upd (upd N (33 + 6 * p + 3) 0) (33 + 6 * p + 5) (N (33 + 6 * p + 5) + 1) else N
def coughA (N : hN) (s : Nat) : Nat → hN
  | 0 => N
  | p + 1 => cough1 (coughA N s p) s p
def secS (N : hN) (np nb nt sec : Nat) : Nat := setA (growA N nt np) np nb sec np
def secF (N : hN) (np nb nt sec : Nat) : hN :=
  upd (upd (upd (coughA (growA N nt np) (secS N np nb nt sec) np) 4 (N 4 + (if 0 < pop10 (secS N np nb nt sec) then harmF (coughA (growA N nt np) (secS N np nb nt sec) np) nb nt sec (pop10 (secS N np nb nt sec)) else 0))) 3 (nI (sec + 1))) 5 (nI (secS N np nb nt sec))
def secsF (N : hN) (np nb nt sec : Nat) : Nat → hN
  | 0 => N
  | n + 1 => secF (secsF N np nb nt sec n) np nb nt (sec + n)
def secsC (N : hN) (np nb nt sec : Nat) : Nat → Nat
  | 0 => 0
  | n + 1 => secsC N np nb nt sec n + pop10 (secS (secsF N np nb nt sec n) np nb nt (sec + n))
