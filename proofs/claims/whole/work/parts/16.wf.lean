theorem wi_nI (v : Int32) {hi : Nat} (hh : hi < 2 ^ 31) : ∃ k, hc_wi v 0 (nI hi) = nI k ∧ k ≤ hi := by
  unfold hc_wi
  by_cases h : v < 0
  · exact ⟨0, by rw [if_pos h]; rfl, Nat.zero_le _⟩
  · rw [if_neg h]
    by_cases h2 : nI hi < v
    · exact ⟨hi, by rw [if_pos h2], Nat.le_refl _⟩
    · obtain ⟨j, hj, e⟩ := nI_of (x := v) h
      refine ⟨j, by rw [if_neg h2]; exact e, ?_⟩
      rw [e] at h2
      rcases Nat.lt_or_ge hi j with q | q
      · exact absurd ((nI_ltI hh hj).mpr q) h2
      · exact q
theorem wi_id {k hi : Nat} (hk : k ≤ hi) (hh : hi < 2 ^ 31) : hc_wi (nI k) 0 (nI hi) = nI k := by
  unfold hc_wi
  rw [if_neg (nI_pos (by omega)), if_neg (fun h => by have := (nI_ltI hh (by omega)).mp h; omega)]
theorem held_wi (v : Int32) {hi : Nat} (hh : hi < 2 ^ 31) : hc_max 0 (hc_min v (nI hi)) = hc_wi v 0 (nI hi) := by
  unfold hc_wi
  by_cases h : v < 0
  · have h2 : v ≤ nI hi := Int32.le_of_lt (Int32.lt_of_lt_of_le h (nI_pos' hh))
    rw [if_pos h]
    unfold hc_max hc_min
    rw [if_pos h2, if_neg (Int32.not_lt.mpr (Int32.le_of_lt h))]
  · rw [if_neg h]
    obtain ⟨j, hj, e⟩ := nI_of (x := v) h
    by_cases h2 : nI hi < v
    · rw [if_pos h2]
      unfold hc_min
      rw [if_neg (Int32.not_le.mpr h2)]
      unfold hc_max
      by_cases h3 : 0 < nI hi
      · rw [if_pos h3]
      · rw [if_neg h3]
        have : hi = 0 := by
          rcases Nat.eq_zero_or_pos hi with q | q
          · exact q
          · exact absurd (show nI 0 < nI hi from (nI_ltI (by omega) hh).mpr q) h3
        subst this
        rfl
    · rw [if_neg h2]
      unfold hc_min
      rw [if_pos (Int32.not_lt.mp h2)]
      unfold hc_max
      by_cases h3 : 0 < v
      · rw [if_pos h3]
      · rw [if_neg h3]
        have h4 := Int32.not_lt.mp h
        have h5 := Int32.not_lt.mp h3
        exact Int32.le_antisymm h4 h5
theorem cdN_congr {N N' : hN} (hT : ∀ i, 93 ≤ i → N' i = N i) (t : Nat) : cdN N' t = cdN N t := by
  funext k
  exact hT _ (by omega)
theorem cntF_congr {N N' : hN} (hT : ∀ i, 93 ≤ i → N' i = N i) (k : Nat) : ∀ nt, cntF N' k nt = cntF N k nt
  | 0 => rfl
  | n + 1 => by
    simp only [cntF]
    rw [hT (93 + 2 * n) (by omega), cntF_congr hT k n]
theorem TW_congr {N N' : hN} (hT : ∀ i, 93 ≤ i → N' i = N i) {t key cn lv : Nat} (h : TW N t key cn lv) : TW N' t key cn lv := by
  unfold TW at h ⊢
  rw [cdN_congr hT, hT (93 + 2 * t) (by omega), hT (94 + 2 * t) (by omega)]
  exact h
theorem TW_cn {N : hN} {t key cn lv : Nat} (h : TW N t key cn lv) : cnN N t = cn := by
  obtain ⟨h1, h2, h3, -⟩ := h
  unfold cnN
  rw [h3, nI_clamp (by omega)]
  omega
theorem TW_key {N : hN} {t key cn lv k : Nat} (h : TW N t key cn lv) (hk : N (93 + 2 * t) / 1000 = nI k) (hk3 : k < 3) : key = k := by
  obtain ⟨h1, h2, h3, -⟩ := h
  rw [h3, show (1000 : Int32) = nI 1000 from rfl, pk_div (by omega) (by omega) (by omega)] at hk
  have := (nI_eq (by omega) (by omega)).mp hk
  omega
theorem PW_congr {N N' : hN} {p sec : Nat} (h : PW N p sec) (he : ∀ j, j < 6 → N' (33 + 6 * p + j) = N (33 + 6 * p + j)) : PW N' p sec := by
  unfold PW at h ⊢
  have e0 := he 0 (by omega)
  rw [Nat.add_zero] at e0
  rw [e0, he 1 (by omega), he 2 (by omega), he 3 (by omega), he 4 (by omega), he 5 (by omega)]
  exact h
theorem WF.of {N N' : hN} {np nb nt sec sec' : Nat} (h : WF N np nb nt sec) (hT : ∀ i, 93 ≤ i → N' i = N i) (h1 : N' 1 = N 1) (h2 : N' 2 = N 2) (h8 : N' 8 = N 8) (h6 : N' 6 = N 6) (h7 : N' 7 = N 7) (hl : ∀ k, k < nb → N' (9 + k) = N (9 + k)) (h3 : N' 3 = nI sec' ∧ sec' ≤ 110000) (h4 : ∃ k, N' 4 = nI k ∧ k ≤ 9999 * sec') (h5 : ∃ k, N' 5 = nI k ∧ k < 2 ^ np) (hp : ∀ p, p < np → PW N' p sec') : WF N' np nb nt sec' := by
  obtain ⟨a1, a2, a3, a4, a5, a6, a7, a8, a9, a10, a11⟩ := h
  refine ⟨by rw [h1]; exact a1, by rw [h2]; exact a2, by rw [h8]; exact a3, h3, h4, h5, by rw [h6]; exact a7, by rw [h7]; exact a8, fun k hk => by rw [hl k hk]; exact a9 k hk, hp, fun t ht => ?_⟩
  obtain ⟨key, cn, lv, q⟩ := a11 t ht
  exact ⟨key, cn, lv, TW_congr hT q⟩
theorem grow_range {N : hN} {nt p : Nat} : ∃ k, growF N nt p = nI k ∧ k ≤ 99 := by
  unfold growF
  split
  · exact ⟨0, rfl, by omega⟩
  · exact wi_nI _ (hi := 99) (by omega)
theorem upd_ne {f : Nat → Int32} {k j : Nat} {x : Int32} (h : j ≠ k) : upd f k x j = f j := pk_un h
theorem grow1_ne {N : hN} {nt p i : Nat} (h1 : i ≠ 33 + 6 * p + 3) (h2 : i ≠ 33 + 6 * p + 4) : grow1 N nt p i = N i := by
  unfold grow1
  rw [upd_ne h2, upd_ne h1]
theorem grow1_WF {N : hN} {np nb nt sec p : Nat} (h : WF N np nb nt sec) (hp : p < np) : WF (grow1 N nt p) np nb nt sec := by
  have hnp := h.1.2
  have hg : ∀ i, i < 33 ∨ 93 ≤ i → grow1 N nt p i = N i := fun i hi => grow1_ne (by omega) (by omega)
  refine h.of (fun i hi => hg i (by omega)) (hg 1 (by omega)) (hg 2 (by omega)) (hg 8 (by omega)) (hg 6 (by omega)) (hg 7 (by omega)) (fun k hk => hg _ (by have := h.2.1.2.2; omega)) ⟨(hg 3 (by omega)).trans h.2.2.2.1.1, h.2.2.2.1.2⟩ ?_ ?_ (fun q hq => ?_)
  · obtain ⟨k, e, hk⟩ := h.2.2.2.2.1
    exact ⟨k, (hg 4 (by omega)).trans e, hk⟩
  · obtain ⟨k, e, hk⟩ := h.2.2.2.2.2.1
    exact ⟨k, (hg 5 (by omega)).trans e, hk⟩
  · have hP := h.2.2.2.2.2.2.2.2.2.1 q hq
    by_cases e : q = p
    · subst e
      obtain ⟨p0, p1, p2, p3, ⟨k4, e4, h4⟩, p5⟩ := hP
      unfold PW
      rw [grow1_ne (i := 33 + 6 * q) (by omega) (by omega), grow1_ne (i := 33 + 6 * q + 1) (by omega) (by omega), grow1_ne (i := 33 + 6 * q + 2) (by omega) (by omega), grow1_ne (i := 33 + 6 * q + 5) (by omega) (by omega)]
      refine ⟨p0, p1, p2, ?_, ?_, p5⟩
      · have e3 : grow1 N nt q (33 + 6 * q + 3) = hc_wi (N (33 + 6 * q + 3) + growF N nt q) 0 999 := by
          unfold grow1
          rw [upd_ne (by omega), upd_at]
        rw [e3]
        obtain ⟨k, ek, hk⟩ := wi_nI (N (33 + 6 * q + 3) + growF N nt q) (hi := 999) (by omega)
        exact ⟨k, ek, by omega⟩
      · have e5 : grow1 N nt q (33 + 6 * q + 4) = if 0 < N (33 + 6 * q + 4) then N (33 + 6 * q + 4) - 1 else 0 := by
          unfold grow1
          rw [upd_at]
        rw [e5, e4]
        by_cases h0 : 0 < nI k4
        · rw [if_pos h0]
          have : 0 < k4 := (nI_ltI (a := 0) (by omega) (by omega)).mp h0
          refine ⟨k4 - 1, ?_, by omega⟩
          exact pk_sub (b := 1) (by omega)
        · rw [if_neg h0]
          exact ⟨0, rfl, by omega⟩
    · exact PW_congr hP (fun j hj => grow1_ne (by omega) (by omega))
theorem growA_WF {N : hN} {np nb nt sec : Nat} (h : WF N np nb nt sec) : ∀ p, p ≤ np → WF (growA N nt p) np nb nt sec
  | 0, _ => h
  | p + 1, hp => grow1_WF (growA_WF h p (by omega)) (by omega)
theorem growA_ne {N : hN} {nt : Nat} : ∀ (p i : Nat), p ≤ 10 → (i < 33 ∨ 93 ≤ i) → growA N nt p i = N i
  | 0, _, _, _ => rfl
  | p + 1, i, hp, hi => by
    rw [growA, grow1_ne (by omega) (by omega)]
    exact growA_ne p i (by omega) hi
theorem setA_lt {N : hN} {np nb sec : Nat} : ∀ p, setA N np nb sec p < 2 ^ p
  | 0 => by simp [setA]
  | p + 1 => by
    have := setA_lt (N := N) (np := np) (nb := nb) (sec := sec) p
    simp only [setA, Nat.pow_succ]
    split <;> omega
theorem cough1_ne {N : hN} {s p i : Nat} (h1 : i ≠ 33 + 6 * p + 3) (h2 : i ≠ 33 + 6 * p + 5) : cough1 N s p i = N i := by
  unfold cough1
  split
  · rw [upd_ne h2, upd_ne h1]
  · rfl
/-- what holds of the numbers while coughs are told: nobody coughed more often than there are seconds, and those from p on less -/
def CW (N : hN) (np sec p : Nat) : Prop := ∀ q, q < np → (q < p → PW N q (sec + 1)) ∧ (p ≤ q → PW N q sec)
theorem PW_more {N : hN} {p sec sec' : Nat} (h : PW N p sec) (hs : sec ≤ sec') : PW N p sec' := by
  obtain ⟨p0, p1, p2, p3, p4, ⟨k, e, hk⟩⟩ := h
  exact ⟨p0, p1, p2, p3, p4, ⟨k, e, by omega⟩⟩
theorem coughA_ne {N : hN} {s : Nat} : ∀ (p i : Nat), p ≤ 10 → (i < 33 ∨ 93 ≤ i) → coughA N s p i = N i
  | 0, _, _, _ => rfl
  | p + 1, i, hp, hi => by
    rw [coughA, cough1_ne (by omega) (by omega)]
    exact coughA_ne p i (by omega) hi
theorem coughA_later {N : hN} {s : Nat} : ∀ (p q j : Nat), p ≤ q → j < 6 → coughA N s p (33 + 6 * q + j) = N (33 + 6 * q + j)
  | 0, _, _, _, _ => rfl
  | p + 1, q, j, hp, hj => by
    rw [coughA, cough1_ne (by omega) (by omega)]
    exact coughA_later p q j (by omega) hj
theorem coughA_CW {N : hN} {np s sec : Nat} (hs : sec ≤ 110000) (h : ∀ q, q < np → PW N q sec) : ∀ p, p ≤ np → CW (coughA N s p) np sec p
  | 0, _ => fun q hq => ⟨fun x => by omega, fun _ => h q hq⟩
  | p + 1, hp => by
    intro q hq
    have ih := coughA_CW (s := s) hs h p (by omega) q hq
    have hne : q ≠ p → ∀ j, j < 6 → coughA N s (p + 1) (33 + 6 * q + j) = coughA N s p (33 + 6 * q + j) := fun hqp j hj => by
      rw [coughA, cough1_ne (by omega) (by omega)]
    constructor
    · intro hlt
      by_cases e : q = p
      · subst e
        have hP := ih.2 (Nat.le_refl _)
        rw [coughA]
        unfold cough1
        split
        next hbit =>
          obtain ⟨p0, p1, p2, p3, p4, ⟨k5, e5, h5⟩⟩ := hP
          unfold PW
          rw [upd_ne (j := 33 + 6 * q) (by omega), upd_ne (j := 33 + 6 * q) (by omega), upd_ne (j := 33 + 6 * q + 1) (by omega), upd_ne (j := 33 + 6 * q + 1) (by omega), upd_ne (j := 33 + 6 * q + 2) (by omega), upd_ne (j := 33 + 6 * q + 2) (by omega), upd_ne (j := 33 + 6 * q + 3) (by omega), upd_at, upd_ne (j := 33 + 6 * q + 4) (by omega), upd_ne (j := 33 + 6 * q + 4) (by omega), upd_at]
          exact ⟨p0, p1, p2, ⟨0, rfl, by omega⟩, p4, ⟨k5 + 1, by rw [e5]; exact nI_1 k5, by omega⟩⟩
        next => exact PW_more hP (by omega)
      · exact PW_congr (ih.1 (by omega)) (hne e)
    · intro hle
      exact PW_congr (ih.2 (by omega)) (hne (by omega))
theorem harm_range {N : hN} {nb nt sec n : Nat} (hn : n ≤ 10) (hl : ∃ x, N (9 + sec % nb) = nI x ∧ x < 100) : ∃ k, harmF N nb nt sec n = nI k ∧ k ≤ 9999 := by
  unfold harmF
  cases cntF N 1 nt with
  | none =>
    simp only [optM]
    obtain ⟨k, e, hk⟩ := wi_nI (60 - N (9 + sec % nb)) (hi := 60) (by omega)
    have e' : hc_wi (60 - N (9 + sec % nb)) 0 60 = nI k := e
    rw [e', pk_mul]
    refine ⟨n * k, rfl, ?_⟩
    have := Nat.mul_le_mul hn hk
    omega
  | some t => exact wi_nI _ (hi := 9999) (by omega)
theorem secF_WF {N : hN} {np nb nt sec : Nat} (h : WF N np nb nt sec) (hs : sec < 110000) : WF (secF N np nb nt sec) np nb nt (sec + 1) := by
  have hnp := h.1.2
  have hG := growA_WF h np (Nat.le_refl _)
  have hC := coughA_CW (s := secS N np nb nt sec) (by omega) hG.2.2.2.2.2.2.2.2.2.1 np (Nat.le_refl _)
  have hlt : secS N np nb nt sec < 2 ^ np := setA_lt np
  have h10 : secS N np nb nt sec < 1024 := Nat.lt_of_lt_of_le hlt (Nat.pow_le_pow_right (by omega) hnp)
  have hne : ∀ i, i ≠ 3 → i ≠ 4 → i ≠ 5 → secF N np nb nt sec i = coughA (growA N nt np) (secS N np nb nt sec) np i := fun i h3 h4 h5 => by
    unfold secF
    rw [upd_ne h5, upd_ne h3, upd_ne h4]
  have hfar : ∀ i, (i < 33 ∨ 93 ≤ i) → i ≠ 3 → i ≠ 4 → i ≠ 5 → secF N np nb nt sec i = N i := fun i hi h3 h4 h5 => by
    rw [hne i h3 h4 h5, coughA_ne np i hnp hi, growA_ne np i hnp hi]
  have hb := h.2.1.2.1
  have hb2 := h.2.1.2.2
  have hlt2 := Nat.mod_lt sec (show nb > 0 by omega)
  refine h.of (sec' := sec + 1) (fun i hi => hfar i (by omega) (by omega) (by omega) (by omega)) (hfar 1 (by omega) (by omega) (by omega) (by omega)) (hfar 2 (by omega) (by omega) (by omega) (by omega)) (hfar 8 (by omega) (by omega) (by omega) (by omega)) (hfar 6 (by omega) (by omega) (by omega) (by omega)) (hfar 7 (by omega) (by omega) (by omega) (by omega)) (fun k hk => hfar _ (by omega) (by omega) (by omega) (by omega)) ⟨?_, by omega⟩ ?_ ⟨_, ?_, hlt⟩ (fun q hq => ?_)
  · unfold secF
    rw [upd_ne (by omega), upd_at]
  · obtain ⟨k, e, hk⟩ := h.2.2.2.2.1
    have e4 : secF N np nb nt sec 4 = N 4 + (if 0 < pop10 (secS N np nb nt sec) then harmF (coughA (growA N nt np) (secS N np nb nt sec) np) nb nt sec (pop10 (secS N np nb nt sec)) else 0) := by
      unfold secF
      rw [upd_ne (by omega), upd_ne (by omega), upd_at]
    rw [e4, e]
    split
    · obtain ⟨k2, e2, hk2⟩ := harm_range (N := coughA (growA N nt np) (secS N np nb nt sec) np) (nb := nb) (nt := nt) (sec := sec) (pop_le _ h10).1 (by
        rw [coughA_ne np _ hnp (by omega), growA_ne np _ hnp (by omega)]
        exact h.2.2.2.2.2.2.2.2.1 _ hlt2)
      rw [e2, nI_add]
      exact ⟨k + k2, rfl, by omega⟩
    · exact ⟨k, by rw [show (0 : Int32) = nI 0 from rfl, nI_add]; rfl, by omega⟩
  · unfold secF
    rw [upd_at]
  · exact PW_congr ((hC q hq).1 hq) (fun j hj => hne _ (by omega) (by omega) (by omega))
theorem secsF_WF {N : hN} {np nb nt sec : Nat} (h : WF N np nb nt sec) : ∀ n, sec + n ≤ 110000 → WF (secsF N np nb nt sec n) np nb nt (sec + n)
  | 0, _ => h
  | n + 1, hs => secF_WF (secsF_WF h n (by omega)) (by omega)
