theorem WF.p {N : hN} {np nb nt sec p j v : Nat} (h : WF N np nb nt sec) (hp : p < np) (hv : (j = 0 ∧ v < 6) ∨ (j = 1 ∧ v < 30) ∨ (j = 2 ∧ v < 100) ∨ (j = 3 ∧ v < 1000) ∨ (j = 4 ∧ v < 100)) : WF (upd N (33 + 6 * p + j) (nI v)) np nb nt sec := by
  have hnp := h.1.2
  have hnb := h.2.1.2.2
  have hne : ∀ i, i < 33 ∨ 93 ≤ i → upd N (33 + 6 * p + j) (nI v) i = N i := fun i hi => upd_ne (by omega)
  refine h.of (fun i hi => hne i (by omega)) (hne 1 (by omega)) (hne 2 (by omega)) (hne 8 (by omega)) (hne 6 (by omega)) (hne 7 (by omega)) (fun k hk => hne _ (by omega)) ⟨by rw [hne 3 (by omega)]; exact h.2.2.2.1.1, h.2.2.2.1.2⟩ (by rw [hne 4 (by omega)]; exact h.2.2.2.2.1) (by rw [hne 5 (by omega)]; exact h.2.2.2.2.2.1) (fun q hq => ?_)
  have hP := h.2.2.2.2.2.2.2.2.2.1 q hq
  by_cases e : q = p
  · subst e
    obtain ⟨p0, p1, p2, p3, p4, p5⟩ := hP
    unfold PW
    rcases hv with ⟨rfl, hv⟩ | ⟨rfl, hv⟩ | ⟨rfl, hv⟩ | ⟨rfl, hv⟩ | ⟨rfl, hv⟩
    · rw [show upd N (33 + 6 * q + 0) (nI v) (33 + 6 * q) = nI v from upd_at, upd_ne (by omega), upd_ne (by omega), upd_ne (by omega), upd_ne (by omega), upd_ne (by omega)]
      exact ⟨⟨v, rfl, hv⟩, p1, p2, p3, p4, p5⟩
    · rw [upd_ne (j := 33 + 6 * q) (by omega), upd_at, upd_ne (j := 33 + 6 * q + 2) (by omega), upd_ne (j := 33 + 6 * q + 3) (by omega), upd_ne (j := 33 + 6 * q + 4) (by omega), upd_ne (j := 33 + 6 * q + 5) (by omega)]
      exact ⟨p0, ⟨v, rfl, hv⟩, p2, p3, p4, p5⟩
    · rw [upd_ne (j := 33 + 6 * q) (by omega), upd_at, upd_ne (j := 33 + 6 * q + 1) (by omega), upd_ne (j := 33 + 6 * q + 3) (by omega), upd_ne (j := 33 + 6 * q + 4) (by omega), upd_ne (j := 33 + 6 * q + 5) (by omega)]
      exact ⟨p0, p1, ⟨v, rfl, hv⟩, p3, p4, p5⟩
    · rw [upd_ne (j := 33 + 6 * q) (by omega), upd_at, upd_ne (j := 33 + 6 * q + 1) (by omega), upd_ne (j := 33 + 6 * q + 2) (by omega), upd_ne (j := 33 + 6 * q + 4) (by omega), upd_ne (j := 33 + 6 * q + 5) (by omega)]
      exact ⟨p0, p1, p2, ⟨v, rfl, hv⟩, p4, p5⟩
    · rw [upd_ne (j := 33 + 6 * q) (by omega), upd_at, upd_ne (j := 33 + 6 * q + 1) (by omega), upd_ne (j := 33 + 6 * q + 2) (by omega), upd_ne (j := 33 + 6 * q + 3) (by omega), upd_ne (j := 33 + 6 * q + 5) (by omega)]
      exact ⟨p0, p1, p2, p3, ⟨v, rfl, hv⟩, p5⟩
  · exact PW_congr hP (fun j' hj' => upd_ne (by omega))
theorem XW.p {N : hN} {np nb nt sec p j v : Nat} (h : XW N np nb nt sec) (hp : p < np) (hv : (j = 0 ∧ v < 6) ∨ (j = 1 ∧ v < 30) ∨ (j = 2 ∧ v < 100) ∨ (j = 3 ∧ v < 1000) ∨ (j = 4 ∧ v < 100)) : XW (upd N (33 + 6 * p + j) (nI v)) np nb nt sec := h.lo (h.1.p hp hv) h.2.1 (fun i h1 h2 => upd_ne (by omega))
theorem XW.f {N : hN} {np nb nt sec n v : Nat} (h : XW N np nb nt sec) (hv : (n = 6 ∧ v < 100) ∨ (n = 7 ∧ v < 10)) : XW (upd N n (nI v)) np nb nt sec := by
  obtain ⟨a1, a2, a3, a4, a5, a6, a7, a8, a9, a10, a11⟩ := h.1
  have hne : ∀ i, i ≠ n → upd N n (nI v) i = N i := fun i hi => upd_ne hi
  refine h.lo ⟨by rw [hne 1 (by omega)]; exact a1, by rw [hne 2 (by omega)]; exact a2, by rw [hne 8 (by omega)]; exact a3, by rw [hne 3 (by omega)]; exact a4, by rw [hne 4 (by omega)]; exact a5, by rw [hne 5 (by omega)]; exact a6, ?_, ?_, fun k hk => by rw [hne (9 + k) (by omega)]; exact a9 k hk, fun p hp => PW_congr (a10 p hp) (fun j hj => hne _ (by omega)), fun t ht => ?_⟩ h.2.1 (fun i h1 h2 => hne i (by omega))
  · rcases hv with ⟨rfl, hv⟩ | ⟨rfl, hv⟩
    · exact ⟨v, upd_at, hv⟩
    · rw [hne 6 (by omega)]; exact a7
  · rcases hv with ⟨rfl, hv⟩ | ⟨rfl, hv⟩
    · rw [hne 7 (by omega)]; exact a8
    · exact ⟨v, upd_at, hv⟩
  · obtain ⟨key, cn, lv, q⟩ := a11 t ht
    exact ⟨key, cn, lv, TW_congr (fun i hi => hne i (by omega)) q⟩
theorem XW.l {N : hN} {np nb nt sec k v : Nat} (h : XW N np nb nt sec) (hk : k < nb) (hv : v < 100) : XW (upd N (9 + k) (nI v)) np nb nt sec := by
  obtain ⟨a1, a2, a3, a4, a5, a6, a7, a8, a9, a10, a11⟩ := h.1
  have hb := a2.2.2
  have hne : ∀ i, i ≠ 9 + k → upd N (9 + k) (nI v) i = N i := fun i hi => upd_ne hi
  refine ⟨⟨by rw [hne 1 (by omega)]; exact a1, by rw [hne 2 (by omega)]; exact a2, by rw [hne 8 (by omega)]; exact a3, by rw [hne 3 (by omega)]; exact a4, by rw [hne 4 (by omega)]; exact a5, by rw [hne 5 (by omega)]; exact a6, by rw [hne 6 (by omega)]; exact a7, by rw [hne 7 (by omega)]; exact a8, fun j hj => ?_, fun p hp => PW_congr (a10 p hp) (fun j hj => hne _ (by omega)), fun t ht => ?_⟩, h.2.1, fun j h1 h2 => by rw [hne _ (by omega)]; exact h.2.2 j h1 h2⟩
  · by_cases e : j = k
    · subst e
      exact ⟨v, upd_at, hv⟩
    · rw [hne _ (by omega)]
      exact a9 j hj
  · obtain ⟨key, cn, lv, q⟩ := a11 t ht
    exact ⟨key, cn, lv, TW_congr (fun i hi => hne i (by omega)) q⟩
theorem XW.z {N : hN} {np nb nt sec : Nat} {v : Int32} (h : XW N np nb nt sec) : XW (upd N 0 v) np nb nt sec := h.lo h.1.z h.2.1 (fun i h1 h2 => upd_ne (by omega))
section HDx
variable {S : hcS} {I : hcI} {R : hcR} {b a np nb nt : Nat} {N : hN}
theorem HD.p {p j : Nat} {v : Int32} (h : HD S I R b a N np nb nt) (hab : a + 15 ≤ b + 103) (hp : p < np) (hnp : np ≤ 10) (hnb : nb ≤ 24) (hj : j < 6) : HD S (hc_u I (a + 5 + p) j v) R b a (upd N (33 + 6 * p + j) v) np nb nt := by
  refine h.person (p := p) hab hp hnp hnb (fun y hy _ => hc_u_ne hy) (fun i hi => upd_ne (hi j hj)) (fun j' hj' => ?_)
  rw [hc_u_at]
  by_cases ej : j' = j
  · subst ej
    rw [upd_at, upd_at]
  · rw [upd_ne ej, upd_ne (by omega)]
    exact h.2.2.1 p hp j' hj'
theorem HD.l {k : Nat} {v : Int32} (h : HD S I R b a N np nb nt) (hab : a + 15 ≤ b + 103) (hk : k < nb) (hnb : nb ≤ 24) : HD S (hc_u I (a + 2) k v) R b a (upd N (9 + k) v) np nb nt := by
  have hT : ∀ i, 93 ≤ i → upd N (9 + k) v i = N i := fun i hi => upd_ne (by omega)
  obtain ⟨h3, h4, h5, h6, h7⟩ := h
  refine ⟨?_, fun j hj => ?_, fun q hq j hj => ?_, fun j hj => ?_, fun t ht => ?_⟩
  · rw [hc_u_ne (by omega), upd_ne (by omega), upd_ne (by omega), upd_ne (by omega), upd_ne (by omega), upd_ne (by omega), upd_ne (by omega), upd_ne (by omega), upd_ne (by omega), upd_ne (by omega)]
    exact h3
  · rw [hc_u_at]
    by_cases e : j = k
    · subst e
      rw [upd_at, upd_at]
    · rw [upd_ne e, upd_ne (by omega)]
      exact h4 j hj
  · rw [hc_u_ne (by omega), upd_ne (by omega)]
    exact h5 q hq j hj
  · rw [hc_u_ne (by omega), cntF_congr hT]
    exact h6 j hj
  · obtain ⟨x, hx, ht2⟩ := h7 t ht
    exact ⟨x, hx, (ht2.keep (fun y hy hy2 => hc_u_ne (by omega))).toN hT⟩
end HDx
def undB (k : Nat) (o : Int32) : Bool := decide (o = 0) || decide (nI k = o) || (decide (o = 1) && decide (k = 3)) || (decide (o = 2) && decide (k = 4))
theorem und_B {k : Nat} {o : Int32} : hc_und k o ↔ undB k o = true := by
  unfold hc_und undB
  simp [or_assoc]
def kdN (N : hN) (p : Nat) : Nat := (N (33 + 6 * p)).toNatClampNeg
theorem kdN_e {N : hN} {p k : Nat} (h : N (33 + 6 * p) = nI k) (hk : k < 6) : kdN N p = k := by
  unfold kdN
  rw [h, nI_clamp (by omega)]
def told1 (N : hN) (p w : Nat) : Int32 := if w = 6 then growF N (ntN N) p else if w = 7 then hc_z (goB N (npN N) (nbN N) (scN N) p) else if w = 8 then hc_worth (kdN N p) (N (33 + 6 * p + 2)) (N (33 + 6 * p + 1)) else N (33 + 6 * p + w)
def spTold (N : hN) (p w : Int32) : Int32 := if (0 ≤ p ∧ p < nI (npN N)) ∧ (0 ≤ w ∧ w < 9) then told1 N p.toNatClampNeg w.toNatClampNeg else -1000000001
def spAs (N : hN) (p k : Int32) : Int32 := if (0 ≤ p ∧ p < nI (npN N)) ∧ (0 ≤ k ∧ k < 6) then (if undB (kdN N p.toNatClampNeg) k = true then N (33 + 6 * p.toNatClampNeg + 2) else -1000000012) else -1000000001
def spTurns (N : hN) (p k : Int32) : Int32 × hN := if (0 ≤ p ∧ p < nI (npN N)) ∧ (0 ≤ k ∧ k < 6) then (N (33 + 6 * p.toNatClampNeg), upd N (33 + 6 * p.toNatClampNeg) k) else (-1000000001, N)
def spSet (N : hN) (p w v : Int32) : Int32 × hN := if (0 ≤ p ∧ p < nI (npN N)) ∧ (2 ≤ w ∧ w ≤ 4) ∧ (0 ≤ v ∧ v < if w = 3 then 1000 else 100) then (N (33 + 6 * p.toNatClampNeg + w.toNatClampNeg), upd N (33 + 6 * p.toNatClampNeg + w.toNatClampNeg) v) else (-1000000001, N)
def spMove (N : hN) (p s : Int32) : Int32 × hN := if (0 ≤ p ∧ p < nI (npN N)) ∧ (0 ≤ s ∧ s < 30) then (if 0 ≤ hc_o (whoF N (npN N) s) ∧ ¬ hc_o (whoF N (npN N) s) = p then (-1000000002, N) else (N (33 + 6 * p.toNatClampNeg + 1), upd N (33 + 6 * p.toNatClampNeg + 1) s)) else (-1000000001, N)
def spOnSeat (N : hN) (s : Int32) : Int32 := if 0 ≤ s ∧ s < 30 then (if 0 ≤ hc_o (whoF N (npN N) s) then hc_o (whoF N (npN N) s) else -1000000005) else -1000000001
def spHall (N : hN) (w v : Int32) : Int32 × hN := if w = 0 ∧ 0 ≤ v ∧ v < 100 then (N 6, upd N 6 v) else if w = 1 ∧ 0 ≤ v ∧ v < 10 then (N 7, upd N 7 v) else (-1000000001, N)
def spLoud (N : hN) (k v : Int32) : Int32 × hN := if (0 ≤ k ∧ k < nI (nbN N)) ∧ (0 ≤ v ∧ v < 100) then (N (9 + k.toNatClampNeg), upd N (9 + k.toNatClampNeg) v) else (-1000000001, N)
def spMusic (N : hN) (t : Int32) : Int32 := if 0 ≤ t ∧ t < 100 then N (9 + (scN N + t.toNatClampNeg) % nbN N) else -1000000001
section C2
variable {g : hcG} {S : hcS} {I : hcI} {R : hcR} {z : Nat} {Q : hcQ} {b m : Nat} {N : hN}
theorem x_told {p w : Int32} (hx : XSk S R b) (hn : XN S I R b N) (hQ : ∀ I' : hcI, (∀ y, ¬ stk b y → I' y = I y) → Q (some (.int (spTold N p w))) S I' R z) : Cl g mX6_told 3 0 0 S I R z [.ref b, .int p, .int w] Q := by
  obtain ⟨⟨s0, r0, -⟩, ⟨hk1, -⟩, -⟩ := hx
  obtain ⟨np, nb, nt, sec, hw, hd⟩ := id hn
  obtain ⟨e1, e2, e3, e4⟩ := hw.e
  have hk1' := hk1
  obtain ⟨sh, s1, -, -, -, q0, -, -, -, sp⟩ := hk1'
  have hnp := hw.1.1.2
  refine Cl.go [some (.ref b), some (.int p), some (.int w), none] ?_
  refine v_aload_n (q := 1) dX6_told_0 (kk := ?_)
  refine v_getR (q := 4) fX6_12 (by assumption) (by assumption) (hd := dX6_told_1) (kk := ?_)
  refine v_iload_n (q := 5) dX6_told_4 (kk := ?_)
  refine v_cV1 (N := mX0_has) (q := 8) lX6_70 iX0_has kX0_has (by assumption) dX6_told_5 (s_has hk1 hd hw.1 ?_)
  refine v_if_neB 14 (q := 11) dX6_told_8 (kt := fun c1 => ?_) (kf := fun c1 => ?_)
  · obtain ⟨j, rfl, hj⟩ := nI_of6 (n := np) rfl (by omega) c1
    have hspp := (sp j (by omega)).1
    have hrpp := (sp j (by omega)).2
    have hP := hd.2.2.1 j hj
    refine v_aload_n (q := 15) dX6_told_14 (kk := ?_)
    refine v_getR (q := 18) fX6_12 (by assumption) (by assumption) (hd := dX6_told_15) (kk := ?_)
    refine v_getR (q := 21) fX6_74 (by assumption) (by assumption) (hd := dX6_told_18) (kk := ?_)
    refine v_iload_n (q := 22) dX6_told_21 (kk := ?_)
    refine v_aaldn (q := 23) (by assumption) (by assumption) (by omega) (by omega) (hd := dX6_told_22) (kk := ?_)
    refine v_astore3 (q := 24) dX6_told_23 (kk := ?_)
    refine v_iload_n (q := 25) dX6_told_24 (kk := ?_)
    by_cases c2 : 0 ≤ w ∧ w < 9
    · have e : spTold N (nI j) w = told1 N j w.toNatClampNeg := by
        unfold spTold
        rw [e1, if_pos ⟨c1, c2⟩, nI_clamp (by omega)]
      rw [e] at hQ
      unfold told1 at hQ
      obtain ⟨k, rfl, hk⟩ := nI_of6 (n := 9) rfl (by omega) c2
      rw [nI_clamp (by omega), e1, e2, e3, e4] at hQ
      have : k = 0 ∨ k = 1 ∨ k = 2 ∨ k = 3 ∨ k = 4 ∨ k = 5 ∨ k = 6 ∨ k = 7 ∨ k = 8 := by omega
      rcases this with rfl | rfl | rfl | rfl | rfl | rfl | rfl | rfl | rfl
      · refine v_tsIn 76 dX6_told_25 (by decide) (by decide) (by rfl) (kt := ?_)
        refine v_aload_n (q := 77) dX6_told_76 (kk := ?_)
        refine v_getI (q := 80) fX6_78 (by assumption) (hd := dX6_told_77) (kk := ?_)
        rw [hP 0 (by omega)]
        refine v_iret dX6_told_80 (hQ := ?_)
        exact hQ I (fun _ _ => rfl)
      · refine v_tsIn 81 dX6_told_25 (by decide) (by decide) (by rfl) (kt := ?_)
        refine v_aload_n (q := 82) dX6_told_81 (kk := ?_)
        refine v_getI (q := 85) fX6_83 (by assumption) (hd := dX6_told_82) (kk := ?_)
        rw [hP 1 (by omega)]
        refine v_iret dX6_told_85 (hQ := ?_)
        exact hQ I (fun _ _ => rfl)
      · refine v_tsIn 86 dX6_told_25 (by decide) (by decide) (by rfl) (kt := ?_)
        refine v_aload_n (q := 87) dX6_told_86 (kk := ?_)
        refine v_getI (q := 90) fX6_86 (by assumption) (hd := dX6_told_87) (kk := ?_)
        rw [hP 2 (by omega)]
        refine v_iret dX6_told_90 (hQ := ?_)
        exact hQ I (fun _ _ => rfl)
      · refine v_tsIn 91 dX6_told_25 (by decide) (by decide) (by rfl) (kt := ?_)
        refine v_aload_n (q := 92) dX6_told_91 (kk := ?_)
        refine v_getI (q := 95) fX6_89 (by assumption) (hd := dX6_told_92) (kk := ?_)
        rw [hP 3 (by omega)]
        refine v_iret dX6_told_95 (hQ := ?_)
        exact hQ I (fun _ _ => rfl)
      · refine v_tsIn 96 dX6_told_25 (by decide) (by decide) (by rfl) (kt := ?_)
        refine v_aload_n (q := 97) dX6_told_96 (kk := ?_)
        refine v_getI (q := 100) fX6_92 (by assumption) (hd := dX6_told_97) (kk := ?_)
        rw [hP 4 (by omega)]
        refine v_iret dX6_told_100 (hQ := ?_)
        exact hQ I (fun _ _ => rfl)
      · refine v_tsIn 101 dX6_told_25 (by decide) (by decide) (by rfl) (kt := ?_)
        refine v_aload_n (q := 102) dX6_told_101 (kk := ?_)
        refine v_getI (q := 105) fX6_95 (by assumption) (hd := dX6_told_102) (kk := ?_)
        rw [hP 5 (by omega)]
        refine v_iret dX6_told_105 (hQ := ?_)
        exact hQ I (fun _ _ => rfl)
      · refine v_tsIn 106 dX6_told_25 (by decide) (by decide) (by rfl) (kt := ?_)
        refine v_aload_n (q := 107) dX6_told_106 (kk := ?_)
        refine v_getR (q := 110) fX6_12 (by assumption) (by assumption) (hd := dX6_told_107) (kk := ?_)
        refine v_aload_n (q := 111) dX6_told_110 (kk := ?_)
        refine v_cV1 (N := mX0_grows) (q := 114) lX6_98 iX0_grows kX0_grows (by assumption) dX6_told_111 (s_grows hk1 hd hw.1 hj (fun I' hI' => ?_))
        refine v_iret dX6_told_114 (hQ := ?_)
        exact hQ I' hI'
      · refine v_tsIn 115 dX6_told_25 (by decide) (by decide) (by rfl) (kt := ?_)
        refine v_aload_n (q := 116) dX6_told_115 (kk := ?_)
        refine v_getR (q := 119) fX6_12 (by assumption) (by assumption) (hd := dX6_told_116) (kk := ?_)
        refine v_iload_n (q := 120) dX6_told_119 (kk := ?_)
        refine v_aload_n (q := 121) dX6_told_120 (kk := ?_)
        refine v_getR (q := 124) fX6_12 (by assumption) (by assumption) (hd := dX6_told_121) (kk := ?_)
        refine v_iconst (v := 0) (q := 125) dX6_told_124 (kk := ?_)
        refine v_cV1 (N := mX0_loudIn) (q := 128) lX6_102 iX0_loudIn kX0_loudIn (by assumption) dX6_told_125 (s_loudIn (t := 0) hk1 hd hw.1 (by omega) ?_)
        refine v_cV2 (N := mX0_letsGo) (q := 131) lX6_105 iX0_letsGo kX0_letsGo (by assumption) dX6_told_128 (s_letsGo (sec := sec) hk1 hd hw.1 hj ?_)
        refine v_if_eqZ 138 (q := 134) dX6_told_131 (kt := fun c => ?_) (kf := fun c => ?_)
        · rw [c] at hQ
          refine v_iconst (v := 0) (q := 139) dX6_told_138 (kk := ?_)
          refine v_iret dX6_told_139 (hQ := ?_)
          exact hQ I (fun _ _ => rfl)
        · rw [c] at hQ
          refine v_iconst (v := 1) (q := 135) dX6_told_134 (kk := ?_)
          refine v_goto 139 dX6_told_135 (kt := ?_)
          refine v_iret dX6_told_139 (hQ := ?_)
          exact hQ I (fun _ _ => rfl)
      · obtain ⟨⟨k, ek, hk6⟩, -⟩ := hw.1.2.2.2.2.2.2.2.2.2.1 j hj
        refine v_tsIn 140 dX6_told_25 (by decide) (by decide) (by rfl) (kt := ?_)
        refine v_aload_n (q := 141) dX6_told_140 (kk := ?_)
        refine v_cV0 (N := mX1_worth) (q := 144) lX6_108 iX1_worth kX1_worth (by assumption) dX6_told_141 (s_Person_worth (k := k) hspp hk6 ((hP 0 (by omega)).trans ek) ?_)
        rw [hP 1 (by omega), hP 2 (by omega)]
        refine v_iret dX6_told_144 (hQ := ?_)
        rw [kdN_e ek hk6] at hQ
        exact hQ I (fun _ _ => rfl)
    · have e : spTold N (nI j) w = -1000000001 := by
        unfold spTold
        rw [if_neg (fun h => c2 h.2)]
      rw [e] at hQ
      have : w.toInt < 0 ∨ 8 < w.toInt := by
        by_cases h0 : 0 ≤ w
        · right
          have : ¬ w.toInt < 9 := fun h => c2 ⟨h0, Int32.lt_iff_toInt_lt.mpr h⟩
          omega
        · left
          have := Int32.lt_iff_toInt_lt.mp (Int32.not_le.mp h0)
          simpa using this
      refine v_tsOut 145 dX6_told_25 this (kt := ?_)
      refine v_ldc (q := 147) cX6_55 dX6_told_145 (kk := ?_)
      refine v_iret dX6_told_147 (hQ := ?_)
      exact hQ I (fun _ _ => rfl)
  · have e : spTold N p w = -1000000001 := by
      unfold spTold
      rw [e1, if_neg (fun h => c1 h.1)]
    rw [e] at hQ
    refine v_ldc (q := 13) cX6_55 dX6_told_11 (kk := ?_)
    refine v_iret dX6_told_13 (hQ := ?_)
    exact hQ I (fun _ _ => rfl)
theorem m_told {p w : Int32} (hm : MG S R m) (hN : I (m + 1) = N) (hn : MN N) (hQ : ∀ I' : hcI, (∀ y, y ≠ m + 11 → y ≠ m + 12 → I' y = I y) → Q (some (.int (spTold N p w))) S I' R z) : Cl g mX7_told 3 0 0 S I R z [.ref m, .int p, .int w] Q := by
  have s0 := hm.s0
  obtain ⟨np, nb, nt, sec, hw⟩ := hn
  obtain ⟨e1, e2, e3, e4⟩ := hw.e
  have hnp := hw.1.1.2
  have h1 := hw.1.1.1
  refine Cl.go [some (.ref m), some (.int p), some (.int w)] ?_
  have bad : ¬ ((0 ≤ p ∧ p < nI np) ∧ (0 ≤ w ∧ w < 9)) → V g mX7_told 3 0 0 S I R z 18 [some (.ref m), some (.int p), some (.int w)] [] Q := by
    intro c
    have e : spTold N p w = -1000000001 := by unfold spTold; rw [e1, if_neg c]
    rw [e] at hQ
    refine v_ldc (q := 20) cX7_92 dX7_told_18 (kk := ?_)
    refine v_iret dX7_told_20 (hQ := ?_)
    exact hQ I (fun _ _ _ => rfl)
  refine v_aload_n (q := 1) dX7_told_0 (kk := ?_)
  refine v_iload_n (q := 2) dX7_told_1 (kk := ?_)
  refine v_cV1 (N := mX7_isOne) (q := 5) lX7_118 iX7_isOne kX7_isOne (by assumption) dX7_told_2 (s_isOne hm (by rw [hN]; exact h1) hnp ?_)
  refine v_if_eqB 18 (q := 8) dX7_told_5 (kt := fun c1 => ?_) (kf := fun c1 => ?_)
  · exact bad (fun h => c1 h.1)
  · refine v_iload_n (q := 9) dX7_told_8 (kk := ?_)
    refine v_iconst (v := 0) (q := 10) dX7_told_9 (kk := ?_)
    refine v_bipush (v := 8) (q := 12) dX7_told_10 (kk := ?_)
    refine v_cS3 (N := mX7_in) (q := 15) lX7_76 sX7_in kX7_in dX7_told_12 (s_in0 9 9 rfl rfl (by omega) ?_)
    refine v_if_neB 21 (q := 18) dX7_told_15 (kt := fun c2 => ?_) (kf := fun c2 => ?_)
    · obtain ⟨j, rfl, hj⟩ := nI_of6 (n := np) rfl (by omega) c1
      have e : spTold N (nI j) w = told1 N j w.toNatClampNeg := by
        unfold spTold
        rw [e1, if_pos ⟨c1, c2⟩, nI_clamp (by omega)]
      rw [e] at hQ
      unfold told1 at hQ
      obtain ⟨k, rfl, hk⟩ := nI_of6 (n := 9) rfl (by omega) c2
      rw [nI_clamp (by omega), e1, e2, e3, e4] at hQ
      refine v_iload_n (q := 22) dX7_told_21 (kk := ?_)
      by_cases h6 : k < 6
      · rw [if_neg (by omega), if_neg (by omega), if_neg (by omega)] at hQ
        refine v_tsOut 74 dX7_told_22 (Or.inl (by rw [nI_toInt (by omega)]; omega)) (kt := ?_)
        refine v_aload_n (q := 75) dX7_told_74 (kk := ?_)
        refine v_iload_n (q := 76) dX7_told_75 (kk := ?_)
        refine v_iload_n (q := 77) dX7_told_76 (kk := ?_)
        refine v_cV2 (N := mX7_of) (q := 80) lX7_80 iX7_of kX7_of (by assumption) dX7_told_77 (s_of (w := k) hm (by omega) ?_)
        rw [hN]
        refine v_iret dX7_told_80 (hQ := ?_)
        exact hQ I (fun _ _ _ => rfl)
      · have : k = 6 ∨ k = 7 ∨ k = 8 := by omega
        rcases this with rfl | rfl | rfl
        · refine v_tsIn 48 dX7_told_22 (by decide) (by decide) (by rfl) (kt := ?_)
          refine v_aload_n (q := 49) dX7_told_48 (kk := ?_)
          refine v_iload_n (q := 50) dX7_told_49 (kk := ?_)
          refine v_cV1 (N := mX7_growsBy) (q := 53) lX7_121 iX7_growsBy kX7_growsBy (by assumption) dX7_told_50 (s_growsBy hm hN hw.1 hj (fun I' hI' => ?_))
          refine v_iret dX7_told_53 (hQ := ?_)
          exact hQ I' hI'
        · refine v_tsIn 54 dX7_told_22 (by decide) (by decide) (by rfl) (kt := ?_)
          refine v_aload_n (q := 55) dX7_told_54 (kk := ?_)
          refine v_iload_n (q := 56) dX7_told_55 (kk := ?_)
          refine v_cV1 (N := mX7_letsGo) (q := 59) lX7_124 iX7_letsGo kX7_letsGo (by assumption) dX7_told_56 (s_mletsGo hm hN hw.1 hj ?_)
          refine v_if_eqZ 66 (q := 62) dX7_told_59 (kt := fun c => ?_) (kf := fun c => ?_)
          · rw [c] at hQ
            refine v_iconst (v := 0) (q := 67) dX7_told_66 (kk := ?_)
            refine v_iret dX7_told_67 (hQ := ?_)
            exact hQ I (fun _ _ _ => rfl)
          · rw [c] at hQ
            refine v_iconst (v := 1) (q := 63) dX7_told_62 (kk := ?_)
            refine v_goto 67 dX7_told_63 (kt := ?_)
            refine v_iret dX7_told_67 (hQ := ?_)
            exact hQ I (fun _ _ _ => rfl)
        · obtain ⟨⟨k, ek, hk6⟩, -⟩ := hw.1.2.2.2.2.2.2.2.2.2.1 j hj
          refine v_tsIn 68 dX7_told_22 (by decide) (by decide) (by rfl) (kt := ?_)
          refine v_aload_n (q := 69) dX7_told_68 (kk := ?_)
          refine v_iload_n (q := 70) dX7_told_69 (kk := ?_)
          refine v_cV1 (N := mX7_worthOf) (q := 73) lX7_127 iX7_worthOf kX7_worthOf (by assumption) dX7_told_70 (s_worthOf hm hN (by omega) hk6 ek ?_)
          refine v_iret dX7_told_73 (hQ := ?_)
          rw [kdN_e ek hk6] at hQ
          exact hQ I (fun _ _ _ => rfl)
    · exact bad (fun h => c2 h.2)
theorem s_isUnder {k : Nat} {o : Int32} (hk : k < 6) (hQ : Q (some (.int (hc_z (undB k o)))) S I R z) : Cl g mX7_isUnder 0 0 0 S I R z [.int (nI k), .int o] Q := by
  refine Cl.go [some (.int (nI k)), some (.int o)] ?_
  have yes : undB k o = true → V g mX7_isUnder 0 0 0 S I R z 29 [some (.int (nI k)), some (.int o)] [] Q := by
    intro c
    refine v_iconst (v := 1) (q := 30) dX7_isUnder_29 (kk := ?_)
    refine v_goto 34 dX7_isUnder_30 (kt := ?_)
    refine v_zret dX7_isUnder_34 rfl (hQ := ?_)
    rwa [hc_zt c] at hQ
  refine v_iload_n (q := 1) dX7_isUnder_0 (kk := ?_)
  refine v_if_eq 29 (q := 4) dX7_isUnder_1 (kt := fun c1 => ?_) (kf := fun c1 => ?_)
  · exact yes (by simp [undB, c1])
  · refine v_iload_n (q := 5) dX7_isUnder_4 (kk := ?_)
    refine v_iload_n (q := 6) dX7_isUnder_5 (kk := ?_)
    refine v_icmp_eq 29 (q := 9) dX7_isUnder_6 (kt := fun c2 => ?_) (kf := fun c2 => ?_)
    · exact yes (by simp [undB, c2])
    · have last : ¬ (o = 1 ∧ k = 3) → V g mX7_isUnder 0 0 0 S I R z 19 [some (.int (nI k)), some (.int o)] [] Q := by
        intro c3
        refine v_iload_n (q := 20) dX7_isUnder_19 (kk := ?_)
        refine v_iconst (v := 2) (q := 21) dX7_isUnder_20 (kk := ?_)
        refine v_icmp_ne 33 (q := 24) dX7_isUnder_21 (kt := fun c4 => ?_) (kf := fun c4 => ?_)
        · refine v_iconst (v := 0) (q := 34) dX7_isUnder_33 (kk := ?_)
          refine v_zret dX7_isUnder_34 rfl (hQ := ?_)
          rwa [hc_zf (by
            by_cases h3 : k = 3
            · have : ¬ o = 1 := fun h => c3 ⟨h, h3⟩
              simp [undB, c1, c2, c4, this]
            · simp [undB, c1, c2, c4, h3])] at hQ
        · refine v_iload_n (q := 25) dX7_isUnder_24 (kk := ?_)
          refine v_iconst (v := 4) (q := 26) dX7_isUnder_25 (kk := ?_)
          refine v_icmp_ne 33 (q := 29) dX7_isUnder_26 (kt := fun c5 => ?_) (kf := fun c5 => ?_)
          · have c6 : ¬ k = 4 := fun h => c5 (by rw [h]; rfl)
            refine v_iconst (v := 0) (q := 34) dX7_isUnder_33 (kk := ?_)
            refine v_zret dX7_isUnder_34 rfl (hQ := ?_)
            rwa [hc_zf (by
              by_cases h3 : k = 3
              · have : ¬ o = 1 := fun h => c3 ⟨h, h3⟩
                simp [undB, c1, c2, c6, this]
              · simp [undB, c1, c2, c6, h3])] at hQ
          · have c6 : k = 4 := (nI_eq (b := 4) (by omega) (by omega)).mp c5
            exact yes (by simp [undB, c4, c6])
      refine v_iload_n (q := 10) dX7_isUnder_9 (kk := ?_)
      refine v_iconst (v := 1) (q := 11) dX7_isUnder_10 (kk := ?_)
      refine v_icmp_ne 19 (q := 14) dX7_isUnder_11 (kt := fun c3 => ?_) (kf := fun c3 => ?_)
      · exact last (fun h => c3 h.1)
      · refine v_iload_n (q := 15) dX7_isUnder_14 (kk := ?_)
        refine v_iconst (v := 3) (q := 16) dX7_isUnder_15 (kk := ?_)
        refine v_icmp_eq 29 (q := 19) dX7_isUnder_16 (kt := fun c4 => ?_) (kf := fun c4 => ?_)
        · have c6 : k = 3 := (nI_eq (b := 3) (by omega) (by omega)).mp c4
          exact yes (by simp [undB, c3, c6])
        · exact last (fun h => c4 (by rw [h.2]; rfl))
theorem x_as {p k : Int32} (hx : XSk S R b) (hn : XN S I R b N) (hQ : Q (some (.int (spAs N p k))) S I R z) : Cl g mX6_as 2 0 0 S I R z [.ref b, .int p, .int k] Q := by
  obtain ⟨⟨s0, r0, -⟩, ⟨hk1, -⟩, -⟩ := hx
  obtain ⟨np, nb, nt, sec, hw, hd⟩ := id hn
  obtain ⟨e1, e2, e3, e4⟩ := hw.e
  have hk1' := hk1
  obtain ⟨sh, s1, -, -, -, q0, -, -, -, sp⟩ := hk1'
  have hnp := hw.1.1.2
  refine Cl.go [some (.ref b), some (.int p), some (.int k), none] ?_
  have bad : ¬ ((0 ≤ p ∧ p < nI np) ∧ (0 ≤ k ∧ k < 6)) → V g mX6_as 2 0 0 S I R z 20 [some (.ref b), some (.int p), some (.int k), none] [] Q := by
    intro c
    have e : spAs N p k = -1000000001 := by unfold spAs; rw [e1, if_neg c]
    rw [e] at hQ
    refine v_ldc (q := 22) cX6_55 dX6_as_20 (kk := ?_)
    refine v_iret dX6_as_22 (hQ := ?_)
    exact hQ
  refine v_aload_n (q := 1) dX6_as_0 (kk := ?_)
  refine v_getR (q := 4) fX6_12 (by assumption) (by assumption) (hd := dX6_as_1) (kk := ?_)
  refine v_iload_n (q := 5) dX6_as_4 (kk := ?_)
  refine v_cV1 (N := mX0_has) (q := 8) lX6_70 iX0_has kX0_has (by assumption) dX6_as_5 (s_has hk1 hd hw.1 ?_)
  refine v_if_eqB 20 (q := 11) dX6_as_8 (kt := fun c1 => ?_) (kf := fun c1 => ?_)
  · exact bad (fun h => c1 h.1)
  · refine v_iload_n (q := 12) dX6_as_11 (kk := ?_)
    refine v_bipush (v := 6) (q := 14) dX6_as_12 (kk := ?_)
    refine v_cS2 (N := mX6_within) (q := 17) lX6_51 sX6_within kX6_within dX6_as_14 (s_within ?_)
    refine v_if_neB 23 (q := 20) dX6_as_17 (kt := fun c2 => ?_) (kf := fun c2 => ?_)
    · obtain ⟨j, rfl, hj⟩ := nI_of6 (n := np) rfl (by omega) c1
      have hspp := (sp j (by omega)).1
      have hrpp := (sp j (by omega)).2
      have hP := hd.2.2.1 j hj
      obtain ⟨⟨kk, ek, hk6⟩, -⟩ := hw.1.2.2.2.2.2.2.2.2.2.1 j hj
      have e : spAs N (nI j) k = if undB kk k = true then N (33 + 6 * j + 2) else -1000000012 := by
        unfold spAs
        rw [e1, if_pos ⟨c1, c2⟩, nI_clamp (by omega), kdN_e ek hk6]
      rw [e] at hQ
      refine v_aload_n (q := 24) dX6_as_23 (kk := ?_)
      refine v_getR (q := 27) fX6_12 (by assumption) (by assumption) (hd := dX6_as_24) (kk := ?_)
      refine v_getR (q := 30) fX6_74 (by assumption) (by assumption) (hd := dX6_as_27) (kk := ?_)
      refine v_iload_n (q := 31) dX6_as_30 (kk := ?_)
      refine v_aaldn (q := 32) (by assumption) (by assumption) (by omega) (by omega) (hd := dX6_as_31) (kk := ?_)
      refine v_astore3 (q := 33) dX6_as_32 (kk := ?_)
      refine v_aload_n (q := 34) dX6_as_33 (kk := ?_)
      refine v_iload_n (q := 35) dX6_as_34 (kk := ?_)
      refine v_cV1 (N := mX1_isOf) (q := 38) lX6_112 iX1_isOf kX1_isOf (by assumption) dX6_as_35 (s_Person_isOf (k := kk) hspp hk6 ((hP 0 (by omega)).trans ek) (fun hu => ?_) (fun hu => ?_))
      · rw [if_pos (und_B.mp hu)] at hQ
        refine v_if_eqF (q := 41) (t := 48) dX6_as_38 (by decide) (kf := ?_)
        refine v_aload_n (q := 42) dX6_as_41 (kk := ?_)
        refine v_getI (q := 45) fX6_86 (by assumption) (hd := dX6_as_42) (kk := ?_)
        rw [hP 2 (by omega)]
        refine v_goto 50 dX6_as_45 (kt := ?_)
        refine v_iret dX6_as_50 (hQ := ?_)
        exact hQ
      · rw [if_neg (fun h => hu (und_B.mpr h))] at hQ
        refine v_if_eqT 48 dX6_as_38 (rfl) (kt := ?_)
        refine v_ldc (q := 50) cX6_115 dX6_as_48 (kk := ?_)
        refine v_iret dX6_as_50 (hQ := ?_)
        exact hQ
    · exact bad (fun h => c2 h.2)
theorem m_as {p k : Int32} (hm : MG S R m) (hN : I (m + 1) = N) (hn : MN N) (hQ : Q (some (.int (spAs N p k))) S I R z) : Cl g mX7_as 2 0 0 S I R z [.ref m, .int p, .int k] Q := by
  have s0 := hm.s0
  obtain ⟨np, nb, nt, sec, hw⟩ := hn
  obtain ⟨e1, e2, e3, e4⟩ := hw.e
  have hnp := hw.1.1.2
  have h1 := hw.1.1.1
  refine Cl.go [some (.ref m), some (.int p), some (.int k)] ?_
  have bad : ¬ ((0 ≤ p ∧ p < nI np) ∧ (0 ≤ k ∧ k < 6)) → V g mX7_as 2 0 0 S I R z 17 [some (.ref m), some (.int p), some (.int k)] [] Q := by
    intro c
    have e : spAs N p k = -1000000001 := by unfold spAs; rw [e1, if_neg c]
    rw [e] at hQ
    refine v_ldc (q := 19) cX7_92 dX7_as_17 (kk := ?_)
    refine v_iret dX7_as_19 (hQ := ?_)
    exact hQ
  refine v_aload_n (q := 1) dX7_as_0 (kk := ?_)
  refine v_iload_n (q := 2) dX7_as_1 (kk := ?_)
  refine v_cV1 (N := mX7_isOne) (q := 5) lX7_118 iX7_isOne kX7_isOne (by assumption) dX7_as_2 (s_isOne hm (by rw [hN]; exact h1) hnp ?_)
  refine v_if_eqB 17 (q := 8) dX7_as_5 (kt := fun c1 => ?_) (kf := fun c1 => ?_)
  · exact bad (fun h => c1 h.1)
  · refine v_iload_n (q := 9) dX7_as_8 (kk := ?_)
    refine v_iconst (v := 0) (q := 10) dX7_as_9 (kk := ?_)
    refine v_iconst (v := 5) (q := 11) dX7_as_10 (kk := ?_)
    refine v_cS3 (N := mX7_in) (q := 14) lX7_76 sX7_in kX7_in dX7_as_11 (s_in0 6 6 rfl rfl (by omega) ?_)
    refine v_if_neB 20 (q := 17) dX7_as_14 (kt := fun c2 => ?_) (kf := fun c2 => ?_)
    · obtain ⟨j, rfl, hj⟩ := nI_of6 (n := np) rfl (by omega) c1
      obtain ⟨⟨kk, ek, hk6⟩, -⟩ := hw.1.2.2.2.2.2.2.2.2.2.1 j hj
      have e : spAs N (nI j) k = if undB kk k = true then N (33 + 6 * j + 2) else -1000000012 := by
        unfold spAs
        rw [e1, if_pos ⟨c1, c2⟩, nI_clamp (by omega), kdN_e ek hk6]
      rw [e] at hQ
      refine v_aload_n (q := 21) dX7_as_20 (kk := ?_)
      refine v_iload_n (q := 22) dX7_as_21 (kk := ?_)
      refine v_iconst (v := 0) (q := 23) dX7_as_22 (kk := ?_)
      refine v_cV2 (N := mX7_of) (q := 26) lX7_80 iX7_of kX7_of (by assumption) dX7_as_23 (s_of (w := 0) hm (by omega) ?_)
      rw [hN, show N (33 + 6 * j + 0) = nI kk from ek]
      refine v_iload_n (q := 27) dX7_as_26 (kk := ?_)
      refine v_cS2 (N := mX7_isUnder) (q := 30) lX7_130 sX7_isUnder kX7_isUnder dX7_as_27 (s_isUnder hk6 ?_)
      refine v_if_eqZ 42 (q := 33) dX7_as_30 (kt := fun c3 => ?_) (kf := fun c3 => ?_)
      · rw [if_neg (by rw [c3]; decide)] at hQ
        refine v_ldc (q := 44) cX7_134 dX7_as_42 (kk := ?_)
        refine v_iret dX7_as_44 (hQ := ?_)
        exact hQ
      · rw [if_pos c3] at hQ
        refine v_aload_n (q := 34) dX7_as_33 (kk := ?_)
        refine v_iload_n (q := 35) dX7_as_34 (kk := ?_)
        refine v_iconst (v := 2) (q := 36) dX7_as_35 (kk := ?_)
        refine v_cV2 (N := mX7_of) (q := 39) lX7_80 iX7_of kX7_of (by assumption) dX7_as_36 (s_of (w := 2) hm (by omega) ?_)
        rw [hN]
        refine v_goto 44 dX7_as_39 (kt := ?_)
        refine v_iret dX7_as_44 (hQ := ?_)
        exact hQ
    · exact bad (fun h => c2 h.2)
theorem x_turns {p k : Int32} (hx : XSk S R b) (hn : XN S I R b N) (hQ : ∀ I' : hcI, Fh b (b + 1) I I' → XN S I' R b (spTurns N p k).2 → Q (some (.int (spTurns N p k).1)) S I' R z) : Cl g mX6_turns 2 0 0 S I R z [.ref b, .int p, .int k] Q := by
  obtain ⟨⟨s0, r0, -⟩, ⟨hk1, -⟩, -⟩ := hx
  obtain ⟨np, nb, nt, sec, hw, hd⟩ := id hn
  obtain ⟨e1, e2, e3, e4⟩ := hw.e
  have hk1' := hk1
  obtain ⟨sh, s1, -, -, -, q0, -, -, -, sp⟩ := hk1'
  have hnp := hw.1.1.2
  have hnb := hw.1.2.1.2.2
  refine Cl.go [some (.ref b), some (.int p), some (.int k), none, none] ?_
  have bad : ¬ ((0 ≤ p ∧ p < nI np) ∧ (0 ≤ k ∧ k < 6)) → V g mX6_turns 2 0 0 S I R z 20 [some (.ref b), some (.int p), some (.int k), none, none] [] Q := by
    intro c
    have e : spTurns N p k = (-1000000001, N) := by unfold spTurns; rw [e1, if_neg c]
    rw [e] at hQ
    refine v_ldc (q := 22) cX6_55 dX6_turns_20 (kk := ?_)
    refine v_iret dX6_turns_22 (hQ := ?_)
    exact hQ I Fh.rfl hn
  refine v_aload_n (q := 1) dX6_turns_0 (kk := ?_)
  refine v_getR (q := 4) fX6_12 (by assumption) (by assumption) (hd := dX6_turns_1) (kk := ?_)
  refine v_iload_n (q := 5) dX6_turns_4 (kk := ?_)
  refine v_cV1 (N := mX0_has) (q := 8) lX6_70 iX0_has kX0_has (by assumption) dX6_turns_5 (s_has hk1 hd hw.1 ?_)
  refine v_if_eqB 20 (q := 11) dX6_turns_8 (kt := fun c1 => ?_) (kf := fun c1 => ?_)
  · exact bad (fun h => c1 h.1)
  · refine v_iload_n (q := 12) dX6_turns_11 (kk := ?_)
    refine v_bipush (v := 6) (q := 14) dX6_turns_12 (kk := ?_)
    refine v_cS2 (N := mX6_within) (q := 17) lX6_51 sX6_within kX6_within dX6_turns_14 (s_within ?_)
    refine v_if_neB 23 (q := 20) dX6_turns_17 (kt := fun c2 => ?_) (kf := fun c2 => ?_)
    · obtain ⟨j, rfl, hj⟩ := nI_of6 (n := np) rfl (by omega) c1
      obtain ⟨kv, rfl, hkv⟩ := nI_of6 (n := 6) rfl (by omega) c2
      have hspp := (sp j (by omega)).1
      have hrpp := (sp j (by omega)).2
      have hP := hd.2.2.1 j hj
      have e : spTurns N (nI j) (nI kv) = (N (33 + 6 * j), upd N (33 + 6 * j) (nI kv)) := by
        unfold spTurns
        rw [e1, if_pos ⟨c1, c2⟩, nI_clamp (by omega)]
      rw [e] at hQ
      refine v_aload_n (q := 24) dX6_turns_23 (kk := ?_)
      refine v_getR (q := 27) fX6_12 (by assumption) (by assumption) (hd := dX6_turns_24) (kk := ?_)
      refine v_getR (q := 30) fX6_74 (by assumption) (by assumption) (hd := dX6_turns_27) (kk := ?_)
      refine v_iload_n (q := 31) dX6_turns_30 (kk := ?_)
      refine v_aaldn (q := 32) (by assumption) (by assumption) (by omega) (by omega) (hd := dX6_turns_31) (kk := ?_)
      refine v_astore3 (q := 33) dX6_turns_32 (kk := ?_)
      refine v_aload_n (q := 34) dX6_turns_33 (kk := ?_)
      refine v_getI (q := 37) fX6_78 (by assumption) (hd := dX6_turns_34) (kk := ?_)
      rw [hP 0 (by omega)]
      refine v_istore4 (q := 39) dX6_turns_37 (kk := ?_)
      refine v_aload_n (q := 40) dX6_turns_39 (kk := ?_)
      refine v_iload_n (q := 41) dX6_turns_40 (kk := ?_)
      refine v_putI (q := 44) fX6_78 (by assumption) (hd := dX6_turns_41) (kk := ?_)
      refine v_iload (q := 46) dX6_turns_44 (kk := ?_)
      refine v_iret dX6_turns_46 (hQ := ?_)
      exact hQ _ (Fh.u (by omega) (by omega)) ⟨np, nb, nt, sec, hw.p (j := 0) hj (by omega), hd.p (j := 0) (by omega) hj hnp hnb (by omega)⟩
    · exact bad (fun h => c2 h.2)
theorem m_turns {p k : Int32} (hm : MG S R m) (hN : I (m + 1) = N) (hn : MN N) (hQ : ∀ I' : hcI, Fm m I I' → I' (m + 1) = (spTurns N p k).2 → Q (some (.int (spTurns N p k).1)) S I' R z) : Cl g mX7_turns 2 0 0 S I R z [.ref m, .int p, .int k] Q := by
  have s0 := hm.s0
  obtain ⟨np, nb, nt, sec, hw⟩ := hn
  obtain ⟨e1, e2, e3, e4⟩ := hw.e
  have hnp := hw.1.1.2
  have h1 := hw.1.1.1
  refine Cl.go [some (.ref m), some (.int p), some (.int k)] ?_
  have bad : ¬ ((0 ≤ p ∧ p < nI np) ∧ (0 ≤ k ∧ k < 6)) → V g mX7_turns 2 0 0 S I R z 32 [some (.ref m), some (.int p), some (.int k)] [] Q := by
    intro c
    have e : spTurns N p k = (-1000000001, N) := by unfold spTurns; rw [e1, if_neg c]
    rw [e] at hQ
    refine v_ldc (q := 34) cX7_92 dX7_turns_32 (kk := ?_)
    refine v_iret dX7_turns_34 (hQ := ?_)
    exact hQ I Fm.rfl hN
  refine v_aload_n (q := 1) dX7_turns_0 (kk := ?_)
  refine v_iload_n (q := 2) dX7_turns_1 (kk := ?_)
  refine v_cV1 (N := mX7_isOne) (q := 5) lX7_118 iX7_isOne kX7_isOne (by assumption) dX7_turns_2 (s_isOne hm (by rw [hN]; exact h1) hnp ?_)
  refine v_if_eqB 32 (q := 8) dX7_turns_5 (kt := fun c1 => ?_) (kf := fun c1 => ?_)
  · exact bad (fun h => c1 h.1)
  · refine v_iload_n (q := 9) dX7_turns_8 (kk := ?_)
    refine v_iconst (v := 0) (q := 10) dX7_turns_9 (kk := ?_)
    refine v_iconst (v := 5) (q := 11) dX7_turns_10 (kk := ?_)
    refine v_cS3 (N := mX7_in) (q := 14) lX7_76 sX7_in kX7_in dX7_turns_11 (s_in0 6 6 rfl rfl (by omega) ?_)
    refine v_if_eqB 32 (q := 17) dX7_turns_14 (kt := fun c2 => ?_) (kf := fun c2 => ?_)
    · exact bad (fun h => c2 h.2)
    · obtain ⟨j, rfl, hj⟩ := nI_of6 (n := np) rfl (by omega) c1
      have e : spTurns N (nI j) k = (N (33 + 6 * j), upd N (33 + 6 * j) k) := by
        unfold spTurns
        rw [e1, if_pos ⟨c1, c2⟩, nI_clamp (by omega)]
      rw [e] at hQ
      refine v_aload_n (q := 18) dX7_turns_17 (kk := ?_)
      refine v_bipush (v := 33) (q := 20) dX7_turns_18 (kk := ?_)
      refine v_bipush (v := 6) (q := 22) dX7_turns_20 (kk := ?_)
      refine v_iload_n (q := 23) dX7_turns_22 (kk := ?_)
      refine v_imul (q := 24) dX7_turns_23 (kk := ?_)
      refine v_iadd (q := 25) dX7_turns_24 (kk := ?_)
      refine v_iload_n (q := 26) dX7_turns_25 (kk := ?_)
      refine v_cV2 (N := mX7_becomes) (q := 29) lX7_135 iX7_becomes kX7_becomes (by assumption) dX7_turns_26 (s_mbecomes (k := 33 + 6 * j) hm (by rw [show (6 : Int32) = nI 6 from rfl, pk_mul, show (33 : Int32) = nI 33 from rfl, nI_add]) (by omega) ?_)
      rw [hN]
      refine v_goto 34 dX7_turns_29 (kt := ?_)
      refine v_iret dX7_turns_34 (hQ := ?_)
      exact hQ _ Fm.u (by rw [hc_u_at, hN])
theorem x_move {p s : Int32} (hx : XSk S R b) (hn : XN S I R b N) (hQ : ∀ I' : hcI, Fh b (b + 1) I I' → XN S I' R b (spMove N p s).2 → Q (some (.int (spMove N p s).1)) S I' R z) : Cl g mX6_move 2 0 0 S I R z [.ref b, .int p, .int s] Q := by
  obtain ⟨⟨s0, r0, -⟩, ⟨hk1, -⟩, -⟩ := hx
  obtain ⟨np, nb, nt, sec, hw, hd⟩ := id hn
  obtain ⟨e1, e2, e3, e4⟩ := hw.e
  have hk1' := hk1
  obtain ⟨sh, s1, -, -, -, q0, -, -, -, sp⟩ := hk1'
  have hnp := hw.1.1.2
  have hnb := hw.1.2.1.2.2
  refine Cl.go [some (.ref b), some (.int p), some (.int s), none, none, none] ?_
  have bad : ¬ ((0 ≤ p ∧ p < nI np) ∧ (0 ≤ s ∧ s < 30)) → V g mX6_move 2 0 0 S I R z 20 [some (.ref b), some (.int p), some (.int s), none, none, none] [] Q := by
    intro c
    have e : spMove N p s = (-1000000001, N) := by unfold spMove; rw [e1, if_neg c]
    rw [e] at hQ
    refine v_ldc (q := 22) cX6_55 dX6_move_20 (kk := ?_)
    refine v_iret dX6_move_22 (hQ := ?_)
    exact hQ I Fh.rfl hn
  refine v_aload_n (q := 1) dX6_move_0 (kk := ?_)
  refine v_getR (q := 4) fX6_12 (by assumption) (by assumption) (hd := dX6_move_1) (kk := ?_)
  refine v_iload_n (q := 5) dX6_move_4 (kk := ?_)
  refine v_cV1 (N := mX0_has) (q := 8) lX6_70 iX0_has kX0_has (by assumption) dX6_move_5 (s_has hk1 hd hw.1 ?_)
  refine v_if_eqB 20 (q := 11) dX6_move_8 (kt := fun c1 => ?_) (kf := fun c1 => ?_)
  · exact bad (fun h => c1 h.1)
  · refine v_iload_n (q := 12) dX6_move_11 (kk := ?_)
    refine v_bipush (v := 30) (q := 14) dX6_move_12 (kk := ?_)
    refine v_cS2 (N := mX6_within) (q := 17) lX6_51 sX6_within kX6_within dX6_move_14 (s_within ?_)
    refine v_if_neB 23 (q := 20) dX6_move_17 (kt := fun c2 => ?_) (kf := fun c2 => ?_)
    · obtain ⟨j, rfl, hj⟩ := nI_of6 (n := np) rfl (by omega) c1
      obtain ⟨sv, rfl, hsv⟩ := nI_of6 (n := 30) rfl (by omega) c2
      have hspp := (sp j (by omega)).1
      have hrpp := (sp j (by omega)).2
      have hP := hd.2.2.1 j hj
      have e : spMove N (nI j) (nI sv) = if 0 ≤ hc_o (whoF N np (nI sv)) ∧ ¬ hc_o (whoF N np (nI sv)) = nI j then (-1000000002, N) else (N (33 + 6 * j + 1), upd N (33 + 6 * j + 1) (nI sv)) := by
        unfold spMove
        rw [e1, if_pos ⟨c1, c2⟩, nI_clamp (by omega)]
      have go : ¬ (0 ≤ hc_o (whoF N np (nI sv)) ∧ ¬ hc_o (whoF N np (nI sv)) = nI j) → V g mX6_move 2 0 0 S I R z 44 [some (.ref b), some (.int (nI j)), some (.int (nI sv)), some (.int (hc_o (whoF N np (nI sv)))), none, none] [] Q := by
        intro c
        rw [if_neg c] at e
        rw [e] at hQ
        refine v_aload_n (q := 45) dX6_move_44 (kk := ?_)
        refine v_getR (q := 48) fX6_12 (by assumption) (by assumption) (hd := dX6_move_45) (kk := ?_)
        refine v_getR (q := 51) fX6_74 (by assumption) (by assumption) (hd := dX6_move_48) (kk := ?_)
        refine v_iload_n (q := 52) dX6_move_51 (kk := ?_)
        refine v_aaldn (q := 53) (by assumption) (by assumption) (by omega) (by omega) (hd := dX6_move_52) (kk := ?_)
        refine v_astore4 (q := 55) dX6_move_53 (kk := ?_)
        refine v_aload (q := 57) dX6_move_55 (kk := ?_)
        refine v_getI (q := 60) fX6_83 (by assumption) (hd := dX6_move_57) (kk := ?_)
        rw [hP 1 (by omega)]
        refine v_istore5 (q := 62) dX6_move_60 (kk := ?_)
        refine v_aload (q := 64) dX6_move_62 (kk := ?_)
        refine v_iload_n (q := 65) dX6_move_64 (kk := ?_)
        refine v_putI (q := 68) fX6_83 (by assumption) (hd := dX6_move_65) (kk := ?_)
        refine v_iload (q := 70) dX6_move_68 (kk := ?_)
        refine v_iret dX6_move_70 (hQ := ?_)
        exact hQ _ (Fh.u (by omega) (by omega)) ⟨np, nb, nt, sec, hw.p (j := 1) hj (by omega), hd.p (j := 1) (by omega) hj hnp hnb (by omega)⟩
      refine v_aload_n (q := 24) dX6_move_23 (kk := ?_)
      refine v_getR (q := 27) fX6_12 (by assumption) (by assumption) (hd := dX6_move_24) (kk := ?_)
      refine v_iload_n (q := 28) dX6_move_27 (kk := ?_)
      refine v_cV1 (N := mX0_whoSits) (q := 31) lX6_56 iX0_whoSits kX0_whoSits (by assumption) dX6_move_28 (s_whoSits hk1 hd hw.1 ?_)
      refine v_istore3 (q := 32) dX6_move_31 (kk := ?_)
      refine v_iload_n (q := 33) dX6_move_32 (kk := ?_)
      refine v_if_lt 44 (q := 36) dX6_move_33 (kt := fun c3 => ?_) (kf := fun c3 => ?_)
      · exact go (fun h => Int32.not_le.mpr c3 h.1)
      · refine v_iload_n (q := 37) dX6_move_36 (kk := ?_)
        refine v_iload_n (q := 38) dX6_move_37 (kk := ?_)
        refine v_icmp_eq 44 (q := 41) dX6_move_38 (kt := fun c4 => ?_) (kf := fun c4 => ?_)
        · exact go (fun h => h.2 c4)
        · rw [if_pos ⟨Int32.not_lt.mp c3, c4⟩] at e
          rw [e] at hQ
          refine v_ldc (q := 43) cX6_60 dX6_move_41 (kk := ?_)
          refine v_iret dX6_move_43 (hQ := ?_)
          exact hQ I Fh.rfl hn
    · exact bad (fun h => c2 h.2)
theorem m_move {p s : Int32} (hm : MG S R m) (hN : I (m + 1) = N) (hn : MN N) (hQ : ∀ I' : hcI, Fm m I I' → I' (m + 1) = (spMove N p s).2 → Q (some (.int (spMove N p s).1)) S I' R z) : Cl g mX7_move 2 0 0 S I R z [.ref m, .int p, .int s] Q := by
  have s0 := hm.s0
  obtain ⟨np, nb, nt, sec, hw⟩ := hn
  obtain ⟨e1, e2, e3, e4⟩ := hw.e
  have hnp := hw.1.1.2
  have h1 := hw.1.1.1
  refine Cl.go [some (.ref m), some (.int p), some (.int s), none] ?_
  have bad : ¬ ((0 ≤ p ∧ p < nI np) ∧ (0 ≤ s ∧ s < 30)) → V g mX7_move 2 0 0 S I R z 15 [some (.ref m), some (.int p), some (.int s), none] [] Q := by
    intro c
    have e : spMove N p s = (-1000000001, N) := by unfold spMove; rw [e1, if_neg c]
    rw [e] at hQ
    refine v_ldc (q := 17) cX7_92 dX7_move_15 (kk := ?_)
    refine v_iret dX7_move_17 (hQ := ?_)
    exact hQ I Fm.rfl hN
  refine v_aload_n (q := 1) dX7_move_0 (kk := ?_)
  refine v_iload_n (q := 2) dX7_move_1 (kk := ?_)
  refine v_cV1 (N := mX7_isOne) (q := 5) lX7_118 iX7_isOne kX7_isOne (by assumption) dX7_move_2 (s_isOne hm (by rw [hN]; exact h1) hnp ?_)
  refine v_if_eqB 15 (q := 8) dX7_move_5 (kt := fun c1 => ?_) (kf := fun c1 => ?_)
  · exact bad (fun h => c1 h.1)
  · refine v_iload_n (q := 9) dX7_move_8 (kk := ?_)
    refine v_cS1 (N := mX7_isSeat) (q := 12) lX7_88 sX7_isSeat kX7_isSeat dX7_move_9 (s_isSeat ?_)
    refine v_if_neB 18 (q := 15) dX7_move_12 (kt := fun c2 => ?_) (kf := fun c2 => ?_)
    · obtain ⟨j, rfl, hj⟩ := nI_of6 (n := np) rfl (by omega) c1
      have e : spMove N (nI j) s = if 0 ≤ hc_o (whoF N np s) ∧ ¬ hc_o (whoF N np s) = nI j then (-1000000002, N) else (N (33 + 6 * j + 1), upd N (33 + 6 * j + 1) s) := by
        unfold spMove
        rw [e1, if_pos ⟨c1, c2⟩, nI_clamp (by omega)]
      have go : ¬ (0 ≤ hc_o (whoF N np s) ∧ ¬ hc_o (whoF N np s) = nI j) → V g mX7_move 2 0 0 S I R z 38 [some (.ref m), some (.int (nI j)), some (.int s), some (.int (hc_o (whoF N np s)))] [] Q := by
        intro c
        rw [if_neg c] at e
        rw [e] at hQ
        refine v_aload_n (q := 39) dX7_move_38 (kk := ?_)
        refine v_bipush (v := 33) (q := 41) dX7_move_39 (kk := ?_)
        refine v_bipush (v := 6) (q := 43) dX7_move_41 (kk := ?_)
        refine v_iload_n (q := 44) dX7_move_43 (kk := ?_)
        refine v_imul (q := 45) dX7_move_44 (kk := ?_)
        refine v_iadd (q := 46) dX7_move_45 (kk := ?_)
        refine v_iconst (v := 1) (q := 47) dX7_move_46 (kk := ?_)
        refine v_iadd (q := 48) dX7_move_47 (kk := ?_)
        refine v_iload_n (q := 49) dX7_move_48 (kk := ?_)
        refine v_cV2 (N := mX7_becomes) (q := 52) lX7_135 iX7_becomes kX7_becomes (by assumption) dX7_move_49 (s_mbecomes (k := 33 + 6 * j + 1) hm (ix33 j 1) (by omega) ?_)
        rw [hN]
        refine v_iret dX7_move_52 (hQ := ?_)
        exact hQ _ Fm.u (by rw [hc_u_at, hN])
      refine v_aload_n (q := 19) dX7_move_18 (kk := ?_)
      refine v_iload_n (q := 20) dX7_move_19 (kk := ?_)
      refine v_cV1 (N := mX7_whoOn) (q := 23) lX7_93 iX7_whoOn kX7_whoOn (by assumption) dX7_move_20 (s_whoOn hm (by rw [hN]; exact h1) hnp ?_)
      rw [hN]
      refine v_istore3 (q := 24) dX7_move_23 (kk := ?_)
      refine v_iload_n (q := 25) dX7_move_24 (kk := ?_)
      refine v_if_lt 38 (q := 28) dX7_move_25 (kt := fun c3 => ?_) (kf := fun c3 => ?_)
      · exact go (fun h => Int32.not_le.mpr c3 h.1)
      · refine v_iload_n (q := 29) dX7_move_28 (kk := ?_)
        refine v_iload_n (q := 30) dX7_move_29 (kk := ?_)
        refine v_icmp_eq 38 (q := 33) dX7_move_30 (kt := fun c4 => ?_) (kf := fun c4 => ?_)
        · exact go (fun h => h.2 c4)
        · rw [if_pos ⟨Int32.not_lt.mp c3, c4⟩] at e
          rw [e] at hQ
          refine v_ldc (q := 35) cX7_97 dX7_move_33 (kk := ?_)
          refine v_goto 52 dX7_move_35 (kt := ?_)
          refine v_iret dX7_move_52 (hQ := ?_)
          exact hQ I Fm.rfl hN
    · exact bad (fun h => c2 h.2)
theorem x_onSeat {s : Int32} (hx : XSk S R b) (hn : XN S I R b N) (hQ : Q (some (.int (spOnSeat N s))) S I R z) : Cl g mX6_onSeat 2 0 0 S I R z [.ref b, .int s] Q := by
  obtain ⟨⟨s0, r0, -⟩, ⟨hk1, -⟩, -⟩ := hx
  obtain ⟨np, nb, nt, sec, hw, hd⟩ := id hn
  obtain ⟨e1, e2, e3, e4⟩ := hw.e
  have sh := hk1.1
  unfold spOnSeat at hQ
  refine Cl.go [some (.ref b), some (.int s), none] ?_
  refine v_iload_n (q := 1) dX6_onSeat_0 (kk := ?_)
  refine v_bipush (v := 30) (q := 3) dX6_onSeat_1 (kk := ?_)
  refine v_cS2 (N := mX6_within) (q := 6) lX6_51 sX6_within kX6_within dX6_onSeat_3 (s_within ?_)
  refine v_if_neB 12 (q := 9) dX6_onSeat_6 (kt := fun c1 => ?_) (kf := fun c1 => ?_)
  · rw [if_pos c1, e1] at hQ
    refine v_aload_n (q := 13) dX6_onSeat_12 (kk := ?_)
    refine v_getR (q := 16) fX6_12 (by assumption) (by assumption) (hd := dX6_onSeat_13) (kk := ?_)
    refine v_iload_n (q := 17) dX6_onSeat_16 (kk := ?_)
    refine v_cV1 (N := mX0_whoSits) (q := 20) lX6_56 iX0_whoSits kX0_whoSits (by assumption) dX6_onSeat_17 (s_whoSits hk1 hd hw.1 ?_)
    refine v_istore2 (q := 21) dX6_onSeat_20 (kk := ?_)
    refine v_iload_n (q := 22) dX6_onSeat_21 (kk := ?_)
    refine v_if_ge 30 (q := 25) dX6_onSeat_22 (kt := fun c2 => ?_) (kf := fun c2 => ?_)
    · rw [if_pos c2] at hQ
      refine v_iload_n (q := 31) dX6_onSeat_30 (kk := ?_)
      refine v_iret dX6_onSeat_31 (hQ := ?_)
      exact hQ
    · rw [if_neg c2] at hQ
      refine v_ldc (q := 27) cX6_125 dX6_onSeat_25 (kk := ?_)
      refine v_goto 31 dX6_onSeat_27 (kt := ?_)
      refine v_iret dX6_onSeat_31 (hQ := ?_)
      exact hQ
  · rw [if_neg c1] at hQ
    refine v_ldc (q := 11) cX6_55 dX6_onSeat_9 (kk := ?_)
    refine v_iret dX6_onSeat_11 (hQ := ?_)
    exact hQ
theorem m_onSeat {s : Int32} (hm : MG S R m) (hN : I (m + 1) = N) (hn : MN N) (hQ : Q (some (.int (spOnSeat N s))) S I R z) : Cl g mX7_onSeat 2 0 0 S I R z [.ref m, .int s] Q := by
  have s0 := hm.s0
  obtain ⟨np, nb, nt, sec, hw⟩ := hn
  obtain ⟨e1, e2, e3, e4⟩ := hw.e
  unfold spOnSeat at hQ
  refine Cl.go [some (.ref m), some (.int s)] ?_
  refine v_iload_n (q := 1) dX7_onSeat_0 (kk := ?_)
  refine v_cS1 (N := mX7_isSeat) (q := 4) lX7_88 sX7_isSeat kX7_isSeat dX7_onSeat_1 (s_isSeat ?_)
  refine v_if_eqB 18 (q := 7) dX7_onSeat_4 (kt := fun c1 => ?_) (kf := fun c1 => ?_)
  · rw [if_neg c1] at hQ
    refine v_ldc (q := 20) cX7_92 dX7_onSeat_18 (kk := ?_)
    refine v_iret dX7_onSeat_20 (hQ := ?_)
    exact hQ
  · rw [if_pos c1, e1] at hQ
    refine v_aload_n (q := 8) dX7_onSeat_7 (kk := ?_)
    refine v_iload_n (q := 9) dX7_onSeat_8 (kk := ?_)
    refine v_cV1 (N := mX7_whoOn) (q := 12) lX7_93 iX7_whoOn kX7_whoOn (by assumption) dX7_onSeat_9 (s_whoOn hm (by rw [hN]; exact hw.1.1.1) hw.1.1.2 ?_)
    rw [hN]
    refine v_cS1 (N := mX7_told0) (q := 15) lX7_138 sX7_told0 kX7_told0 dX7_onSeat_12 (s_told0 ?_)
    refine v_goto 20 dX7_onSeat_15 (kt := ?_)
    refine v_iret dX7_onSeat_20 (hQ := ?_)
    exact hQ
end C2
