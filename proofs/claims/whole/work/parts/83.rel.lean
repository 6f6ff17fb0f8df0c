/-! both sides, tied to one set of numbers -/
def XC (S : hcS) (I : hcI) (R : hcR) (b z : Nat) (N Ni : hN) (im : Bool) (so si ce ho hA hB hl : Nat → Int32) (tl : Nat) (tp : Nat → Int32) (wt : Nat) (te : Nat → Int32) : Prop :=
  (XSk S R b ∧ XN S I R b N) ∧ (SW so si ∧ SHc I b so si ce) ∧ SLc I b ho hA hB hl ∧ (I b 8 = hc_z im ∧ (im = true → XI S I R b Ni)) ∧ (I b 9 = nI tl ∧ tl ≤ 96 ∧ TPc I b tl tp) ∧ (I b 10 = nI wt ∧ wt ≤ 60 ∧ ∀ j, j < wt → I (b + 52) j = te j) ∧ ((∀ y, z ≤ y → S y = none) ∧ b + 103 ≤ z ∧ (z - (b + 103)) % 3 = 0)
def MC (S : hcS) (I : hcI) (R : hcR) (m : Nat) (N Ni : hN) (im : Bool) (so si ce ho hA hB hl : Nat → Int32) (tl : Nat) (tp : Nat → Int32) (wt : Nat) (te : Nat → Int32) : Prop :=
  MG S R m ∧ I (m + 1) = N ∧ SHm I m so si ce ∧ SLm I m ho hA hB hl ∧ (I m 3 = hc_z im ∧ (im = true → I (m + 2) = Ni)) ∧ (I m 6 = nI tl ∧ I (m + 5) = tp) ∧ (I m 32 = nI wt ∧ I (m + 21) = te) ∧ KYm I m
def REL (S : hcS) (I : hcI) (R : hcR) (b z : Nat) : Prop := ∃ (N Ni : hN) (im : Bool) (so si ce ho hA hB hl : Nat → Int32) (tl : Nat) (tp : Nat → Int32) (wt : Nat) (te : Nat → Int32), XC S I R b z N Ni im so si ce ho hA hB hl tl tp wt te ∧ MC S I R (b + 81) N Ni im so si ce ho hA hB hl tl tp wt te
theorem XI.keep {S : hcS} {I I' : hcI} {R R' : hcR} {b c : Nat} {N : hN} (h : XI S I R b N) (h1 : ∀ y, b + 16 ≤ y → y < b + 31 → I' y = I y) (h2 : ∀ y, b + 103 ≤ y → ¬ stk b y → I' y = I y) (hR : ∀ x, x ≠ c → R' x = R x) (hc : c < b + 103) (hc2 : c ≠ b + 19) : XI S I' R' b N := by
  obtain ⟨np, nb, nt, sec, hw, hd⟩ := h
  exact ⟨np, nb, nt, sec, hw, (hd.keepR hR hc (by omega)).keep hw.1.1.2 (fun y a1 a2 => h1 y (by omega) (by omega)) h2⟩
theorem XN.keep {S : hcS} {I I' : hcI} {R R' : hcR} {b c : Nat} {N : hN} (h : XN S I R b N) (h1 : ∀ y, b + 1 ≤ y → y < b + 16 → I' y = I y) (h2 : ∀ y, b + 103 ≤ y → ¬ stk b y → I' y = I y) (hR : ∀ x, x ≠ c → R' x = R x) (hc : c < b + 103) (hc2 : c ≠ b + 4) : XN S I' R' b N := by
  obtain ⟨np, nb, nt, sec, hw, hd⟩ := h
  exact ⟨np, nb, nt, sec, hw, (hd.keepR hR hc (by omega)).keep hw.1.1.2 (fun y a1 a2 => h1 y (by omega) (by omega)) h2⟩
theorem TPc.keep {I I' : hcI} {b tl : Nat} {tp : Nat → Int32} (h : TPc I b tl tp) (h1 : I' (b + 51) = I (b + 51)) : TPc I' b tl tp := fun j hj => by
  obtain ⟨t, a, b, c⟩ := h j hj
  exact ⟨t, a, b, by rw [h1]; exact c⟩
theorem MG.keep {S S' : hcS} {R R' : hcR} {m : Nat} (h : MG S R m) (hS : ∀ y, m ≤ y → y < m + 22 → S' y = S y) (hR : R' m = R m) : MG S' R' m := by
  unfold MG at h ⊢
  rw [hS m (by omega) (by omega), hS (m + 1) (by omega) (by omega), hS (m + 2) (by omega) (by omega), hS (m + 3) (by omega) (by omega), hS (m + 4) (by omega) (by omega), hS (m + 5) (by omega) (by omega), hS (m + 6) (by omega) (by omega), hS (m + 7) (by omega) (by omega), hS (m + 8) (by omega) (by omega), hS (m + 9) (by omega) (by omega), hS (m + 10) (by omega) (by omega), hS (m + 11) (by omega) (by omega), hS (m + 12) (by omega) (by omega), hS (m + 13) (by omega) (by omega), hS (m + 14) (by omega) (by omega), hS (m + 15) (by omega) (by omega), hS (m + 16) (by omega) (by omega), hS (m + 17) (by omega) (by omega), hS (m + 18) (by omega) (by omega), hS (m + 19) (by omega) (by omega), hS (m + 20) (by omega) (by omega), hS (m + 21) (by omega) (by omega), hR]
  exact h
section L25
variable {S S' : hcS} {I I' : hcI} {R R' : hcR} {b z m : Nat} {N Ni N' : hN} {im : Bool} {so si ce ho hA hB hl so' si' ce' ho' hA' hB' hl' : Nat → Int32} {tl wt : Nat} {tp te : Nat → Int32}
theorem XC.gen (h : XC S I R b z N Ni im so si ce ho hA hB hl tl tp wt te) (hk : XSk S R' b) (hn : XN S I' R' b N') (hb : ∀ k, 8 ≤ k → k ≤ 10 → I' b k = I b k) (hi : im = true → XI S I' R' b Ni) (hsw : SW so' si') (hsh : SHc I' b so' si' ce') (hsl : SLc I' b ho' hA' hB' hl') (ht : ∀ y, b + 51 ≤ y → y < b + 53 → I' y = I y) : XC S I' R' b z N' Ni im so' si' ce' ho' hA' hB' hl' tl tp wt te := by
  obtain ⟨⟨a1, a2⟩, ⟨a3, a4⟩, a5, ⟨a6, a7⟩, ⟨a8, a9, a10⟩, ⟨a11, a12, a13⟩, a14⟩ := h
  exact ⟨⟨hk, hn⟩, ⟨hsw, hsh⟩, hsl, ⟨(hb 8 (by omega) (by omega)).trans a6, hi⟩, ⟨(hb 9 (by omega) (by omega)).trans a8, a9, a10.keep (ht _ (by omega) (by omega))⟩, ⟨(hb 10 (by omega) (by omega)).trans a11, a12, fun j hj => by rw [ht _ (by omega) (by omega)]; exact a13 j hj⟩, a14⟩
theorem XC.n (h : XC S I R b z N Ni im so si ce ho hA hB hl tl tp wt te) (hF : Fh b (b + 1) I I') (hn : XN S I' R b N') : XC S I' R b z N' Ni im so si ce ho hA hB hl tl tp wt te := by
  have hy : ∀ y, y < b + 1 ∨ (b + 16 ≤ y ∧ y < b + 103) → I' y = I y := fun y hy => hF y (by omega) (by unfold stk; omega)
  exact h.gen h.1.1 hn (fun k _ _ => by rw [hy b (by omega)]) (fun e => (h.2.2.2.1.2 e).keep (c := b) (fun y a1 a2 => hy y (by omega)) (fun y a1 a2 => hF y (by omega) a2) (fun _ _ => rfl) (by omega) (by omega)) h.2.1.1 (h.2.1.2.keep (fun y a1 a2 => hy y (by omega))) (h.2.2.1.keep (fun y a1 a2 => hy y (by omega))) (fun y a1 a2 => hy y (by omega))
theorem XC.t (h : XC S I R b z N Ni im so si ce ho hA hB hl tl tp wt te) (hF : Fh b (b + 31) I I') (hR : Fr b R R') : XC S I' R' b z N Ni im so si ce ho hA hB hl tl tp wt te := by
  have hy : ∀ y, y < b + 31 ∨ (b + 46 ≤ y ∧ y < b + 103) → I' y = I y := fun y hy => hF y (by omega) (by unfold stk; omega)
  exact h.gen (h.1.1.keepR hR) (h.1.2.keepT hF hR) (fun k _ _ => by rw [hy b (by omega)]) (fun e => (h.2.2.2.1.2 e).keep (c := b + 34) (fun y a1 a2 => hy y (by omega)) (fun y a1 a2 => hF y (by omega) a2) hR (by omega) (by omega)) h.2.1.1 (h.2.1.2.keep (fun y a1 a2 => hy y (by omega))) (h.2.2.1.keep (fun y a1 a2 => hy y (by omega))) (fun y a1 a2 => hy y (by omega))
theorem XC.s (h : XC S I R b z N Ni im so si ce ho hA hB hl tl tp wt te) (hF : ∀ y, ¬ stk b y → I' y = I y) : XC S I' R b z N Ni im so si ce ho hA hB hl tl tp wt te := h.t (fun y _ a => hF y a) (fun _ _ => rfl)
theorem XC.mo (h : XC S I R b z N Ni im so si ce ho hA hB hl tl tp wt te) (hF : ∀ y, y < b + 81 ∨ b + 103 ≤ y → I' y = I y) : XC S I' R b z N Ni im so si ce ho hA hB hl tl tp wt te :=
  h.gen h.1.1 (h.1.2.keep (c := b) (fun y a1 a2 => hF y (by omega)) (fun y a1 a2 => hF y (by omega)) (fun _ _ => rfl) (by omega) (by omega)) (fun k _ _ => by rw [hF b (by omega)]) (fun e => (h.2.2.2.1.2 e).keep (c := b) (fun y a1 a2 => hF y (by omega)) (fun y a1 a2 => hF y (by omega)) (fun _ _ => rfl) (by omega) (by omega)) h.2.1.1 (h.2.1.2.keep (fun y a1 a2 => hF y (by omega))) (h.2.2.1.keep (fun y a1 a2 => hF y (by omega))) (fun y a1 a2 => hF y (by omega))
theorem XC.sh (h : XC S I R b z N Ni im so si ce ho hA hB hl tl tp wt te) (hF : Fs b I I') (hs : SHc I' b so' si' ce') (hw : SW so' si') : XC S I' R b z N Ni im so' si' ce' ho hA hB hl tl tp wt te :=
  h.gen h.1.1 (h.1.2.keep (c := b) (fun y a1 a2 => hF y (by omega)) (fun y a1 a2 => hF y (by omega)) (fun _ _ => rfl) (by omega) (by omega)) (fun k _ _ => by rw [hF b (by omega)]) (fun e => (h.2.2.2.1.2 e).keep (c := b) (fun y a1 a2 => hF y (by omega)) (fun y a1 a2 => hF y (by omega)) (fun _ _ => rfl) (by omega) (by omega)) hw hs (h.2.2.1.keep (fun y a1 a2 => hF y (by omega))) (fun y a1 a2 => hF y (by omega))
theorem XC.sl (h : XC S I R b z N Ni im so si ce ho hA hB hl tl tp wt te) (hF : Fl b I I') (hs : SLc I' b ho' hA' hB' hl') : XC S I' R b z N Ni im so si ce ho' hA' hB' hl' tl tp wt te :=
  h.gen h.1.1 (h.1.2.keep (c := b) (fun y a1 a2 => hF y (by omega)) (fun y a1 a2 => hF y (by omega)) (fun _ _ => rfl) (by omega) (by omega)) (fun k _ _ => by rw [hF b (by omega)]) (fun e => (h.2.2.2.1.2 e).keep (c := b) (fun y a1 a2 => hF y (by omega)) (fun y a1 a2 => hF y (by omega)) (fun _ _ => rfl) (by omega) (by omega)) h.2.1.1 (h.2.1.2.keep (fun y a1 a2 => hF y (by omega))) hs (fun y a1 a2 => hF y (by omega))
theorem MC.x (h : MC S I R m N Ni im so si ce ho hA hB hl tl tp wt te) (hI : ∀ y, m ≤ y → y < m + 22 → I' y = I y) (hS : ∀ y, m ≤ y → y < m + 22 → S' y = S y) (hR : R' m = R m) : MC S' I' R' m N Ni im so si ce ho hA hB hl tl tp wt te := by
  obtain ⟨a1, a2, ⟨a3, a4, a5⟩, ⟨a6, a7, a8, a9⟩, ⟨a10, a11⟩, ⟨a12, a13⟩, ⟨a14, a15⟩, a16, a17⟩ := h
  refine ⟨a1.keep hS hR, ?_, ⟨?_, ?_, ?_⟩, ⟨?_, ?_, ?_, ?_⟩, ⟨?_, fun e => ?_⟩, ⟨?_, ?_⟩, ⟨?_, ?_⟩, fun k hk => ?_, fun w hw => ?_⟩
  · rw [hI _ (by omega) (by omega)]; exact a2
  · rw [hI _ (by omega) (by omega)]; exact a3
  · rw [hI _ (by omega) (by omega)]; exact a4
  · rw [hI _ (by omega) (by omega)]; exact a5
  · rw [hI _ (by omega) (by omega)]; exact a6
  · rw [hI _ (by omega) (by omega)]; exact a7
  · rw [hI _ (by omega) (by omega)]; exact a8
  · rw [hI _ (by omega) (by omega)]; exact a9
  · rw [hI _ (by omega) (by omega)]; exact a10
  · rw [hI _ (by omega) (by omega)]; exact a11 e
  · rw [hI _ (by omega) (by omega)]; exact a12
  · rw [hI _ (by omega) (by omega)]; exact a13
  · rw [hI _ (by omega) (by omega)]; exact a14
  · rw [hI _ (by omega) (by omega)]; exact a15
  · rw [hI _ (by omega) (by omega)]; exact a16 k hk
  · rw [hI _ (by omega) (by omega)]; exact a17 w hw
theorem MC.gen (h : MC S I R m N Ni im so si ce ho hA hB hl tl tp wt te) (hN : I' (m + 1) = N') (hsh : SHm I' m so' si' ce') (hsl : SLm I' m ho' hA' hB' hl') (hm : ∀ k, k = 3 ∨ k = 6 ∨ k = 32 → I' m k = I m k) (hy : ∀ y, y = m + 2 ∨ y = m + 5 ∨ y = m + 6 ∨ y = m + 7 ∨ y = m + 21 → I' y = I y) : MC S I' R m N' Ni im so' si' ce' ho' hA' hB' hl' tl tp wt te := by
  obtain ⟨a1, a2, ⟨a3, a4, a5⟩, ⟨a6, a7, a8, a9⟩, ⟨a10, a11⟩, ⟨a12, a13⟩, ⟨a14, a15⟩, a16, a17⟩ := h
  refine ⟨a1, hN, hsh, hsl, ⟨(hm 3 (by omega)).trans a10, fun e => (hy _ (by omega)).trans (a11 e)⟩, ⟨(hm 6 (by omega)).trans a12, (hy _ (by omega)).trans a13⟩, ⟨(hm 32 (by omega)).trans a14, (hy _ (by omega)).trans a15⟩, fun k hk => ?_, fun w hw => ?_⟩
  · rw [hy _ (by omega)]; exact a16 k hk
  · rw [hy _ (by omega)]; exact a17 w hw
theorem MC.n (h : MC S I R m N Ni im so si ce ho hA hB hl tl tp wt te) (hF : ∀ y, y ≠ m + 1 → y ≠ m + 4 → y ≠ m + 11 → y ≠ m + 12 → I' y = I y) (hN : I' (m + 1) = N') : MC S I' R m N' Ni im so si ce ho hA hB hl tl tp wt te := by
  have hy : ∀ y, y = m ∨ y = m + 2 ∨ (m + 5 ≤ y ∧ y ≤ m + 10) ∨ m + 13 ≤ y → I' y = I y := fun y hy => hF y (by omega) (by omega) (by omega) (by omega)
  refine h.gen hN ⟨?_, ?_, ?_⟩ ⟨?_, ?_, ?_, ?_⟩ (fun k _ => by rw [hy m (by omega)]) (fun y a => hy y (by omega))
  · rw [hy _ (by omega)]; exact h.2.2.1.1
  · rw [hy _ (by omega)]; exact h.2.2.1.2.1
  · rw [hy _ (by omega)]; exact h.2.2.1.2.2
  · rw [hy _ (by omega)]; exact h.2.2.2.1.1
  · rw [hy _ (by omega)]; exact h.2.2.2.1.2.1
  · rw [hy _ (by omega)]; exact h.2.2.2.1.2.2.1
  · rw [hy _ (by omega)]; exact h.2.2.2.1.2.2.2
theorem MC.sh (h : MC S I R m N Ni im so si ce ho hA hB hl tl tp wt te) (hF : Fsm m I I') (hs : SHm I' m so' si' ce') : MC S I' R m N Ni im so' si' ce' ho hA hB hl tl tp wt te := by
  have hy : ∀ y, y ≤ m + 12 ∨ (m + 16 ≤ y ∧ y ≤ m + 19) ∨ m + 21 ≤ y → I' y = I y := fun y hy => hF y (by omega) (by omega) (by omega) (by omega)
  refine h.gen ((hy _ (by omega)).trans h.2.1) hs ⟨?_, ?_, ?_, ?_⟩ (fun k _ => by rw [hy m (by omega)]) (fun y a => hy y (by omega))
  · rw [hy _ (by omega)]; exact h.2.2.2.1.1
  · rw [hy _ (by omega)]; exact h.2.2.2.1.2.1
  · rw [hy _ (by omega)]; exact h.2.2.2.1.2.2.1
  · rw [hy _ (by omega)]; exact h.2.2.2.1.2.2.2
theorem MC.sl (h : MC S I R m N Ni im so si ce ho hA hB hl tl tp wt te) (hF : Flm m I I') (hs : SLm I' m ho' hA' hB' hl') : MC S I' R m N Ni im so si ce ho' hA' hB' hl' tl tp wt te := by
  have hy : ∀ y, y ≤ m + 15 ∨ m + 20 ≤ y → I' y = I y := fun y hy => hF y (by omega) (by omega) (by omega) (by omega)
  refine h.gen ((hy _ (by omega)).trans h.2.1) ⟨?_, ?_, ?_⟩ hs (fun k _ => by rw [hy m (by omega)]) (fun y a => hy y (by omega))
  · rw [hy _ (by omega)]; exact h.2.2.1.1
  · rw [hy _ (by omega)]; exact h.2.2.1.2.1
  · rw [hy _ (by omega)]; exact h.2.2.1.2.2
end L25
