section L26
variable {S S' : hcS} {I I' : hcI} {R R' : hcR} {b z z' m : Nat} {N Ni N' : hN} {im : Bool} {so si ce ho hA hB hl : Nat → Int32} {tl wt tl' wt' : Nat} {tp te tp' te' : Nat → Int32}
theorem XC.bb (h : XC S I R b z N Ni im so si ce ho hA hB hl tl tp wt te) (hF : ∀ y, y ≠ b → (y < b + 31 ∨ b + 46 ≤ y) → y ≠ b + 51 → y ≠ b + 52 → ¬ stk b y → I' y = I y) (hR : Fr b R R') (h8 : I' b 8 = I b 8) (h9 : I' b 9 = nI tl' ∧ tl' ≤ 96 ∧ TPc I' b tl' tp') (h10 : I' b 10 = nI wt' ∧ wt' ≤ 60 ∧ ∀ j, j < wt' → I' (b + 52) j = te' j) : XC S I' R' b z N Ni im so si ce ho hA hB hl tl' tp' wt' te' := by
  have hy : ∀ y, (b < y ∧ y < b + 31) ∨ (b + 53 ≤ y ∧ y < b + 103) → I' y = I y := fun y hy => hF y (by omega) (by omega) (by omega) (by omega) (by unfold stk; omega)
  have ht : ∀ y, b + 103 ≤ y → ¬ stk b y → I' y = I y := fun y a1 a2 => hF y (by omega) (by omega) (by omega) (by omega) a2
  obtain ⟨⟨a1, a2⟩, ⟨a3, a4⟩, a5, ⟨a6, a7⟩, -, -, a14⟩ := h
  exact ⟨⟨a1.keepR hR, a2.keep (c := b + 34) (fun y b1 b2 => hy y (by omega)) ht hR (by omega) (by omega)⟩, ⟨a3, a4.keep (fun y b1 b2 => hy y (by omega))⟩, a5.keep (fun y b1 b2 => hy y (by omega)), ⟨h8.trans a6, fun e => (a7 e).keep (c := b + 34) (fun y b1 b2 => hy y (by omega)) ht hR (by omega) (by omega)⟩, h9, h10, a14⟩
theorem MC.bb (h : MC S I R m N Ni im so si ce ho hA hB hl tl tp wt te) (hF : ∀ y, y ≠ m → y ≠ m + 1 → y ≠ m + 3 → y ≠ m + 5 → y ≠ m + 11 → y ≠ m + 12 → y ≠ m + 21 → I' y = I y) (h3 : I' m 3 = I m 3) (hN : I' (m + 1) = N) (h6 : I' m 6 = nI tl' ∧ I' (m + 5) = tp') (h32 : I' m 32 = nI wt' ∧ I' (m + 21) = te') : MC S I' R m N Ni im so si ce ho hA hB hl tl' tp' wt' te' := by
  have hy : ∀ y, y = m + 2 ∨ (m + 6 ≤ y ∧ y ≤ m + 10) ∨ (m + 13 ≤ y ∧ y ≤ m + 20) → I' y = I y := fun y hy => hF y (by omega) (by omega) (by omega) (by omega) (by omega) (by omega) (by omega)
  obtain ⟨a1, a2, ⟨a3, a4, a5⟩, ⟨a6, a7, a8, a9⟩, ⟨a10, a11⟩, -, -, a16, a17⟩ := h
  refine ⟨a1, hN, ⟨?_, ?_, ?_⟩, ⟨?_, ?_, ?_, ?_⟩, ⟨h3.trans a10, fun e => ?_⟩, h6, h32, fun k hk => ?_, fun w hw => ?_⟩
  · rw [hy _ (by omega)]; exact a3
  · rw [hy _ (by omega)]; exact a4
  · rw [hy _ (by omega)]; exact a5
  · rw [hy _ (by omega)]; exact a6
  · rw [hy _ (by omega)]; exact a7
  · rw [hy _ (by omega)]; exact a8
  · rw [hy _ (by omega)]; exact a9
  · rw [hy _ (by omega)]; exact a11 e
  · rw [hy _ (by omega)]; exact a16 k hk
  · rw [hy _ (by omega)]; exact a17 w hw
theorem XC.k (h : XC S I R b z N Ni im so si ce ho hA hB hl tl tp wt te) (hF : ∀ y, y ≠ b → (y < b + 16 ∨ b + 31 ≤ y) → I' y = I y) (hb : I' b = upd (I b) 8 1) (hR : ∀ x, x ≠ b + 19 → R' x = R x) (hn : XN S I' R' b N) (hi : XI S I' R' b N) : XC S I' R' b z N N true so si ce ho hA hB hl tl tp wt te := by
  obtain ⟨⟨a1, a2⟩, ⟨a3, a4⟩, a5, ⟨a6, a7⟩, ⟨a8, a9, a10⟩, ⟨a11, a12, a13⟩, a14⟩ := h
  refine ⟨⟨a1.keepL hR (by omega), hn⟩, ⟨a3, a4.keep (fun y b1 b2 => hF y (by omega) (by omega))⟩, a5.keep (fun y b1 b2 => hF y (by omega) (by omega)), ⟨?_, fun _ => hi⟩, ⟨?_, a9, a10.keep (hF _ (by omega) (by omega))⟩, ⟨?_, a12, fun j hj => ?_⟩, a14⟩
  · rw [hb, upd_at]; rfl
  · rw [hb, upd_ne (by omega)]; exact a8
  · rw [hb, upd_ne (by omega)]; exact a11
  · rw [hF _ (by omega) (by omega)]; exact a13 j hj
theorem MC.k (h : MC S I R m N Ni im so si ce ho hA hB hl tl tp wt te) (hF : ∀ y, y ≠ m → y ≠ m + 2 → I' y = I y) (hb : I' m = upd (I m) 3 1) (h2 : I' (m + 2) = N) : MC S I' R m N N true so si ce ho hA hB hl tl tp wt te := by
  have hy : ∀ y, y = m + 1 ∨ m + 3 ≤ y → I' y = I y := fun y hy => hF y (by omega) (by omega)
  obtain ⟨a1, a2, ⟨a3, a4, a5⟩, ⟨a6, a7, a8, a9⟩, ⟨a10, a11⟩, ⟨a12, a13⟩, ⟨a14, a15⟩, a16, a17⟩ := h
  refine ⟨a1, ?_, ⟨?_, ?_, ?_⟩, ⟨?_, ?_, ?_, ?_⟩, ⟨?_, fun e => h2⟩, ⟨?_, ?_⟩, ⟨?_, ?_⟩, fun k hk => ?_, fun w hw => ?_⟩
  · rw [hy _ (by omega)]; exact a2
  · rw [hy _ (by omega)]; exact a3
  · rw [hy _ (by omega)]; exact a4
  · rw [hy _ (by omega)]; exact a5
  · rw [hy _ (by omega)]; exact a6
  · rw [hy _ (by omega)]; exact a7
  · rw [hy _ (by omega)]; exact a8
  · rw [hy _ (by omega)]; exact a9
  · rw [hb, upd_at]; rfl
  · rw [hb, upd_ne (by omega)]; exact a12
  · rw [hy _ (by omega)]; exact a13
  · rw [hb, upd_ne (by omega)]; exact a14
  · rw [hy _ (by omega)]; exact a15
  · rw [hy _ (by omega)]; exact a16 k hk
  · rw [hy _ (by omega)]; exact a17 w hw
theorem XC.bk (h : XC S I R b z N Ni im so si ce ho hA hB hl tl tp wt te) (hF : Fa (b + 1) I I') (hR : ∀ x, x ≠ b + 4 → R' x = R x) (hn : XN S I' R' b N') : XC S I' R' b z N' Ni im so si ce ho hA hB hl tl tp wt te :=
  h.gen (h.1.1.keepL hR (by omega)) hn (fun k _ _ => by rw [hF b (by omega)]) (fun e => (h.2.2.2.1.2 e).keep (c := b + 4) (fun y a1 a2 => hF y (by omega)) (fun y a1 a2 => hF y (by omega)) hR (by omega) (by omega)) h.2.1.1 (h.2.1.2.keep (fun y a1 a2 => hF y (by omega))) (h.2.2.1.keep (fun y a1 a2 => hF y (by omega))) (fun y a1 a2 => hF y (by omega))
theorem XSk.fx (h : XSk S R b) (hz : b + 103 ≤ z) (hf : FX b z S I R S' I' R') : XSk S' R' b := by
  obtain ⟨fS, -, -, fR, f46⟩ := hf
  obtain ⟨⟨s0, x0, x1, x2, x3, x4, x5, x6, x7⟩, ⟨k1, k2, k3⟩, ⟨t0, t1, t2, t3⟩, ⟨y1, y2⟩, ⟨w1, w2⟩, ⟨u1, u2⟩⟩ := h
  have hk : ∀ a, b < a → a + 15 ≤ b + 46 → b + 4 ≠ a → b + 4 ≠ a + 1 → HSk S R a → HSk S' R' a := by
    intro a h1 h2 h3 h4 h5
    obtain ⟨v0, v1, v2, v3, v4, v5, v6, v7, v8, v9⟩ := h5
    refine ⟨?_, ?_, ?_, ?_, ?_, ?_, ?_, ?_, ?_, fun p hp => ⟨?_, ?_⟩⟩
    · rw [fS _ (by omega)]; exact v0
    · rw [fS _ (by omega)]; exact v1
    · rw [fS _ (by omega)]; exact v2
    · rw [fS _ (by omega)]; exact v3
    · rw [fS _ (by omega)]; exact v4
    · rw [fR _ (by omega) (by omega) (by omega)]; exact v5
    · rw [fR _ (by omega) (by omega) (by omega)]; exact v6
    · rw [fR _ (by omega) (by omega) (by omega)]; exact v7
    · rw [fR _ (by omega) (by omega) (by omega)]; exact v8
    · rw [fS _ (by omega)]; exact (v9 p hp).1
    · rw [fR _ (by omega) (by omega) (by omega)]; exact (v9 p hp).2
  have hr : ∀ a, b + 53 ≤ a → a + 2 ≤ b + 103 → RowAt S R a → RowAt S' R' a := fun a h1 h2 h3 => ⟨by rw [fS _ (by omega)]; exact h3.1, by rw [fS _ (by omega)]; exact h3.2.1, by rw [fR _ (by omega) (by omega) (by omega)]; exact h3.2.2⟩
  have eb : R' b = R b := fR b (by omega) (by omega) (by omega)
  refine ⟨?_, ⟨hk _ (by omega) (by omega) (by omega) (by omega) k1, hk _ (by omega) (by omega) (by omega) (by omega) k2, hk _ (by omega) (by omega) (by omega) (by omega) k3⟩, ⟨?_, ?_, ?_, ?_⟩, ⟨?_, fun k hk' => ⟨?_, hr _ (by omega) (by omega) (y2 k hk').2⟩⟩, ⟨?_, fun k hk' => ?_⟩, ⟨?_, ?_⟩⟩
  · rw [eb, fS _ (by omega)]; exact ⟨s0, x0, x1, x2, x3, x4, x5, x6, x7⟩
  · rw [fS _ (by omega)]; exact t0
  · rw [fS _ (by omega)]; exact t1
  · rw [fS _ (by omega)]; exact t2
  · rw [f46 1 (by omega)]; exact t3
  · rw [fS _ (by omega)]; exact y1
  · rw [fR _ (by omega) (by omega) (by omega)]; exact (y2 k hk').1
  · rw [fS _ (by omega)]; exact w1
  · obtain ⟨q1, q2, q3, q4, q5, q6⟩ := w2 k hk'
    refine ⟨?_, ?_, ?_, ?_, ?_, hr _ (by omega) (by omega) q6⟩
    · rw [fR _ (by omega) (by omega) (by omega)]; exact q1
    · rw [fS _ (by omega)]; exact q2
    · rw [fR _ (by omega) (by omega) (by omega)]; exact q3
    · rw [fR _ (by omega) (by omega) (by omega)]; exact q4
    · rw [fS _ (by omega)]; exact q5
  · rw [fS _ (by omega)]; exact u1
  · rw [fS _ (by omega)]; exact u2
theorem XC.tx (h : XC S I R b z N Ni im so si ce ho hA hB hl tl tp wt te) (hf : FX b z S I R S' I' R') (hz' : z' = z ∨ z' = z + 3) (hs : ∀ y, z' ≤ y → S' y = none) (hn : XN S' I' R' b N') (h9 : I' b 9 = nI 0) : XC S' I' R' b z' N' Ni im so si ce ho hA hB hl 0 tp wt te := by
  obtain ⟨⟨a1, a2⟩, ⟨a3, a4⟩, a5, ⟨a6, a7⟩, ⟨a8, a9, a10⟩, ⟨a11, a12, a13⟩, ⟨a14, a15, a16⟩⟩ := h
  have hx := a1.fx a15 hf
  obtain ⟨fS, fI, fb, fR, f46⟩ := hf
  refine ⟨⟨hx, hn⟩, ⟨a3, a4.keep (fun y b1 b2 => fI y (by omega) (by omega) (by omega) (by omega) (by omega) (by omega))⟩, a5.keep (fun y b1 b2 => fI y (by omega) (by omega) (by omega) (by omega) (by omega) (by omega)), ⟨(fb 8 (by omega)).trans a6, fun e => ?_⟩, ⟨h9, by omega, fun j hj => by omega⟩, ⟨(fb 10 (by omega)).trans a11, a12, fun j hj => ?_⟩, hs, by omega, by omega⟩
  · obtain ⟨np, nb, nt, sec, hw, hd⟩ := a7 e
    exact ⟨np, nb, nt, sec, hw, hd.new hw.1.1.2 a14 fS (fun y b1 b2 => fI y b2 (by omega) (by omega) (by omega) (by omega) (by omega)) (fun y b1 b2 => fR y b2 (by omega) (by omega)) (fun y b1 b2 => fI y (by omega) (by omega) (by omega) (by omega) (by omega) (by omega)) (fR _ (by omega) (by omega) (by omega))⟩
  · rw [fI _ (by omega) (by omega) (by omega) (by omega) (by omega) (by omega)]; exact a13 j hj
theorem MC.tx (h : MC S I R m N Ni im so si ce ho hA hB hl tl tp wt te) (hf : Ft m I I') (hN : I' (m + 1) = N') (h6 : I' m 6 = nI 0) : MC S I' R m N' Ni im so si ce ho hA hB hl 0 tp wt te := by
  have hy : ∀ y, (m + 2 ≤ y ∧ y ≤ m + 7) ∨ m + 11 ≤ y → I' y = I y := fun y hy => hf.1 y (by omega) (by omega) (by omega) (by omega) (by omega)
  obtain ⟨a1, a2, ⟨a3, a4, a5⟩, ⟨a6, a7, a8, a9⟩, ⟨a10, a11⟩, ⟨a12, a13⟩, ⟨a14, a15⟩, a16, a17⟩ := h
  refine ⟨a1, hN, ⟨?_, ?_, ?_⟩, ⟨?_, ?_, ?_, ?_⟩, ⟨(hf.2 3 (by omega) (by omega) (by omega) (by omega)).trans a10, fun e => ?_⟩, ⟨h6, ?_⟩, ⟨(hf.2 32 (by omega) (by omega) (by omega) (by omega)).trans a14, ?_⟩, fun k hk => ?_, fun w hw => ?_⟩
  · rw [hy _ (by omega)]; exact a3
  · rw [hy _ (by omega)]; exact a4
  · rw [hy _ (by omega)]; exact a5
  · rw [hy _ (by omega)]; exact a6
  · rw [hy _ (by omega)]; exact a7
  · rw [hy _ (by omega)]; exact a8
  · rw [hy _ (by omega)]; exact a9
  · rw [hy _ (by omega)]; exact a11 e
  · rw [hy _ (by omega)]; exact a13
  · rw [hy _ (by omega)]; exact a15
  · rw [hy _ (by omega)]; exact a16 k hk
  · rw [hy _ (by omega)]; exact a17 w hw
end L26
