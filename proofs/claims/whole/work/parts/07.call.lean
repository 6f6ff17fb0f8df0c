abbrev hc_push (v : Option Value) (r : List Value) : List Value := match v with
  | none => r
  | some x => x :: r
def hc_mt (N : hcM) (k : Nat) : Prop := Cond.code N.1 N.2.1 N.2.2.1 N.2.2.2 ∈ hc_tb ∧ Cond.initialized N.1.cls ∈ hc_tb ∧ (N.1.cls ≠ "java/lang/invoke/MethodHandle" ∧ N.1.cls ≠ "java/lang/invoke/VarHandle" ∧ (parseMethodDescriptor N.1.desc).map (fun d => d.parameters.length) = some k) ∧ N.2.2.1 ≤ 41
theorem hc_good {N : hcM} {k : Nat} (h : hc_mt N k) : GoodIn hc_tb (.code N.1 N.2.1 N.2.2.1 N.2.2.2 :: hc_tb) := fun w hw => (List.mem_cons.mp hw).elim (fun e => by rw [e]; exact hc_tb_self _ h.1) (hc_tb_self w)
theorem hc_blind {g : hcG} {D : va_G} {K : Nat → ClassId} {S : hcS} {I : hcI} {R : hcR} {z : Nat} {As : List Value} : FrameBlind (hc_P g D K S I R z As) := fun a U f mk ⟨q0, q1, q2, q3, q4⟩ => ⟨q0, q1, q2, q3, q4.call f mk a⟩
theorem hc_pre {g : hcG} {M : hcM} {d kc ks : Nat} {S : hcS} {I : hcI} {R : hcR} {z : Nat} {L : List (Option Value)} {p : Program} {s : State} {m : MethodId} {args : Array Value} {meth : Method} {c : Code} {H : Heap} {locs : List Loc} {cells slots : Nat} {ls : Array Slot} {Rm : Room} {mc ms : Nat} {D : va_G} {K : Nat → ClassId} (C : hc_X g M d kc ks S I R z L p s m args meth c H locs cells slots ls Rm mc ms D K) (As : List Value) : ∀ U : State, U.heap = H → s.WarmedH U.vm → hc_P g D K S I R z As As.toArray U := by
  obtain ⟨hx, hb, hml, hr, hlk, hown, hnm, hts, hG, hbs, hw, hz, hS, hL, hR⟩ := C
  intro U hU hW
  refine ⟨rfl, by rw [hU]; exact hz, ?_, by rw [hU]; exact hw, hG.go hW (fun q h1 h2 => by rw [hU]; exact hS.2.1 q h1 h2)⟩
  rw [← hz]
  exact Nat.le_trans hbs hS.1
theorem hc_after {g : hcG} {M : hcM} {d kc ks kc' ks' : Nat} {S : hcS} {I : hcI} {R : hcR} {z pc : Nat} {L : List (Option Value)} {Q Q' : hcQ} {p : Program} {l : Launch} {e : Env} {s : State} {m : MethodId} {args a : Array Value} {below : List Frame} {meth : Method} {c : Code} {H : Heap} {locs : List Loc} {cells slots : Nat} {ls : Array Slot} {Rm : Room} {mc ms : Nat} {D : va_G} {K : Nat → ClassId} {st0 rest : List Value}
    (C : hc_X g M d (kc + kc') (ks + ks') S I R z L p s m args meth c H locs cells slots ls Rm mc ms D K) (hr : va_Run p l e Rm s m args below meth c H locs cells slots kc' ks' (F0 m pc ls st0) rest (hc_Q g D K Q' a) (fun q => g.1 ≤ q))
    (kk : ∀ v S' I' R' z', Q' v S' I' R' z' → V g M d kc ks S' I' R' z' (pc + 3) L (hc_push v rest) Q) : W p l e Rm s m args below meth c H locs cells slots (MQ below (hc_Q g D K Q) args s mc ms (fun q => g.1 ≤ q)) (F0 m pc ls st0) := by
  obtain ⟨hx, hb, hml, hrt, hlk, hown, hnm, hts, hG, hbs, hw, hz, hS, hL, r1, r2, r3, r4, r5, r6⟩ := C
  intro T hT X
  obtain ⟨v, st₀, t, T', L', h0, X', hL', e1, e2, ⟨v', S', I', R', ho, hQ', hw', hz', hk'⟩, st⟩ := hr T hT X
  cases ho
  rw [h0] at hz' hk'
  have hz2 : H.size ≤ T'.heap.size := by rw [e1]; exact hz'
  have hS2 : va_S (fun q => g.1 ≤ q) s.heap T'.heap (locs ++ L') := by
    refine ⟨Nat.le_trans hS.1 hz2, fun q h1 h2 => ?_, fun q hq => ?_⟩
    · rw [e1, hk' q (Nat.lt_of_lt_of_le h1 hS.1) h2]
      exact hS.2.1 q h1 h2
    · rcases List.mem_append.mp hq with h | h
      · exact hS.2.2 q h
      · exact hL' q h
  obtain ⟨t2, a1, b1⟩ := kk v S' I' R' _ hQ' p l e s m args below meth c T'.heap (locs ++ L') (cells + kc') (slots + ks') ls Rm mc ms D K ⟨hx, hb, hml, hrt, hlk, hown, hnm, hts, hG, hbs, by rw [e1]; exact hw', by rw [e1], hS2, hL, r1, r2, by omega, by omega, r5, r6⟩ T' rfl X'
  refine ⟨t2, st t2 ?_, b1⟩
  have e3 : v.toList ++ rest = hc_push v rest := by cases v <;> rfl
  show Steps p.tables e below (T'.setTop (F0 m (pc + 3) ls (v.toList ++ rest))) t2
  rw [e3]
  exact a1
section VC
variable {g : hcG} {M : hcM} {d kc ks : Nat} {S : hcS} {I : hcI} {R : hcR} {z pc q : Nat} {L : List (Option Value)} {st : List Value} {Q : hcQ}
theorem v_callS {N : hcM} {k idx d' kc' ks' : Nat}  (As : List Value) (hl : Cond.methodLink M.1.cls idx N.1 ∈ hc_tb) (hs : Cond.static N.1 ∈ hc_tb) (hm : hc_mt N k) (hd : decode M.2.1 pc = .ok (.invokestatic idx, 3)) (hn : As.length = k) (hrest : (st.map fun v => v.category).sum ≤ 8) (hdd : d' + 1 ≤ d) (hq : pc + 3 = q) (hcl : Cl g N d' kc' ks' S I R z As (fun v S' I' R' z' => V g M d kc ks S' I' R' z' q L (hc_push v st) Q)) : V g M d (kc + kc') (ks + ks') S I R z pc L (As.reverse ++ st) Q := by
  subst hq
  intro p l e s m args below meth c H locs cells slots ls Rm mc ms D K C
  obtain ⟨hx, hb, hml, hr, hlk, hown, hnm, hts, hG, hbs, hw, hz, hS, hL, hR⟩ := id C
  obtain ⟨r1, r2, r3, r4, r5, r6⟩ := hR
  obtain ⟨m1, m2, m3, m4⟩ := id hm
  refine hc_after C (va_runS (As := As) (rest := st) ⟨hx, hb, hml, hown, hts⟩ (hcl l D K) ⟨(callB_of (Ts := hc_tb) k hts (hc_good hm) rfl rfl rfl (hts _ m2) (hts _ hl) m3 ⟨by show d' + 1 ≤ _; omega, by show 8 + (N.2.2.1 + 11) + 60 * d' ≤ _; omega⟩), hts _ hs⟩ ⟨hc_blind, hc_pre C As⟩ rfl hn hL.1.1 rfl (lv_room hrest) hd ⟨by omega, by omega⟩) (fun v S' I' R' z' h => h)
theorem v_callSN {N : hcM} {k idx d' kc' ks' : Nat} {host : String} (As : List Value) (hl : Cond.methodLinkNest M.1.cls idx N.1 host ∈ hc_nst) (hs : Cond.static N.1 ∈ hc_tb) (hm : hc_mt N k) (hd : decode M.2.1 pc = .ok (.invokestatic idx, 3)) (hn : As.length = k) (hrest : (st.map fun v => v.category).sum ≤ 8) (hdd : d' + 1 ≤ d) (hq : pc + 3 = q) (hcl : Cl g N d' kc' ks' S I R z As (fun v S' I' R' z' => V g M d kc ks S' I' R' z' q L (hc_push v st) Q)) : V g M d (kc + kc') (ks + ks') S I R z pc L (As.reverse ++ st) Q := by
  subst hq
  intro p l e s m args below meth c H locs cells slots ls Rm mc ms D K C
  obtain ⟨hx, hb, hml, hr, hlk, hown, hnm, hts, hG, hbs, hw, hz, hS, hL, hR⟩ := id C
  obtain ⟨r1, r2, r3, r4, r5, r6⟩ := hR
  obtain ⟨m1, m2, m3, m4⟩ := id hm
  refine hc_after C (va_runSN (As := As) (rest := st) ⟨hx, hb, hml, hown, hts⟩ (hcl l D K) ⟨(va_cnB (Ts := hc_tb) k hts (hc_good hm) rfl rfl rfl (hG.2.1 _ hl) (hts _ m2) m3 ⟨by show d' + 1 ≤ _; omega, by show 8 + (N.2.2.1 + 11) + 60 * d' ≤ _; omega⟩), hts _ hs, trivial⟩ ⟨hc_blind, hc_pre C As⟩ rfl hn hL.1.1 rfl (lv_room hrest) hd ⟨by omega, by omega⟩) (fun v S' I' R' z' h => h)
theorem v_callV {N : hcM} {k idx d' kc' ks' : Nat} {a t n : Nat} (As : List Value) (hl : Cond.methodLink M.1.cls idx N.1 ∈ hc_tb) (hi : Cond.instanceMethod N.1 ∈ hc_tb ∧ Cond.selects N.1.cls N.1 N.1 ∈ hc_tb) (ha : S a = some (t, n)) (hC : hc_C t = N.1.cls) (ht : t < 8) (hm : hc_mt N k) (hd : decode M.2.1 pc = .ok (.invokevirtual idx, 3)) (hn : As.length = k) (hrest : (st.map fun v => v.category).sum ≤ 8) (hdd : d' + 1 ≤ d) (hq : pc + 3 = q) (hcl : Cl g N d' kc' ks' S I R z (.ref a :: As) (fun v S' I' R' z' => V g M d kc ks S' I' R' z' q L (hc_push v st) Q)) : V g M d (kc + kc') (ks + ks') S I R z pc L (As.reverse ++ .ref a :: st) Q := by
  subst hq
  intro p l e s m args below meth c H locs cells slots ls Rm mc ms D K C
  obtain ⟨hx, hb, hml, hr, hlk, hown, hnm, hts, hG, hbs, hw, hz, hS, hL, hR⟩ := id C
  obtain ⟨r1, r2, r3, r4, r5, r6⟩ := hR
  obtain ⟨m1, m2, m3, m4⟩ := id hm
  refine hc_after C (va_runV (C := N.1.cls) (As := As) (rest := st) ⟨hx, hb, hml, hown, hts⟩ (hcl l D K) ⟨(callB_of (Ts := hc_tb) k hts (hc_good hm) rfl rfl rfl (hts _ m2) (hts _ hl) m3 ⟨by show d' + 1 ≤ _; omega, by show 8 + (N.2.2.1 + 11) + 60 * d' ≤ _; omega⟩), hts _ hi.1, hts _ hi.2⟩ ⟨hc_blind, (by obtain ⟨cell, q1, q2, q3, -⟩ := (hw a t n ha).2.ob ht; exact ⟨cell, q1, by rw [q3]; rfl, by rw [q2, ← hC]; exact (hG.1.1 t _ (hc_cl t ht)).2.1⟩), hc_pre C (.ref a :: As)⟩ rfl hn hL.1.1 rfl (lv_room hrest) hd ⟨by omega, by omega⟩) (fun v S' I' R' z' h => h)
theorem v_callT {N : hcM} {k idx d' kc' ks' : Nat} {i : Nat} (As : List Value) (hl : Cond.methodLink M.1.cls idx N.1 ∈ hc_tb) (hi : Cond.instanceMethod N.1 ∈ hc_tb ∧ Cond.selects N.1.cls N.1 N.1 ∈ hc_tb) (hi6 : i < 6) (hC : N.1.cls = "java/lang/String") (hm : hc_mt N k) (hd : decode M.2.1 pc = .ok (.invokevirtual idx, 3)) (hn : As.length = k) (hrest : (st.map fun v => v.category).sum ≤ 8) (hdd : d' + 1 ≤ d) (hq : pc + 3 = q) (hcl : Cl g N d' kc' ks' S I R z (.ref (g.2.2.1 i) :: As) (fun v S' I' R' z' => V g M d kc ks S' I' R' z' q L (hc_push v st) Q)) : V g M d (kc + kc') (ks + ks') S I R z pc L (As.reverse ++ .ref (g.2.2.1 i) :: st) Q := by
  subst hq
  intro p l e s m args below meth c H locs cells slots ls Rm mc ms D K C
  obtain ⟨hx, hb, hml, hr, hlk, hown, hnm, hts, hG, hbs, hw, hz, hS, hL, hR⟩ := id C
  obtain ⟨r1, r2, r3, r4, r5, r6⟩ := hR
  obtain ⟨m1, m2, m3, m4⟩ := id hm
  refine hc_after C (va_runV (C := N.1.cls) (As := As) (rest := st) ⟨hx, hb, hml, hown, hts⟩ (hcl l D K) ⟨(callB_of (Ts := hc_tb) k hts (hc_good hm) rfl rfl rfl (hts _ m2) (hts _ hl) m3 ⟨by show d' + 1 ≤ _; omega, by show 8 + (N.2.2.1 + 11) + 60 * d' ≤ _; omega⟩), hts _ hi.1, hts _ hi.2⟩ ⟨hc_blind, (by rw [hC]; exact vk_recv hG.2.2.2.2.1.2 hi6 hS), hc_pre C (.ref (g.2.2.1 i) :: As)⟩ rfl hn hL.1.1 rfl (lv_room hrest) hd ⟨by omega, by omega⟩) (fun v S' I' R' z' h => h)
theorem v_callI {N : hcM} {k idx d' kc' ks' : Nat} {a : Nat} (As : List Value) (hl : Cond.methodLink M.1.cls idx N.1 ∈ hc_tb) (hi : Cond.instanceMethod N.1 ∈ hc_tb) (hini : N.1.name = "<init>") (hret : N.2.2.2 = none) (hm : hc_mt N k) (hd : decode M.2.1 pc = .ok (.invokespecial idx, 3)) (hn : As.length = k) (hrest : (st.map fun v => v.category).sum ≤ 8) (hdd : d' + 1 ≤ d) (hq : pc + 3 = q) (hcl : Cl g N d' kc' ks' S I R z (.ref a :: As) (fun v S' I' R' z' => V g M d kc ks S' I' R' z' q L (hc_push v st) Q)) : V g M d (kc + kc') (ks + ks') S I R z pc L (As.reverse ++ .ref a :: st) Q := by
  subst hq
  intro p l e s m args below meth c H locs cells slots ls Rm mc ms D K C
  obtain ⟨hx, hb, hml, hr, hlk, hown, hnm, hts, hG, hbs, hw, hz, hS, hL, hR⟩ := id C
  obtain ⟨r1, r2, r3, r4, r5, r6⟩ := hR
  obtain ⟨ny, nc, nn, nr⟩ := N
  have hret2 : nr = none := hret
  subst hret2
  obtain ⟨m1, m2, m3, m4⟩ := id hm
  have m5 : nn ≤ 41 := m4
  refine hc_after C (va_runI (As := As) (rest := st) ⟨hx, hb, hml, hown, hts⟩ (hcl l D K) ⟨(callB_of (Ts := hc_tb) k hts (hc_good hm) rfl rfl rfl (hts _ m2) (hts _ hl) m3 ⟨by show d' + 1 ≤ _; omega, by show 8 + (nn + 11) + 60 * d' ≤ _; omega⟩), hini, hts _ hi⟩ ⟨hc_blind, hc_pre C (.ref a :: As)⟩ rfl hn hL.1.1 rfl (lv_room hrest) hd ⟨by omega, by omega⟩) (fun v S' I' R' z' h => h)
theorem v_callIN {N : hcM} {k idx d' kc' ks' : Nat} {a : Nat} {host : String} (As : List Value) (hl : Cond.methodLinkNest M.1.cls idx N.1 host ∈ hc_nst) (hi : Cond.instanceMethod N.1 ∈ hc_tb) (hini : N.1.name = "<init>") (hret : N.2.2.2 = none) (hm : hc_mt N k) (hd : decode M.2.1 pc = .ok (.invokespecial idx, 3)) (hn : As.length = k) (hrest : (st.map fun v => v.category).sum ≤ 8) (hdd : d' + 1 ≤ d) (hq : pc + 3 = q) (hcl : Cl g N d' kc' ks' S I R z (.ref a :: As) (fun v S' I' R' z' => V g M d kc ks S' I' R' z' q L (hc_push v st) Q)) : V g M d (kc + kc') (ks + ks') S I R z pc L (As.reverse ++ .ref a :: st) Q := by
  subst hq
  intro p l e s m args below meth c H locs cells slots ls Rm mc ms D K C
  obtain ⟨hx, hb, hml, hr, hlk, hown, hnm, hts, hG, hbs, hw, hz, hS, hL, hR⟩ := id C
  obtain ⟨r1, r2, r3, r4, r5, r6⟩ := hR
  obtain ⟨ny, nc, nn, nr⟩ := N
  have hret2 : nr = none := hret
  subst hret2
  obtain ⟨m1, m2, m3, m4⟩ := id hm
  have m5 : nn ≤ 41 := m4
  refine hc_after C (va_runIN (As := As) (rest := st) ⟨hx, hb, hml, hown, hts⟩ (hcl l D K) ⟨(va_cnB (Ts := hc_tb) k hts (hc_good hm) rfl rfl rfl (hG.2.1 _ hl) (hts _ m2) m3 ⟨by show d' + 1 ≤ _; omega, by show 8 + (nn + 11) + 60 * d' ≤ _; omega⟩), hini, hts _ hi⟩ ⟨hc_blind, hc_pre C (.ref a :: As)⟩ rfl hn hL.1.1 rfl (lv_room hrest) hd ⟨by omega, by omega⟩) (fun v S' I' R' z' h => h)
theorem v_obj {idx a : Nat} (hl : Cond.methodLink M.1.cls idx Lib.objectInit ∈ hc_tb) (h1 : Cond.instanceMethod Lib.objectInit ∈ hc_tb) (h2 : Cond.code Lib.objectInit ⟨#[0xb1]⟩ 1 none ∈ hc_tb) (hd : decode M.2.1 pc = .ok (.invokespecial idx, 3)) (hdd : 1 ≤ d := by decide) (hst : (st.map fun v => v.category).sum ≤ 8 := by decide) (hq : pc + 3 = q := by rfl) (kk : V g M d kc ks S I R z q L st Q) : V g M d kc ks S I R z pc L (.ref a :: st) Q := by
  subst hq
  intro p l e s m args below meth c H locs cells slots ls Rm mc ms D K C
  obtain ⟨hx, hb, hml, hr, hlk, hown, hnm, hts, hG, hbs, hw, hz, hS, hL, hR⟩ := id C
  obtain ⟨r1, r2, r3, r4, r5, r6⟩ := hR
  refine W.objInit hx hb hown (hts _ hl) (hts _ h1) (hts _ h2) rfl (hL.1.1.trans hml.symm) rfl hd (by omega) ?_ (kk _ _ _ _ _ _ _ _ _ _ _ _ _ _ _ _ _ _ _ C)
  have := lv_room (m := m) (pc := pc) (ls := ls) (rest := .ref a :: st) hst
  omega
theorem v_above {idx : Nat} (hl : Cond.fieldLinkNest M.1.cls idx RX6 "ABOVE" "[I" RX6 ∈ hc_nst) (hd : decode M.2.1 pc = .ok (.getstatic idx, 3)) (hq : pc + 3 = q := by rfl) (kk : V g M d kc ks S I R z q L (.ref g.2.1 :: st) Q) : V g M d kc ks S I R z pc L st Q := by
  subst hq
  intro p l e s m args below meth c H locs cells slots ls Rm mc ms D K C
  obtain ⟨hx, hb, hml, hr, hlk, hown, hnm, hts, hG, hbs, hw, hz, hS, hL, hR⟩ := id C
  exact va_getsN hx hb hG.2.2.2.1.1 hS hown (va_Nw.use rfl (hG.2.1 _ hl)) (fun _ h => h) hd (kk _ _ _ _ _ _ _ _ _ _ _ _ _ _ _ _ _ _ _ C)
theorem v_aboveld {i : Int32} (hin : vp_in i 6) (hd : decode M.2.1 pc = .ok (.iaload, 1)) (hq : pc + 1 = q := by rfl) (kk : V g M d kc ks S I R z q L (.int (hc_above i.toNatClampNeg) :: st) Q) : V g M d kc ks S I R z pc L (.int i :: .ref g.2.1 :: st) Q := by
  subst hq
  intro p l e s m args below meth c H locs cells slots ls Rm mc ms D K C
  obtain ⟨hx, hb, hml, hr, hlk, hown, hnm, hts, hG, hbs, hw, hz, hS, hL, hR⟩ := id C
  exact va_ti hx hb hG.2.2.2.1.2 hS hin rfl hd (kk _ _ _ _ _ _ _ _ _ _ _ _ _ _ _ _ _ _ _ C)
theorem v_ldcS (i : Nat) {idx : Nat} (hi : i < 6) (hd : decode M.2.1 pc = .ok (.ldc idx, 2)) (hx' : hc_six.getD i 0 = idx := by rfl) (hC : M.1.cls = RX2 := by rfl) (hq : pc + 2 = q := by rfl) (kk : V g M d kc ks S I R z q L (.ref (g.2.2.1 i) :: st) Q) : V g M d kc ks S I R z pc L st Q := by
  subst hq
  subst hx'
  intro p l e s m args below meth c H locs cells slots ls Rm mc ms D K C
  obtain ⟨hx, hb, hml, hr, hlk, hown, hnm, hts, hG, hbs, hw, hz, hS, hL, hR⟩ := id C
  exact va_ldcS (own := RX2) hx hb (by rw [← hC]; exact hown) (hG.2.2.2.2.1.1 i hi) hd (kk _ _ _ _ _ _ _ _ _ _ _ _ _ _ _ _ _ _ _ C)
theorem v_strval {i idx : Nat} (hi : i < 6) (hl : Cond.fieldLink M.1.cls idx "java/lang/String" "value" "[B" ∈ hc_tb) (hd : decode M.2.1 pc = .ok (.getfield idx, 3)) (hq : pc + 3 = q := by rfl) (kk : V g M d kc ks S I R z q L (.ref (g.2.2.2 i) :: st) Q) : V g M d kc ks S I R z pc L (.ref (g.2.2.1 i) :: st) Q := by
  subst hq
  intro p l e s m args below meth c H locs cells slots ls Rm mc ms D K C
  obtain ⟨hx, hb, hml, hr, hlk, hown, hnm, hts, hG, hbs, hw, hz, hS, hL, hR⟩ := id C
  exact vk_getf hx hb (hG.2.2.2.2.1.2.1 i hi).2.2.1 hS hown (hts _ hl) (fun _ h => h) hd (kk _ _ _ _ _ _ _ _ _ _ _ _ _ _ _ _ _ _ _ C)
theorem v_strcod {i idx : Nat} (hi : i < 6) (hl : Cond.fieldLink M.1.cls idx "java/lang/String" "coder" "B" ∈ hc_tb) (hd : decode M.2.1 pc = .ok (.getfield idx, 3)) (hq : pc + 3 = q := by rfl) (kk : V g M d kc ks S I R z q L (.int 0 :: st) Q) : V g M d kc ks S I R z pc L (.ref (g.2.2.1 i) :: st) Q := by
  subst hq
  intro p l e s m args below meth c H locs cells slots ls Rm mc ms D K C
  obtain ⟨hx, hb, hml, hr, hlk, hown, hnm, hts, hG, hbs, hw, hz, hS, hL, hR⟩ := id C
  exact vk_getf hx hb (hG.2.2.2.2.1.2.1 i hi).2.1 hS hown (hts _ hl) (fun _ h => h) hd (kk _ _ _ _ _ _ _ _ _ _ _ _ _ _ _ _ _ _ _ C)
theorem v_strbyte {i : Nat} {j : Int32} (hi : i < 6) (hin : vp_in j (hc_sln.getD i 0)) (hd : decode M.2.1 pc = .ok (.baload, 1)) (hq : pc + 1 = q := by rfl) (kk : V g M d kc ks S I R z q L (.int ((hc_sby.getD i []).getD j.toNatClampNeg 0) :: st) Q) : V g M d kc ks S I R z pc L (.int j :: .ref (g.2.2.2 i) :: st) Q := by
  subst hq
  intro p l e s m args below meth c H locs cells slots ls Rm mc ms D K C
  obtain ⟨hx, hb, hml, hr, hlk, hown, hnm, hts, hG, hbs, hw, hz, hS, hL, hR⟩ := id C
  exact va_tb hx hb (hG.2.2.2.2.1.2.1 i hi).2.2.2 hS hin rfl hd (kk _ _ _ _ _ _ _ _ _ _ _ _ _ _ _ _ _ _ _ C)
theorem v_strlen {i : Nat} (hi : i < 6) (hd : decode M.2.1 pc = .ok (.arraylength, 1)) (hq : pc + 1 = q := by rfl) (kk : V g M d kc ks S I R z q L (.int (nI (hc_sln.getD i 0)) :: st) Q) : V g M d kc ks S I R z pc L (.ref (g.2.2.2 i) :: st) Q := by
  subst hq
  intro p l e s m args below meth c H locs cells slots ls Rm mc ms D K C
  obtain ⟨hx, hb, hml, hr, hlk, hown, hnm, hts, hG, hbs, hw, hz, hS, hL, hR⟩ := id C
  exact va_tlen hx hb (hG.2.2.2.2.1.2.1 i hi).2.2.2 hS rfl hd (kk _ _ _ _ _ _ _ _ _ _ _ _ _ _ _ _ _ _ _ C)
theorem v_compact {idx : Nat} (hl : Cond.fieldLink M.1.cls idx "java/lang/String" "COMPACT_STRINGS" "Z" ∈ hc_tb) (hd : decode M.2.1 pc = .ok (.getstatic idx, 3)) (hq : pc + 3 = q := by rfl) (kk : V g M d kc ks S I R z q L (.int 1 :: st) Q) : V g M d kc ks S I R z pc L st Q := by
  subst hq
  intro p l e s m args below meth c H locs cells slots ls Rm mc ms D K C
  obtain ⟨hx, hb, hml, hr, hlk, hown, hnm, hts, hG, hbs, hw, hz, hS, hL, hR⟩ := id C
  exact va_gets hx hb hG.2.2.2.2.2.1 hS hown (hts _ hl) (fun _ h => h) hd (kk _ _ _ _ _ _ _ _ _ _ _ _ _ _ _ _ _ _ _ C)
theorem v_sioobe {idx : Nat} (hl : Cond.fieldLink M.1.cls idx "jdk/internal/util/Preconditions" "SIOOBE_FORMATTER" "Ljava/util/function/BiFunction;" ∈ hc_tb) (hd : decode M.2.1 pc = .ok (.getstatic idx, 3)) (hq : pc + 3 = q := by rfl) (kn : V g M d kc ks S I R z q L (.null :: st) Q) (kk : ∀ x : Nat, V g M d kc ks S I R z q L (.ref x :: st) Q) : V g M d kc ks S I R z pc L st Q := by
  subst hq
  intro p l e s m args below meth c H locs cells slots ls Rm mc ms D K C
  obtain ⟨hx, hb, hml, hr, hlk, hown, hnm, hts, hG, hbs, hw, hz, hS, hL, hR⟩ := id C
  rcases hG.2.2.2.2.2.2.1 with hZ | ⟨t, hZ⟩
  · exact va_gets hx hb hZ hS hown (hts _ hl) (fun _ h => h) hd (kn _ _ _ _ _ _ _ _ _ _ _ _ _ _ _ _ _ _ _ C)
  · exact va_gets hx hb hZ hS hown (hts _ hl) (fun _ h => h) hd (kk t _ _ _ _ _ _ _ _ _ _ _ _ _ _ _ _ _ _ _ C)
theorem v_acopy {idx a0 n0 a n1 : Nat} {sp dp n : Int32} (hl : Cond.methodLink M.1.cls idx arraycopyName ∈ hc_tb) (hnat : Cond.native arraycopyName ∈ hc_tb) (hstat : Cond.static arraycopyName ∈ hc_tb) (hini : Cond.initialized "java/lang/System" ∈ hc_tb) (ha0 : S a0 = some (10, n0)) (ha : S a = some (10, n1)) (h1 : ¬ sp < 0) (h2 : ¬ dp < 0) (h3 : ¬ n < 0) (h4 : sp.toNatClampNeg + n.toNatClampNeg ≤ n0) (h5 : dp.toNatClampNeg + n.toNatClampNeg ≤ n1) (hd : decode M.2.1 pc = .ok (.invokestatic idx, 3)) (hdd : 1 ≤ d := by decide) (hst : (st.map fun v => v.category).sum ≤ 8 := by decide) (hq : pc + 3 = q := by rfl) (kk : V g M d kc ks S (fun x => if x = a then va_cpy (I a0) (I a) sp.toNatClampNeg dp.toNatClampNeg n.toNatClampNeg else I x) R z q L st Q) : V g M d kc ks S I R z pc L (.int n :: .int dp :: .ref a :: .int sp :: .ref a0 :: st) Q := by
  subst hq
  intro p l e s m args below meth c H locs cells slots ls Rm mc ms D K C
  obtain ⟨hx, hb, hml, hr, hlk, hown, hnm, hts, hG, hbs, hw, hz, hS, hL, hR⟩ := id C
  obtain ⟨r1, r2, r3, r4, r5, r6⟩ := hR
  have nn : ∀ z : Int32, ¬ z < 0 → z.toInt = (z.toNatClampNeg : Int) := by
    intro z hz
    have hz0 : (0 : Int) ≤ z.toInt := by
      have := Int32.not_lt.mp hz
      simpa using Int32.le_iff_toInt_le.mp this
    show z.toInt = ((z.toInt.toNat : Nat) : Int)
    omega
  have hc0 : H[a0]? = some (arrV (K 10) n0 (fun j => .int (I a0 j))) := (hw a0 10 n0 ha0).2.ia (by decide) (by decide)
  have hc1 : H[a]? = some (arrV (K 10) n1 (fun j => .int (I a j))) := (hw a 10 n1 ha).2.ia (by decide) (by decide)
  have hAr := (hG.1.2 _ _ (hc_kt_at K (t := 10) (by decide) (by decide))).1
  obtain ⟨-, k0, hk0, cm0, hkk0⟩ := hAr n0 (fun j => .int (I a0 j))
  obtain ⟨-, k1, hk1, cm1, hkk1⟩ := hAr n1 (fun j => .int (I a j))
  have hnw : nativeFrameWords "java/lang/System" "arraycopy" 5 ≤ 40 := by decide +kernel
  intro T hT X
  obtain ⟨vm', X', step⟩ := X.arraycopy hx hown (hts _ hl) (hts _ hnat) (hts _ hstat) (hts _ hini) (src := a0) (dst := a) (cs := arrV (K 10) n0 (fun j => .int (I a0 j))) (cd := arrV (K 10) n1 (fun j => .int (I a j))) (srcPos := sp) (destPos := dp) (n := n) (by rw [hT]; exact hc0) (by rw [hT]; exact hc1)
    (fun _ h => by cases h) (fun _ h => by cases h) (fun h => by cases h) (fun h => by cases h) hk0 hk1 hkk0 hkk1 (by simp [hc_a, refKind]) h1 h2 h3
    (by rw [nn sp h1, nn n h3, arrV_size]; omega)
    (by rw [nn dp h2, nn n h3, arrV_size]; omega)
    (fun vm₁ _ i hi => by
      have e : (arrV (K 10) n0 (fun j => Value.int (I a0 j))).slots.getD (sp.toNatClampNeg + i) .null = .int (I a0 (sp.toNatClampNeg + i)) := by
        rw [Array.getD_eq_getD_getElem?, arrV_read _ _ (by omega)]
        rfl
      refine ⟨?_, ?_⟩
      · rw [e]
        rfl
      · rw [e]
        exact trivial)
    (g := F0 m pc ls (.int n :: .int dp :: .ref a :: .int sp :: .ref a0 :: st)) rfl (hL.1.1.trans hml.symm) (rest := st) rfl (by rw [hb]; exact hd) (by omega) (by show 2 * 0 + _ + _ ≤ _; omega)
  have e1 : copied (arrV (K 10) n0 (fun j => .int (I a0 j))) (arrV (K 10) n1 (fun j => .int (I a j))) sp dp n = arrV (K 10) n1 (fun j => .int (va_cpy (I a0) (I a) sp.toNatClampNeg dp.toNatClampNeg n.toNatClampNeg j)) := va_copied (fun z => .int z) (K 10) (K 10) (I a0) (I a) h4
  rw [e1] at X' step
  have hl2 : a < H.size := (Array.getElem?_eq_some_iff.mp hc1).1
  generalize hcN : arrV (K 10) n1 (fun j => Value.int (va_cpy (I a0) (I a) sp.toNatClampNeg dp.toNatClampNeg n.toNatClampNeg j)) = cN at X' step
  have hheap : ((T.setVm vm').setCell a cN).heap = H.setIfInBounds a cN := by rw [← hT]; rfl
  have oq : ∀ q : Nat, q ≠ a → (H.setIfInBounds a cN)[q]? = H[q]? := fun q hq => by simp [Array.getElem?_setIfInBounds, Ne.symm hq]
  have hat : (H.setIfInBounds a cN)[a]? = some cN := by simp [Array.getElem?_setIfInBounds, hl2]
  have hw2 : hc_w D K g.1 S (fun x => if x = a then va_cpy (I a0) (I a) sp.toNatClampNeg dp.toNatClampNeg n.toNatClampNeg else I x) R (H.setIfInBounds a cN) := by
    refine hw.put ha (Or.inr (Or.inl ⟨by decide, by decide, ?_⟩)) oq (fun q h => by simp only [if_neg h]) (fun _ _ => rfl)
    rw [hat, ← hcN]
    simp only [if_true]
  obtain ⟨t, a1, b1⟩ := kk _ _ _ _ _ _ _ _ _ _ _ _ _ _ _ _ _ _ _ ⟨hx, hb, hml, hr, hlk, hown, hnm, hts, hG, hbs, hw2, (by simp; exact hz), ⟨by simp; exact hS.1, fun q g1 g2 => by
      rw [oq q (fun e => g2 (by rw [e]; exact (hw a 10 n1 ha).1))]
      exact hS.2.1 q g1 g2, fun q hq => by
      rcases List.mem_append.mp hq with h | h
      · exact hS.2.2 q h
      · obtain ⟨z, -, hz⟩ := List.mem_map.mp h
        rw [← hz]
        exact (hw a 10 n1 ha).1⟩, hL, r1, r2, r3, r4, r5, r6⟩ _ hheap X'
  exact ⟨t, step t a1, b1⟩
end VC
