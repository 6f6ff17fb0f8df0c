def hc_fl (own : String) (idx t k : Nat) : Prop := Cond.fieldLink own idx (hc_T t k).1 (hc_T t k).2.1 (hc_T t k).2.2.1 ∈ hc_tb
theorem hc_vi {t : Nat} {i : Nat → Int32} {r : Nat → Option Nat} {k : Nat} (h : hc_rf t k = false) : hc_v t i r k = .int (i k) := by simp [hc_v, h]
theorem hc_vr {t : Nat} {i : Nat → Int32} {r : Nat → Option Nat} {k : Nat} (h : hc_rf t k = true) : hc_v t i r k = va_rf (r k) := by simp [hc_v, h]
theorem hc_v_u {t : Nat} {I : hcI} {R : hcR} {a k : Nat} {x : Int32} (h : hc_rf t k = false) (j : Nat) : updV (hc_v t (I a) (R a)) k (.int x) j = hc_v t (hc_u I a k x a) (R a) j := by
  by_cases hj : j = k
  · subst hj
    simp [updV, hc_v, h, hc_u]
  · simp [updV, hc_v, hc_u, hj]
theorem hc_v_ur {t : Nat} {I : hcI} {R : hcR} {a k : Nat} {x : Option Nat} (h : hc_rf t k = true) (j : Nat) : updV (hc_v t (I a) (R a)) k (va_rf x) j = hc_v t (I a) (hc_ur R a k x a) j := by
  by_cases hj : j = k
  · subst hj
    simp [updV, hc_v, h, hc_ur]
  · simp [updV, hc_v, hc_ur, hj]
theorem hc_def0 {t : Nat} {k : Nat} (h : hc_y t k = .int ∨ hc_y t k = .boolean ∨ (∃ c, hc_y t k = .object c) ∨ (∃ c, hc_y t k = .array c)) : defaultValue (hc_y t k) = hc_v t (fun _ => 0) (fun _ => none) k := by
  unfold hc_v hc_rf
  rcases h with h | h | ⟨c, h⟩ | ⟨c, h⟩ <;> rw [h] <;> rfl
theorem hc_kinds : ∀ t, t < 8 → ∀ k, k < hc_N t → (match hc_y t k with | .int => true | .boolean => true | .object _ => true | .array _ => true | _ => false) = true := by decide +kernel
theorem hc_def {t k : Nat} (ht : t < 8) (hk : k < hc_N t) : defaultValue (hc_y t k) = hc_v t (fun _ => 0) (fun _ => none) k := by
  have h := hc_kinds t ht k hk
  refine hc_def0 ?_
  split at h
  next e => exact Or.inl e
  next e => exact Or.inr (Or.inl e)
  next c e => exact Or.inr (Or.inr (Or.inl ⟨c, e⟩))
  next c e => exact Or.inr (Or.inr (Or.inr ⟨c, e⟩))
  next => cases h
section VH
variable {g : hcG} {M : hcM} {d kc ks : Nat} {S : hcS} {I : hcI} {R : hcR} {z pc q : Nat} {L : List (Option Value)} {st : List Value} {Q : hcQ}
theorem v_getI {a t n k idx : Nat} (hl : hc_fl M.1.cls idx t k) (ha : S a = some (t, n)) (hr' : hc_rf t k = false := by rfl) (hd : decode M.2.1 pc = .ok (.getfield idx, 3)) (ht : t < 8 := by decide) (hk : k < hc_N t := by decide) (hq : pc + 3 = q := by rfl) (kk : V g M d kc ks S I R z q L (.int (I a k) :: st) Q) : V g M d kc ks S I R z pc L (.ref a :: st) Q := by
  subst hq
  intro p l e s m args below meth c H locs cells slots ls Rm mc ms D K C
  obtain ⟨hx, hb, hml, hr, hlk, hown, hnm, hts, hG, hbs, hw, hz, hS, hL, hR⟩ := C
  obtain ⟨cell, q1, q2, q3, q4⟩ := (hw a t n ha).2.ob ht
  obtain ⟨hS', hfc, kC, hkC, hkind⟩ := hG.1.1 t _ (hc_cl t ht)
  obtain ⟨cf, kf, fi, f, hi, hsl⟩ := hS' k hk
  refine W.getf hx hb hown (hts _ hl) hi (u_facts hfc hkC (u_lays hts (hc_ws t ht) hk) hi).1 q1 (by rw [q3]; exact fun h => by cases h) (v := .int (I a k)) ?_ rfl rfl hd (kk _ _ _ _ _ _ _ _ _ _ _ _ _ _ _ _ _ _ _ ⟨hx, hb, hml, hr, hlk, hown, hnm, hts, hG, hbs, hw, hz, hS, hL, hR⟩)
  rw [hsl, q4 k hk, hc_vi hr']
theorem v_getR {a t n k idx : Nat} (hl : hc_fl M.1.cls idx t k) (ha : S a = some (t, n)) {x : Nat} (hv : R a k = some x) (hr' : hc_rf t k = true := by rfl) (hd : decode M.2.1 pc = .ok (.getfield idx, 3)) (ht : t < 8 := by decide) (hk : k < hc_N t := by decide) (hq : pc + 3 = q := by rfl) (kk : V g M d kc ks S I R z q L (.ref x :: st) Q) : V g M d kc ks S I R z pc L (.ref a :: st) Q := by
  subst hq
  intro p l e s m args below meth c H locs cells slots ls Rm mc ms D K C
  obtain ⟨hx, hb, hml, hr, hlk, hown, hnm, hts, hG, hbs, hw, hz, hS, hL, hR⟩ := C
  obtain ⟨cell, q1, q2, q3, q4⟩ := (hw a t n ha).2.ob ht
  obtain ⟨hS', hfc, kC, hkC, hkind⟩ := hG.1.1 t _ (hc_cl t ht)
  obtain ⟨cf, kf, fi, f, hi, hsl⟩ := hS' k hk
  refine W.getf hx hb hown (hts _ hl) hi (u_facts hfc hkC (u_lays hts (hc_ws t ht) hk) hi).1 q1 (by rw [q3]; exact fun h => by cases h) (v := .ref x) ?_ rfl rfl hd (kk _ _ _ _ _ _ _ _ _ _ _ _ _ _ _ _ _ _ _ ⟨hx, hb, hml, hr, hlk, hown, hnm, hts, hG, hbs, hw, hz, hS, hL, hR⟩)
  rw [hsl, q4 k hk, hc_vr hr', hv]; rfl
theorem v_getRN {a t n k idx : Nat} (hl : hc_fl M.1.cls idx t k) (ha : S a = some (t, n)) (hv : R a k = none) (hr' : hc_rf t k = true := by rfl) (hd : decode M.2.1 pc = .ok (.getfield idx, 3)) (ht : t < 8 := by decide) (hk : k < hc_N t := by decide) (hq : pc + 3 = q := by rfl) (kk : V g M d kc ks S I R z q L (.null :: st) Q) : V g M d kc ks S I R z pc L (.ref a :: st) Q := by
  subst hq
  intro p l e s m args below meth c H locs cells slots ls Rm mc ms D K C
  obtain ⟨hx, hb, hml, hr, hlk, hown, hnm, hts, hG, hbs, hw, hz, hS, hL, hR⟩ := C
  obtain ⟨cell, q1, q2, q3, q4⟩ := (hw a t n ha).2.ob ht
  obtain ⟨hS', hfc, kC, hkC, hkind⟩ := hG.1.1 t _ (hc_cl t ht)
  obtain ⟨cf, kf, fi, f, hi, hsl⟩ := hS' k hk
  refine W.getf hx hb hown (hts _ hl) hi (u_facts hfc hkC (u_lays hts (hc_ws t ht) hk) hi).1 q1 (by rw [q3]; exact fun h => by cases h) (v := .null) ?_ rfl rfl hd (kk _ _ _ _ _ _ _ _ _ _ _ _ _ _ _ _ _ _ _ ⟨hx, hb, hml, hr, hlk, hown, hnm, hts, hG, hbs, hw, hz, hS, hL, hR⟩)
  rw [hsl, q4 k hk, hc_vr hr', hv]; rfl
theorem v_putI {a t n k idx : Nat} {x : Int32} (hl : hc_fl M.1.cls idx t k) (ha : S a = some (t, n)) (hd : decode M.2.1 pc = .ok (.putfield idx, 3)) (hr' : hc_rf t k = false := by rfl) (hfin : (hc_T t k).2.2.2 = false := by rfl)  (hn : narrow (hc_y t k) (.int x) = (.int x) := by rfl) (hfit : fits (hc_y t k) (.int x) = true := by rfl) (ht : t < 8 := by decide) (hk : k < hc_N t := by decide) (hq : pc + 3 = q := by rfl) (kk : V g M d kc ks S (hc_u I a k x) R z q L st Q) : V g M d kc ks S I R z pc L (.int x :: .ref a :: st) Q := by
  subst hq
  intro p l e s m args below meth c H locs cells slots ls Rm mc ms D K C
  obtain ⟨hx, hb, hml, hr, hlk, hown, hnm, hts, hG, hbs, hw, hz, hS, hL, hR⟩ := C
  obtain ⟨cell, q1, q2, q3, q4⟩ := (hw a t n ha).2.ob ht
  obtain ⟨hS', hfc, kC, hkC, hkind⟩ := hG.1.1 t _ (hc_cl t ht)
  obtain ⟨cf, kf, fi, f, hi, hsl⟩ := hS' k hk
  have hap := va_apart (own := M.1.cls) hts (hc_ws t ht) (hc_y t) (hc_yok t ht) (hc_nm t ht) hG.1 (hc_cl t ht)
  have hlay := hts _ (hc_ws t ht _ (u_in_lay hk))
  unfold u_lay at hlay
  have hst := (u_facts hfc hkC (u_lays hts (hc_ws t ht) hk) hi).1
  rw [if_neg (by rw [hfin]; decide)] at hlay
  have h6 := u_store hfc hkC hkind hlay hi (hc_yok t ht k hk) hn hfit
  refine W.putK hx hb (f := f) ⟨hown, hts _ hl, ⟨_, _, _, hi⟩, hst⟩ (by rw [q2]; exact h6) q1 q3 (by rw [hsl]; exact k2_hasslot (q4 k hk)) rfl rfl hd fun H' e1 e2 e3 => ?_
  rw [hsl] at e1 ⊢
  exact kk _ _ _ _ _ _ _ _ _ _ _ _ _ _ _ _ _ _ _ ⟨hx, hb, hml, hr, hlk, hown, hnm, hts, hG, hbs, hw.put ha (Or.inl ⟨ht, t_OB.to (V := updV (hc_v t (I a) (R a)) k (.int x)) ⟨_, e1, q2, q3, t_set q4 hap hk _⟩ (fun j _ => hc_v_u hr' j)⟩) e3 (fun _ h => hc_u_ne h) (fun _ _ => rfl), e2.trans hz, hS.put e2 e3 (hw a t n ha).1, hL, hR⟩
theorem v_putR {a t n k idx : Nat} {x : Nat} (hl : hc_fl M.1.cls idx t k) (ha : S a = some (t, n)) (hd : decode M.2.1 pc = .ok (.putfield idx, 3)) (hr' : hc_rf t k = true := by rfl) (hfin : (hc_T t k).2.2.2 = false := by rfl)  (hn : narrow (hc_y t k) (.ref x) = (.ref x) := by rfl) (hfit : fits (hc_y t k) (.ref x) = true := by rfl) (ht : t < 8 := by decide) (hk : k < hc_N t := by decide) (hq : pc + 3 = q := by rfl) (kk : V g M d kc ks S I (hc_ur R a k (some x)) z q L st Q) : V g M d kc ks S I R z pc L (.ref x :: .ref a :: st) Q := by
  subst hq
  intro p l e s m args below meth c H locs cells slots ls Rm mc ms D K C
  obtain ⟨hx, hb, hml, hr, hlk, hown, hnm, hts, hG, hbs, hw, hz, hS, hL, hR⟩ := C
  obtain ⟨cell, q1, q2, q3, q4⟩ := (hw a t n ha).2.ob ht
  obtain ⟨hS', hfc, kC, hkC, hkind⟩ := hG.1.1 t _ (hc_cl t ht)
  obtain ⟨cf, kf, fi, f, hi, hsl⟩ := hS' k hk
  have hap := va_apart (own := M.1.cls) hts (hc_ws t ht) (hc_y t) (hc_yok t ht) (hc_nm t ht) hG.1 (hc_cl t ht)
  have hlay := hts _ (hc_ws t ht _ (u_in_lay hk))
  unfold u_lay at hlay
  have hst := (u_facts hfc hkC (u_lays hts (hc_ws t ht) hk) hi).1
  rw [if_neg (by rw [hfin]; decide)] at hlay
  have h6 := u_store hfc hkC hkind hlay hi (hc_yok t ht k hk) hn hfit
  refine W.putK hx hb (f := f) ⟨hown, hts _ hl, ⟨_, _, _, hi⟩, hst⟩ (by rw [q2]; exact h6) q1 q3 (by rw [hsl]; exact k2_hasslot (q4 k hk)) rfl rfl hd fun H' e1 e2 e3 => ?_
  rw [hsl] at e1 ⊢
  exact kk _ _ _ _ _ _ _ _ _ _ _ _ _ _ _ _ _ _ _ ⟨hx, hb, hml, hr, hlk, hown, hnm, hts, hG, hbs, hw.put ha (Or.inl ⟨ht, t_OB.to (V := updV (hc_v t (I a) (R a)) k (.ref x)) ⟨_, e1, q2, q3, t_set q4 hap hk _⟩ (fun j _ => hc_v_ur (x := some x) hr' j)⟩) e3 (fun _ _ => rfl) (fun _ h => hc_ur_ne h), e2.trans hz, hS.put e2 e3 (hw a t n ha).1, hL, hR⟩
theorem v_putRN {a t n k idx : Nat}  (hl : hc_fl M.1.cls idx t k) (ha : S a = some (t, n)) (hd : decode M.2.1 pc = .ok (.putfield idx, 3)) (hr' : hc_rf t k = true := by rfl) (hfin : (hc_T t k).2.2.2 = false := by rfl)  (hn : narrow (hc_y t k) (.null) = (.null) := by rfl) (hfit : fits (hc_y t k) (.null) = true := by rfl) (ht : t < 8 := by decide) (hk : k < hc_N t := by decide) (hq : pc + 3 = q := by rfl) (kk : V g M d kc ks S I (hc_ur R a k none) z q L st Q) : V g M d kc ks S I R z pc L (.null :: .ref a :: st) Q := by
  subst hq
  intro p l e s m args below meth c H locs cells slots ls Rm mc ms D K C
  obtain ⟨hx, hb, hml, hr, hlk, hown, hnm, hts, hG, hbs, hw, hz, hS, hL, hR⟩ := C
  obtain ⟨cell, q1, q2, q3, q4⟩ := (hw a t n ha).2.ob ht
  obtain ⟨hS', hfc, kC, hkC, hkind⟩ := hG.1.1 t _ (hc_cl t ht)
  obtain ⟨cf, kf, fi, f, hi, hsl⟩ := hS' k hk
  have hap := va_apart (own := M.1.cls) hts (hc_ws t ht) (hc_y t) (hc_yok t ht) (hc_nm t ht) hG.1 (hc_cl t ht)
  have hlay := hts _ (hc_ws t ht _ (u_in_lay hk))
  unfold u_lay at hlay
  have hst := (u_facts hfc hkC (u_lays hts (hc_ws t ht) hk) hi).1
  rw [if_neg (by rw [hfin]; decide)] at hlay
  have h6 := u_store hfc hkC hkind hlay hi (hc_yok t ht k hk) hn hfit
  refine W.putK hx hb (f := f) ⟨hown, hts _ hl, ⟨_, _, _, hi⟩, hst⟩ (by rw [q2]; exact h6) q1 q3 (by rw [hsl]; exact k2_hasslot (q4 k hk)) rfl rfl hd fun H' e1 e2 e3 => ?_
  rw [hsl] at e1 ⊢
  exact kk _ _ _ _ _ _ _ _ _ _ _ _ _ _ _ _ _ _ _ ⟨hx, hb, hml, hr, hlk, hown, hnm, hts, hG, hbs, hw.put ha (Or.inl ⟨ht, t_OB.to (V := updV (hc_v t (I a) (R a)) k (.null)) ⟨_, e1, q2, q3, t_set q4 hap hk _⟩ (fun j _ => hc_v_ur (x := none) hr' j)⟩) e3 (fun _ _ => rfl) (fun _ h => hc_ur_ne h), e2.trans hz, hS.put e2 e3 (hw a t n ha).1, hL, hR⟩
theorem v_putFI {a t n k idx : Nat} {x : Int32} (hl : hc_fl M.1.cls idx t k) (ha : S a = some (t, n)) (hd : decode M.2.1 pc = .ok (.putfield idx, 3)) (hr' : hc_rf t k = false := by rfl) (hfin : (hc_T t k).2.2.2 = true := by rfl) (hini : M.1.name = "<init>" := by rfl) (hdecl : (hc_T t k).1 = M.1.cls := by rfl) (hn : narrow (hc_y t k) (.int x) = (.int x) := by rfl) (hfit : fits (hc_y t k) (.int x) = true := by rfl) (ht : t < 8 := by decide) (hk : k < hc_N t := by decide) (hq : pc + 3 = q := by rfl) (kk : V g M d kc ks S (hc_u I a k x) R z q L st Q) : V g M d kc ks S I R z pc L (.int x :: .ref a :: st) Q := by
  subst hq
  intro p l e s m args below meth c H locs cells slots ls Rm mc ms D K C
  obtain ⟨hx, hb, hml, hr, hlk, hown, hnm, hts, hG, hbs, hw, hz, hS, hL, hR⟩ := C
  obtain ⟨cell, q1, q2, q3, q4⟩ := (hw a t n ha).2.ob ht
  obtain ⟨hS', hfc, kC, hkC, hkind⟩ := hG.1.1 t _ (hc_cl t ht)
  obtain ⟨cf, kf, fi, f, hi, hsl⟩ := hS' k hk
  have hap := va_apart (own := M.1.cls) hts (hc_ws t ht) (hc_y t) (hc_yok t ht) (hc_nm t ht) hG.1 (hc_cl t ht)
  have hlay := hts _ (hc_ws t ht _ (u_in_lay hk))
  unfold u_lay at hlay
  have hst := (u_facts hfc hkC (u_lays hts (hc_ws t ht) hk) hi).1
  rw [if_pos hfin] at hlay
  have hcf : m.cls = cf := by
    obtain ⟨_, _, c', _, _, _, -, -, hf', -, -, -, hown2, -⟩ := Cond.laysFinal_spec hlay
    have e1 : c' = cf := by have := hi.symm.trans hf'; simp at this; exact this.1.symm
    rw [hdecl] at hown2
    rw [← e1]; exact Option.some.inj (hown.symm.trans hown2)
  have h6 := u_fits hfc hkC hkind (Or.inr hlay) hi (hc_yok t ht k hk) hn hfit
  refine W.putFinK hx hb hown (hts _ hl) hi hst hcf (hnm.trans hini) (by rw [q2]; exact h6) q1 q3 (by rw [hsl]; exact k2_hasslot (q4 k hk)) rfl rfl hd fun H' e1 e2 e3 => ?_
  rw [hsl] at e1 ⊢
  exact kk _ _ _ _ _ _ _ _ _ _ _ _ _ _ _ _ _ _ _ ⟨hx, hb, hml, hr, hlk, hown, hnm, hts, hG, hbs, hw.put ha (Or.inl ⟨ht, t_OB.to (V := updV (hc_v t (I a) (R a)) k (.int x)) ⟨_, e1, q2, q3, t_set q4 hap hk _⟩ (fun j _ => hc_v_u hr' j)⟩) e3 (fun _ h => hc_u_ne h) (fun _ _ => rfl), e2.trans hz, hS.put e2 e3 (hw a t n ha).1, hL, hR⟩
theorem v_putFR {a t n k idx : Nat} {x : Nat} (hl : hc_fl M.1.cls idx t k) (ha : S a = some (t, n)) (hd : decode M.2.1 pc = .ok (.putfield idx, 3)) (hr' : hc_rf t k = true := by rfl) (hfin : (hc_T t k).2.2.2 = true := by rfl) (hini : M.1.name = "<init>" := by rfl) (hdecl : (hc_T t k).1 = M.1.cls := by rfl) (hn : narrow (hc_y t k) (.ref x) = (.ref x) := by rfl) (hfit : fits (hc_y t k) (.ref x) = true := by rfl) (ht : t < 8 := by decide) (hk : k < hc_N t := by decide) (hq : pc + 3 = q := by rfl) (kk : V g M d kc ks S I (hc_ur R a k (some x)) z q L st Q) : V g M d kc ks S I R z pc L (.ref x :: .ref a :: st) Q := by
  subst hq
  intro p l e s m args below meth c H locs cells slots ls Rm mc ms D K C
  obtain ⟨hx, hb, hml, hr, hlk, hown, hnm, hts, hG, hbs, hw, hz, hS, hL, hR⟩ := C
  obtain ⟨cell, q1, q2, q3, q4⟩ := (hw a t n ha).2.ob ht
  obtain ⟨hS', hfc, kC, hkC, hkind⟩ := hG.1.1 t _ (hc_cl t ht)
  obtain ⟨cf, kf, fi, f, hi, hsl⟩ := hS' k hk
  have hap := va_apart (own := M.1.cls) hts (hc_ws t ht) (hc_y t) (hc_yok t ht) (hc_nm t ht) hG.1 (hc_cl t ht)
  have hlay := hts _ (hc_ws t ht _ (u_in_lay hk))
  unfold u_lay at hlay
  have hst := (u_facts hfc hkC (u_lays hts (hc_ws t ht) hk) hi).1
  rw [if_pos hfin] at hlay
  have hcf : m.cls = cf := by
    obtain ⟨_, _, c', _, _, _, -, -, hf', -, -, -, hown2, -⟩ := Cond.laysFinal_spec hlay
    have e1 : c' = cf := by have := hi.symm.trans hf'; simp at this; exact this.1.symm
    rw [hdecl] at hown2
    rw [← e1]; exact Option.some.inj (hown.symm.trans hown2)
  have h6 := u_fits hfc hkC hkind (Or.inr hlay) hi (hc_yok t ht k hk) hn hfit
  refine W.putFinK hx hb hown (hts _ hl) hi hst hcf (hnm.trans hini) (by rw [q2]; exact h6) q1 q3 (by rw [hsl]; exact k2_hasslot (q4 k hk)) rfl rfl hd fun H' e1 e2 e3 => ?_
  rw [hsl] at e1 ⊢
  exact kk _ _ _ _ _ _ _ _ _ _ _ _ _ _ _ _ _ _ _ ⟨hx, hb, hml, hr, hlk, hown, hnm, hts, hG, hbs, hw.put ha (Or.inl ⟨ht, t_OB.to (V := updV (hc_v t (I a) (R a)) k (.ref x)) ⟨_, e1, q2, q3, t_set q4 hap hk _⟩ (fun j _ => hc_v_ur (x := some x) hr' j)⟩) e3 (fun _ _ => rfl) (fun _ h => hc_ur_ne h), e2.trans hz, hS.put e2 e3 (hw a t n ha).1, hL, hR⟩
theorem v_iald {a n : Nat} {i : Int32} (ha : S a = some (10, n)) (hin : vp_in i n) (hd : decode M.2.1 pc = .ok (.iaload, 1)) (hq : pc + 1 = q := by rfl) (kk : V g M d kc ks S I R z q L (.int (I a i.toNatClampNeg) :: st) Q) : V g M d kc ks S I R z pc L (.int i :: .ref a :: st) Q := by
  subst hq
  intro p l e s m args below meth c H locs cells slots ls Rm mc ms D K C
  obtain ⟨hx, hb, hml, hr, hlk, hown, hnm, hts, hG, hbs, hw, hz, hS, hL, hR⟩ := C
  have hlt : i.toNatClampNeg < n := Nat.not_le.mp fun q => hin (Or.inr q)
  have hcell := (hw a 10 n ha).2.ia (by decide) (by decide)
  exact W.iald (v := .int (I a i.toNatClampNeg)) hx hb hcell ((hG.1.2 _ _ (hc_kt_at K (t := 10) (by decide) (by decide))).1 n (fun j => .int (I a j))) (fun q => by cases q) (by rw [arrV_size]; exact hin) (by rw [arrV_read _ _ hlt]) rfl rfl hd (kk _ _ _ _ _ _ _ _ _ _ _ _ _ _ _ _ _ _ _ ⟨hx, hb, hml, hr, hlk, hown, hnm, hts, hG, hbs, hw, hz, hS, hL, hR⟩)
theorem v_ialdN {a n j : Nat} (ha : S a = some (10, n)) (hj : j < n) (hn : n < 2 ^ 31) (hd : decode M.2.1 pc = .ok (.iaload, 1)) (hq : pc + 1 = q := by rfl) (kk : V g M d kc ks S I R z q L (.int (I a j) :: st) Q) : V g M d kc ks S I R z pc L (.int (nI j) :: .ref a :: st) Q := v_iald ha (vp_in_nI hj hn) hd hq (by rw [nI_clamp (by omega)]; exact kk)
theorem v_bald {a n : Nat} {i : Int32} (ha : S a = some (8, n)) (hin : vp_in i n) (hd : decode M.2.1 pc = .ok (.baload, 1)) (hq : pc + 1 = q := by rfl) (kk : V g M d kc ks S I R z q L (.int (I a i.toNatClampNeg) :: st) Q) : V g M d kc ks S I R z pc L (.int i :: .ref a :: st) Q := by
  subst hq
  intro p l e s m args below meth c H locs cells slots ls Rm mc ms D K C
  obtain ⟨hx, hb, hml, hr, hlk, hown, hnm, hts, hG, hbs, hw, hz, hS, hL, hR⟩ := C
  have hlt : i.toNatClampNeg < n := Nat.not_le.mp fun q => hin (Or.inr q)
  have hcell := (hw a 8 n ha).2.ia (by decide) (by decide)
  exact W.bald (v := .int (I a i.toNatClampNeg)) hx hb hcell ((hG.1.2 _ _ (hc_kt_at K (t := 8) (by decide) (by decide))).1 n (fun j => .int (I a j))) (fun q => by cases q) (by rw [arrV_size]; exact hin) (by rw [arrV_read _ _ hlt]) rfl rfl hd (kk _ _ _ _ _ _ _ _ _ _ _ _ _ _ _ _ _ _ _ ⟨hx, hb, hml, hr, hlk, hown, hnm, hts, hG, hbs, hw, hz, hS, hL, hR⟩)
theorem v_baldN {a n j : Nat} (ha : S a = some (8, n)) (hj : j < n) (hn : n < 2 ^ 31) (hd : decode M.2.1 pc = .ok (.baload, 1)) (hq : pc + 1 = q := by rfl) (kk : V g M d kc ks S I R z q L (.int (I a j) :: st) Q) : V g M d kc ks S I R z pc L (.int (nI j) :: .ref a :: st) Q := v_bald ha (vp_in_nI hj hn) hd hq (by rw [nI_clamp (by omega)]; exact kk)
theorem v_cald {a n : Nat} {i : Int32} (ha : S a = some (9, n)) (hin : vp_in i n) (hd : decode M.2.1 pc = .ok (.caload, 1)) (hq : pc + 1 = q := by rfl) (kk : V g M d kc ks S I R z q L (.int (I a i.toNatClampNeg) :: st) Q) : V g M d kc ks S I R z pc L (.int i :: .ref a :: st) Q := by
  subst hq
  intro p l e s m args below meth c H locs cells slots ls Rm mc ms D K C
  obtain ⟨hx, hb, hml, hr, hlk, hown, hnm, hts, hG, hbs, hw, hz, hS, hL, hR⟩ := C
  have hlt : i.toNatClampNeg < n := Nat.not_le.mp fun q => hin (Or.inr q)
  have hcell := (hw a 9 n ha).2.ia (by decide) (by decide)
  exact W.cald (v := .int (I a i.toNatClampNeg)) hx hb hcell ((hG.1.2 _ _ (hc_kt_at K (t := 9) (by decide) (by decide))).1 n (fun j => .int (I a j))) (fun q => by cases q) (by rw [arrV_size]; exact hin) (by rw [arrV_read _ _ hlt]) rfl rfl hd (kk _ _ _ _ _ _ _ _ _ _ _ _ _ _ _ _ _ _ _ ⟨hx, hb, hml, hr, hlk, hown, hnm, hts, hG, hbs, hw, hz, hS, hL, hR⟩)
theorem v_caldN {a n j : Nat} (ha : S a = some (9, n)) (hj : j < n) (hn : n < 2 ^ 31) (hd : decode M.2.1 pc = .ok (.caload, 1)) (hq : pc + 1 = q := by rfl) (kk : V g M d kc ks S I R z q L (.int (I a j) :: st) Q) : V g M d kc ks S I R z pc L (.int (nI j) :: .ref a :: st) Q := v_cald ha (vp_in_nI hj hn) hd hq (by rw [nI_clamp (by omega)]; exact kk)
theorem v_zald {a n : Nat} {i : Int32} (ha : S a = some (11, n)) (hin : vp_in i n) (hd : decode M.2.1 pc = .ok (.baload, 1)) (hq : pc + 1 = q := by rfl) (kk : V g M d kc ks S I R z q L (.int (I a i.toNatClampNeg) :: st) Q) : V g M d kc ks S I R z pc L (.int i :: .ref a :: st) Q := by
  subst hq
  intro p l e s m args below meth c H locs cells slots ls Rm mc ms D K C
  obtain ⟨hx, hb, hml, hr, hlk, hown, hnm, hts, hG, hbs, hw, hz, hS, hL, hR⟩ := C
  have hlt : i.toNatClampNeg < n := Nat.not_le.mp fun q => hin (Or.inr q)
  have hcell := (hw a 11 n ha).2.ia (by decide) (by decide)
  exact W.zald (v := .int (I a i.toNatClampNeg)) hx hb hcell ((hG.1.2 _ _ (hc_kt_at K (t := 11) (by decide) (by decide))).1 n (fun j => .int (I a j))) (fun q => by cases q) (by rw [arrV_size]; exact hin) (by rw [arrV_read _ _ hlt]) rfl rfl hd (kk _ _ _ _ _ _ _ _ _ _ _ _ _ _ _ _ _ _ _ ⟨hx, hb, hml, hr, hlk, hown, hnm, hts, hG, hbs, hw, hz, hS, hL, hR⟩)
theorem v_zaldN {a n j : Nat} (ha : S a = some (11, n)) (hj : j < n) (hn : n < 2 ^ 31) (hd : decode M.2.1 pc = .ok (.baload, 1)) (hq : pc + 1 = q := by rfl) (kk : V g M d kc ks S I R z q L (.int (I a j) :: st) Q) : V g M d kc ks S I R z pc L (.int (nI j) :: .ref a :: st) Q := v_zald ha (vp_in_nI hj hn) hd hq (by rw [nI_clamp (by omega)]; exact kk)
theorem v_aald {a n t : Nat} {i : Int32} (ha : S a = some (t, n)) {x : Nat} (hv : R a i.toNatClampNeg = some x) (hin : vp_in i n) (hd : decode M.2.1 pc = .ok (.aaload, 1)) (ht : 12 ≤ t := by decide) (hq : pc + 1 = q := by rfl) (kk : V g M d kc ks S I R z q L (.ref x :: st) Q) : V g M d kc ks S I R z pc L (.int i :: .ref a :: st) Q := by
  subst hq
  intro p l e s m args below meth c H locs cells slots ls Rm mc ms D K C
  obtain ⟨hx, hb, hml, hr, hlk, hown, hnm, hts, hG, hbs, hw, hz, hS, hL, hR⟩ := C
  have hlt : i.toNatClampNeg < n := Nat.not_le.mp fun q => hin (Or.inr q)
  obtain ⟨ht2, hcell⟩ := (hw a t n ha).2.ra ht
  have hty : (hc_a t).isReference = true := by
    have : t = 12 ∨ t = 13 ∨ t = 14 ∨ t = 15 := by omega
    rcases this with rfl | rfl | rfl | rfl <;> rfl
  exact W.aald (v := .ref x) (ty := hc_a t) hx hb hcell ((hG.1.2 _ _ (hc_kt_at K (by omega) ht2)).1 n (fun j => va_rf (R a j))) hty (fun q => by cases q) (by rw [arrV_size]; exact hin) (by rw [arrV_read _ _ hlt, hv]; rfl) rfl rfl hd (kk _ _ _ _ _ _ _ _ _ _ _ _ _ _ _ _ _ _ _ ⟨hx, hb, hml, hr, hlk, hown, hnm, hts, hG, hbs, hw, hz, hS, hL, hR⟩)
theorem v_aaldN {a n t : Nat} {i : Int32} (ha : S a = some (t, n)) (hv : R a i.toNatClampNeg = none) (hin : vp_in i n) (hd : decode M.2.1 pc = .ok (.aaload, 1)) (ht : 12 ≤ t := by decide) (hq : pc + 1 = q := by rfl) (kk : V g M d kc ks S I R z q L (.null :: st) Q) : V g M d kc ks S I R z pc L (.int i :: .ref a :: st) Q := by
  subst hq
  intro p l e s m args below meth c H locs cells slots ls Rm mc ms D K C
  obtain ⟨hx, hb, hml, hr, hlk, hown, hnm, hts, hG, hbs, hw, hz, hS, hL, hR⟩ := C
  have hlt : i.toNatClampNeg < n := Nat.not_le.mp fun q => hin (Or.inr q)
  obtain ⟨ht2, hcell⟩ := (hw a t n ha).2.ra ht
  have hty : (hc_a t).isReference = true := by
    have : t = 12 ∨ t = 13 ∨ t = 14 ∨ t = 15 := by omega
    rcases this with rfl | rfl | rfl | rfl <;> rfl
  exact W.aald (v := .null) (ty := hc_a t) hx hb hcell ((hG.1.2 _ _ (hc_kt_at K (by omega) ht2)).1 n (fun j => va_rf (R a j))) hty (fun q => by cases q) (by rw [arrV_size]; exact hin) (by rw [arrV_read _ _ hlt, hv]; rfl) rfl rfl hd (kk _ _ _ _ _ _ _ _ _ _ _ _ _ _ _ _ _ _ _ ⟨hx, hb, hml, hr, hlk, hown, hnm, hts, hG, hbs, hw, hz, hS, hL, hR⟩)
theorem v_aaldn {a n t j x : Nat} (ha : S a = some (t, n)) (hv : R a j = some x) (hj : j < n) (hn : n < 2 ^ 31) (hd : decode M.2.1 pc = .ok (.aaload, 1)) (ht : 12 ≤ t := by decide) (hq : pc + 1 = q := by rfl) (kk : V g M d kc ks S I R z q L (.ref x :: st) Q) : V g M d kc ks S I R z pc L (.int (nI j) :: .ref a :: st) Q := v_aald ha (by rw [nI_clamp (by omega)]; exact hv) (vp_in_nI hj hn) hd ht hq kk
theorem hc_arr_u {I : hcI} {a k : Nat} {x : Int32} {cA : ClassId} {n : Nat} : (arrV cA n (fun j => Value.int (I a j))).setSlot k (.int x) = arrV cA n (fun j => .int (hc_u I a k x a j)) := by
  rw [arrV_store]
  congr 1
  funext j
  by_cases hj : j = k
  · subst hj
    simp [updV, hc_u]
  · simp [updV, hc_u, hj]
theorem hc_arr_ur {R : hcR} {a k : Nat} {x : Option Nat} {cA : ClassId} {n : Nat} : (arrV cA n (fun j => va_rf (R a j))).setSlot k (va_rf x) = arrV cA n (fun j => va_rf (hc_ur R a k x a j)) := by
  rw [arrV_store]
  congr 1
  funext j
  by_cases hj : j = k
  · subst hj
    simp [updV, hc_ur]
  · simp [updV, hc_ur, hj]
theorem v_iast {a n : Nat} {i x : Int32} (ha : S a = some (10, n)) (hin : vp_in i n)  (hd : decode M.2.1 pc = .ok (.iastore, 1)) (hq : pc + 1 = q := by rfl) (kk : V g M d kc ks S (hc_u I a i.toNatClampNeg x) R z q L st Q) : V g M d kc ks S I R z pc L (.int x :: .int i :: .ref a :: st) Q := by
  subst hq
  intro p l e s m args below meth c H locs cells slots ls Rm mc ms D K C
  obtain ⟨hx, hb, hml, hr, hlk, hown, hnm, hts, hG, hbs, hw, hz, hS, hL, hR⟩ := C
  have hcell := (hw a 10 n ha).2.ia (by decide) (by decide)
  refine W.iast hx hb hcell ((hG.1.2 _ _ (hc_kt_at K (t := 10) (by decide) (by decide))).1 n (fun j => .int (I a j))) (fun q => by cases q) (by rw [arrV_size]; exact hin) rfl rfl hd fun H1 e z2 oq => ?_
  rw [hc_arr_u] at e
  exact kk _ _ _ _ _ _ _ _ _ _ _ _ _ _ _ _ _ _ _ ⟨hx, hb, hml, hr, hlk, hown, hnm, hts, hG, hbs, hw.put ha (Or.inr (Or.inl ⟨by decide, by decide, e⟩)) oq (fun _ h => hc_u_ne h) (fun _ _ => rfl), z2.trans hz, hS.put z2 oq (hw a 10 n ha).1, hL, hR⟩
theorem v_iastN {a n j : Nat} {x : Int32} (ha : S a = some (10, n)) (hj : j < n) (hb : n < 2 ^ 31)  (hd : decode M.2.1 pc = .ok (.iastore, 1)) (hq : pc + 1 = q := by rfl) (kk : V g M d kc ks S (hc_u I a j x) R z q L st Q) : V g M d kc ks S I R z pc L (.int x :: .int (nI j) :: .ref a :: st) Q := v_iast ha (vp_in_nI hj hb)  hd hq (by rw [nI_clamp (by omega)]; exact kk)
theorem v_bast {a n : Nat} {i x : Int32} (ha : S a = some (8, n)) (hin : vp_in i n) (hn : narrow .byte (.int x) = .int x) (hd : decode M.2.1 pc = .ok (.bastore, 1)) (hq : pc + 1 = q := by rfl) (kk : V g M d kc ks S (hc_u I a i.toNatClampNeg x) R z q L st Q) : V g M d kc ks S I R z pc L (.int x :: .int i :: .ref a :: st) Q := by
  subst hq
  intro p l e s m args below meth c H locs cells slots ls Rm mc ms D K C
  obtain ⟨hx, hb, hml, hr, hlk, hown, hnm, hts, hG, hbs, hw, hz, hS, hL, hR⟩ := C
  have hcell := (hw a 8 n ha).2.ia (by decide) (by decide)
  refine W.bast hx hb hcell ((hG.1.2 _ _ (hc_kt_at K (t := 8) (by decide) (by decide))).1 n (fun j => .int (I a j))) (fun q => by cases q) (by rw [arrV_size]; exact hin) rfl rfl hd fun H1 e z2 oq => ?_
  rw [hn] at e
  rw [hc_arr_u] at e
  exact kk _ _ _ _ _ _ _ _ _ _ _ _ _ _ _ _ _ _ _ ⟨hx, hb, hml, hr, hlk, hown, hnm, hts, hG, hbs, hw.put ha (Or.inr (Or.inl ⟨by decide, by decide, e⟩)) oq (fun _ h => hc_u_ne h) (fun _ _ => rfl), z2.trans hz, hS.put z2 oq (hw a 8 n ha).1, hL, hR⟩
theorem v_bastN {a n j : Nat} {x : Int32} (ha : S a = some (8, n)) (hj : j < n) (hb : n < 2 ^ 31) (hn : narrow .byte (.int x) = .int x) (hd : decode M.2.1 pc = .ok (.bastore, 1)) (hq : pc + 1 = q := by rfl) (kk : V g M d kc ks S (hc_u I a j x) R z q L st Q) : V g M d kc ks S I R z pc L (.int x :: .int (nI j) :: .ref a :: st) Q := v_bast ha (vp_in_nI hj hb) hn hd hq (by rw [nI_clamp (by omega)]; exact kk)
theorem v_cast {a n : Nat} {i x : Int32} (ha : S a = some (9, n)) (hin : vp_in i n) (hn : narrow .char (.int x) = .int x) (hd : decode M.2.1 pc = .ok (.castore, 1)) (hq : pc + 1 = q := by rfl) (kk : V g M d kc ks S (hc_u I a i.toNatClampNeg x) R z q L st Q) : V g M d kc ks S I R z pc L (.int x :: .int i :: .ref a :: st) Q := by
  subst hq
  intro p l e s m args below meth c H locs cells slots ls Rm mc ms D K C
  obtain ⟨hx, hb, hml, hr, hlk, hown, hnm, hts, hG, hbs, hw, hz, hS, hL, hR⟩ := C
  have hcell := (hw a 9 n ha).2.ia (by decide) (by decide)
  refine W.cast hx hb hcell ((hG.1.2 _ _ (hc_kt_at K (t := 9) (by decide) (by decide))).1 n (fun j => .int (I a j))) (fun q => by cases q) (by rw [arrV_size]; exact hin) rfl rfl hd fun H1 e z2 oq => ?_
  rw [hn] at e
  rw [hc_arr_u] at e
  exact kk _ _ _ _ _ _ _ _ _ _ _ _ _ _ _ _ _ _ _ ⟨hx, hb, hml, hr, hlk, hown, hnm, hts, hG, hbs, hw.put ha (Or.inr (Or.inl ⟨by decide, by decide, e⟩)) oq (fun _ h => hc_u_ne h) (fun _ _ => rfl), z2.trans hz, hS.put z2 oq (hw a 9 n ha).1, hL, hR⟩
theorem v_castN {a n j : Nat} {x : Int32} (ha : S a = some (9, n)) (hj : j < n) (hb : n < 2 ^ 31) (hn : narrow .char (.int x) = .int x) (hd : decode M.2.1 pc = .ok (.castore, 1)) (hq : pc + 1 = q := by rfl) (kk : V g M d kc ks S (hc_u I a j x) R z q L st Q) : V g M d kc ks S I R z pc L (.int x :: .int (nI j) :: .ref a :: st) Q := v_cast ha (vp_in_nI hj hb) hn hd hq (by rw [nI_clamp (by omega)]; exact kk)
theorem v_zast {a n : Nat} {i x : Int32} (ha : S a = some (11, n)) (hin : vp_in i n) (hn : narrow .boolean (.int x) = .int x) (hd : decode M.2.1 pc = .ok (.bastore, 1)) (hq : pc + 1 = q := by rfl) (kk : V g M d kc ks S (hc_u I a i.toNatClampNeg x) R z q L st Q) : V g M d kc ks S I R z pc L (.int x :: .int i :: .ref a :: st) Q := by
  subst hq
  intro p l e s m args below meth c H locs cells slots ls Rm mc ms D K C
  obtain ⟨hx, hb, hml, hr, hlk, hown, hnm, hts, hG, hbs, hw, hz, hS, hL, hR⟩ := C
  have hcell := (hw a 11 n ha).2.ia (by decide) (by decide)
  refine W.zast hx hb hcell ((hG.1.2 _ _ (hc_kt_at K (t := 11) (by decide) (by decide))).1 n (fun j => .int (I a j))) (fun q => by cases q) (by rw [arrV_size]; exact hin) rfl rfl hd fun H1 e z2 oq => ?_
  rw [hn] at e
  rw [hc_arr_u] at e
  exact kk _ _ _ _ _ _ _ _ _ _ _ _ _ _ _ _ _ _ _ ⟨hx, hb, hml, hr, hlk, hown, hnm, hts, hG, hbs, hw.put ha (Or.inr (Or.inl ⟨by decide, by decide, e⟩)) oq (fun _ h => hc_u_ne h) (fun _ _ => rfl), z2.trans hz, hS.put z2 oq (hw a 11 n ha).1, hL, hR⟩
theorem v_zastN {a n j : Nat} {x : Int32} (ha : S a = some (11, n)) (hj : j < n) (hb : n < 2 ^ 31) (hn : narrow .boolean (.int x) = .int x) (hd : decode M.2.1 pc = .ok (.bastore, 1)) (hq : pc + 1 = q := by rfl) (kk : V g M d kc ks S (hc_u I a j x) R z q L st Q) : V g M d kc ks S I R z pc L (.int x :: .int (nI j) :: .ref a :: st) Q := v_zast ha (vp_in_nI hj hb) hn hd hq (by rw [nI_clamp (by omega)]; exact kk)
theorem v_aast {a n t v tv nv : Nat} {i : Int32} (ha : S a = some (t, n)) (hv : S v = some (tv, nv)) (hin : vp_in i n) (hd : decode M.2.1 pc = .ok (.aastore, 1)) (hty : hc_a t = .object (hc_C tv) := by rfl) (ht : 12 ≤ t := by decide) (htv : tv < 8 := by decide) (hq : pc + 1 = q := by rfl) (kk : V g M d kc ks S I (hc_ur R a i.toNatClampNeg (some v)) z q L st Q) : V g M d kc ks S I R z pc L (.ref v :: .int i :: .ref a :: st) Q := by
  subst hq
  intro p l e s m args below meth c H locs cells slots ls Rm mc ms D K C
  obtain ⟨hx, hb, hml, hr, hlk, hown, hnm, hts, hG, hbs, hw, hz, hS, hL, hR⟩ := C
  have hlt : i.toNatClampNeg < n := Nat.not_le.mp fun q => hin (Or.inr q)
  have h0 : ¬ i < 0 := fun q => hin (Or.inl q)
  obtain ⟨ht2, hcell⟩ := (hw a t n ha).2.ra ht
  obtain ⟨cellV, g1, g2, g3, -⟩ := (hw v tv nv hv).2.ob htv
  have hcls := (hG.1.1 tv _ (hc_cl tv htv)).2
  have hRA := (hG.1.2 _ _ (hc_kt_at K (t := t) (by omega) ht2)).2
  simp only [hty] at hRA
  obtain ⟨kA, comp, k1, k2, k3, -⟩ := hRA
  have hcomp : comp = D.1 tv := Option.some.inj (k3.symm.trans hcls.1)
  subst hcomp
  obtain ⟨kC, hkC, -⟩ := id hcls.2
  refine W.aast hx hb hcell (fun q h => by cases h) (fun h => by cases h) k1 k2 rfl hkC ⟨h0, by rw [arrV_size]; exact hlt⟩ g1 (fun q h => by rw [g3] at h; cases h) (by rw [g2]; exact hkC) (by rw [g2]; exact va_assign hcls) rfl rfl hd fun H1 e z2 oq => ?_
  have e2 : H1[a]? = some (arrV (K t) n (fun j => va_rf (hc_ur R a i.toNatClampNeg (some v) a j))) := by
    rw [e, ← hc_arr_ur]
    rfl
  exact kk _ _ _ _ _ _ _ _ _ _ _ _ _ _ _ _ _ _ _ ⟨hx, hb, hml, hr, hlk, hown, hnm, hts, hG, hbs, hw.put ha (Or.inr (Or.inr ⟨ht, ht2, e2⟩)) oq (fun _ _ => rfl) (fun _ h => hc_ur_ne h), z2.trans hz, hS.put z2 oq (hw a t n ha).1, hL, hR⟩
theorem v_alen {a n t : Nat} (ha : S a = some (t, n)) (hd : decode M.2.1 pc = .ok (.arraylength, 1)) (ht : 8 ≤ t := by decide) (hq : pc + 1 = q := by rfl) (kk : V g M d kc ks S I R z q L (.int (nI n) :: st) Q) : V g M d kc ks S I R z pc L (.ref a :: st) Q := by
  subst hq
  intro p l e s m args below meth c H locs cells slots ls Rm mc ms D K C
  obtain ⟨hx, hb, hml, hr, hlk, hown, hnm, hts, hG, hbs, hw, hz, hS, hL, hR⟩ := C
  rcases (hw a t n ha).2 with ⟨h, -⟩ | ⟨h1, h2, hcell⟩ | ⟨h1, h2, hcell⟩
  · omega
  · exact W.alen (n := nI n) hx hb hcell ((hG.1.2 _ _ (hc_kt_at K (t := t) ht (by omega))).1 n (fun j => .int (I a j))) (by rw [arrV_size]; rfl) rfl rfl hd (kk _ _ _ _ _ _ _ _ _ _ _ _ _ _ _ _ _ _ _ ⟨hx, hb, hml, hr, hlk, hown, hnm, hts, hG, hbs, hw, hz, hS, hL, hR⟩)
  · exact W.alen (n := nI n) hx hb hcell ((hG.1.2 _ _ (hc_kt_at K (t := t) ht (by omega))).1 n (fun j => va_rf (R a j))) (by rw [arrV_size]; rfl) rfl rfl hd (kk _ _ _ _ _ _ _ _ _ _ _ _ _ _ _ _ _ _ _ ⟨hx, hb, hml, hr, hlk, hown, hnm, hts, hG, hbs, hw, hz, hS, hL, hR⟩)
theorem v_new {t idx : Nat} (hl : Cond.classLink M.1.cls idx (hc_C t) ∈ hc_tb) (hi : Cond.instantiable (hc_C t) (hc_N t) ∈ hc_tb) (hn : Cond.initialized (hc_C t) ∈ hc_tb) (hd : decode M.2.1 pc = .ok (.new idx, 3)) (ht : t < 8 := by decide) (hq : pc + 3 = q := by rfl) (kk : V g M d kc ks (fun x => if x = z then some (t, 0) else S x) (fun x => if x = z then (fun _ => 0) else I x) (fun x => if x = z then (fun _ => none) else R x) (z + 1) q L (.ref z :: st) Q) : V g M d (kc + 1) (ks + hc_N t) S I R z pc L st Q := by
  subst hq
  intro p l e s m args below meth c H locs cells slots ls Rm mc ms D K C
  obtain ⟨hx, hb, hml, hr, hlk, hown, hnm, hts, hG, hbs, hw, hz, hS, hL, hR⟩ := C
  obtain ⟨r1, r2, r3, r4, r5, r6⟩ := hR
  have hKn := hG.1.1 t _ (hc_cl t ht)
  subst hz
  refine W.newcK hx hb hown (hts _ hl) (hts _ hi) (hts _ hn) rfl hd (by omega) (by omega) hKn.2.1 rfl fun H1 kC hkC e1 z1 o1 => ?_
  have hcell := (u_born (hc_y t) hts (hc_ws t ht) hKn hkC e1 (hc_yok t ht)).to (V' := hc_v t (fun _ => 0) (fun _ => none)) (fun k hk => hc_def ht hk)
  exact kk _ _ _ _ _ _ _ _ _ _ _ _ _ _ _ _ _ _ _ ⟨hx, hb, hml, hr, hlk, hown, hnm, hts, hG, hbs, hw.new (Nat.le_trans hbs hS.1) (Or.inl ⟨ht, hcell⟩) o1, z1, ⟨Nat.le_trans hS.1 (by omega), fun x h1 h2 => (o1 x (Nat.lt_of_lt_of_le h1 hS.1)).trans (hS.2.1 x h1 h2), hS.2.2⟩, hL, r1, r2, by omega, by omega, r5, r6⟩
theorem v_newa {t : Nat} {atype : ArrayType} {n : Int32} (N : Nat) (hac : Cond.arrayClass (hc_a t) ∈ hc_tb) (hd : decode M.2.1 pc = .ok (.newarray atype, 2)) (hn : ¬ n < 0) (hN : n.toNatClampNeg = N) (hty : newarray.typeOf atype = hc_a t := by rfl) (hsm : N ≤ 4096 := by decide) (h8 : 8 ≤ t := by decide) (ht : t < 12 := by decide) (hq : pc + 2 = q := by rfl) (kk : V g M d kc ks (fun x => if x = z then some (t, N) else S x) (fun x => if x = z then (fun _ => 0) else I x) (fun x => if x = z then (fun _ => none) else R x) (z + 1) q L (.ref z :: st) Q) : V g M d (kc + 1) (ks + N) S I R z pc L (.int n :: st) Q := by
  subst hq
  intro p l e s m args below meth c H locs cells slots ls Rm mc ms D K C
  obtain ⟨hx, hb, hml, hr, hlk, hown, hnm, hts, hG, hbs, hw, hz, hS, hL, hR⟩ := C
  obtain ⟨r1, r2, r3, r4, r5, r6⟩ := hR
  subst hz
  have hcb : componentBytes (hc_a t) ≤ 8 := by
    have : t = 8 ∨ t = 9 ∨ t = 10 ∨ t = 11 := by omega
    rcases this with rfl | rfl | rfl | rfl <;> decide
  refine va_newaK hx hb (by rw [hty]; exact hts _ hac) rfl hd rfl hn hN (by rw [hty]; exact Nat.le_trans (Nat.mul_le_mul hsm hcb) (by decide)) (by omega) (by omega) rfl fun H1 cA e1 z1 o1 hAr hNm => ?_
  have hKt : s.vm.findClass ("[" ++ (hc_a t).toString) = some (K t) := by
    have h2 := (hG.1.2 _ _ (hc_kt_at K (t := t) h8 (by omega))).2
    have : t = 8 ∨ t = 9 ∨ t = 10 ∨ t = 11 := by omega
    rcases this with rfl | rfl | rfl | rfl <;> exact h2
  rw [hty] at hNm e1
  have hcA : cA = K t := Option.some.inj (hNm.symm.trans hKt)
  subst hcA
  have e2 : H1[H.size]? = some (arrV (K t) N (fun j => .int ((fun _ => (0 : Int32)) j))) := by
    rw [e1]
    have : t = 8 ∨ t = 9 ∨ t = 10 ∨ t = 11 := by omega
    rcases this with rfl | rfl | rfl | rfl <;> rfl
  exact kk _ _ _ _ _ _ _ _ _ _ _ _ _ _ _ _ _ _ _ ⟨hx, hb, hml, hr, hlk, hown, hnm, hts, hG, hbs, hw.new (Nat.le_trans hbs hS.1) (Or.inr (Or.inl ⟨h8, ht, e2⟩)) o1, z1, ⟨Nat.le_trans hS.1 (by omega), fun x h1 h2 => (o1 x (Nat.lt_of_lt_of_le h1 hS.1)).trans (hS.2.1 x h1 h2), hS.2.2⟩, hL, r1, r2, by omega, by omega, r5, r6⟩
theorem v_anew {t tc idx : Nat} {n : Int32} (N : Nat) (hl : Cond.classLink M.1.cls idx (hc_C tc) ∈ hc_tb) (hd : decode M.2.1 pc = .ok (.anewarray idx, 3)) (hn : ¬ n < 0) (hN : n.toNatClampNeg = N) (hty : hc_a t = .object (hc_C tc) := by rfl) (hsm : N ≤ 4096 := by decide) (h8 : 12 ≤ t := by decide) (ht : t < 16 := by decide) (hq : pc + 3 = q := by rfl) (kk : V g M d kc ks (fun x => if x = z then some (t, N) else S x) (fun x => if x = z then (fun _ => 0) else I x) (fun x => if x = z then (fun _ => none) else R x) (z + 1) q L (.ref z :: st) Q) : V g M d (kc + 1) (ks + N) S I R z pc L (.int n :: st) Q := by
  subst hq
  intro p l e s m args below meth c H locs cells slots ls Rm mc ms D K C
  obtain ⟨hx, hb, hml, hr, hlk, hown, hnm, hts, hG, hbs, hw, hz, hS, hL, hR⟩ := C
  obtain ⟨r1, r2, r3, r4, r5, r6⟩ := hR
  subst hz
  subst hN
  have hover : va_AO (hc_C tc) s := by
    obtain ⟨a1, a2, a3, a4⟩ := hG.2.2.1
    have : t = 12 ∨ t = 13 ∨ t = 14 ∨ t = 15 := by omega
    rcases this with rfl | rfl | rfl | rfl <;> (have e := FieldType.object.inj hty; rw [← e]; assumption)
  refine W.anew hx hb hown (hts _ hl) (va_AO.use hover) rfl hd rfl hn (Nat.le_trans (Nat.mul_le_mul hsm (Nat.le_refl 4)) (by decide)) (by omega) (by omega) fun cA kA comp f1 f2 f3 f4 => ?_
  generalize hH1 : H.push ({ cls := cA, slots := Array.replicate n.toNatClampNeg .null, vm := .none } : Cell) = H1
  have z1 : H1.size = H.size + 1 := by rw [← hH1, Array.size_push]
  have e1 : H1[H.size]? = some (arrV cA n.toNatClampNeg (fun _ => .null)) := by rw [← hH1, Array.getElem?_push_size, ← arrV_new]
  have o1 : ∀ q : Nat, q < H.size → H1[q]? = H[q]? := fun q hq => by rw [← hH1, Array.getElem?_push, if_neg (Nat.ne_of_lt hq)]
  have hRA := (hG.1.2 _ _ (hc_kt_at K (t := t) (by omega) ht)).2
  simp only [hty] at hRA
  obtain ⟨kA', comp', k1, k2, k3, k4⟩ := hRA
  have hcA : cA = K t := Option.some.inj (f1.symm.trans k4)
  subst hcA
  have e2 : H1[H.size]? = some (arrV (K t) n.toNatClampNeg (fun j => va_rf ((fun _ => none) j))) := e1
  exact kk _ _ _ _ _ _ _ _ _ _ _ _ _ _ _ _ _ _ _ ⟨hx, hb, hml, hr, hlk, hown, hnm, hts, hG, hbs, hw.new (Nat.le_trans hbs hS.1) (Or.inr (Or.inr ⟨h8, ht, e2⟩)) o1, z1, ⟨Nat.le_trans hS.1 (by omega), fun x h1 h2 => (o1 x (Nat.lt_of_lt_of_le h1 hS.1)).trans (hS.2.1 x h1 h2), hS.2.2⟩, hL, r1, r2, by omega, by omega, r5, r6⟩
end VH
