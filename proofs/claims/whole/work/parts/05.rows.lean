section VR
variable {g : hcG} {M : hcM} {d kc ks : Nat} {S : hcS} {I : hcI} {R : hcR} {z pc q : Nat} {L : List (Option Value)} {st : List Value} {Q : hcQ}
theorem v_iconst {n : Int} {v : Int32} (hd : decode M.2.1 pc = .ok (.iconst n, 1)) (hv : Int32.ofInt n = v := by rfl) (hq : pc + 1 = q := by rfl) (kk : V g M d kc ks S I R z q L (.int v :: st) Q) : V g M d kc ks S I R z pc L st Q := by
  subst hq
  intro p l e s m args below meth c H locs cells slots ls Rm mc ms D K C
  exact lv_iconst C.1 C.2.1 hd hv (kk _ _ _ _ _ _ _ _ _ _ _ _ _ _ _ _ _ _ _ C)
theorem v_bipush {n : Int} {v : Int32} (hd : decode M.2.1 pc = .ok (.bipush n, 2)) (hv : (Int8.ofInt n).toInt32 = v := by rfl) (hq : pc + 2 = q := by rfl) (kk : V g M d kc ks S I R z q L (.int v :: st) Q) : V g M d kc ks S I R z pc L st Q := by
  subst hq
  intro p l e s m args below meth c H locs cells slots ls Rm mc ms D K C
  exact lv_bipush C.1 C.2.1 hd hv (kk _ _ _ _ _ _ _ _ _ _ _ _ _ _ _ _ _ _ _ C)
theorem v_sipush {n : Int} {v : Int32} (hd : decode M.2.1 pc = .ok (.sipush n, 3)) (hv : (Int16.ofInt n).toInt32 = v := by rfl) (hq : pc + 3 = q := by rfl) (kk : V g M d kc ks S I R z q L (.int v :: st) Q) : V g M d kc ks S I R z pc L st Q := by
  subst hq
  intro p l e s m args below meth c H locs cells slots ls Rm mc ms D K C
  exact lv_sipush C.1 C.2.1 hd hv (kk _ _ _ _ _ _ _ _ _ _ _ _ _ _ _ _ _ _ _ C)
theorem v_null  (hd : decode M.2.1 pc = .ok (.aconst_null, 1))  (hq : pc + 1 = q := by rfl) (kk : V g M d kc ks S I R z q L (.null :: st) Q) : V g M d kc ks S I R z pc L st Q := by
  subst hq
  intro p l e s m args below meth c H locs cells slots ls Rm mc ms D K C
  exact lv_null C.1 C.2.1 hd  (kk _ _ _ _ _ _ _ _ _ _ _ _ _ _ _ _ _ _ _ C)
theorem v_iadd {x y : Int32} (hd : decode M.2.1 pc = .ok (.iadd, 1))  (hq : pc + 1 = q := by rfl) (kk : V g M d kc ks S I R z q L (.int (x + y) :: st) Q) : V g M d kc ks S I R z pc L (.int y :: .int x :: st) Q := by
  subst hq
  intro p l e s m args below meth c H locs cells slots ls Rm mc ms D K C
  exact lv_iadd C.1 C.2.1 hd  (kk _ _ _ _ _ _ _ _ _ _ _ _ _ _ _ _ _ _ _ C)
theorem v_isub {x y : Int32} (hd : decode M.2.1 pc = .ok (.isub, 1))  (hq : pc + 1 = q := by rfl) (kk : V g M d kc ks S I R z q L (.int (x - y) :: st) Q) : V g M d kc ks S I R z pc L (.int y :: .int x :: st) Q := by
  subst hq
  intro p l e s m args below meth c H locs cells slots ls Rm mc ms D K C
  exact lv_isub C.1 C.2.1 hd  (kk _ _ _ _ _ _ _ _ _ _ _ _ _ _ _ _ _ _ _ C)
theorem v_imul {x y : Int32} (hd : decode M.2.1 pc = .ok (.imul, 1))  (hq : pc + 1 = q := by rfl) (kk : V g M d kc ks S I R z q L (.int (x * y) :: st) Q) : V g M d kc ks S I R z pc L (.int y :: .int x :: st) Q := by
  subst hq
  intro p l e s m args below meth c H locs cells slots ls Rm mc ms D K C
  exact lv_imul C.1 C.2.1 hd  (kk _ _ _ _ _ _ _ _ _ _ _ _ _ _ _ _ _ _ _ C)
theorem v_iand {x y : Int32} (hd : decode M.2.1 pc = .ok (.iand, 1))  (hq : pc + 1 = q := by rfl) (kk : V g M d kc ks S I R z q L (.int (x &&& y) :: st) Q) : V g M d kc ks S I R z pc L (.int y :: .int x :: st) Q := by
  subst hq
  intro p l e s m args below meth c H locs cells slots ls Rm mc ms D K C
  exact lv_iand C.1 C.2.1 hd  (kk _ _ _ _ _ _ _ _ _ _ _ _ _ _ _ _ _ _ _ C)
theorem v_ior {x y : Int32} (hd : decode M.2.1 pc = .ok (.ior, 1))  (hq : pc + 1 = q := by rfl) (kk : V g M d kc ks S I R z q L (.int (x ||| y) :: st) Q) : V g M d kc ks S I R z pc L (.int y :: .int x :: st) Q := by
  subst hq
  intro p l e s m args below meth c H locs cells slots ls Rm mc ms D K C
  exact lv_ior C.1 C.2.1 hd  (kk _ _ _ _ _ _ _ _ _ _ _ _ _ _ _ _ _ _ _ C)
theorem v_ishl {x y : Int32} (hd : decode M.2.1 pc = .ok (.ishl, 1))  (hq : pc + 1 = q := by rfl) (kk : V g M d kc ks S I R z q L (.int (x <<< (y &&& 31)) :: st) Q) : V g M d kc ks S I R z pc L (.int y :: .int x :: st) Q := by
  subst hq
  intro p l e s m args below meth c H locs cells slots ls Rm mc ms D K C
  exact lv_ishl C.1 C.2.1 hd  (kk _ _ _ _ _ _ _ _ _ _ _ _ _ _ _ _ _ _ _ C)
theorem v_ishr {x y : Int32} (hd : decode M.2.1 pc = .ok (.ishr, 1))  (hq : pc + 1 = q := by rfl) (kk : V g M d kc ks S I R z q L (.int (x >>> (y &&& 31)) :: st) Q) : V g M d kc ks S I R z pc L (.int y :: .int x :: st) Q := by
  subst hq
  intro p l e s m args below meth c H locs cells slots ls Rm mc ms D K C
  exact lv_ishr C.1 C.2.1 hd  (kk _ _ _ _ _ _ _ _ _ _ _ _ _ _ _ _ _ _ _ C)
theorem v_idiv {x y : Int32} (hd : decode M.2.1 pc = .ok (.idiv, 1)) (hne : ¬ y = 0) (hq : pc + 1 = q := by rfl) (kk : V g M d kc ks S I R z q L (.int (x / y) :: st) Q) : V g M d kc ks S I R z pc L (.int y :: .int x :: st) Q := by
  subst hq
  intro p l e s m args below meth c H locs cells slots ls Rm mc ms D K C
  exact lv_idiv C.1 C.2.1 hd hne (kk _ _ _ _ _ _ _ _ _ _ _ _ _ _ _ _ _ _ _ C)
theorem v_irem {x y : Int32} (hd : decode M.2.1 pc = .ok (.irem, 1)) (hne : ¬ y = 0) (hq : pc + 1 = q := by rfl) (kk : V g M d kc ks S I R z q L (.int (x - x / y * y) :: st) Q) : V g M d kc ks S I R z pc L (.int y :: .int x :: st) Q := by
  subst hq
  intro p l e s m args below meth c H locs cells slots ls Rm mc ms D K C
  exact lv_irem C.1 C.2.1 hd hne (kk _ _ _ _ _ _ _ _ _ _ _ _ _ _ _ _ _ _ _ C)
theorem v_ineg {x : Int32} (hd : decode M.2.1 pc = .ok (.ineg, 1))  (hq : pc + 1 = q := by rfl) (kk : V g M d kc ks S I R z q L (.int (-x) :: st) Q) : V g M d kc ks S I R z pc L (.int x :: st) Q := by
  subst hq
  intro p l e s m args below meth c H locs cells slots ls Rm mc ms D K C
  exact lv_ineg C.1 C.2.1 hd  (kk _ _ _ _ _ _ _ _ _ _ _ _ _ _ _ _ _ _ _ C)
theorem v_iushr {x y v : Int32} (hd : decode M.2.1 pc = .ok (.iushr, 1)) (hv : (x.toUInt32 >>> (y.toUInt32 &&& Int32.toUInt32 31)).toInt32 = v := by rfl) (hq : pc + 1 = q := by rfl) (kk : V g M d kc ks S I R z q L (.int v :: st) Q) : V g M d kc ks S I R z pc L (.int y :: .int x :: st) Q := by
  subst hq
  intro p l e s m args below meth c H locs cells slots ls Rm mc ms D K C
  exact lv_iushr C.1 C.2.1 hd hv (kk _ _ _ _ _ _ _ _ _ _ _ _ _ _ _ _ _ _ _ C)
theorem v_i2b {x v : Int32} (hd : decode M.2.1 pc = .ok (.i2b, 1)) (hv : x.toInt8.toInt32 = v := by rfl) (hq : pc + 1 = q := by rfl) (kk : V g M d kc ks S I R z q L (.int v :: st) Q) : V g M d kc ks S I R z pc L (.int x :: st) Q := by
  subst hq
  intro p l e s m args below meth c H locs cells slots ls Rm mc ms D K C
  exact lv_i2b C.1 C.2.1 hd hv (kk _ _ _ _ _ _ _ _ _ _ _ _ _ _ _ _ _ _ _ C)
theorem v_i2s {x v : Int32} (hd : decode M.2.1 pc = .ok (.i2s, 1)) (hv : x.toInt16.toInt32 = v := by rfl) (hq : pc + 1 = q := by rfl) (kk : V g M d kc ks S I R z q L (.int v :: st) Q) : V g M d kc ks S I R z pc L (.int x :: st) Q := by
  subst hq
  intro p l e s m args below meth c H locs cells slots ls Rm mc ms D K C
  exact lv_i2s C.1 C.2.1 hd hv (kk _ _ _ _ _ _ _ _ _ _ _ _ _ _ _ _ _ _ _ C)
theorem v_i2c {x v : Int32} (hd : decode M.2.1 pc = .ok (.i2c, 1)) (hv : (x.toUInt32 % 65536).toInt32 = v := by rfl) (hq : pc + 1 = q := by rfl) (kk : V g M d kc ks S I R z q L (.int v :: st) Q) : V g M d kc ks S I R z pc L (.int x :: st) Q := by
  subst hq
  intro p l e s m args below meth c H locs cells slots ls Rm mc ms D K C
  exact lv_i2c C.1 C.2.1 hd hv (kk _ _ _ _ _ _ _ _ _ _ _ _ _ _ _ _ _ _ _ C)
theorem v_dup {x : Value} (hd : decode M.2.1 pc = .ok (.dup, 1)) (hx : x.category = 1 := by rfl) (hq : pc + 1 = q := by rfl) (kk : V g M d kc ks S I R z q L (x :: x :: st) Q) : V g M d kc ks S I R z pc L (x :: st) Q := by
  subst hq
  intro p l e s m args below meth c H locs cells slots ls Rm mc ms D K C
  exact lv_dup C.1 C.2.1 hd hx (kk _ _ _ _ _ _ _ _ _ _ _ _ _ _ _ _ _ _ _ C)
theorem v_pop {x : Value} (hd : decode M.2.1 pc = .ok (.pop, 1)) (hx : x.category = 1 := by rfl) (hq : pc + 1 = q := by rfl) (kk : V g M d kc ks S I R z q L st Q) : V g M d kc ks S I R z pc L (x :: st) Q := by
  subst hq
  intro p l e s m args below meth c H locs cells slots ls Rm mc ms D K C
  exact lv_pop C.1 C.2.1 hd hx (kk _ _ _ _ _ _ _ _ _ _ _ _ _ _ _ _ _ _ _ C)
theorem v_dup2 {x y : Value} (hd : decode M.2.1 pc = .ok (.dup2, 1)) (hx : x.category = 1 := by rfl) (hy : y.category = 1 := by rfl) (hq : pc + 1 = q := by rfl) (kk : V g M d kc ks S I R z q L (x :: y :: x :: y :: st) Q) : V g M d kc ks S I R z pc L (x :: y :: st) Q := by
  subst hq
  intro p l e s m args below meth c H locs cells slots ls Rm mc ms D K C
  exact lv_dup2_11 C.1 C.2.1 hd hx hy (kk _ _ _ _ _ _ _ _ _ _ _ _ _ _ _ _ _ _ _ C)
theorem v_iload_n {k : Fin 4} {x : Int32} (hd : decode M.2.1 pc = .ok (.iload_n k, 1)) (hl : L[k.val]? = some (some (.int x)) := by rfl) (hq : pc + 1 = q := by rfl) (kk : V g M d kc ks S I R z q L (.int x :: st) Q) : V g M d kc ks S I R z pc L st Q := by
  subst hq
  intro p l e s m args below meth c H locs cells slots ls Rm mc ms D K C
  exact lv_iload_n C.1 C.2.1 hd rfl (C.2.2.2.2.2.2.2.2.2.2.2.2.2.1.get hl) (kk _ _ _ _ _ _ _ _ _ _ _ _ _ _ _ _ _ _ _ C)
theorem v_iload {k : Nat} {x : Int32} (hd : decode M.2.1 pc = .ok (.iload k, 2)) (hl : L[k]? = some (some (.int x)) := by rfl) (hq : pc + 2 = q := by rfl) (kk : V g M d kc ks S I R z q L (.int x :: st) Q) : V g M d kc ks S I R z pc L st Q := by
  subst hq
  intro p l e s m args below meth c H locs cells slots ls Rm mc ms D K C
  exact lv_iload C.1 C.2.1 hd (C.2.2.2.2.2.2.2.2.2.2.2.2.2.1.get hl) (kk _ _ _ _ _ _ _ _ _ _ _ _ _ _ _ _ _ _ _ C)
theorem v_aload_n {k : Fin 4} {x : Nat} (hd : decode M.2.1 pc = .ok (.aload_n k, 1)) (hl : L[k.val]? = some (some (.ref x)) := by rfl) (hq : pc + 1 = q := by rfl) (kk : V g M d kc ks S I R z q L (.ref x :: st) Q) : V g M d kc ks S I R z pc L st Q := by
  subst hq
  intro p l e s m args below meth c H locs cells slots ls Rm mc ms D K C
  exact lv_aload_n C.1 C.2.1 hd rfl (C.2.2.2.2.2.2.2.2.2.2.2.2.2.1.get hl) (kk _ _ _ _ _ _ _ _ _ _ _ _ _ _ _ _ _ _ _ C)
theorem v_aload {k : Nat} {x : Nat} (hd : decode M.2.1 pc = .ok (.aload k, 2)) (hl : L[k]? = some (some (.ref x)) := by rfl) (hq : pc + 2 = q := by rfl) (kk : V g M d kc ks S I R z q L (.ref x :: st) Q) : V g M d kc ks S I R z pc L st Q := by
  subst hq
  intro p l e s m args below meth c H locs cells slots ls Rm mc ms D K C
  exact lv_aload C.1 C.2.1 hd (C.2.2.2.2.2.2.2.2.2.2.2.2.2.1.get hl) (kk _ _ _ _ _ _ _ _ _ _ _ _ _ _ _ _ _ _ _ C)
theorem v_aload_nN {k : Fin 4} (hd : decode M.2.1 pc = .ok (.aload_n k, 1)) (hl : L[k.val]? = some (some .null) := by rfl) (hq : pc + 1 = q := by rfl) (kk : V g M d kc ks S I R z q L (.null :: st) Q) : V g M d kc ks S I R z pc L st Q := by
  subst hq
  intro p l e s m args below meth c H locs cells slots ls Rm mc ms D K C
  exact lv_aload_nN C.1 C.2.1 hd rfl (C.2.2.2.2.2.2.2.2.2.2.2.2.2.1.get hl) (kk _ _ _ _ _ _ _ _ _ _ _ _ _ _ _ _ _ _ _ C)
theorem v_aloadN {k : Nat} (hd : decode M.2.1 pc = .ok (.aload k, 2)) (hl : L[k]? = some (some .null) := by rfl) (hq : pc + 2 = q := by rfl) (kk : V g M d kc ks S I R z q L (.null :: st) Q) : V g M d kc ks S I R z pc L st Q := by
  subst hq
  intro p l e s m args below meth c H locs cells slots ls Rm mc ms D K C
  exact lv_aloadN C.1 C.2.1 hd (C.2.2.2.2.2.2.2.2.2.2.2.2.2.1.get hl) (kk _ _ _ _ _ _ _ _ _ _ _ _ _ _ _ _ _ _ _ C)
theorem v_istore_n {k : Fin 4} {x : Int32} (hd : decode M.2.1 pc = .ok (.istore_n k, 1)) (hi : k.val < L.length := by decide) (hq : pc + 1 = q := by rfl) (kk : V g M d kc ks S I R z q (L.set k.val (some (.int x))) st Q) : V g M d kc ks S I R z pc L ((.int x) :: st) Q := by
  subst hq
  intro p l e s m args below meth c H locs cells slots ls Rm mc ms D K C
  obtain ⟨hx, hb, hml, hr, hlk, hown, hnm, hts, hG, hbs, hw, hz, hS, hL, hR⟩ := C
  refine lv_istore_n hx hb hd rfl hL.1 (by rw [← hL.2.1]; exact hi) rfl (fun ls' hl' => ?_)
  exact kk _ _ _ _ _ _ _ _ _ _ _ _ _ _ _ _ _ _ _ ⟨hx, hb, hml, hr, hlk, hown, hnm, hts, hG, hbs, hw, hz, hS, hL.put rfl hl', hR⟩
theorem v_istore {k : Nat} {x : Int32} (hd : decode M.2.1 pc = .ok (.istore k, 2)) (hi : k < L.length := by decide) (hq : pc + 2 = q := by rfl) (kk : V g M d kc ks S I R z q (L.set k (some (.int x))) st Q) : V g M d kc ks S I R z pc L ((.int x) :: st) Q := by
  subst hq
  intro p l e s m args below meth c H locs cells slots ls Rm mc ms D K C
  obtain ⟨hx, hb, hml, hr, hlk, hown, hnm, hts, hG, hbs, hw, hz, hS, hL, hR⟩ := C
  refine lv_istore hx hb hd hL.1 (by rw [← hL.2.1]; exact hi) rfl (fun ls' hl' => ?_)
  exact kk _ _ _ _ _ _ _ _ _ _ _ _ _ _ _ _ _ _ _ ⟨hx, hb, hml, hr, hlk, hown, hnm, hts, hG, hbs, hw, hz, hS, hL.put rfl hl', hR⟩
theorem v_astore_n {k : Fin 4} {x : Nat} (hd : decode M.2.1 pc = .ok (.astore_n k, 1)) (hi : k.val < L.length := by decide) (hq : pc + 1 = q := by rfl) (kk : V g M d kc ks S I R z q (L.set k.val (some (.ref x))) st Q) : V g M d kc ks S I R z pc L ((.ref x) :: st) Q := by
  subst hq
  intro p l e s m args below meth c H locs cells slots ls Rm mc ms D K C
  obtain ⟨hx, hb, hml, hr, hlk, hown, hnm, hts, hG, hbs, hw, hz, hS, hL, hR⟩ := C
  refine lv_astore_n hx hb hd rfl hL.1 (by rw [← hL.2.1]; exact hi) rfl (fun ls' hl' => ?_)
  exact kk _ _ _ _ _ _ _ _ _ _ _ _ _ _ _ _ _ _ _ ⟨hx, hb, hml, hr, hlk, hown, hnm, hts, hG, hbs, hw, hz, hS, hL.put rfl hl', hR⟩
theorem v_astore {k : Nat} {x : Nat} (hd : decode M.2.1 pc = .ok (.astore k, 2)) (hi : k < L.length := by decide) (hq : pc + 2 = q := by rfl) (kk : V g M d kc ks S I R z q (L.set k (some (.ref x))) st Q) : V g M d kc ks S I R z pc L ((.ref x) :: st) Q := by
  subst hq
  intro p l e s m args below meth c H locs cells slots ls Rm mc ms D K C
  obtain ⟨hx, hb, hml, hr, hlk, hown, hnm, hts, hG, hbs, hw, hz, hS, hL, hR⟩ := C
  refine lv_astore hx hb hd hL.1 (by rw [← hL.2.1]; exact hi) rfl (fun ls' hl' => ?_)
  exact kk _ _ _ _ _ _ _ _ _ _ _ _ _ _ _ _ _ _ _ ⟨hx, hb, hml, hr, hlk, hown, hnm, hts, hG, hbs, hw, hz, hS, hL.put rfl hl', hR⟩
theorem v_astore_nN {k : Fin 4} (hd : decode M.2.1 pc = .ok (.astore_n k, 1)) (hi : k.val < L.length := by decide) (hq : pc + 1 = q := by rfl) (kk : V g M d kc ks S I R z q (L.set k.val (some (.null))) st Q) : V g M d kc ks S I R z pc L ((.null) :: st) Q := by
  subst hq
  intro p l e s m args below meth c H locs cells slots ls Rm mc ms D K C
  obtain ⟨hx, hb, hml, hr, hlk, hown, hnm, hts, hG, hbs, hw, hz, hS, hL, hR⟩ := C
  refine lv_astore_nN hx hb hd rfl hL.1 (by rw [← hL.2.1]; exact hi) rfl (fun ls' hl' => ?_)
  exact kk _ _ _ _ _ _ _ _ _ _ _ _ _ _ _ _ _ _ _ ⟨hx, hb, hml, hr, hlk, hown, hnm, hts, hG, hbs, hw, hz, hS, hL.put rfl hl', hR⟩
theorem v_astoreN {k : Nat} (hd : decode M.2.1 pc = .ok (.astore k, 2)) (hi : k < L.length := by decide) (hq : pc + 2 = q := by rfl) (kk : V g M d kc ks S I R z q (L.set k (some (.null))) st Q) : V g M d kc ks S I R z pc L ((.null) :: st) Q := by
  subst hq
  intro p l e s m args below meth c H locs cells slots ls Rm mc ms D K C
  obtain ⟨hx, hb, hml, hr, hlk, hown, hnm, hts, hG, hbs, hw, hz, hS, hL, hR⟩ := C
  refine lv_astoreN hx hb hd hL.1 (by rw [← hL.2.1]; exact hi) rfl (fun ls' hl' => ?_)
  exact kk _ _ _ _ _ _ _ _ _ _ _ _ _ _ _ _ _ _ _ ⟨hx, hb, hml, hr, hlk, hown, hnm, hts, hG, hbs, hw, hz, hS, hL.put rfl hl', hR⟩
theorem v_iinc {k : Nat} {n : Int} {x v : Int32} (hd : decode M.2.1 pc = .ok (.iinc k n, 3)) (hl : L[k]? = some (some (.int x)) := by rfl) (hv : x + Int32.ofInt n = v := by rfl) (hq : pc + 3 = q := by rfl) (kk : V g M d kc ks S I R z q (L.set k (some (.int v))) st Q) : V g M d kc ks S I R z pc L st Q := by
  subst hq
  intro p l e s m args below meth c H locs cells slots ls Rm mc ms D K C
  obtain ⟨hx, hb, hml, hr, hlk, hown, hnm, hts, hG, hbs, hw, hz, hS, hL, hR⟩ := C
  obtain ⟨k2, hk2⟩ := List.getElem?_of_mem ((hc_ps_mem L 0 k (.int x)).mpr ⟨Nat.zero_le _, hl⟩)
  refine lv_iinc hx hb hd hL.1 hk2 hv (hL.lt hl) rfl (fun ls' hl' => ?_)
  exact kk _ _ _ _ _ _ _ _ _ _ _ _ _ _ _ _ _ _ _ ⟨hx, hb, hml, hr, hlk, hown, hnm, hts, hG, hbs, hw, hz, hS, hL.put rfl hl', hR⟩
theorem v_istore0 {y0 : Option Value} {r : List (Option Value)} {x : Int32} (hd : decode M.2.1 pc = .ok (.istore_n 0, 1)) (hq : pc + 1 = q := by rfl) (kk : V g M d kc ks S I R z q (some (.int x) :: r) st Q) : V g M d kc ks S I R z pc (y0 :: r) ((.int x) :: st) Q := v_istore_n hd (by show 0 < _; simp only [List.length_cons]; omega) hq kk
theorem v_astore0 {y0 : Option Value} {r : List (Option Value)} {x : Nat} (hd : decode M.2.1 pc = .ok (.astore_n 0, 1)) (hq : pc + 1 = q := by rfl) (kk : V g M d kc ks S I R z q (some (.ref x) :: r) st Q) : V g M d kc ks S I R z pc (y0 :: r) ((.ref x) :: st) Q := v_astore_n hd (by show 0 < _; simp only [List.length_cons]; omega) hq kk
theorem v_astoreN0 {y0 : Option Value} {r : List (Option Value)}  (hd : decode M.2.1 pc = .ok (.astore_n 0, 1)) (hq : pc + 1 = q := by rfl) (kk : V g M d kc ks S I R z q (some (.null) :: r) st Q) : V g M d kc ks S I R z pc (y0 :: r) ((.null) :: st) Q := v_astore_nN hd (by show 0 < _; simp only [List.length_cons]; omega) hq kk
theorem v_iinc0 {r : List (Option Value)} {n : Int} {x v : Int32} (hd : decode M.2.1 pc = .ok (.iinc 0 n, 3)) (hv : x + Int32.ofInt n = v := by rfl) (hq : pc + 3 = q := by rfl) (kk : V g M d kc ks S I R z q (some (.int v) :: r) st Q) : V g M d kc ks S I R z pc (some (.int x) :: r) st Q := v_iinc hd rfl hv hq kk
theorem v_istore1 {x0 y0 : Option Value} {r : List (Option Value)} {x : Int32} (hd : decode M.2.1 pc = .ok (.istore_n 1, 1)) (hq : pc + 1 = q := by rfl) (kk : V g M d kc ks S I R z q (x0 :: some (.int x) :: r) st Q) : V g M d kc ks S I R z pc (x0 :: y0 :: r) ((.int x) :: st) Q := v_istore_n hd (by show 1 < _; simp only [List.length_cons]; omega) hq kk
theorem v_astore1 {x0 y0 : Option Value} {r : List (Option Value)} {x : Nat} (hd : decode M.2.1 pc = .ok (.astore_n 1, 1)) (hq : pc + 1 = q := by rfl) (kk : V g M d kc ks S I R z q (x0 :: some (.ref x) :: r) st Q) : V g M d kc ks S I R z pc (x0 :: y0 :: r) ((.ref x) :: st) Q := v_astore_n hd (by show 1 < _; simp only [List.length_cons]; omega) hq kk
theorem v_astoreN1 {x0 y0 : Option Value} {r : List (Option Value)}  (hd : decode M.2.1 pc = .ok (.astore_n 1, 1)) (hq : pc + 1 = q := by rfl) (kk : V g M d kc ks S I R z q (x0 :: some (.null) :: r) st Q) : V g M d kc ks S I R z pc (x0 :: y0 :: r) ((.null) :: st) Q := v_astore_nN hd (by show 1 < _; simp only [List.length_cons]; omega) hq kk
theorem v_iinc1 {x0 : Option Value} {r : List (Option Value)} {n : Int} {x v : Int32} (hd : decode M.2.1 pc = .ok (.iinc 1 n, 3)) (hv : x + Int32.ofInt n = v := by rfl) (hq : pc + 3 = q := by rfl) (kk : V g M d kc ks S I R z q (x0 :: some (.int v) :: r) st Q) : V g M d kc ks S I R z pc (x0 :: some (.int x) :: r) st Q := v_iinc hd rfl hv hq kk
theorem v_istore2 {x0 x1 y0 : Option Value} {r : List (Option Value)} {x : Int32} (hd : decode M.2.1 pc = .ok (.istore_n 2, 1)) (hq : pc + 1 = q := by rfl) (kk : V g M d kc ks S I R z q (x0 :: x1 :: some (.int x) :: r) st Q) : V g M d kc ks S I R z pc (x0 :: x1 :: y0 :: r) ((.int x) :: st) Q := v_istore_n hd (by show 2 < _; simp only [List.length_cons]; omega) hq kk
theorem v_astore2 {x0 x1 y0 : Option Value} {r : List (Option Value)} {x : Nat} (hd : decode M.2.1 pc = .ok (.astore_n 2, 1)) (hq : pc + 1 = q := by rfl) (kk : V g M d kc ks S I R z q (x0 :: x1 :: some (.ref x) :: r) st Q) : V g M d kc ks S I R z pc (x0 :: x1 :: y0 :: r) ((.ref x) :: st) Q := v_astore_n hd (by show 2 < _; simp only [List.length_cons]; omega) hq kk
theorem v_astoreN2 {x0 x1 y0 : Option Value} {r : List (Option Value)}  (hd : decode M.2.1 pc = .ok (.astore_n 2, 1)) (hq : pc + 1 = q := by rfl) (kk : V g M d kc ks S I R z q (x0 :: x1 :: some (.null) :: r) st Q) : V g M d kc ks S I R z pc (x0 :: x1 :: y0 :: r) ((.null) :: st) Q := v_astore_nN hd (by show 2 < _; simp only [List.length_cons]; omega) hq kk
theorem v_iinc2 {x0 x1 : Option Value} {r : List (Option Value)} {n : Int} {x v : Int32} (hd : decode M.2.1 pc = .ok (.iinc 2 n, 3)) (hv : x + Int32.ofInt n = v := by rfl) (hq : pc + 3 = q := by rfl) (kk : V g M d kc ks S I R z q (x0 :: x1 :: some (.int v) :: r) st Q) : V g M d kc ks S I R z pc (x0 :: x1 :: some (.int x) :: r) st Q := v_iinc hd rfl hv hq kk
theorem v_istore3 {x0 x1 x2 y0 : Option Value} {r : List (Option Value)} {x : Int32} (hd : decode M.2.1 pc = .ok (.istore_n 3, 1)) (hq : pc + 1 = q := by rfl) (kk : V g M d kc ks S I R z q (x0 :: x1 :: x2 :: some (.int x) :: r) st Q) : V g M d kc ks S I R z pc (x0 :: x1 :: x2 :: y0 :: r) ((.int x) :: st) Q := v_istore_n hd (by show 3 < _; simp only [List.length_cons]; omega) hq kk
theorem v_astore3 {x0 x1 x2 y0 : Option Value} {r : List (Option Value)} {x : Nat} (hd : decode M.2.1 pc = .ok (.astore_n 3, 1)) (hq : pc + 1 = q := by rfl) (kk : V g M d kc ks S I R z q (x0 :: x1 :: x2 :: some (.ref x) :: r) st Q) : V g M d kc ks S I R z pc (x0 :: x1 :: x2 :: y0 :: r) ((.ref x) :: st) Q := v_astore_n hd (by show 3 < _; simp only [List.length_cons]; omega) hq kk
theorem v_astoreN3 {x0 x1 x2 y0 : Option Value} {r : List (Option Value)}  (hd : decode M.2.1 pc = .ok (.astore_n 3, 1)) (hq : pc + 1 = q := by rfl) (kk : V g M d kc ks S I R z q (x0 :: x1 :: x2 :: some (.null) :: r) st Q) : V g M d kc ks S I R z pc (x0 :: x1 :: x2 :: y0 :: r) ((.null) :: st) Q := v_astore_nN hd (by show 3 < _; simp only [List.length_cons]; omega) hq kk
theorem v_iinc3 {x0 x1 x2 : Option Value} {r : List (Option Value)} {n : Int} {x v : Int32} (hd : decode M.2.1 pc = .ok (.iinc 3 n, 3)) (hv : x + Int32.ofInt n = v := by rfl) (hq : pc + 3 = q := by rfl) (kk : V g M d kc ks S I R z q (x0 :: x1 :: x2 :: some (.int v) :: r) st Q) : V g M d kc ks S I R z pc (x0 :: x1 :: x2 :: some (.int x) :: r) st Q := v_iinc hd rfl hv hq kk
theorem v_istore4 {x0 x1 x2 x3 y0 : Option Value} {r : List (Option Value)} {x : Int32} (hd : decode M.2.1 pc = .ok (.istore 4, 2)) (hq : pc + 2 = q := by rfl) (kk : V g M d kc ks S I R z q (x0 :: x1 :: x2 :: x3 :: some (.int x) :: r) st Q) : V g M d kc ks S I R z pc (x0 :: x1 :: x2 :: x3 :: y0 :: r) ((.int x) :: st) Q := v_istore hd (by simp only [List.length_cons]; omega) hq kk
theorem v_astore4 {x0 x1 x2 x3 y0 : Option Value} {r : List (Option Value)} {x : Nat} (hd : decode M.2.1 pc = .ok (.astore 4, 2)) (hq : pc + 2 = q := by rfl) (kk : V g M d kc ks S I R z q (x0 :: x1 :: x2 :: x3 :: some (.ref x) :: r) st Q) : V g M d kc ks S I R z pc (x0 :: x1 :: x2 :: x3 :: y0 :: r) ((.ref x) :: st) Q := v_astore hd (by simp only [List.length_cons]; omega) hq kk
theorem v_astoreN4 {x0 x1 x2 x3 y0 : Option Value} {r : List (Option Value)}  (hd : decode M.2.1 pc = .ok (.astore 4, 2)) (hq : pc + 2 = q := by rfl) (kk : V g M d kc ks S I R z q (x0 :: x1 :: x2 :: x3 :: some (.null) :: r) st Q) : V g M d kc ks S I R z pc (x0 :: x1 :: x2 :: x3 :: y0 :: r) ((.null) :: st) Q := v_astoreN hd (by simp only [List.length_cons]; omega) hq kk
theorem v_iinc4 {x0 x1 x2 x3 : Option Value} {r : List (Option Value)} {n : Int} {x v : Int32} (hd : decode M.2.1 pc = .ok (.iinc 4 n, 3)) (hv : x + Int32.ofInt n = v := by rfl) (hq : pc + 3 = q := by rfl) (kk : V g M d kc ks S I R z q (x0 :: x1 :: x2 :: x3 :: some (.int v) :: r) st Q) : V g M d kc ks S I R z pc (x0 :: x1 :: x2 :: x3 :: some (.int x) :: r) st Q := v_iinc hd rfl hv hq kk
theorem v_istore5 {x0 x1 x2 x3 x4 y0 : Option Value} {r : List (Option Value)} {x : Int32} (hd : decode M.2.1 pc = .ok (.istore 5, 2)) (hq : pc + 2 = q := by rfl) (kk : V g M d kc ks S I R z q (x0 :: x1 :: x2 :: x3 :: x4 :: some (.int x) :: r) st Q) : V g M d kc ks S I R z pc (x0 :: x1 :: x2 :: x3 :: x4 :: y0 :: r) ((.int x) :: st) Q := v_istore hd (by simp only [List.length_cons]; omega) hq kk
theorem v_astore5 {x0 x1 x2 x3 x4 y0 : Option Value} {r : List (Option Value)} {x : Nat} (hd : decode M.2.1 pc = .ok (.astore 5, 2)) (hq : pc + 2 = q := by rfl) (kk : V g M d kc ks S I R z q (x0 :: x1 :: x2 :: x3 :: x4 :: some (.ref x) :: r) st Q) : V g M d kc ks S I R z pc (x0 :: x1 :: x2 :: x3 :: x4 :: y0 :: r) ((.ref x) :: st) Q := v_astore hd (by simp only [List.length_cons]; omega) hq kk
theorem v_astoreN5 {x0 x1 x2 x3 x4 y0 : Option Value} {r : List (Option Value)}  (hd : decode M.2.1 pc = .ok (.astore 5, 2)) (hq : pc + 2 = q := by rfl) (kk : V g M d kc ks S I R z q (x0 :: x1 :: x2 :: x3 :: x4 :: some (.null) :: r) st Q) : V g M d kc ks S I R z pc (x0 :: x1 :: x2 :: x3 :: x4 :: y0 :: r) ((.null) :: st) Q := v_astoreN hd (by simp only [List.length_cons]; omega) hq kk
theorem v_iinc5 {x0 x1 x2 x3 x4 : Option Value} {r : List (Option Value)} {n : Int} {x v : Int32} (hd : decode M.2.1 pc = .ok (.iinc 5 n, 3)) (hv : x + Int32.ofInt n = v := by rfl) (hq : pc + 3 = q := by rfl) (kk : V g M d kc ks S I R z q (x0 :: x1 :: x2 :: x3 :: x4 :: some (.int v) :: r) st Q) : V g M d kc ks S I R z pc (x0 :: x1 :: x2 :: x3 :: x4 :: some (.int x) :: r) st Q := v_iinc hd rfl hv hq kk
theorem v_istore6 {x0 x1 x2 x3 x4 x5 y0 : Option Value} {r : List (Option Value)} {x : Int32} (hd : decode M.2.1 pc = .ok (.istore 6, 2)) (hq : pc + 2 = q := by rfl) (kk : V g M d kc ks S I R z q (x0 :: x1 :: x2 :: x3 :: x4 :: x5 :: some (.int x) :: r) st Q) : V g M d kc ks S I R z pc (x0 :: x1 :: x2 :: x3 :: x4 :: x5 :: y0 :: r) ((.int x) :: st) Q := v_istore hd (by simp only [List.length_cons]; omega) hq kk
theorem v_astore6 {x0 x1 x2 x3 x4 x5 y0 : Option Value} {r : List (Option Value)} {x : Nat} (hd : decode M.2.1 pc = .ok (.astore 6, 2)) (hq : pc + 2 = q := by rfl) (kk : V g M d kc ks S I R z q (x0 :: x1 :: x2 :: x3 :: x4 :: x5 :: some (.ref x) :: r) st Q) : V g M d kc ks S I R z pc (x0 :: x1 :: x2 :: x3 :: x4 :: x5 :: y0 :: r) ((.ref x) :: st) Q := v_astore hd (by simp only [List.length_cons]; omega) hq kk
theorem v_astoreN6 {x0 x1 x2 x3 x4 x5 y0 : Option Value} {r : List (Option Value)}  (hd : decode M.2.1 pc = .ok (.astore 6, 2)) (hq : pc + 2 = q := by rfl) (kk : V g M d kc ks S I R z q (x0 :: x1 :: x2 :: x3 :: x4 :: x5 :: some (.null) :: r) st Q) : V g M d kc ks S I R z pc (x0 :: x1 :: x2 :: x3 :: x4 :: x5 :: y0 :: r) ((.null) :: st) Q := v_astoreN hd (by simp only [List.length_cons]; omega) hq kk
theorem v_iinc6 {x0 x1 x2 x3 x4 x5 : Option Value} {r : List (Option Value)} {n : Int} {x v : Int32} (hd : decode M.2.1 pc = .ok (.iinc 6 n, 3)) (hv : x + Int32.ofInt n = v := by rfl) (hq : pc + 3 = q := by rfl) (kk : V g M d kc ks S I R z q (x0 :: x1 :: x2 :: x3 :: x4 :: x5 :: some (.int v) :: r) st Q) : V g M d kc ks S I R z pc (x0 :: x1 :: x2 :: x3 :: x4 :: x5 :: some (.int x) :: r) st Q := v_iinc hd rfl hv hq kk
theorem v_istore7 {x0 x1 x2 x3 x4 x5 x6 y0 : Option Value} {r : List (Option Value)} {x : Int32} (hd : decode M.2.1 pc = .ok (.istore 7, 2)) (hq : pc + 2 = q := by rfl) (kk : V g M d kc ks S I R z q (x0 :: x1 :: x2 :: x3 :: x4 :: x5 :: x6 :: some (.int x) :: r) st Q) : V g M d kc ks S I R z pc (x0 :: x1 :: x2 :: x3 :: x4 :: x5 :: x6 :: y0 :: r) ((.int x) :: st) Q := v_istore hd (by simp only [List.length_cons]; omega) hq kk
theorem v_astore7 {x0 x1 x2 x3 x4 x5 x6 y0 : Option Value} {r : List (Option Value)} {x : Nat} (hd : decode M.2.1 pc = .ok (.astore 7, 2)) (hq : pc + 2 = q := by rfl) (kk : V g M d kc ks S I R z q (x0 :: x1 :: x2 :: x3 :: x4 :: x5 :: x6 :: some (.ref x) :: r) st Q) : V g M d kc ks S I R z pc (x0 :: x1 :: x2 :: x3 :: x4 :: x5 :: x6 :: y0 :: r) ((.ref x) :: st) Q := v_astore hd (by simp only [List.length_cons]; omega) hq kk
theorem v_astoreN7 {x0 x1 x2 x3 x4 x5 x6 y0 : Option Value} {r : List (Option Value)}  (hd : decode M.2.1 pc = .ok (.astore 7, 2)) (hq : pc + 2 = q := by rfl) (kk : V g M d kc ks S I R z q (x0 :: x1 :: x2 :: x3 :: x4 :: x5 :: x6 :: some (.null) :: r) st Q) : V g M d kc ks S I R z pc (x0 :: x1 :: x2 :: x3 :: x4 :: x5 :: x6 :: y0 :: r) ((.null) :: st) Q := v_astoreN hd (by simp only [List.length_cons]; omega) hq kk
theorem v_iinc7 {x0 x1 x2 x3 x4 x5 x6 : Option Value} {r : List (Option Value)} {n : Int} {x v : Int32} (hd : decode M.2.1 pc = .ok (.iinc 7 n, 3)) (hv : x + Int32.ofInt n = v := by rfl) (hq : pc + 3 = q := by rfl) (kk : V g M d kc ks S I R z q (x0 :: x1 :: x2 :: x3 :: x4 :: x5 :: x6 :: some (.int v) :: r) st Q) : V g M d kc ks S I R z pc (x0 :: x1 :: x2 :: x3 :: x4 :: x5 :: x6 :: some (.int x) :: r) st Q := v_iinc hd rfl hv hq kk
theorem v_istore8 {x0 x1 x2 x3 x4 x5 x6 x7 y0 : Option Value} {r : List (Option Value)} {x : Int32} (hd : decode M.2.1 pc = .ok (.istore 8, 2)) (hq : pc + 2 = q := by rfl) (kk : V g M d kc ks S I R z q (x0 :: x1 :: x2 :: x3 :: x4 :: x5 :: x6 :: x7 :: some (.int x) :: r) st Q) : V g M d kc ks S I R z pc (x0 :: x1 :: x2 :: x3 :: x4 :: x5 :: x6 :: x7 :: y0 :: r) ((.int x) :: st) Q := v_istore hd (by simp only [List.length_cons]; omega) hq kk
theorem v_astore8 {x0 x1 x2 x3 x4 x5 x6 x7 y0 : Option Value} {r : List (Option Value)} {x : Nat} (hd : decode M.2.1 pc = .ok (.astore 8, 2)) (hq : pc + 2 = q := by rfl) (kk : V g M d kc ks S I R z q (x0 :: x1 :: x2 :: x3 :: x4 :: x5 :: x6 :: x7 :: some (.ref x) :: r) st Q) : V g M d kc ks S I R z pc (x0 :: x1 :: x2 :: x3 :: x4 :: x5 :: x6 :: x7 :: y0 :: r) ((.ref x) :: st) Q := v_astore hd (by simp only [List.length_cons]; omega) hq kk
theorem v_astoreN8 {x0 x1 x2 x3 x4 x5 x6 x7 y0 : Option Value} {r : List (Option Value)}  (hd : decode M.2.1 pc = .ok (.astore 8, 2)) (hq : pc + 2 = q := by rfl) (kk : V g M d kc ks S I R z q (x0 :: x1 :: x2 :: x3 :: x4 :: x5 :: x6 :: x7 :: some (.null) :: r) st Q) : V g M d kc ks S I R z pc (x0 :: x1 :: x2 :: x3 :: x4 :: x5 :: x6 :: x7 :: y0 :: r) ((.null) :: st) Q := v_astoreN hd (by simp only [List.length_cons]; omega) hq kk
theorem v_iinc8 {x0 x1 x2 x3 x4 x5 x6 x7 : Option Value} {r : List (Option Value)} {n : Int} {x v : Int32} (hd : decode M.2.1 pc = .ok (.iinc 8 n, 3)) (hv : x + Int32.ofInt n = v := by rfl) (hq : pc + 3 = q := by rfl) (kk : V g M d kc ks S I R z q (x0 :: x1 :: x2 :: x3 :: x4 :: x5 :: x6 :: x7 :: some (.int v) :: r) st Q) : V g M d kc ks S I R z pc (x0 :: x1 :: x2 :: x3 :: x4 :: x5 :: x6 :: x7 :: some (.int x) :: r) st Q := v_iinc hd rfl hv hq kk
theorem v_istore9 {x0 x1 x2 x3 x4 x5 x6 x7 x8 y0 : Option Value} {r : List (Option Value)} {x : Int32} (hd : decode M.2.1 pc = .ok (.istore 9, 2)) (hq : pc + 2 = q := by rfl) (kk : V g M d kc ks S I R z q (x0 :: x1 :: x2 :: x3 :: x4 :: x5 :: x6 :: x7 :: x8 :: some (.int x) :: r) st Q) : V g M d kc ks S I R z pc (x0 :: x1 :: x2 :: x3 :: x4 :: x5 :: x6 :: x7 :: x8 :: y0 :: r) ((.int x) :: st) Q := v_istore hd (by simp only [List.length_cons]; omega) hq kk
theorem v_astore9 {x0 x1 x2 x3 x4 x5 x6 x7 x8 y0 : Option Value} {r : List (Option Value)} {x : Nat} (hd : decode M.2.1 pc = .ok (.astore 9, 2)) (hq : pc + 2 = q := by rfl) (kk : V g M d kc ks S I R z q (x0 :: x1 :: x2 :: x3 :: x4 :: x5 :: x6 :: x7 :: x8 :: some (.ref x) :: r) st Q) : V g M d kc ks S I R z pc (x0 :: x1 :: x2 :: x3 :: x4 :: x5 :: x6 :: x7 :: x8 :: y0 :: r) ((.ref x) :: st) Q := v_astore hd (by simp only [List.length_cons]; omega) hq kk
theorem v_astoreN9 {x0 x1 x2 x3 x4 x5 x6 x7 x8 y0 : Option Value} {r : List (Option Value)}  (hd : decode M.2.1 pc = .ok (.astore 9, 2)) (hq : pc + 2 = q := by rfl) (kk : V g M d kc ks S I R z q (x0 :: x1 :: x2 :: x3 :: x4 :: x5 :: x6 :: x7 :: x8 :: some (.null) :: r) st Q) : V g M d kc ks S I R z pc (x0 :: x1 :: x2 :: x3 :: x4 :: x5 :: x6 :: x7 :: x8 :: y0 :: r) ((.null) :: st) Q := v_astoreN hd (by simp only [List.length_cons]; omega) hq kk
theorem v_iinc9 {x0 x1 x2 x3 x4 x5 x6 x7 x8 : Option Value} {r : List (Option Value)} {n : Int} {x v : Int32} (hd : decode M.2.1 pc = .ok (.iinc 9 n, 3)) (hv : x + Int32.ofInt n = v := by rfl) (hq : pc + 3 = q := by rfl) (kk : V g M d kc ks S I R z q (x0 :: x1 :: x2 :: x3 :: x4 :: x5 :: x6 :: x7 :: x8 :: some (.int v) :: r) st Q) : V g M d kc ks S I R z pc (x0 :: x1 :: x2 :: x3 :: x4 :: x5 :: x6 :: x7 :: x8 :: some (.int x) :: r) st Q := v_iinc hd rfl hv hq kk
theorem v_if_eq {x : Int32} {off : Int} (t : Nat) (hd : decode M.2.1 pc = .ok (.ifCond .eq off, 3)) (ht : (pc : Int) + off = (t : Int) := by decide) (hq : pc + 3 = q := by rfl) (kt : x = 0 → V g M d kc ks S I R z t L st Q) (kf : ¬ (x = 0) → V g M d kc ks S I R z q L st Q) : V g M d kc ks S I R z pc L (.int x :: st) Q := by
  subst hq
  intro p l e s m args below meth c H locs cells slots ls Rm mc ms D K C
  exact lv_if_eq C.1 C.2.1 hd ht (fun h => kt h _ _ _ _ _ _ _ _ _ _ _ _ _ _ _ _ _ _ _ C) (fun h => kf h _ _ _ _ _ _ _ _ _ _ _ _ _ _ _ _ _ _ _ C)
theorem v_if_eqT {x : Int32} {off : Int} (t : Nat) (hd : decode M.2.1 pc = .ok (.ifCond .eq off, 3)) (h : x = 0) (ht : (pc : Int) + off = (t : Int) := by decide) (kt : V g M d kc ks S I R z t L st Q) : V g M d kc ks S I R z pc L (.int x :: st) Q := v_if_eq t hd ht rfl (fun _ => kt) (fun n => absurd h n)
theorem v_if_eqF {x : Int32} {off : Int} {t : Nat} (hd : decode M.2.1 pc = .ok (.ifCond .eq off, 3)) (h : ¬ (x = 0)) (ht : (pc : Int) + off = (t : Int) := by decide) (hq : pc + 3 = q := by rfl) (kf : V g M d kc ks S I R z q L st Q) : V g M d kc ks S I R z pc L (.int x :: st) Q := v_if_eq t hd ht hq (fun n => absurd n h) (fun _ => kf)
theorem v_icmp_eq {x y : Int32} {off : Int} (t : Nat) (hd : decode M.2.1 pc = .ok (.if_icmp .eq off, 3)) (ht : (pc : Int) + off = (t : Int) := by decide) (hq : pc + 3 = q := by rfl) (kt : x = y → V g M d kc ks S I R z t L st Q) (kf : ¬ (x = y) → V g M d kc ks S I R z q L st Q) : V g M d kc ks S I R z pc L (.int y :: .int x :: st) Q := by
  subst hq
  intro p l e s m args below meth c H locs cells slots ls Rm mc ms D K C
  exact lv_icmp_eq C.1 C.2.1 hd ht (fun h => kt h _ _ _ _ _ _ _ _ _ _ _ _ _ _ _ _ _ _ _ C) (fun h => kf h _ _ _ _ _ _ _ _ _ _ _ _ _ _ _ _ _ _ _ C)
theorem v_icmp_eqT {x y : Int32} {off : Int} (t : Nat) (hd : decode M.2.1 pc = .ok (.if_icmp .eq off, 3)) (h : x = y) (ht : (pc : Int) + off = (t : Int) := by decide) (kt : V g M d kc ks S I R z t L st Q) : V g M d kc ks S I R z pc L (.int y :: .int x :: st) Q := v_icmp_eq t hd ht rfl (fun _ => kt) (fun n => absurd h n)
theorem v_icmp_eqF {x y : Int32} {off : Int} {t : Nat} (hd : decode M.2.1 pc = .ok (.if_icmp .eq off, 3)) (h : ¬ (x = y)) (ht : (pc : Int) + off = (t : Int) := by decide) (hq : pc + 3 = q := by rfl) (kf : V g M d kc ks S I R z q L st Q) : V g M d kc ks S I R z pc L (.int y :: .int x :: st) Q := v_icmp_eq t hd ht hq (fun n => absurd n h) (fun _ => kf)
theorem v_if_ne {x : Int32} {off : Int} (t : Nat) (hd : decode M.2.1 pc = .ok (.ifCond .ne off, 3)) (ht : (pc : Int) + off = (t : Int) := by decide) (hq : pc + 3 = q := by rfl) (kt : ¬ x = 0 → V g M d kc ks S I R z t L st Q) (kf : x = 0 → V g M d kc ks S I R z q L st Q) : V g M d kc ks S I R z pc L (.int x :: st) Q := by
  subst hq
  intro p l e s m args below meth c H locs cells slots ls Rm mc ms D K C
  exact lv_if_ne C.1 C.2.1 hd ht (fun h => kt h _ _ _ _ _ _ _ _ _ _ _ _ _ _ _ _ _ _ _ C) (fun h => kf h _ _ _ _ _ _ _ _ _ _ _ _ _ _ _ _ _ _ _ C)
theorem v_if_neT {x : Int32} {off : Int} (t : Nat) (hd : decode M.2.1 pc = .ok (.ifCond .ne off, 3)) (h : ¬ x = 0) (ht : (pc : Int) + off = (t : Int) := by decide) (kt : V g M d kc ks S I R z t L st Q) : V g M d kc ks S I R z pc L (.int x :: st) Q := v_if_ne t hd ht rfl (fun _ => kt) (fun n => absurd n h)
theorem v_if_neF {x : Int32} {off : Int} {t : Nat} (hd : decode M.2.1 pc = .ok (.ifCond .ne off, 3)) (h : x = 0) (ht : (pc : Int) + off = (t : Int) := by decide) (hq : pc + 3 = q := by rfl) (kf : V g M d kc ks S I R z q L st Q) : V g M d kc ks S I R z pc L (.int x :: st) Q := v_if_ne t hd ht hq (fun n => absurd h n) (fun _ => kf)
theorem v_icmp_ne {x y : Int32} {off : Int} (t : Nat) (hd : decode M.2.1 pc = .ok (.if_icmp .ne off, 3)) (ht : (pc : Int) + off = (t : Int) := by decide) (hq : pc + 3 = q := by rfl) (kt : ¬ x = y → V g M d kc ks S I R z t L st Q) (kf : x = y → V g M d kc ks S I R z q L st Q) : V g M d kc ks S I R z pc L (.int y :: .int x :: st) Q := by
  subst hq
  intro p l e s m args below meth c H locs cells slots ls Rm mc ms D K C
  exact lv_icmp_ne C.1 C.2.1 hd ht (fun h => kt h _ _ _ _ _ _ _ _ _ _ _ _ _ _ _ _ _ _ _ C) (fun h => kf h _ _ _ _ _ _ _ _ _ _ _ _ _ _ _ _ _ _ _ C)
theorem v_icmp_neT {x y : Int32} {off : Int} (t : Nat) (hd : decode M.2.1 pc = .ok (.if_icmp .ne off, 3)) (h : ¬ x = y) (ht : (pc : Int) + off = (t : Int) := by decide) (kt : V g M d kc ks S I R z t L st Q) : V g M d kc ks S I R z pc L (.int y :: .int x :: st) Q := v_icmp_ne t hd ht rfl (fun _ => kt) (fun n => absurd n h)
theorem v_icmp_neF {x y : Int32} {off : Int} {t : Nat} (hd : decode M.2.1 pc = .ok (.if_icmp .ne off, 3)) (h : x = y) (ht : (pc : Int) + off = (t : Int) := by decide) (hq : pc + 3 = q := by rfl) (kf : V g M d kc ks S I R z q L st Q) : V g M d kc ks S I R z pc L (.int y :: .int x :: st) Q := v_icmp_ne t hd ht hq (fun n => absurd h n) (fun _ => kf)
theorem v_if_lt {x : Int32} {off : Int} (t : Nat) (hd : decode M.2.1 pc = .ok (.ifCond .lt off, 3)) (ht : (pc : Int) + off = (t : Int) := by decide) (hq : pc + 3 = q := by rfl) (kt : x < 0 → V g M d kc ks S I R z t L st Q) (kf : ¬ (x < 0) → V g M d kc ks S I R z q L st Q) : V g M d kc ks S I R z pc L (.int x :: st) Q := by
  subst hq
  intro p l e s m args below meth c H locs cells slots ls Rm mc ms D K C
  exact lv_if_lt C.1 C.2.1 hd ht (fun h => kt h _ _ _ _ _ _ _ _ _ _ _ _ _ _ _ _ _ _ _ C) (fun h => kf h _ _ _ _ _ _ _ _ _ _ _ _ _ _ _ _ _ _ _ C)
theorem v_if_ltT {x : Int32} {off : Int} (t : Nat) (hd : decode M.2.1 pc = .ok (.ifCond .lt off, 3)) (h : x < 0) (ht : (pc : Int) + off = (t : Int) := by decide) (kt : V g M d kc ks S I R z t L st Q) : V g M d kc ks S I R z pc L (.int x :: st) Q := v_if_lt t hd ht rfl (fun _ => kt) (fun n => absurd h n)
theorem v_if_ltF {x : Int32} {off : Int} {t : Nat} (hd : decode M.2.1 pc = .ok (.ifCond .lt off, 3)) (h : ¬ (x < 0)) (ht : (pc : Int) + off = (t : Int) := by decide) (hq : pc + 3 = q := by rfl) (kf : V g M d kc ks S I R z q L st Q) : V g M d kc ks S I R z pc L (.int x :: st) Q := v_if_lt t hd ht hq (fun n => absurd n h) (fun _ => kf)
theorem v_icmp_lt {x y : Int32} {off : Int} (t : Nat) (hd : decode M.2.1 pc = .ok (.if_icmp .lt off, 3)) (ht : (pc : Int) + off = (t : Int) := by decide) (hq : pc + 3 = q := by rfl) (kt : x < y → V g M d kc ks S I R z t L st Q) (kf : ¬ (x < y) → V g M d kc ks S I R z q L st Q) : V g M d kc ks S I R z pc L (.int y :: .int x :: st) Q := by
  subst hq
  intro p l e s m args below meth c H locs cells slots ls Rm mc ms D K C
  exact lv_icmp_lt C.1 C.2.1 hd ht (fun h => kt h _ _ _ _ _ _ _ _ _ _ _ _ _ _ _ _ _ _ _ C) (fun h => kf h _ _ _ _ _ _ _ _ _ _ _ _ _ _ _ _ _ _ _ C)
theorem v_icmp_ltT {x y : Int32} {off : Int} (t : Nat) (hd : decode M.2.1 pc = .ok (.if_icmp .lt off, 3)) (h : x < y) (ht : (pc : Int) + off = (t : Int) := by decide) (kt : V g M d kc ks S I R z t L st Q) : V g M d kc ks S I R z pc L (.int y :: .int x :: st) Q := v_icmp_lt t hd ht rfl (fun _ => kt) (fun n => absurd h n)
theorem v_icmp_ltF {x y : Int32} {off : Int} {t : Nat} (hd : decode M.2.1 pc = .ok (.if_icmp .lt off, 3)) (h : ¬ (x < y)) (ht : (pc : Int) + off = (t : Int) := by decide) (hq : pc + 3 = q := by rfl) (kf : V g M d kc ks S I R z q L st Q) : V g M d kc ks S I R z pc L (.int y :: .int x :: st) Q := v_icmp_lt t hd ht hq (fun n => absurd n h) (fun _ => kf)
theorem v_if_ge {x : Int32} {off : Int} (t : Nat) (hd : decode M.2.1 pc = .ok (.ifCond .ge off, 3)) (ht : (pc : Int) + off = (t : Int) := by decide) (hq : pc + 3 = q := by rfl) (kt : 0 ≤ x → V g M d kc ks S I R z t L st Q) (kf : ¬ (0 ≤ x) → V g M d kc ks S I R z q L st Q) : V g M d kc ks S I R z pc L (.int x :: st) Q := by
  subst hq
  intro p l e s m args below meth c H locs cells slots ls Rm mc ms D K C
  exact lv_if_ge C.1 C.2.1 hd ht (fun h => kt h _ _ _ _ _ _ _ _ _ _ _ _ _ _ _ _ _ _ _ C) (fun h => kf h _ _ _ _ _ _ _ _ _ _ _ _ _ _ _ _ _ _ _ C)
theorem v_if_geT {x : Int32} {off : Int} (t : Nat) (hd : decode M.2.1 pc = .ok (.ifCond .ge off, 3)) (h : 0 ≤ x) (ht : (pc : Int) + off = (t : Int) := by decide) (kt : V g M d kc ks S I R z t L st Q) : V g M d kc ks S I R z pc L (.int x :: st) Q := v_if_ge t hd ht rfl (fun _ => kt) (fun n => absurd h n)
theorem v_if_geF {x : Int32} {off : Int} {t : Nat} (hd : decode M.2.1 pc = .ok (.ifCond .ge off, 3)) (h : ¬ (0 ≤ x)) (ht : (pc : Int) + off = (t : Int) := by decide) (hq : pc + 3 = q := by rfl) (kf : V g M d kc ks S I R z q L st Q) : V g M d kc ks S I R z pc L (.int x :: st) Q := v_if_ge t hd ht hq (fun n => absurd n h) (fun _ => kf)
theorem v_icmp_ge {x y : Int32} {off : Int} (t : Nat) (hd : decode M.2.1 pc = .ok (.if_icmp .ge off, 3)) (ht : (pc : Int) + off = (t : Int) := by decide) (hq : pc + 3 = q := by rfl) (kt : y ≤ x → V g M d kc ks S I R z t L st Q) (kf : ¬ (y ≤ x) → V g M d kc ks S I R z q L st Q) : V g M d kc ks S I R z pc L (.int y :: .int x :: st) Q := by
  subst hq
  intro p l e s m args below meth c H locs cells slots ls Rm mc ms D K C
  exact lv_icmp_ge C.1 C.2.1 hd ht (fun h => kt h _ _ _ _ _ _ _ _ _ _ _ _ _ _ _ _ _ _ _ C) (fun h => kf h _ _ _ _ _ _ _ _ _ _ _ _ _ _ _ _ _ _ _ C)
theorem v_icmp_geT {x y : Int32} {off : Int} (t : Nat) (hd : decode M.2.1 pc = .ok (.if_icmp .ge off, 3)) (h : y ≤ x) (ht : (pc : Int) + off = (t : Int) := by decide) (kt : V g M d kc ks S I R z t L st Q) : V g M d kc ks S I R z pc L (.int y :: .int x :: st) Q := v_icmp_ge t hd ht rfl (fun _ => kt) (fun n => absurd h n)
theorem v_icmp_geF {x y : Int32} {off : Int} {t : Nat} (hd : decode M.2.1 pc = .ok (.if_icmp .ge off, 3)) (h : ¬ (y ≤ x)) (ht : (pc : Int) + off = (t : Int) := by decide) (hq : pc + 3 = q := by rfl) (kf : V g M d kc ks S I R z q L st Q) : V g M d kc ks S I R z pc L (.int y :: .int x :: st) Q := v_icmp_ge t hd ht hq (fun n => absurd n h) (fun _ => kf)
theorem v_if_gt {x : Int32} {off : Int} (t : Nat) (hd : decode M.2.1 pc = .ok (.ifCond .gt off, 3)) (ht : (pc : Int) + off = (t : Int) := by decide) (hq : pc + 3 = q := by rfl) (kt : 0 < x → V g M d kc ks S I R z t L st Q) (kf : ¬ (0 < x) → V g M d kc ks S I R z q L st Q) : V g M d kc ks S I R z pc L (.int x :: st) Q := by
  subst hq
  intro p l e s m args below meth c H locs cells slots ls Rm mc ms D K C
  exact lv_if_gt C.1 C.2.1 hd ht (fun h => kt h _ _ _ _ _ _ _ _ _ _ _ _ _ _ _ _ _ _ _ C) (fun h => kf h _ _ _ _ _ _ _ _ _ _ _ _ _ _ _ _ _ _ _ C)
theorem v_if_gtT {x : Int32} {off : Int} (t : Nat) (hd : decode M.2.1 pc = .ok (.ifCond .gt off, 3)) (h : 0 < x) (ht : (pc : Int) + off = (t : Int) := by decide) (kt : V g M d kc ks S I R z t L st Q) : V g M d kc ks S I R z pc L (.int x :: st) Q := v_if_gt t hd ht rfl (fun _ => kt) (fun n => absurd h n)
theorem v_if_gtF {x : Int32} {off : Int} {t : Nat} (hd : decode M.2.1 pc = .ok (.ifCond .gt off, 3)) (h : ¬ (0 < x)) (ht : (pc : Int) + off = (t : Int) := by decide) (hq : pc + 3 = q := by rfl) (kf : V g M d kc ks S I R z q L st Q) : V g M d kc ks S I R z pc L (.int x :: st) Q := v_if_gt t hd ht hq (fun n => absurd n h) (fun _ => kf)
theorem v_icmp_gt {x y : Int32} {off : Int} (t : Nat) (hd : decode M.2.1 pc = .ok (.if_icmp .gt off, 3)) (ht : (pc : Int) + off = (t : Int) := by decide) (hq : pc + 3 = q := by rfl) (kt : y < x → V g M d kc ks S I R z t L st Q) (kf : ¬ (y < x) → V g M d kc ks S I R z q L st Q) : V g M d kc ks S I R z pc L (.int y :: .int x :: st) Q := by
  subst hq
  intro p l e s m args below meth c H locs cells slots ls Rm mc ms D K C
  exact lv_icmp_gt C.1 C.2.1 hd ht (fun h => kt h _ _ _ _ _ _ _ _ _ _ _ _ _ _ _ _ _ _ _ C) (fun h => kf h _ _ _ _ _ _ _ _ _ _ _ _ _ _ _ _ _ _ _ C)
theorem v_icmp_gtT {x y : Int32} {off : Int} (t : Nat) (hd : decode M.2.1 pc = .ok (.if_icmp .gt off, 3)) (h : y < x) (ht : (pc : Int) + off = (t : Int) := by decide) (kt : V g M d kc ks S I R z t L st Q) : V g M d kc ks S I R z pc L (.int y :: .int x :: st) Q := v_icmp_gt t hd ht rfl (fun _ => kt) (fun n => absurd h n)
theorem v_icmp_gtF {x y : Int32} {off : Int} {t : Nat} (hd : decode M.2.1 pc = .ok (.if_icmp .gt off, 3)) (h : ¬ (y < x)) (ht : (pc : Int) + off = (t : Int) := by decide) (hq : pc + 3 = q := by rfl) (kf : V g M d kc ks S I R z q L st Q) : V g M d kc ks S I R z pc L (.int y :: .int x :: st) Q := v_icmp_gt t hd ht hq (fun n => absurd n h) (fun _ => kf)
theorem v_if_le {x : Int32} {off : Int} (t : Nat) (hd : decode M.2.1 pc = .ok (.ifCond .le off, 3)) (ht : (pc : Int) + off = (t : Int) := by decide) (hq : pc + 3 = q := by rfl) (kt : x ≤ 0 → V g M d kc ks S I R z t L st Q) (kf : ¬ (x ≤ 0) → V g M d kc ks S I R z q L st Q) : V g M d kc ks S I R z pc L (.int x :: st) Q := by
  subst hq
  intro p l e s m args below meth c H locs cells slots ls Rm mc ms D K C
  exact lv_if_le C.1 C.2.1 hd ht (fun h => kt h _ _ _ _ _ _ _ _ _ _ _ _ _ _ _ _ _ _ _ C) (fun h => kf h _ _ _ _ _ _ _ _ _ _ _ _ _ _ _ _ _ _ _ C)
theorem v_if_leT {x : Int32} {off : Int} (t : Nat) (hd : decode M.2.1 pc = .ok (.ifCond .le off, 3)) (h : x ≤ 0) (ht : (pc : Int) + off = (t : Int) := by decide) (kt : V g M d kc ks S I R z t L st Q) : V g M d kc ks S I R z pc L (.int x :: st) Q := v_if_le t hd ht rfl (fun _ => kt) (fun n => absurd h n)
theorem v_if_leF {x : Int32} {off : Int} {t : Nat} (hd : decode M.2.1 pc = .ok (.ifCond .le off, 3)) (h : ¬ (x ≤ 0)) (ht : (pc : Int) + off = (t : Int) := by decide) (hq : pc + 3 = q := by rfl) (kf : V g M d kc ks S I R z q L st Q) : V g M d kc ks S I R z pc L (.int x :: st) Q := v_if_le t hd ht hq (fun n => absurd n h) (fun _ => kf)
theorem v_icmp_le {x y : Int32} {off : Int} (t : Nat) (hd : decode M.2.1 pc = .ok (.if_icmp .le off, 3)) (ht : (pc : Int) + off = (t : Int) := by decide) (hq : pc + 3 = q := by rfl) (kt : x ≤ y → V g M d kc ks S I R z t L st Q) (kf : ¬ (x ≤ y) → V g M d kc ks S I R z q L st Q) : V g M d kc ks S I R z pc L (.int y :: .int x :: st) Q := by
  subst hq
  intro p l e s m args below meth c H locs cells slots ls Rm mc ms D K C
  exact lv_icmp_le C.1 C.2.1 hd ht (fun h => kt h _ _ _ _ _ _ _ _ _ _ _ _ _ _ _ _ _ _ _ C) (fun h => kf h _ _ _ _ _ _ _ _ _ _ _ _ _ _ _ _ _ _ _ C)
theorem v_icmp_leT {x y : Int32} {off : Int} (t : Nat) (hd : decode M.2.1 pc = .ok (.if_icmp .le off, 3)) (h : x ≤ y) (ht : (pc : Int) + off = (t : Int) := by decide) (kt : V g M d kc ks S I R z t L st Q) : V g M d kc ks S I R z pc L (.int y :: .int x :: st) Q := v_icmp_le t hd ht rfl (fun _ => kt) (fun n => absurd h n)
theorem v_icmp_leF {x y : Int32} {off : Int} {t : Nat} (hd : decode M.2.1 pc = .ok (.if_icmp .le off, 3)) (h : ¬ (x ≤ y)) (ht : (pc : Int) + off = (t : Int) := by decide) (hq : pc + 3 = q := by rfl) (kf : V g M d kc ks S I R z q L st Q) : V g M d kc ks S I R z pc L (.int y :: .int x :: st) Q := v_icmp_le t hd ht hq (fun n => absurd n h) (fun _ => kf)
theorem v_goto {off : Int} (t : Nat) (hd : decode M.2.1 pc = .ok (.goto off, 3)) (ht : (pc : Int) + off = (t : Int) := by decide) (kt : V g M d kc ks S I R z t L st Q) : V g M d kc ks S I R z pc L st Q := by
  intro p l e s m args below meth c H locs cells slots ls Rm mc ms D K C
  exact lv_goto C.1 C.2.1 hd ht (kt _ _ _ _ _ _ _ _ _ _ _ _ _ _ _ _ _ _ _ C)
theorem v_ifnull {x : Nat} {off : Int} (hd : decode M.2.1 pc = .ok (.ifnull off, 3)) (hq : pc + 3 = q := by rfl) (kt : V g M d kc ks S I R z q L st Q) : V g M d kc ks S I R z pc L (.ref x :: st) Q := by
  subst hq
  intro p l e s m args below meth c H locs cells slots ls Rm mc ms D K C
  exact lv_ifnull C.1 C.2.1 hd (kt _ _ _ _ _ _ _ _ _ _ _ _ _ _ _ _ _ _ _ C)
theorem v_ifnullN {off : Int} (t : Nat) (hd : decode M.2.1 pc = .ok (.ifnull off, 3)) (ht : (pc : Int) + off = (t : Int) := by decide) (kt : V g M d kc ks S I R z t L st Q) : V g M d kc ks S I R z pc L (.null :: st) Q := by
  intro p l e s m args below meth c H locs cells slots ls Rm mc ms D K C
  exact lv_ifnullN C.1 C.2.1 hd ht (kt _ _ _ _ _ _ _ _ _ _ _ _ _ _ _ _ _ _ _ C)
theorem v_ifnonnullN {off : Int} (hd : decode M.2.1 pc = .ok (.ifnonnull off, 3)) (hq : pc + 3 = q := by rfl) (kt : V g M d kc ks S I R z q L st Q) : V g M d kc ks S I R z pc L (.null :: st) Q := by
  subst hq
  intro p l e s m args below meth c H locs cells slots ls Rm mc ms D K C
  exact lv_ifnonnullN C.1 C.2.1 hd (kt _ _ _ _ _ _ _ _ _ _ _ _ _ _ _ _ _ _ _ C)
theorem v_ifnonnull {x : Nat} {off : Int} (t : Nat) (hd : decode M.2.1 pc = .ok (.ifnonnull off, 3)) (ht : (pc : Int) + off = (t : Int) := by decide) (kt : V g M d kc ks S I R z t L st Q) : V g M d kc ks S I R z pc L (.ref x :: st) Q := by
  intro p l e s m args below meth c H locs cells slots ls Rm mc ms D K C
  exact lv_ifnonnull C.1 C.2.1 hd ht (kt _ _ _ _ _ _ _ _ _ _ _ _ _ _ _ _ _ _ _ C)
theorem v_tsIn {dflt lo hi : Int} {offs : Array Int} {len : Nat} {x : Int32} {off : Int} (t : Nat) (hd : decode M.2.1 pc = .ok (.tableswitch dflt lo hi offs, len)) (h1 : ¬ x.toInt < lo) (h2 : ¬ hi < x.toInt) (ho : offs[(x.toInt - lo).toNat]? = some off) (ht : (pc : Int) + off = (t : Int) := by decide) (kt : V g M d kc ks S I R z t L st Q) : V g M d kc ks S I R z pc L (.int x :: st) Q := by
  intro p l e s m args below meth c H locs cells slots ls Rm mc ms D K C
  exact lv_tableIn C.1 C.2.1 hd h1 h2 ho ht (kt _ _ _ _ _ _ _ _ _ _ _ _ _ _ _ _ _ _ _ C)
theorem v_tsOut {dflt lo hi : Int} {offs : Array Int} {len : Nat} {x : Int32} (t : Nat) (hd : decode M.2.1 pc = .ok (.tableswitch dflt lo hi offs, len)) (h : x.toInt < lo ∨ hi < x.toInt) (ht : (pc : Int) + dflt = (t : Int) := by decide) (kt : V g M d kc ks S I R z t L st Q) : V g M d kc ks S I R z pc L (.int x :: st) Q := by
  intro p l e s m args below meth c H locs cells slots ls Rm mc ms D K C
  exact lv_tableOut C.1 C.2.1 hd h ht (kt _ _ _ _ _ _ _ _ _ _ _ _ _ _ _ _ _ _ _ C)
theorem v_ls {dflt : Int} {ps : Array (Int × Int)} {len : Nat} {x : Int32} {off : Int} (t : Nat) (hd : decode M.2.1 pc = .ok (.lookupswitch dflt ps, len)) (ho : Op.lookupswitch.offset ps.toList dflt x.toInt = off) (ht : (pc : Int) + off = (t : Int) := by decide) (hp : (ps.toList.zip (ps.toList.drop 1)).all (fun (a, next) => a.1 < next.1) = true := by decide) (kt : V g M d kc ks S I R z t L st Q) : V g M d kc ks S I R z pc L (.int x :: st) Q := by
  intro p l e s m args below meth c H locs cells slots ls Rm mc ms D K C
  exact lv_lookup C.1 C.2.1 hd hp ho ht (kt _ _ _ _ _ _ _ _ _ _ _ _ _ _ _ _ _ _ _ C)
theorem v_loc (L' : List (Option Value)) (hl : L'.length = L.length) (hs : ∀ (i : Nat) (v : Value), L'[i]? = some (some v) → L[i]? = some (some v)) (kk : V g M d kc ks S I R z pc L' st Q) : V g M d kc ks S I R z pc L st Q := by
  intro p l e s m args below meth c H locs cells slots ls Rm mc ms D K C
  obtain ⟨hx, hb, hml, hr, hlk, hown, hnm, hts, hG, hbs, hw, hz, hS, hL, hR⟩ := C
  exact kk _ _ _ _ _ _ _ _ _ _ _ _ _ _ _ _ _ _ _ ⟨hx, hb, hml, hr, hlk, hown, hnm, hts, hG, hbs, hw, hz, hS, hL.sub hl hs, hR⟩
theorem v_ldc {idx : Nat} {v : Int32} (hc : Cond.constant M.1.cls idx v ∈ hc_tb) (hd : decode M.2.1 pc = .ok (.ldc idx, 2)) (hq : pc + 2 = q := by rfl) (kk : V g M d kc ks S I R z q L (.int v :: st) Q) : V g M d kc ks S I R z pc L st Q := by
  subst hq
  intro p l e s m args below meth c H locs cells slots ls Rm mc ms D K C
  exact lv_ldc C.1 C.2.1 C.2.2.2.2.2.1 (C.2.2.2.2.2.2.2.1 _ hc) hd (kk _ _ _ _ _ _ _ _ _ _ _ _ _ _ _ _ _ _ _ C)
theorem v_ldcw {idx : Nat} {v : Int32} (hc : Cond.constant M.1.cls idx v ∈ hc_tb) (hd : decode M.2.1 pc = .ok (.ldc_w idx, 3)) (hq : pc + 3 = q := by rfl) (kk : V g M d kc ks S I R z q L (.int v :: st) Q) : V g M d kc ks S I R z pc L st Q := by
  subst hq
  intro p l e s m args below meth c H locs cells slots ls Rm mc ms D K C
  exact lv_ldcw C.1 C.2.1 C.2.2.2.2.2.1 (C.2.2.2.2.2.2.2.1 _ hc) hd (kk _ _ _ _ _ _ _ _ _ _ _ _ _ _ _ _ _ _ _ C)
theorem hc_end {g : hcG} {D : va_G} {K : Nat → ClassId} {Q : hcQ} {S : hcS} {I : hcI} {R : hcR} {z : Nat} {args : Array Value} {s t : State} {H : Heap} {locs : List Loc} {v : Option Value} (hQ : Q v S I R z) (hw : hc_w D K g.1 S I R H) (hz : H.size = z) (hS : va_S (fun q => g.1 ≤ q) s.heap H locs) (ht : t.heap = H) : hc_Q g D K Q args s (.returned v) t :=
  ⟨v, S, I, R, rfl, by rw [ht, hz]; exact hQ, by rw [ht]; exact hw, hS.F ht⟩
theorem v_iret {x : Int32} (hd : decode M.2.1 pc = .ok (.ireturn, 1)) (hr' : M.2.2.2 = some .int := by rfl) (hQ : Q (some (.int x)) S I R z) : V g M d kc ks S I R z pc L [.int x] Q := by
  intro p l e s m args below meth c H locs cells slots ls Rm mc ms D K C
  obtain ⟨hx, hb, hml, hr, hlk, hown, hnm, hts, hG, hbs, hw, hz, hS, hL, hR⟩ := C
  refine W.widen (k := mc) (n := ms) (by omega) (by omega) ?_
  exact W.iret (v := x) hx hb (by rw [hr, hr']) (fun t ht hW => hc_end hQ hw hz hS ht) hS.2.2 hd hlk
theorem v_zret {x : Int32} {ty : FieldType} (hd : decode M.2.1 pc = .ok (.ireturn, 1)) (hn : narrow ty (.int x) = .int x) (hr' : M.2.2.2 = some ty := by rfl) (hQ : Q (some (.int x)) S I R z) : V g M d kc ks S I R z pc L [.int x] Q := by
  intro p l e s m args below meth c H locs cells slots ls Rm mc ms D K C
  obtain ⟨hx, hb, hml, hr, hlk, hown, hnm, hts, hG, hbs, hw, hz, hS, hL, hR⟩ := C
  refine W.widen (k := mc) (n := ms) (by omega) (by omega) ?_
  exact W.zret (v := x) (ty := ty) hx hb (by rw [hr, hr']) hn (fun t ht hW => hc_end hQ hw hz hS ht) hS.2.2 hd hlk
theorem v_vret  (hd : decode M.2.1 pc = .ok (.return_, 1)) (hr' : M.2.2.2 = none := by rfl) (hQ : Q none S I R z) : V g M d kc ks S I R z pc L [] Q := by
  intro p l e s m args below meth c H locs cells slots ls Rm mc ms D K C
  obtain ⟨hx, hb, hml, hr, hlk, hown, hnm, hts, hG, hbs, hw, hz, hS, hL, hR⟩ := C
  refine W.widen (k := mc) (n := ms) (by omega) (by omega) ?_
  exact W.vret hx hb (by rw [hr, hr']) (fun t ht hW => hc_end hQ hw hz hS ht) hS.2.2 hd hlk
theorem v_aret {x : Value} {rt : FieldType} (hd : decode M.2.1 pc = .ok (.areturn, 1)) (hv : x = .null ∨ ∃ a, x = .ref a) (hrt : (∃ n, rt = .object n) ∨ ∃ t, rt = .array t) (hr' : M.2.2.2 = some rt := by rfl) (hQ : Q (some x) S I R z) : V g M d kc ks S I R z pc L [x] Q := by
  intro p l e s m args below meth c H locs cells slots ls Rm mc ms D K C
  obtain ⟨hx, hb, hml, hr, hlk, hown, hnm, hts, hG, hbs, hw, hz, hS, hL, hR⟩ := C
  refine W.widen (k := mc) (n := ms) (by omega) (by omega) ?_
  exact W.aret (v := x) (rt := rt) hx hb (by rw [hr, hr']) hrt hv (fun t ht hW => hc_end hQ hw hz hS ht) hS.2.2 hd hlk
end VR
