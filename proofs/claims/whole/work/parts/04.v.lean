/-! V: a method's run told by a picture of the heap alone: shapes S, ints I, references R, size z. Cl: a call of a method, with what follows as a predicate. -/
def hc_tb : List Cond := lw_tbl.filter goodWord
theorem hc_in {w : Cond} (i : Nat) (h : lw_tbl[i]? = some w) (hg : goodWord w = true) : w ∈ hc_tb := List.mem_filter.mpr ⟨List.mem_of_getElem? h, hg⟩
theorem hc_tb_self : GoodIn hc_tb hc_tb := fun w hw => ⟨hw, good_of_word (List.mem_filter.mp hw).2⟩
theorem hc_tb_of {args : Array Value} {s : State} (h : ∀ w ∈ lw_tbl, w.before args s = true) : ∀ w ∈ hc_tb, w.before args s = true := fun w hw => h w (List.mem_filter.mp hw).1
theorem hc_ws_of {C : String} {T : u_T} {N : Nat} (is : List Nat) (h : ∀ k, k < N → lw_tbl[is.getD k 0]? = some (u_lay C T k) ∧ goodWord (u_lay C T k) = true) : ∀ w ∈ u_ws C T N, w ∈ hc_tb := by
  intro w hw
  obtain ⟨k, hk, rfl⟩ := List.mem_map.mp hw
  exact hc_in _ (h k (List.mem_range.mp hk)).1 (h k (List.mem_range.mp hk)).2
theorem hc_ws0 : ∀ w ∈ u_ws RX0 TX0 13, w ∈ hc_tb := hc_ws_of [158, 160, 162, 164, 166, 168, 170, 172, 174, 176, 178, 180, 182] (by decide +kernel)
theorem hc_ws1 : ∀ w ∈ u_ws RX1 TX1 6, w ∈ hc_tb := hc_ws_of [119, 121, 123, 125, 127, 129] (by decide +kernel)
theorem hc_ws2 : ∀ w ∈ u_ws RX2 TX2 10, w ∈ hc_tb := hc_ws_of [202, 204, 206, 208, 210, 212, 214, 216, 218, 220] (by decide +kernel)
theorem hc_ws3 : ∀ w ∈ u_ws RX3 TX3 3, w ∈ hc_tb := hc_ws_of [239, 241, 243] (by decide +kernel)
theorem hc_ws4 : ∀ w ∈ u_ws RX4 TX4 4, w ∈ hc_tb := hc_ws_of [262, 264, 266, 268] (by decide +kernel)
theorem hc_ws5 : ∀ w ∈ u_ws RX5 TX5 4, w ∈ hc_tb := hc_ws_of [808, 810, 812, 814] (by decide +kernel)
theorem hc_ws6 : ∀ w ∈ u_ws RX6 TX6 11, w ∈ hc_tb := hc_ws_of [282, 284, 286, 288, 290, 292, 294, 296, 298, 300, 302] (by decide +kernel)
theorem hc_ws7 : ∀ w ∈ u_ws RX7 TX7 33, w ∈ hc_tb := hc_ws_of [952, 954, 956, 958, 960, 962, 964, 966, 968, 970, 972, 974, 976, 978, 980, 982, 984, 986, 988, 990, 992, 994, 996, 998, 1000, 1002, 1004, 1006, 1008, 1010, 1012, 1014, 1016] (by decide +kernel)
def hc_C (t : Nat) : String := match t with
  | 0 => RX0
  | 1 => RX1
  | 2 => RX2
  | 3 => RX3
  | 4 => RX4
  | 5 => RX5
  | 6 => RX6
  | _ => RX7
def hc_T (t : Nat) : u_T := match t with
  | 0 => TX0
  | 1 => TX1
  | 2 => TX2
  | 3 => TX3
  | 4 => TX4
  | 5 => TX5
  | 6 => TX6
  | _ => TX7
def hc_N (t : Nat) : Nat := match t with
  | 0 => 13
  | 1 => 6
  | 2 => 10
  | 3 => 3
  | 4 => 4
  | 5 => 4
  | 6 => 11
  | _ => 33
def hc_y (t : Nat) : (Nat → FieldType) := match t with
  | 0 => tyX0
  | 1 => tyX1
  | 2 => tyX2
  | 3 => tyX3
  | 4 => tyX4
  | 5 => tyX5
  | 6 => tyX6
  | _ => tyX7
theorem hc_cl : ∀ t, t < 8 → vwCl[t]? = some (hc_C t, hc_T t, hc_N t)
  | 0, _ => rfl
  | 1, _ => rfl
  | 2, _ => rfl
  | 3, _ => rfl
  | 4, _ => rfl
  | 5, _ => rfl
  | 6, _ => rfl
  | 7, _ => rfl
  | k + 8, h => absurd h (by omega)
theorem hc_ws : ∀ t, t < 8 → ∀ w ∈ u_ws (hc_C t) (hc_T t) (hc_N t), w ∈ hc_tb
  | 0, _ => hc_ws0
  | 1, _ => hc_ws1
  | 2, _ => hc_ws2
  | 3, _ => hc_ws3
  | 4, _ => hc_ws4
  | 5, _ => hc_ws5
  | 6, _ => hc_ws6
  | 7, _ => hc_ws7
  | k + 8, h => absurd h (by omega)
theorem hc_yok : ∀ t, t < 8 → ∀ k, k < hc_N t → parseFieldDescriptor (hc_T t k).2.2.1 = some (hc_y t k)
  | 0, _ => tyX0_ok
  | 1, _ => tyX1_ok
  | 2, _ => tyX2_ok
  | 3, _ => tyX3_ok
  | 4, _ => tyX4_ok
  | 5, _ => tyX5_ok
  | 6, _ => tyX6_ok
  | 7, _ => tyX7_ok
  | k + 8, h => absurd h (by omega)
theorem hc_nm : ∀ t, t < 8 → ∀ a, a < hc_N t → ∀ b, b < hc_N t → a ≠ b → (hc_T t a).2.1 ≠ (hc_T t b).2.1
  | 0, _ => nmX0
  | 1, _ => nmX1
  | 2, _ => nmX2
  | 3, _ => nmX3
  | 4, _ => nmX4
  | 5, _ => nmX5
  | 6, _ => nmX6
  | 7, _ => nmX7
  | k + 8, h => absurd h (by omega)
def hc_six : List Nat := [78, 84, 86, 134, 136, 138]
def hc_stx : List String := ["itch", "harm", "fine", "adi", "nl", "ch"]
def hc_sln : List Nat := [4, 4, 4, 3, 2, 2]
def hc_sby : List (List Int32) := [[105, 116, 99, 104], [104, 97, 114, 109], [102, 105, 110, 101], [97, 100, 105], [110, 108], [99, 104]]
def hc_nst : List Cond := [.methodLinkNest "HallCoughs$Hall" 43 ⟨"HallCoughs$Person", "<init>", "()V"⟩ "HallCoughs", .methodLinkNest "HallCoughs" 24 ⟨"HallCoughs$Reader", "<init>", "()V"⟩ "HallCoughs", .methodLinkNest "HallCoughs" 49 ⟨"HallCoughs$Row", "<init>", "()V"⟩ "HallCoughs", .methodLinkNest "HallCoughs" 50 ⟨"HallCoughs$Slot", "<init>", "()V"⟩ "HallCoughs", .methodLinkNest "HallCoughs$Slot" 17 ⟨"HallCoughs$Person", "<init>", "()V"⟩ "HallCoughs", .methodLinkNest "HallCoughs$Slot" 24 ⟨"HallCoughs$Row", "<init>", "()V"⟩ "HallCoughs", .methodLinkNest "HallCoughs$Hall" 63 ⟨"HallCoughs", "within", "(II)Z"⟩ "HallCoughs", .methodLinkNest "HallCoughs$Hall" 122 ⟨"HallCoughs", "held", "(II)I"⟩ "HallCoughs", .fieldLinkNest "HallCoughs$Person" 30 "HallCoughs" "ABOVE" "[I" "HallCoughs"]
theorem hc_nst_in : ∀ w ∈ hc_nst, w ∈ lw_tbl := by
  intro w hw
  simp only [hc_nst, List.mem_cons, List.not_mem_nil, or_false] at hw
  rcases hw with rfl | rfl | rfl | rfl | rfl | rfl | rfl | rfl | rfl
  · exact List.mem_of_getElem? (i := 97) (by decide +kernel)
  · exact List.mem_of_getElem? (i := 187) (by decide +kernel)
  · exact List.mem_of_getElem? (i := 229) (by decide +kernel)
  · exact List.mem_of_getElem? (i := 247) (by decide +kernel)
  · exact List.mem_of_getElem? (i := 252) (by decide +kernel)
  · exact List.mem_of_getElem? (i := 254) (by decide +kernel)
  · exact List.mem_of_getElem? (i := 335) (by decide +kernel)
  · exact List.mem_of_getElem? (i := 354) (by decide +kernel)
  · exact List.mem_of_getElem? (i := 394) (by decide +kernel)
theorem hc_nst_kind : ∀ w ∈ hc_nst, (∃ a i x h, w = .methodLinkNest a i x h) ∨ (∃ a i b n d h, w = .fieldLinkNest a i b n d h) := by
  intro w hw
  simp only [hc_nst, List.mem_cons, List.not_mem_nil, or_false] at hw
  rcases hw with rfl | rfl | rfl | rfl | rfl | rfl | rfl | rfl | rfl
  · exact Or.inl ⟨_, _, _, _, rfl⟩
  · exact Or.inl ⟨_, _, _, _, rfl⟩
  · exact Or.inl ⟨_, _, _, _, rfl⟩
  · exact Or.inl ⟨_, _, _, _, rfl⟩
  · exact Or.inl ⟨_, _, _, _, rfl⟩
  · exact Or.inl ⟨_, _, _, _, rfl⟩
  · exact Or.inl ⟨_, _, _, _, rfl⟩
  · exact Or.inl ⟨_, _, _, _, rfl⟩
  · exact Or.inr ⟨_, _, _, _, _, _, rfl⟩
def hc_a (t : Nat) : FieldType := match t with
  | 8 => .byte
  | 9 => .char
  | 10 => .int
  | 11 => .boolean
  | 12 => .object RX1
  | 13 => .object RX3
  | 14 => .object RX4
  | _ => .object RX5
def hc_rf (t k : Nat) : Bool := match hc_y t k with
  | .object _ => true
  | .array _ => true
  | _ => false
abbrev hcS : Type := Nat → Option (Nat × Nat)
abbrev hcI : Type := Nat → Nat → Int32
abbrev hcR : Type := Nat → Nat → Option Nat
abbrev hcM : Type := MethodName × ByteArray × Nat × Option FieldType
abbrev hcG : Type := Nat × Nat × (Nat → Nat) × (Nat → Nat)
abbrev hcQ : Type := Option Value → hcS → hcI → hcR → Nat → Prop
def hc_v (t : Nat) (i : Nat → Int32) (r : Nat → Option Nat) (k : Nat) : Value := if hc_rf t k = true then va_rf (r k) else .int (i k)
/-- the cell a is of kind t (an object of class t, or an array of n places) and holds i, r -/
def hc_cell (D : va_G) (K : Nat → ClassId) (H : Heap) (a t n : Nat) (i : Nat → Int32) (r : Nat → Option Nat) : Prop :=
  (t < 8 ∧ t_OB a (D.1 t) (hc_N t) (D.2 t) H (hc_v t i r)) ∨ (8 ≤ t ∧ t < 12 ∧ H[a]? = some (arrV (K t) n (fun j => .int (i j)))) ∨ (12 ≤ t ∧ t < 16 ∧ H[a]? = some (arrV (K t) n (fun j => va_rf (r j))))
theorem hc_cell.kept {D : va_G} {K : Nat → ClassId} {H H1 : Heap} {a t n : Nat} {i : Nat → Int32} {r : Nat → Option Nat} (h : hc_cell D K H a t n i r) (hq : H1[a]? = H[a]?) : hc_cell D K H1 a t n i r := by
  rcases h with ⟨h, h1⟩ | ⟨h, h', h1⟩ | ⟨h, h', h1⟩
  · exact Or.inl ⟨h, h1.kept hq⟩
  · exact Or.inr (Or.inl ⟨h, h', hq.trans h1⟩)
  · exact Or.inr (Or.inr ⟨h, h', hq.trans h1⟩)
theorem hc_cell.lt {D : va_G} {K : Nat → ClassId} {H : Heap} {a t n : Nat} {i : Nat → Int32} {r : Nat → Option Nat} (h : hc_cell D K H a t n i r) : a < H.size := by
  rcases h with ⟨h, cell, h1, -⟩ | ⟨h, h', h1⟩ | ⟨h, h', h1⟩
  · exact (Array.getElem?_eq_some_iff.mp h1).1
  · exact (Array.getElem?_eq_some_iff.mp h1).1
  · exact (Array.getElem?_eq_some_iff.mp h1).1
theorem hc_cell.ob {D : va_G} {K : Nat → ClassId} {H : Heap} {a t n : Nat} {i : Nat → Int32} {r : Nat → Option Nat} (h : hc_cell D K H a t n i r) (ht : t < 8) : t_OB a (D.1 t) (hc_N t) (D.2 t) H (hc_v t i r) := by
  rcases h with ⟨h, h1⟩ | ⟨h, h', h1⟩ | ⟨h, h', h1⟩
  · exact h1
  · omega
  · omega
theorem hc_cell.ia {D : va_G} {K : Nat → ClassId} {H : Heap} {a t n : Nat} {i : Nat → Int32} {r : Nat → Option Nat} (h : hc_cell D K H a t n i r) (h8 : 8 ≤ t) (ht : t < 12) : H[a]? = some (arrV (K t) n (fun j => .int (i j))) := by
  rcases h with ⟨h, h1⟩ | ⟨h, h', h1⟩ | ⟨h, h', h1⟩
  · omega
  · exact h1
  · omega
theorem hc_cell.ra {D : va_G} {K : Nat → ClassId} {H : Heap} {a t n : Nat} {i : Nat → Int32} {r : Nat → Option Nat} (h : hc_cell D K H a t n i r) (h8 : 12 ≤ t) : t < 16 ∧ H[a]? = some (arrV (K t) n (fun j => va_rf (r j))) := by
  rcases h with ⟨h, h1⟩ | ⟨h, h', h1⟩ | ⟨h, h', h1⟩
  · omega
  · omega
  · exact ⟨h', h1⟩
def hc_w (D : va_G) (K : Nat → ClassId) (b : Nat) (S : hcS) (I : hcI) (R : hcR) (H : Heap) : Prop := ∀ a t n, S a = some (t, n) → b ≤ a ∧ hc_cell D K H a t n (I a) (R a)
theorem hc_w.put {D : va_G} {K : Nat → ClassId} {b : Nat} {S : hcS} {I I' : hcI} {R R' : hcR} {H H1 : Heap} {a t n : Nat} (hw : hc_w D K b S I R H) (ha : S a = some (t, n)) (he : hc_cell D K H1 a t n (I' a) (R' a)) (oq : ∀ q : Nat, q ≠ a → H1[q]? = H[q]?) (hI : ∀ q, q ≠ a → I' q = I q) (hR : ∀ q, q ≠ a → R' q = R q) : hc_w D K b S I' R' H1 := by
  intro x t' n' hx
  by_cases hxa : x = a
  · subst hxa
    rw [ha] at hx
    cases hx
    exact ⟨(hw x t n ha).1, he⟩
  · rw [hI x hxa, hR x hxa]
    exact ⟨(hw x t' n' hx).1, (hw x t' n' hx).2.kept (oq x hxa)⟩
theorem hc_w.new {D : va_G} {K : Nat → ClassId} {b : Nat} {S : hcS} {I : hcI} {R : hcR} {H H1 : Heap} {t n : Nat} {i : Nat → Int32} {r : Nat → Option Nat} (hw : hc_w D K b S I R H) (hb : b ≤ H.size) (he : hc_cell D K H1 H.size t n i r) (oq : ∀ q : Nat, q < H.size → H1[q]? = H[q]?) : hc_w D K b (fun x => if x = H.size then some (t, n) else S x) (fun x => if x = H.size then i else I x) (fun x => if x = H.size then r else R x) H1 := by
  intro x t' n' hx
  by_cases hxa : x = H.size
  · subst hxa
    simp only [if_true] at hx ⊢
    cases hx
    exact ⟨hb, he⟩
  · simp only [if_neg hxa] at hx ⊢
    exact ⟨(hw x t' n' hx).1, (hw x t' n' hx).2.kept (oq x (hw x t' n' hx).2.lt)⟩
def hc_u (I : hcI) (a k : Nat) (v : Int32) : hcI := fun x j => if x = a ∧ j = k then v else I x j
def hc_ur (R : hcR) (a k : Nat) (v : Option Nat) : hcR := fun x j => if x = a ∧ j = k then v else R x j
theorem hc_u_ne {I : hcI} {a k : Nat} {v : Int32} {x : Nat} (h : x ≠ a) : hc_u I a k v x = I x := by
  funext j
  simp [hc_u, h]
theorem hc_u_at {I : hcI} {a k : Nat} {v : Int32} : hc_u I a k v a = upd (I a) k v := by
  funext j
  simp [hc_u, upd]
theorem hc_ur_ne {I : hcR} {a k : Nat} {v : Option Nat} {x : Nat} (h : x ≠ a) : hc_ur I a k v x = I x := by
  funext j
  simp [hc_ur, h]
theorem hc_ur_at {I : hcR} {a k : Nat} {v : Option Nat} : hc_ur I a k v a = va_up (I a) k v := by
  funext j
  simp [hc_ur, va_up]
def hc_kt (K : Nat → ClassId) : List (ClassId × FieldType) := [(K 8, .byte), (K 9, .char), (K 10, .int), (K 11, .boolean), (K 12, .object RX1), (K 13, .object RX3), (K 14, .object RX4), (K 15, .object RX5)]
theorem hc_kt_at (K : Nat → ClassId) {t : Nat} (h8 : 8 ≤ t) (h : t < 16) : (hc_kt K)[t - 8]? = some (K t, hc_a t) := by
  have : t = 8 ∨ t = 9 ∨ t = 10 ∨ t = 11 ∨ t = 12 ∨ t = 13 ∨ t = 14 ∨ t = 15 := by omega
  rcases this with rfl | rfl | rfl | rfl | rfl | rfl | rfl | rfl <;> rfl
def hc_above (j : Nat) : Int32 := ([-1, 0, 0, 1, 2, 0] : List Int32).getD j 0
/-- what the tables and the cells ahead of the base say, in every state of the run -/
def hc_G (g : hcG) (D : va_G) (K : Nat → ClassId) (U : State) : Prop :=
  va_K D vwCl (hc_kt K) U ∧ (∀ w ∈ hc_nst, va_Nw w U) ∧ (va_AO RX1 U ∧ va_AO RX3 U ∧ va_AO RX4 U ∧ va_AO RX5 U) ∧
  (va_Z RX6 "ABOVE" "[I" (.ref g.2.1) (fun q => g.1 ≤ q) U U.heap ∧ va_T .int g.2.1 6 (fun j => .int (hc_above j)) (fun q => g.1 ≤ q) U U.heap) ∧
  ((∀ i, i < 6 → vk_R RX2 (hc_six.getD i 0) (hc_stx.getD i "") (g.2.2.1 i) U) ∧ vk_S 6 hc_sln hc_sby g.2.2.1 g.2.2.2 (fun q => g.1 ≤ q) U U.heap) ∧
  (va_Z "java/lang/String" "COMPACT_STRINGS" "Z" (.int 1) (fun q => g.1 ≤ q) U U.heap ∧ va_Zq "jdk/internal/util/Preconditions" "SIOOBE_FORMATTER" "Ljava/util/function/BiFunction;" (fun q => g.1 ≤ q) U U.heap ∧ va_T .int (g.2.2.1 6) (g.2.2.1 7) (fun j => .int (nI (g.2.2.1 (8 + j)))) (fun q => g.1 ≤ q) U U.heap)
theorem hc_G.go {g : hcG} {D : va_G} {K : Nat → ClassId} {s U : State} (h : hc_G g D K s) (hW : s.WarmedH U.vm) (hq : ∀ q : Nat, q < s.heap.size → ¬ g.1 ≤ q → U.heap[q]? = s.heap[q]?) : hc_G g D K U := by
  obtain ⟨h1, h2, ⟨a1, a2, a3, a4⟩, ⟨z1, z2⟩, ⟨k1, k2⟩, ⟨y1, y2, y3⟩⟩ := h
  have hv := hW.alike
  refine ⟨h1.moved hv, fun w hw => ?_, ⟨a1.moved hv, a2.moved hv, a3.moved hv, a4.moved hv⟩, ⟨(z1.moved hv).kept hq, (z2.moved hv).kept hq⟩, ⟨fun i hi => vk_R.warm hW (k1 i hi), (k2.moved hv).kept hq⟩, ⟨(y1.moved hv).kept hq, (y2.moved hv).kept hq, (y3.moved hv).kept hq⟩⟩
  rcases hc_nst_kind w hw with ⟨a, i, x, h, rfl⟩ | ⟨a, i, b, n, d, h, rfl⟩
  · exact va_Nw.warmM hW (h2 _ hw)
  · exact va_Nw.warmF hW (h2 _ hw)
theorem hc_G.call {g : hcG} {D : va_G} {K : Nat → ClassId} {U : State} (h : hc_G g D K U) (f : JFrame) (mk : MethodId) (a : Array Value) : hc_G g D K (U.calling f mk a) := by
  obtain ⟨h1, h2, ⟨a1, a2, a3, a4⟩, ⟨z1, z2⟩, ⟨k1, k2⟩, ⟨y1, y2, y3⟩⟩ := h
  have hv : U.vm.Alike (U.calling f mk a).vm := Vm.Alike.refl U.vm
  have hq : ∀ q : Nat, q < U.heap.size → ¬ g.1 ≤ q → (U.calling f mk a).heap[q]? = U.heap[q]? := fun _ _ _ => rfl
  refine ⟨h1.moved hv, fun w hw => ?_, ⟨a1.moved hv, a2.moved hv, a3.moved hv, a4.moved hv⟩, ⟨(z1.moved hv).kept hq, (z2.moved hv).kept hq⟩, ⟨fun i hi => vk_R.same rfl (k1 i hi), (k2.moved hv).kept hq⟩, ⟨(y1.moved hv).kept hq, (y2.moved hv).kept hq, (y3.moved hv).kept hq⟩⟩
  rcases hc_nst_kind w hw with ⟨a, i, x, h, rfl⟩ | ⟨a, i, b, n, d, h, rfl⟩
  · exact va_Nw.same rfl rfl (h2 _ hw)
  · exact va_Nw.same rfl rfl (h2 _ hw)
def hc_ps : Nat → List (Option Value) → List (Nat × Value)
  | _, [] => []
  | i, none :: L => hc_ps (i + 1) L
  | i, some v :: L => (i, v) :: hc_ps (i + 1) L
theorem hc_ps_mem : ∀ (L : List (Option Value)) (i j : Nat) (v : Value), (j, v) ∈ hc_ps i L ↔ i ≤ j ∧ L[j - i]? = some (some v)
  | [], i, j, v => by simp [hc_ps]
  | none :: L, i, j, v => by
    rw [hc_ps, hc_ps_mem L (i + 1) j v]
    constructor
    · rintro ⟨h1, h2⟩
      refine ⟨by omega, ?_⟩
      rw [show j - i = (j - (i + 1)) + 1 by omega, List.getElem?_cons_succ]
      exact h2
    · rintro ⟨h1, h2⟩
      rcases Nat.lt_or_ge i j with h | h
      · refine ⟨h, ?_⟩
        rw [show j - i = (j - (i + 1)) + 1 by omega, List.getElem?_cons_succ] at h2
        exact h2
      · rw [show j - i = 0 by omega, List.getElem?_cons_zero] at h2
        simp at h2
  | some w :: L, i, j, v => by
    rw [hc_ps, List.mem_cons, hc_ps_mem L (i + 1) j v]
    constructor
    · rintro (h | ⟨h1, h2⟩)
      · cases h
        simp
      · refine ⟨by omega, ?_⟩
        rw [show j - i = (j - (i + 1)) + 1 by omega, List.getElem?_cons_succ]
        exact h2
    · rintro ⟨h1, h2⟩
      rcases Nat.lt_or_ge i j with h | h
      · refine Or.inr ⟨h, ?_⟩
        rw [show j - i = (j - (i + 1)) + 1 by omega, List.getElem?_cons_succ] at h2
        exact h2
      · have e : j = i := by omega
        subst e
        rw [Nat.sub_self, List.getElem?_cons_zero] at h2
        simp only [Option.some.injEq] at h2
        subst h2
        exact Or.inl rfl
/-- the locals: what is known of each -/
def hc_L (ls : Array Slot) (nL : Nat) (L : List (Option Value)) : Prop := lv_has ls nL (hc_ps 0 L) ∧ L.length = nL ∧ ∀ v, some v ∈ L → v.category = 1
theorem hc_L.get {ls : Array Slot} {nL : Nat} {L : List (Option Value)} (h : hc_L ls nL L) {i : Nat} {v : Value} (hi : L[i]? = some (some v)) : ls[i]? = some (.val v) := h.1.2.2 (i, v) ((hc_ps_mem L 0 i v).mpr ⟨Nat.zero_le _, hi⟩)
theorem hc_L.lt {ls : Array Slot} {nL : Nat} {L : List (Option Value)} (h : hc_L ls nL L) {i : Nat} {x : Option Value} (hi : L[i]? = some x) : i < nL := by
  rw [← h.2.1]
  exact (List.getElem?_eq_some_iff.mp hi).1
theorem hc_L.put {ls ls' : Array Slot} {nL : Nat} {L : List (Option Value)} (h : hc_L ls nL L) {i : Nat} {v : Value} (hc : v.category = 1) (h' : lv_has ls' nL ((i, v) :: (hc_ps 0 L).filter (fun q => !(q.1 == i) && !(q.1 + 1 == i && q.2.category == 2)))) : hc_L ls' nL (L.set i (some v)) := by
  refine ⟨⟨h'.1, h'.2.1, fun q hq => ?_⟩, by rw [List.length_set]; exact h.2.1, fun w hw => ?_⟩
  · obtain ⟨j, w⟩ := q
    obtain ⟨-, h2⟩ := (hc_ps_mem _ 0 j w).mp hq
    rw [Nat.sub_zero] at h2
    refine h'.2.2 (j, w) ?_
    by_cases hj : j = i
    · subst hj
      have hlt : j < (L.set j (some v)).length := (List.getElem?_eq_some_iff.mp h2).1
      rw [List.length_set] at hlt
      rw [List.getElem?_set_self hlt] at h2
      simp only [Option.some.injEq] at h2
      subst h2
      exact List.mem_cons_self
    · rw [List.getElem?_set_ne (fun e => hj e.symm)] at h2
      refine List.mem_cons_of_mem _ (List.mem_filter.mpr ⟨(hc_ps_mem L 0 j w).mpr ⟨Nat.zero_le _, h2⟩, ?_⟩)
      have hw1 : w.category = 1 := h.2.2 w (List.mem_of_getElem? h2)
      simp [hj, hw1]
  · rcases List.mem_or_eq_of_mem_set hw with h1 | h1
    · exact h.2.2 w h1
    · simp only [Option.some.injEq] at h1
      subst h1
      exact hc
theorem hc_L.sub {ls : Array Slot} {nL : Nat} {L L' : List (Option Value)} (h : hc_L ls nL L) (hl : L'.length = L.length) (hs : ∀ (i : Nat) (v : Value), L'[i]? = some (some v) → L[i]? = some (some v)) : hc_L ls nL L' :=
  ⟨⟨h.1.1, h.1.2.1, fun q hq => h.get (hs q.1 q.2 (by have := ((hc_ps_mem L' 0 q.1 q.2).mp hq).2; rwa [Nat.sub_zero] at this))⟩, hl.trans h.2.1, fun v hv => by
    obtain ⟨i, hi⟩ := List.getElem?_of_mem hv
    exact h.2.2 v (List.mem_of_getElem? (hs i v hi))⟩
theorem hc_L.mk1 {ls : Array Slot} {nL : Nat} : ∀ {As : List Value} (hl : lv_has ls nL (lv_args 0 As)) (hc : ∀ v ∈ As, v.category = 1) (hn : As.length ≤ nL), hc_L ls nL (As.map some ++ List.replicate (nL - As.length) none) := by
  intro As hl hc hn
  refine ⟨⟨hl.1, hl.2.1, fun q hq => ?_⟩, by simp; omega, fun v hv => ?_⟩
  · obtain ⟨j, w⟩ := q
    obtain ⟨-, h2⟩ := (hc_ps_mem _ 0 j w).mp hq
    rw [Nat.sub_zero] at h2
    refine hl.2.2 (j, w) ?_
    have key : ∀ (As : List Value) (i : Nat), (∀ v ∈ As, v.category = 1) → ∀ j w, As[j]? = some w → (i + j, w) ∈ lv_args i As := by
      intro As
      induction As with
      | nil => intro i _ j w h; simp at h
      | cons a As ih =>
        intro i hc j w h
        have ha : ¬ a.category = 2 := by rw [hc a List.mem_cons_self]; decide
        simp only [lv_args, if_neg ha]
        cases j with
        | zero =>
          rw [List.getElem?_cons_zero] at h
          simp only [Option.some.injEq] at h
          subst h
          exact List.mem_cons_self
        | succ j =>
          rw [List.getElem?_cons_succ] at h
          have := ih (i + 1) (fun v hv => hc v (List.mem_cons_of_mem _ hv)) j w h
          rw [show i + (j + 1) = i + 1 + j by omega]
          exact List.mem_cons_of_mem _ this
    have h3 : As[j]? = some w := by
      by_cases hj : j < (As.map some).length
      · rw [List.getElem?_append_left hj, List.getElem?_map] at h2
        cases hx : As[j]? with
        | none => rw [hx] at h2; simp at h2
        | some y => rw [hx] at h2; simp at h2; rw [h2]
      · rw [List.getElem?_append_right (by omega), List.getElem?_replicate] at h2
        split at h2 <;> simp at h2
    have := key As 0 hc j w h3
    rwa [Nat.zero_add] at this
  · rcases List.mem_append.mp hv with h | h
    · obtain ⟨w, hw, e⟩ := List.mem_map.mp h
      simp only [Option.some.injEq] at e
      subst e
      exact hc _ hw
    · have := (List.mem_replicate.mp h).2
      simp at this
def hc_P (g : hcG) (D : va_G) (K : Nat → ClassId) (S : hcS) (I : hcI) (R : hcR) (z : Nat) (As : List Value) : Array Value → State → Prop := fun v U => v = As.toArray ∧ U.heap.size = z ∧ g.1 ≤ z ∧ hc_w D K g.1 S I R U.heap ∧ hc_G g D K U
def hc_Q (g : hcG) (D : va_G) (K : Nat → ClassId) (Q : hcQ) : Array Value → State → Outcome → State → Prop := fun _ st o t => ∃ (v : Option Value) (S : hcS) (I : hcI) (R : hcR), o = .returned v ∧ Q v S I R t.heap.size ∧ hc_w D K g.1 S I R t.heap ∧ va_F (fun q => g.1 ≤ q) st t
def hc_rm (d kc ks : Nat) : Room := { frames := d, cells := kc, slots := ks, locals := 60 * d }
/-- a call of method M with the arguments As, d frames, kc cells and ks slots to spend: it returns, and then Q -/
def Cl (g : hcG) (M : hcM) (d kc ks : Nat) (S : hcS) (I : hcI) (R : hcR) (z : Nat) (As : List Value) (Q : hcQ) : Prop := ∀ (l : Launch) (D : va_G) (K : Nat → ClassId), Met l M.1 (.code M.1 M.2.1 M.2.2.1 M.2.2.2 :: hc_tb) (hc_rm d kc ks) (hc_P g D K S I R z As) (hc_Q g D K Q) kc ks (fun q => g.1 ≤ q)
def hc_X (g : hcG) (M : hcM) (d kc ks : Nat) (S : hcS) (I : hcI) (R : hcR) (z : Nat) (L : List (Option Value)) (p : Program) (s : State) (m : MethodId) (args : Array Value) (meth : Method) (c : Code) (H : Heap) (locs : List Loc) (cells slots : Nat) (ls : Array Slot) (Rm : Room) (mc ms : Nat) (D : va_G) (K : Nat → ClassId) : Prop :=
  p.tables.exec = Jvm.exec ∧ c.code = M.2.1 ∧ c.maxLocals = M.2.2.1 ∧ meth.sig.returnType = M.2.2.2 ∧ meth.locks = false ∧ s.vm.findClass M.1.cls = some m.cls ∧ meth.name = M.1.name ∧ (∀ w ∈ hc_tb, w.before args s = true) ∧ hc_G g D K s ∧ g.1 ≤ s.heap.size ∧ hc_w D K g.1 S I R H ∧ H.size = z ∧ va_S (fun q => g.1 ≤ q) s.heap H locs ∧ hc_L ls M.2.2.1 L ∧ (d ≤ Rm.frames ∧ 60 * d ≤ Rm.locals ∧ cells + kc ≤ mc ∧ slots + ks ≤ ms ∧ mc ≤ Rm.cells ∧ ms ≤ Rm.slots)
/-- method M stands at pc with locals L and stack st: it comes to its end, and then Q -/
def V (g : hcG) (M : hcM) (d kc ks : Nat) (S : hcS) (I : hcI) (R : hcR) (z : Nat) (pc : Nat) (L : List (Option Value)) (st : List Value) (Q : hcQ) : Prop :=
  ∀ (p : Program) (l : Launch) (e : Env) (s : State) (m : MethodId) (args : Array Value) (below : List Frame) (meth : Method) (c : Code) (H : Heap) (locs : List Loc) (cells slots : Nat) (ls : Array Slot) (Rm : Room) (mc ms : Nat) (D : va_G) (K : Nat → ClassId),
    hc_X g M d kc ks S I R z L p s m args meth c H locs cells slots ls Rm mc ms D K → W p l e Rm s m args below meth c H locs cells slots (MQ below (hc_Q g D K Q) args s mc ms (fun q => g.1 ≤ q)) (F0 m pc ls st)
theorem Cl.mono {g : hcG} {M : hcM} {d kc ks : Nat} {S : hcS} {I : hcI} {R : hcR} {z : Nat} {As : List Value} {Q Q' : hcQ} (h : Cl g M d kc ks S I R z As Q) (hQ : ∀ v S I R z, Q v S I R z → Q' v S I R z) : Cl g M d kc ks S I R z As Q' := by
  intro l D K p e ha hc hk s m args below hf happ hP
  intro hKK
  obtain ⟨k, o, h1, h2, h3, hQ1, hQ2⟩ := h l D K p e ha hc hk s m args below hf happ hP hKK
  refine ⟨k, o, h1, h2, h3, ?_, hQ2⟩
  obtain ⟨v, S, I, R, q1, q2, q3⟩ := hQ1
  exact ⟨v, S, I, R, q1, hQ _ _ _ _ _ q2, q3⟩
theorem V.mono {g : hcG} {M : hcM} {d kc ks : Nat} {S : hcS} {I : hcI} {R : hcR} {z pc : Nat} {L : List (Option Value)} {st : List Value} {Q Q' : hcQ} (h : V g M d kc ks S I R z pc L st Q) (hQ : ∀ v S I R z, Q v S I R z → Q' v S I R z) : V g M d kc ks S I R z pc L st Q' := by
  intro p l e s m args below meth c H locs cells slots ls Rm mc ms D K C T hT X
  obtain ⟨t, a1, o, b1, b2, ⟨v, S, I, R, q1, q2, q3⟩, b4⟩ := h p l e s m args below meth c H locs cells slots ls Rm mc ms D K C T hT X
  exact ⟨t, a1, o, b1, b2, ⟨v, S, I, R, q1, hQ _ _ _ _ _ q2, q3⟩, b4⟩
theorem Cl.enter {g : hcG} {M : hcM} {d kc ks : Nat} {S : hcS} {I : hcI} {R : hcR} {z : Nat} {As : List Value} {Q : hcQ} (L : List (Option Value)) (hy : plainFor M.1 = true) (hL : As.map some ++ List.replicate (M.2.2.1 - As.length) none = L) (hn : As.length ≤ M.2.2.1) (hc1 : ∀ v ∈ As, v.category = 1) (h : V g M d kc ks S I R z 0 L [] Q) : Cl g M d kc ks S I R z As Q := by
  intro l D K
  subst hL
  refine va_MetF (cc := M.2.1) (maxL := M.2.2.1) (ret := M.2.2.2) hy rfl ?_
  intro p e s m args below meth c s₁ B hml hv
  obtain ⟨rfl, hsz, hgz, hw, hG⟩ := hv
  have hts := atoms_spec (ws := .code M.1 M.2.1 M.2.2.1 M.2.2.2 :: hc_tb) B.pre
  have hcs : (lg_sl As).length = As.length := by
    have : ∀ As : List Value, (∀ v ∈ As, v.category = 1) → (lg_sl As).length = As.length := by
      intro As
      induction As with
      | nil => intro _; rfl
      | cons a As ih =>
        intro hc
        have ha := hc a List.mem_cons_self
        have := ih (fun v hv => hc v (List.mem_cons_of_mem _ hv))
        cases a <;> simp_all [lg_sl, Value.category]
    exact this As hc1
  have hl := lv_entry As (n := M.2.2.1) (by rw [hcs]; exact hn)
  rw [lg_entry_eq]
  refine h p l e s m As.toArray below meth c s.heap [] 0 0 _ (hc_rm d kc ks) kc ks D K ⟨B.exec, B.bytes, hml, B.returns, B.notSynchronized, findClass_of_methodNamed B.named, (name_of_methodNamed B.named B.method).1, fun w hw => hts w (List.mem_cons_of_mem _ hw), hG, by rw [hsz]; exact hgz, hw, hsz, va_S.rf, hc_L.mk1 hl hc1 hn, Nat.le_refl _, Nat.le_refl _, by rw [Nat.zero_add]; exact Nat.le_refl _, by rw [Nat.zero_add]; exact Nat.le_refl _, Nat.le_refl _, Nat.le_refl _⟩

