/-! the tape; count -/
def sb (t : Nat) : Int32 := (nI t).toInt8.toInt32
def btN (v : Int32) (k : Nat) : Nat := v.toBitVec.toNat / 2 ^ (24 - 8 * k) % 256
theorem btN_lt (v : Int32) (k : Nat) : btN v k < 256 := Nat.mod_lt _ (by omega)
theorem i8_congr {x y : Int32} (h : x.toBitVec.toNat % 256 = y.toBitVec.toNat % 256) : x.toInt8 = y.toInt8 := by
  apply Int8.toBitVec_inj.mp
  rw [Int32.toBitVec_toInt8, Int32.toBitVec_toInt8, BitVec.signExtend_eq_setWidth_of_le _ (by omega), BitVec.signExtend_eq_setWidth_of_le _ (by omega)]
  apply BitVec.eq_of_toNat_eq
  rw [BitVec.toNat_setWidth, BitVec.toNat_setWidth]
  exact h
theorem sb_eq {v u : Int32} {k : Nat} (h : u.toBitVec.toNat = v.toBitVec.toNat / 2 ^ (24 - 8 * k)) : u.toInt8.toInt32 = sb (btN v k) := by
  unfold sb
  have hb := btN_lt v k
  rw [i8_congr (x := u) (y := nI (btN v k)) (by rw [h, pk_tn (by omega), Nat.mod_eq_of_lt hb]; rfl)]
theorem shr_low (x : BitVec 32) (s : Nat) (hs : s ≤ 24) : (x.sshiftRight s).toNat % 256 = x.toNat / 2 ^ s % 256 := by
  have e : (x.sshiftRight s).setWidth 8 = (x >>> s).setWidth 8 := by
    apply BitVec.eq_of_getLsbD_eq
    intro i hi
    rw [BitVec.getLsbD_setWidth, BitVec.getLsbD_setWidth, BitVec.getLsbD_sshiftRight, BitVec.getLsbD_ushiftRight]
    have h1 : ¬ 32 ≤ i := by omega
    have h2 : s + i < 32 := by omega
    simp [h1, h2]
  have e2 := congrArg BitVec.toNat e
  rw [BitVec.toNat_setWidth, BitVec.toNat_setWidth, BitVec.toNat_ushiftRight, Nat.shiftRight_eq_div_pow] at e2
  exact e2
theorem shr_b {v s : Int32} {k : Nat} (hs : ((s &&& 31).toBitVec.smod 32).toNat = 24 - 8 * k) : (v >>> (s &&& 31)) &&& 255 = nI (btN v k) := by
  rw [pk_and _ 8 (m := 255) (by decide)]
  congr 1
  show (v.toBitVec.sshiftRight ((s &&& 31).toBitVec.smod 32).toNat).toNat % 256 = _
  rw [hs]
  exact shr_low _ _ (by omega)
def wdF (a c d : Int32) (k : Nat) : Int32 := if k < 4 then a else if k < 8 then c else d
def fdF (tp : Nat → Int32) (tl : Nat) (a c d : Int32) (n : Nat) : Nat → Int32 := fun i => if tl ≤ i ∧ i < tl + n then nI (btN (wdF a c d (i - tl)) ((i - tl) % 4)) else tp i
def TPc (I : hcI) (b tl : Nat) (tp : Nat → Int32) : Prop := ∀ j, j < tl → ∃ t, t < 256 ∧ tp j = nI t ∧ I (b + 51) j = sb t
section T13
variable {g : hcG} {S : hcS} {I : hcI} {R : hcR} {z : Nat} {Q : hcQ} {b m np nb nt sec wt tl : Nat} {N : hN} {tp : Nat → Int32}
theorem putBytes_1 {v sh : Int32} {t k : Nat} (hx : XSk S R b) (h9 : I b 9 = nI t) (ht : t < 96) (hk : k < 4) (e1 : sh = nI (24 - 8 * k)) (hQ : V g mX6_putBytes 0 0 0 S (hc_u (hc_u I (b + 51) t (sb (btN v k))) b 9 (nI (t + 1))) R z 3 [some (.ref b), some (.int v), some (.int (sh + (-8)))] [] Q) : V g mX6_putBytes 0 0 0 S I R z 3 [some (.ref b), some (.int v), some (.int sh)] [] Q := by
  obtain ⟨⟨s0, r0, -, r2, -, r4, r5, r6, r7⟩, -, -, -, -, ⟨s51, s52⟩⟩ := hx
  have hu : ((v.toUInt32 >>> (sh.toUInt32 &&& Int32.toUInt32 31)).toInt32).toBitVec.toNat = v.toBitVec.toNat / 2 ^ (24 - 8 * k) := by
    refine pk_ushr v sh _ ?_
    rw [e1]
    have : k = 0 ∨ k = 1 ∨ k = 2 ∨ k = 3 := by omega
    rcases this with rfl | rfl | rfl | rfl <;> decide
  refine v_iload_n (q := 4) dX6_putBytes_3 (kk := ?_)
  refine v_if_ltF (q := 7) (t := 45) dX6_putBytes_4 (by rw [e1]; exact nI_pos (by omega)) (kf := ?_)
  refine v_aload_n (q := 8) dX6_putBytes_7 (kk := ?_)
  refine v_getI (q := 11) fX6_194 (by assumption) (hd := dX6_putBytes_8) (kk := ?_)
  rw [h9]
  refine v_bipush (v := 96) (q := 13) dX6_putBytes_11 (kk := ?_)
  refine v_icmp_geF (q := 16) (t := 45) dX6_putBytes_13 (fun h => by have := (nI_leI (a := 96) (by omega) (by omega)).mp h; omega) (kf := ?_)
  refine v_aload_n (q := 17) dX6_putBytes_16 (kk := ?_)
  refine v_getR (q := 20) fX6_41 (by assumption) (by assumption) (hd := dX6_putBytes_17) (kk := ?_)
  refine v_aload_n (q := 21) dX6_putBytes_20 (kk := ?_)
  refine v_getI (q := 24) fX6_194 (by assumption) (hd := dX6_putBytes_21) (kk := ?_)
  rw [h9]
  refine v_iload_n (q := 25) dX6_putBytes_24 (kk := ?_)
  refine v_iload_n (q := 26) dX6_putBytes_25 (kk := ?_)
  refine v_iushr (q := 27) dX6_putBytes_26 (kk := ?_)
  refine v_i2b (q := 28) dX6_putBytes_27 (hv := (sb_eq hu)) (kk := ?_)
  refine v_bastN (q := 29) s51 ht (by omega) (pk_nb _) dX6_putBytes_28 (kk := ?_)
  refine v_aload_n (q := 30) dX6_putBytes_29 (kk := ?_)
  refine v_dup (q := 31) dX6_putBytes_30 (kk := ?_)
  refine v_getI (q := 34) fX6_194 (by assumption) (hd := dX6_putBytes_31) (kk := ?_)
  rw [hc_u_ne (by omega), h9]
  refine v_iconst (v := 1) (q := 35) dX6_putBytes_34 (kk := ?_)
  refine v_iadd (q := 36) dX6_putBytes_35 (kk := ?_)
  rw [nI_1]
  refine v_putI (q := 39) fX6_194 (by assumption) (hd := dX6_putBytes_36) (kk := ?_)
  refine v_iinc2 (q := 42) dX6_putBytes_39 (hv := rfl) (kk := ?_)
  refine v_goto 3 dX6_putBytes_42 (kt := ?_)
  exact hQ
end T13
