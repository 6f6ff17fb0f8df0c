theorem bit_eq : ∀ k, k < 1024 → ∀ p, p < 10 → decide (((nI k).toUInt32 >>> ((nI p).toUInt32 &&& Int32.toUInt32 31)).toInt32 &&& 1 = 1) = bitB (nI k) p := by decide +kernel
theorem bit_nat : ∀ k, k < 1024 → ∀ p, p < 10 → bitB (nI k) p = decide (k / 2 ^ p % 2 = 1) := by decide +kernel
theorem or_nat : ∀ p, p < 10 → ∀ s, s < 2 ^ p → nI s ||| ((1 : Int32) <<< (nI p &&& 31)) = nI (s + 2 ^ p) := by decide +kernel
theorem abs_le : ∀ s, s < 30 → ∀ t, t < 30 → ∀ n, n < 10 → (hc_abs (nI s - nI t) ≤ nI n ↔ (-(nI n) ≤ nI s - nI t ∧ nI s - nI t ≤ nI n)) := by decide +kernel
def bcF (x : Int32) : Int32 :=
  let sh := fun (x k : Int32) => (x.toUInt32 >>> (k.toUInt32 &&& Int32.toUInt32 31)).toInt32
  let a := x - (sh x 1 &&& 1431655765)
  let b := (a &&& 858993459) + (sh a 2 &&& 858993459)
  let c := (b + sh b 4) &&& 252645135
  let d := c + sh c 8
  let e := d + sh d 16
  e &&& 63
theorem bc_nat : ∀ s, s < 1024 → bcF (nI s) = nI (pop10 s) := by decide +kernel
theorem pop_step : ∀ s, s < 1024 → 0 < s → nI s &&& (nI s - 1) = nI (s &&& (s - 1)) ∧ (s &&& (s - 1)) < s ∧ pop10 s = pop10 (s &&& (s - 1)) + 1 := by decide +kernel
theorem pop_le : ∀ s, s < 1024 → pop10 s ≤ 10 ∧ (pop10 s = 0 ↔ s = 0) := by decide +kernel
