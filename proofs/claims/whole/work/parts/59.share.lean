/-! the share of the floats without trouble -/
def shv (m k : Nat) : UInt64 := FP.ddiv (FP.i2d (nI m - nI k)) (FP.i2d (nI m))
def shok (x : UInt64) : Bool := decide (x &&& 0x7fffffffffffffff ≤ 0x7ff0000000000000) && (match fX4_bitsOfShare 12 x, fJxe99ae_doubleToLongBits_ccdee 12 x with
  | some a, some b => a == b
  | _, _ => false)
theorem sh_all : ∀ m, m < 13 → ∀ k, k < 13 → k ≤ m → 1 ≤ m → shok (shv m k) = true := by decide +kernel
theorem sh_one : shok FP.dconst1 = true := by decide +kernel
