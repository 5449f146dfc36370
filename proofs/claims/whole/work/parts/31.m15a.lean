def cn (p : Nat → Bool) : Nat → Nat
  | 0 => 0
  | k + 1 => cn p k + (if p k then 1 else 0)
def bcV (x0 : Int32) : Int32 := lt (x0 - (((x0 : Int32).toUInt32 >>> ((1 : Int32).toUInt32 &&& Int32.toUInt32 31)).toInt32 &&& 1431655765)) fun v1 => lt ((v1 &&& 858993459) + (((v1 : Int32).toUInt32 >>> ((2 : Int32).toUInt32 &&& Int32.toUInt32 31)).toInt32 &&& 858993459)) fun v2 => lt ((v2 + ((v2 : Int32).toUInt32 >>> ((4 : Int32).toUInt32 &&& Int32.toUInt32 31)).toInt32) &&& 252645135) fun v3 => lt (v3 + ((v3 : Int32).toUInt32 >>> ((8 : Int32).toUInt32 &&& Int32.toUInt32 31)).toInt32) fun v4 => lt (v4 + ((v4 : Int32).toUInt32 >>> ((16 : Int32).toUInt32 &&& Int32.toUInt32 31)).toInt32) fun v5 => (v5 &&& 63)
theorem nI_tb0 : ∀ a, a < 32 → ∀ b, b < 64 → ∀ k, k < 11 → ((nI (64 * a + b) >>> (nI k &&& 31)) &&& 1) = if (64 * a + b).testBit k then 1 else 0 := by decide +kernel
theorem bc_0 : ∀ a, a < 32 → ∀ b, b < 64 → bcV (nI (64 * a + b)) = nI (cn (64 * a + b).testBit 11) := by decide +kernel
