/-! PURE: the reference's numbers. -/
def mo_full : Nat → Nat
  | 0 => 0
  | k + 1 => 2 * mo_full k + (if k % 2 = 0 then 1 else 0)
theorem mo_full_rg : ∀ n : Nat, n < 61 → mo_full n = rg n := by decide +kernel
