/-! bits counted -/
set_option maxRecDepth 100000 in
theorem bc_key : ∀ y, y < 4096 → bcF (nI (64 * y)) = nI (sumN (fun w => if tb (nI (64 * y)) w = true then 1 else 0) 18) := by decide +kernel
