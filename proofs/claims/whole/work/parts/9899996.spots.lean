/-! a SPOT with the turn of one and the place of another -/
section SPT
variable {a b : Int}
theorem tp_n : ∀ a : Nat, a < 128 → ∀ b : Nat, b < 128 → ((Int32.ofNat a &&& 64) ||| (Int32.ofNat b &&& 63)) = Int32.ofNat (a / 64 * 64 + b % 64) := by decide +kernel
theorem tp_I (a0 : 0 ≤ a) (a1 : a < 128) (b0 : 0 ≤ b) (b1 : b < 128) : ((iI a &&& (64 : Int32)) ||| (iI b &&& (63 : Int32))) = iI (a / 64 * 64 + b % 64) := by
  rw [iI_nat a0, iI_nat b0, tp_n _ (by omega) _ (by omega), iI_nat (by omega)]
  congr 1
  omega
end SPT
