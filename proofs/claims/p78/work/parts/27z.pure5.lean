/-- the bits of a state, cell by cell, as the class packs them -/
def pkF (b : Nat) : Nat → Nat → Int32
  | 0, _ => 0
  | n + 1, s => pkF b n s ||| (nI (s / b ^ n % b) <<< (nI (6 * n) &&& 31))
/-- the digit of a state -/
def dgt (b c s : Nat) : Nat := s / b ^ c % b
theorem pk_digit : ∀ b, b < 3 → ∀ n, n < 4 → ∀ s, s < (b + 2) ^ n → ∀ c, c < n → (pkF (b + 2) n s >>> ((6 * nI c) &&& 31)) &&& 3 = nI (dgt (b + 2) c s) := by decide +kernel
theorem dgt_move : ∀ b, b < 3 → ∀ n, n < 4 → ∀ s, s < (b + 2) ^ n → ∀ c, c < n → ∀ w, w < b + 2 → dgt (b + 2) c s * (b + 2) ^ c ≤ s ∧ s - dgt (b + 2) c s * (b + 2) ^ c + w * (b + 2) ^ c < (b + 2) ^ n := by decide +kernel
theorem pow_64 : ∀ b, b < 5 → ∀ n, n < 4 → b ^ n ≤ 64 := by decide +kernel
