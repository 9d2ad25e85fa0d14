/-- the bits of a state, cell by cell, as the class packs them -/
def pkF (b : Nat) : Nat → Nat → Int32
  | 0, _ => 0
  | n + 1, s => pkF b n s ||| (nI (s / b ^ n % b) <<< (nI (6 * n) &&& 31))
/-- the digit of a state -/
def dgt (b c s : Nat) : Nat := s / b ^ c % b
theorem pk_digit : ∀ b, b < 3 → ∀ n, n < 4 → ∀ s, s < (b + 2) ^ n → ∀ c, c < n → (pkF (b + 2) n s >>> ((6 * nI c) &&& 31)) &&& 3 = nI (dgt (b + 2) c s) := by decide +kernel
theorem dgt_m1 : ∀ b, b < 3 → ∀ s, s < (b + 2) ^ 1 → ∀ c, c < 1 → ∀ w, w < b + 2 → dgt (b + 2) c s * (b + 2) ^ c ≤ s ∧ s - dgt (b + 2) c s * (b + 2) ^ c + w * (b + 2) ^ c < (b + 2) ^ 1 := by decide +kernel
theorem dgt_m2 : ∀ b, b < 3 → ∀ s, s < (b + 2) ^ 2 → ∀ c, c < 2 → ∀ w, w < b + 2 → dgt (b + 2) c s * (b + 2) ^ c ≤ s ∧ s - dgt (b + 2) c s * (b + 2) ^ c + w * (b + 2) ^ c < (b + 2) ^ 2 := by decide +kernel
theorem dgt_m3 : ∀ b, b < 3 → ∀ s, s < (b + 2) ^ 3 → ∀ c, c < 3 → ∀ w, w < b + 2 → dgt (b + 2) c s * (b + 2) ^ c ≤ s ∧ s - dgt (b + 2) c s * (b + 2) ^ c + w * (b + 2) ^ c < (b + 2) ^ 3 := by decide +kernel
theorem dgt_move {b n s c w : Nat} (hb : b < 3) (hn : n < 4) (hs : s < (b + 2) ^ n) (hc : c < n) (hw : w < b + 2) : dgt (b + 2) c s * (b + 2) ^ c ≤ s ∧ s - dgt (b + 2) c s * (b + 2) ^ c + w * (b + 2) ^ c < (b + 2) ^ n := by
  rcases (show n = 1 ∨ n = 2 ∨ n = 3 by omega) with rfl | rfl | rfl
  · exact dgt_m1 b hb s hs c hc w hw
  · exact dgt_m2 b hb s hs c hc w hw
  · exact dgt_m3 b hb s hs c hc w hw
theorem pow_64 : ∀ b, b < 5 → ∀ n, n < 4 → b ^ n ≤ 64 := by decide +kernel
