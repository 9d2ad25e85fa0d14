theorem ne0_nI {d : Nat} (h0 : 0 < d) (hd : d < 2 ^ 31) : ¬ nI d = 0 := fun e => by
  have h := (nI_eq (a := d) (b := 0) hd (by omega)).mp e
  omega
theorem rem_nI {a d : Nat} (ha : a < 2 ^ 31) (h0 : 0 < d) (hd : d < 2 ^ 31) : nI a - nI a / nI d * nI d = nI (a % d) := by
  rw [pk_div ha h0 hd, pk_mul, pk_sub (Nat.div_mul_le_self a d)]
  have h := Nat.div_add_mod a d
  rw [Nat.mul_comm] at h
  rw [show a - a / d * d = a % d by omega]
/-- the class's packed states and places, as load lays them -/
def PKD (f : Nat → Int32) (tp n : Nat) : Prop := ∀ k, k < (tp + 1) ^ n → f k = pkF (tp + 1) n k
def PLC (f : Nat → Int32) (tp n : Nat) : Prop := ∀ k, k < n → f k = nI ((tp + 1) ^ k)
theorem pk_dig {tp n k c : Nat} (h1 : 1 ≤ tp) (h3 : tp ≤ 3) (hn : n ≤ 3) (hs : k < (tp + 1) ^ n) (hc : c < n) : (pkF (tp + 1) n k >>> (nI (6 * c) &&& 31)) &&& 3 = nI (dgt (tp + 1) c k) := by
  obtain ⟨b, rfl⟩ : ∃ b, tp = b + 1 := ⟨tp - 1, by omega⟩
  rw [← pk_mul 6 c]
  exact pk_digit b (by omega) n (by omega) k hs c hc
theorem dgt_lt {tp c k : Nat} : dgt (tp + 1) c k < tp + 1 := Nat.mod_lt _ (by omega)
theorem pow_le64 {tp n : Nat} (h3 : tp ≤ 3) (hn : n ≤ 3) : (tp + 1) ^ n ≤ 64 := pow_64 (tp + 1) (by omega) n (by omega)
theorem res_n {f : Nat → Int32} {k : Nat} (h : RES f) : RES (upd f k (-1)) := fun q hq => by
  by_cases e : q = k
  · exact Or.inl (by simp [upd, e])
  · rcases h q hq with h | ⟨j, h1, h2⟩
    · exact Or.inl (by simp [upd, e, h])
    · exact Or.inr ⟨j, h1, by simp [upd, e, h2]⟩
theorem res_j {f : Nat → Int32} {k j : Nat} (h : RES f) (hj : j < 64) : RES (upd f k (nI j)) := fun q hq => by
  by_cases e : q = k
  · exact Or.inr ⟨j, hj, by simp [upd, e]⟩
  · rcases h q hq with h | ⟨j, h1, h2⟩
    · exact Or.inl (by simp [upd, e, h])
    · exact Or.inr ⟨j, h1, by simp [upd, e, h2]⟩
theorem plc_put {f : Nat → Int32} {tp i v : Nat} (h : PLC f tp i) (hi : i < 2 ^ 31) (hv : v = (tp + 1) ^ i) : PLC (upd f (nI i).toNatClampNeg (nI v)) tp (i + 1) := fun k hk => by
  rw [nI_clamp hi]
  by_cases e : k = i
  · simp [upd, e, hv]
  · simp [upd, e, h k (by omega)]
theorem pkd_put {f : Nat → Int32} {tp n i : Nat} {x : Int32} (h : ∀ k, k < i → f k = pkF (tp + 1) n k) (hi : i < 2 ^ 31) (hx : x = pkF (tp + 1) n i) : ∀ k, k < i + 1 → (upd f (nI i).toNatClampNeg x) k = pkF (tp + 1) n k := fun k hk => by
  rw [nI_clamp hi]
  by_cases e : k = i
  · simp [upd, e, hx]
  · simp [upd, e, h k (by omega)]
theorem shf {tp n k c d : Nat} {y pl : Int32} (h1 : 1 ≤ tp) (h3 : tp ≤ 3) (hn : n ≤ 3) (hs : k < (tp + 1) ^ n) (hc : c < n) (hd : d = dgt (tp + 1) c k) (c1 : ¬ nI d + y < 0) (c2 : nI d + y ≤ nI tp) (hp : pl = nI ((tp + 1) ^ c)) : ∃ j, j < (tp + 1) ^ n ∧ nI k + y * pl = nI j := by
  obtain ⟨w, hw, ew⟩ := nI_of c1
  rw [ew] at c2
  have hw2 := ble_t c2 hw (by omega)
  obtain ⟨b, rfl⟩ : ∃ b, tp = b + 1 := ⟨tp - 1, by omega⟩
  obtain ⟨m1, m2⟩ := dgt_move (b := b) (n := n) (s := k) (c := c) (w := w) (by omega) (by omega) hs hc (by omega)
  refine ⟨_, m2, ?_⟩
  have ey : y = nI w - nI d := by rw [← ew]; grind
  have e1 : nI k = nI (k - dgt (b + 2) c k * (b + 2) ^ c) + nI (dgt (b + 2) c k * (b + 2) ^ c) := by
    rw [nI_add, Nat.sub_add_cancel m1]
  have hd' : d = dgt (b + 2) c k := hd
  have hp' : pl = nI ((b + 2) ^ c) := hp
  rw [ey, hp', hd', e1, ← nI_add, ← pk_mul, ← pk_mul]
  grind
theorem pw_s {b i v : Nat} (h : v = b ^ i) : v * b = b ^ (i + 1) := by rw [h, Nat.pow_succ]
theorem dv_s {b i v s : Nat} (h : v = s / b ^ i) : v / b = s / b ^ (i + 1) := by rw [h, Nat.div_div_eq_div_mul, Nat.pow_succ]
theorem ex_natb {k : Int32} {n : Nat} (h1 : ¬ k < 0) (h2 : ¬ k ≥ nI n) (hn : n < 2 ^ 31) : ∃ j, j < n ∧ k = nI j := ex_nat h1 (Int32.not_le.mp h2) hn
theorem pk_step {b i v s : Nat} {x : Int32} (hx : x = pkF b i s) (hv : v = s / b ^ i) : x ||| (nI (v % b) <<< (nI (6 * i) &&& 31)) = pkF b (i + 1) s := by rw [hx, hv]; rfl
theorem ex_rng {x : Int32} {lo hi : Nat} (c1 : ¬ x < nI lo) (c2 : x ≤ nI hi) (h1 : lo < 2 ^ 31) (h2 : hi < 2 ^ 31) : ∃ j9, j9 < hi + 1 ∧ x = nI j9 := by
  have h0 : ¬ x < 0 := fun h => c1 (by
    rw [Int32.lt_iff_toInt_lt] at h ⊢
    rw [nI_toInt h1]
    rw [i0] at h
    omega)
  obtain ⟨j, hj, rfl⟩ := nI_of h0
  exact ⟨j, Nat.lt_succ_of_le (ble_t c2 hj h2), rfl⟩
theorem i5 : (5 : Int32).toInt = 5 := by decide
theorem ex_i {k : Int32} {n : Nat} (h : 0 ≤ k.toInt ∧ k.toInt < (n : Int)) (hn : n < 2 ^ 31) : ∃ j : Nat, j < n ∧ k = nI j := by
  have h0 : ¬ k < 0 := fun e => by
    rw [Int32.lt_iff_toInt_lt, i0] at e
    omega
  obtain ⟨j, hj, rfl⟩ := nI_of h0
  rw [nI_toInt hj] at h
  exact ⟨j, by omega, rfl⟩
/-- the numbers of a row are states -/
def SEEN (f : Nat → Int64) (n z : Nat) : Prop := ∀ i, i < n → ∃ q, q < z ∧ f i = (nI q).toInt64
theorem seen_0 {f : Nat → Int64} (z : Nat) : SEEN f 0 z := fun i hi => absurd hi (Nat.not_lt_zero i)
theorem seen_all {f : Nat → Int64} {i n z : Nat} (h : SEEN f i z) (hn : n ≤ i) : SEEN f n z := fun k hk => h k (by omega)
theorem seen_put {f : Nat → Int64} {i z : Nat} (h : SEEN f i z) (c1 : ¬ lg_cmp (f i) 0 < 0) (c2 : lg_cmp (f i) ((nI z).toInt64) < 0) (hz : z ≤ 64) : SEEN f (i + 1) z := fun k hk => by
  by_cases e : k = i
  · subst e
    rw [lg_cmp_lt, Int64.lt_iff_toInt_lt] at c1 c2
    rw [Int32.toInt_toInt64, nI_toInt (by omega)] at c2
    have e0 : (0 : Int64).toInt = 0 := by decide
    rw [e0] at c1
    refine ⟨(f k).toInt.toNat, by omega, Int64.toInt_inj.mp ?_⟩
    rw [Int32.toInt_toInt64, nI_toInt (by omega)]
    omega
  · exact h k (by omega)
theorem seen_at {f : Nat → Int64} {i n z : Nat} (h : SEEN f n z) (hi : i < n) : ∃ q, q < z ∧ (f i).toInt32 = nI q := by
  obtain ⟨q, h1, h2⟩ := h i hi
  exact ⟨q, h1, by rw [h2, Int32.toInt32_toInt64]⟩
theorem ex_le {k : Int32} {n : Nat} (h1 : ¬ k < 0) (h2 : k ≤ nI n) (hn : n < 2 ^ 31) : ∃ j, j ≤ n ∧ k = nI j := by
  obtain ⟨j, hj, rfl⟩ := nI_of h1
  exact ⟨j, ble_t h2 hj hn, rfl⟩
