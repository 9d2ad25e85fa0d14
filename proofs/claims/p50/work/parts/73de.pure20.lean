/-! own lemmas: how many bits a long has -/
def popL (n : Nat) : Nat → Nat
  | 0 => 0
  | k + 1 => popL n k + (n.testBit k).toNat
theorem pop_congr {n m k : Nat} (h : ∀ i, i < k → n.testBit i = m.testBit i) : popL n k = popL m k := by
  induction k with
  | zero => rfl
  | succ k ih =>
    show popL n k + (n.testBit k).toNat = popL m k + (m.testBit k).toNat
    rw [ih (fun i hi => h i (by omega)), h k (by omega)]
theorem pop_split (n : Nat) : ∀ k, popL n (8 + k) = popL (n % 256) 8 + popL (n / 256) k := by
  intro k
  induction k with
  | zero =>
    show popL n 8 = popL (n % 256) 8 + 0
    rw [Nat.add_zero]
    exact pop_congr (fun i hi => by
      rw [show (256 : Nat) = 2 ^ 8 from rfl, Nat.testBit_mod_two_pow]
      simp [hi])
  | succ k ih =>
    show popL n (8 + k) + (n.testBit (8 + k)).toNat = _
    rw [ih]
    show _ = popL (n % 256) 8 + (popL (n / 256) k + ((n / 256).testBit k).toNat)
    rw [show (256 : Nat) = 2 ^ 8 from rfl, Nat.testBit_div_two_pow, Nat.add_comm k 8]
    omega
/-- a mask of k bytes -/
def msk (m : Nat) : Nat → Nat
  | 0 => 0
  | k + 1 => 256 * msk m k + m
theorem land_sp {a b c d : Nat} (hb : b < 256) (hd : d < 256) : (256 * a + b) &&& (256 * c + d) = 256 * (a &&& c) + (b &&& d) := by
  apply Nat.eq_of_testBit_eq
  intro i
  have h8 : b &&& d < 2 ^ 8 := Nat.lt_of_le_of_lt Nat.and_le_left hb
  rw [Nat.testBit_and, show (256 : Nat) = 2 ^ 8 from rfl, Nat.testBit_two_pow_mul_add _ hb, Nat.testBit_two_pow_mul_add _ hd, Nat.testBit_two_pow_mul_add _ h8]
  by_cases e : i < 8
  · rw [if_pos e, if_pos e, if_pos e, Nat.testBit_and]
  · rw [if_neg e, if_neg e, if_neg e, Nat.testBit_and]
def t1 (b : Nat) : Nat := b - (b / 2 &&& 85)
def t2 (b : Nat) : Nat := (b &&& 51) + (b / 4 &&& 51)
def t3 (b : Nat) : Nat := (b + b / 16) % 16
def T1 (k n : Nat) : Nat := n - (n / 2 &&& msk 85 k)
def T2 (k n : Nat) : Nat := (n &&& msk 51 k) + (n / 4 &&& msk 51 k)
def T3 (k n : Nat) : Nat := (n + n / 16) &&& msk 15 k
theorem m85 : ∀ y, y < 256 → y &&& 85 = (y % 128) &&& 85 := by decide +kernel
theorem m51 : ∀ y, y < 256 → y &&& 51 = (y % 64) &&& 51 := by decide +kernel
theorem m15 : ∀ y, y < 256 → y &&& 15 = y % 16 := by decide +kernel
theorem T1_s {k n : Nat} : T1 (k + 1) n = 256 * T1 k (n / 256) + t1 (n % 256) := by
  unfold T1 t1
  show n - (n / 2 &&& (256 * msk 85 k + 85)) = _
  have e : n / 2 = 256 * (n / 256 / 2) + n / 2 % 256 := by omega
  rw [e, land_sp (Nat.mod_lt _ (by decide)) (by decide), m85 _ (Nat.mod_lt _ (by decide)), show n / 2 % 256 % 128 = n % 256 / 2 by omega]
  have h1 : n / 256 / 2 &&& msk 85 k ≤ n / 256 / 2 := Nat.and_le_left
  have h2 : n % 256 / 2 &&& 85 ≤ n % 256 / 2 := Nat.and_le_left
  generalize n / 256 / 2 &&& msk 85 k = A at h1 ⊢
  generalize n % 256 / 2 &&& 85 = C at h2 ⊢
  omega
theorem T2_s {k a b : Nat} (hb : b < 256) : T2 (k + 1) (256 * a + b) = 256 * T2 k a + t2 b := by
  unfold T2 t2
  show ((256 * a + b) &&& (256 * msk 51 k + 51)) + ((256 * a + b) / 4 &&& (256 * msk 51 k + 51)) = _
  have e : (256 * a + b) / 4 = 256 * (a / 4) + (256 * a + b) / 4 % 256 := by omega
  rw [land_sp hb (by decide), e, land_sp (Nat.mod_lt _ (by decide)) (by decide), m51 _ (Nat.mod_lt _ (by decide)), show (256 * a + b) / 4 % 256 % 64 = b / 4 by omega]
  omega
theorem T3_s {k a b : Nat} (hb : b ≤ 68) (ha : a % 16 ≤ 4) : T3 (k + 1) (256 * a + b) = 256 * T3 k a + t3 b := by
  unfold T3 t3
  show (256 * a + b + (256 * a + b) / 16) &&& (256 * msk 15 k + 15) = _
  have e : 256 * a + b + (256 * a + b) / 16 = 256 * (a + a / 16) + (b + b / 16 + 16 * (a % 16)) := by omega
  rw [e, land_sp (by omega) (by decide), m15 _ (by omega), show (b + b / 16 + 16 * (a % 16)) % 16 = (b + b / 16) % 16 by omega]
theorem t_all : ∀ b, b < 256 → t1 b < 256 ∧ t2 (t1 b) ≤ 68 ∧ t2 (t1 b) % 16 ≤ 4 ∧ t3 (t2 (t1 b)) = popL b 8 ∧ popL b 8 ≤ 8 := by decide +kernel
def sumB (n : Nat) : Nat → Nat
  | 0 => 0
  | k + 1 => 256 * sumB (n / 256) k + popL (n % 256) 8
theorem T12 {k n : Nat} : T2 k (T1 k n) % 16 ≤ 4 := by
  cases k with
  | zero =>
    show ((_ &&& 0) + (_ &&& 0)) % 16 ≤ 4
    rw [Nat.and_zero, Nat.and_zero]
    decide
  | succ k =>
    have h := t_all (n % 256) (Nat.mod_lt _ (by decide))
    rw [T1_s, T2_s h.1]
    omega
theorem T_sum : ∀ k n, T3 k (T2 k (T1 k n)) = sumB n k := by
  intro k
  induction k with
  | zero =>
    intro n
    show (_ &&& 0) = 0
    exact Nat.and_zero _
  | succ k ih =>
    intro n
    have h := t_all (n % 256) (Nat.mod_lt _ (by decide))
    rw [T1_s, T2_s h.1, T3_s h.2.1 T12, ih, h.2.2.2.1]
    rfl
theorem pop_64 (n : Nat) : popL n 64 = popL (n % 256) 8 + (popL (n / 256 % 256) 8 + (popL (n / 256 / 256 % 256) 8 + (popL (n / 256 / 256 / 256 % 256) 8 + (popL (n / 256 / 256 / 256 / 256 % 256) 8 + (popL (n / 256 / 256 / 256 / 256 / 256 % 256) 8 + (popL (n / 256 / 256 / 256 / 256 / 256 / 256 % 256) 8 + popL (n / 256 / 256 / 256 / 256 / 256 / 256 / 256 % 256) 8)))))) := by
  rw [show 64 = 8 + 56 from rfl, pop_split, show 56 = 8 + 48 from rfl, pop_split, show 48 = 8 + 40 from rfl, pop_split, show 40 = 8 + 32 from rfl, pop_split, show 32 = 8 + 24 from rfl, pop_split, show 24 = 8 + 16 from rfl, pop_split, show 16 = 8 + 8 from rfl, pop_split, show popL (n / 256 / 256 / 256 / 256 / 256 / 256 / 256) 8 = popL (n / 256 / 256 / 256 / 256 / 256 / 256 / 256 % 256) 8 from by
    have e := pop_split (n / 256 / 256 / 256 / 256 / 256 / 256 / 256) 0
    exact e]
theorem sq_1 {y a c : Nat} (h : y = 256 * a + c) (b : c ≤ 8) : y / 256 = a := by
  rw [h, Nat.mul_add_div (by decide), Nat.div_eq_of_lt (by omega), Nat.add_zero]
theorem sq_2 {y a1 a2 a3 c0 c1 c2 : Nat} (h0 : y = 256 * a1 + c0) (h1 : a1 = 256 * a2 + c1) (h2 : a2 = 256 * a3 + c2) (b0 : c0 ≤ 8) (b1 : c1 ≤ 8) (b2 : c2 ≤ 8) : (y + a1) / 65536 = a2 + a3 := by
  have e : y + a1 = 65536 * (a2 + a3) + (256 * (c1 + c2) + (c0 + c1)) := by omega
  rw [e, Nat.mul_add_div (by decide), Nat.div_eq_of_lt (by omega), Nat.add_zero]
theorem sq_3 {y a1 a2 a3 a4 a5 a6 a7 c0 c1 c2 c3 c4 c5 c6 : Nat} (h0 : y = 256 * a1 + c0) (h1 : a1 = 256 * a2 + c1) (h2 : a2 = 256 * a3 + c2) (h3 : a3 = 256 * a4 + c3) (h4 : a4 = 256 * a5 + c4) (h5 : a5 = 256 * a6 + c5) (h6 : a6 = 256 * a7 + c6) (b0 : c0 ≤ 8) (b1 : c1 ≤ 8) (b2 : c2 ≤ 8) (b3 : c3 ≤ 8) (b4 : c4 ≤ 8) (b5 : c5 ≤ 8) (b6 : c6 ≤ 8) : (y + a1 + (a2 + a3)) / 4294967296 = a4 + a5 + (a6 + a7) := by
  have e0 : y = 4294967296 * a4 + (16777216 * c3 + 65536 * c2 + 256 * c1 + c0) := by omega
  have e1 : a1 = 4294967296 * a5 + (16777216 * c4 + 65536 * c3 + 256 * c2 + c1) := by omega
  have e2 : a2 = 4294967296 * a6 + (16777216 * c5 + 65536 * c4 + 256 * c3 + c2) := by omega
  have e3 : a3 = 4294967296 * a7 + (16777216 * c6 + 65536 * c5 + 256 * c4 + c3) := by omega
  have r0 : 16777216 * c3 + 65536 * c2 + 256 * c1 + c0 < 1000000000 := by omega
  have r1 : 16777216 * c4 + 65536 * c3 + 256 * c2 + c1 < 1000000000 := by omega
  have r2 : 16777216 * c5 + 65536 * c4 + 256 * c3 + c2 < 1000000000 := by omega
  have r3 : 16777216 * c6 + 65536 * c5 + 256 * c4 + c3 < 1000000000 := by omega
  generalize 16777216 * c3 + 65536 * c2 + 256 * c1 + c0 = t0 at e0 r0
  generalize 16777216 * c4 + 65536 * c3 + 256 * c2 + c1 = t1 at e1 r1
  generalize 16777216 * c5 + 65536 * c4 + 256 * c3 + c2 = t2 at e2 r2
  generalize 16777216 * c6 + 65536 * c5 + 256 * c4 + c3 = t3 at e3 r3
  clear h0 h1 h2 h3 h4 h5 h6 b0 b1 b2 b3 b4 b5 b6
  have e : y + a1 + (a2 + a3) = 4294967296 * (a4 + a5 + (a6 + a7)) + (t0 + t1 + (t2 + t3)) := by
    rw [e0, e1, e2, e3]
    simp only [Nat.mul_add]
    ac_rfl
  rw [e, Nat.mul_add_div (by decide), Nat.div_eq_of_lt (by omega), Nat.add_zero]
theorem sq_4 {y a1 a2 a3 a4 a5 a6 a7 c0 c1 c2 c3 c4 c5 c6 c7 : Nat} (h0 : y = 256 * a1 + c0) (h1 : a1 = 256 * a2 + c1) (h2 : a2 = 256 * a3 + c2) (h3 : a3 = 256 * a4 + c3) (h4 : a4 = 256 * a5 + c4) (h5 : a5 = 256 * a6 + c5) (h6 : a6 = 256 * a7 + c6) (h7 : a7 = c7) (hs : c0 + (c1 + (c2 + (c3 + (c4 + (c5 + (c6 + c7)))))) < 128) : (y + a1 + (a2 + a3) + (a4 + a5 + (a6 + a7))) % 128 = c0 + (c1 + (c2 + (c3 + (c4 + (c5 + (c6 + c7)))))) := by
  have e : y + a1 + (a2 + a3) + (a4 + a5 + (a6 + a7)) = 128 * (2 * (a1 + a2 + a3 + a4 + a5 + a6 + a7)) + (c0 + (c1 + (c2 + (c3 + (c4 + (c5 + (c6 + c7))))))) := by
    have q : y + (a1 + (a2 + (a3 + (a4 + (a5 + (a6 + a7)))))) = (256 * a1 + c0) + ((256 * a2 + c1) + ((256 * a3 + c2) + ((256 * a4 + c3) + ((256 * a5 + c4) + ((256 * a6 + c5) + ((256 * a7 + c6) + c7)))))) := by rw [← h0, ← h1, ← h2, ← h3, ← h4, ← h5, ← h6, ← h7]
    clear h0 h1 h2 h3 h4 h5 h6 h7 hs
    omega
  rw [e, Nat.mul_add_mod, Nat.mod_eq_of_lt hs]
theorem sum_c {c0 c1 c2 c3 c4 c5 c6 c7 y : Nat} (b0 : c0 ≤ 8) (b1 : c1 ≤ 8) (b2 : c2 ≤ 8) (b3 : c3 ≤ 8) (b4 : c4 ≤ 8) (b5 : c5 ≤ 8) (b6 : c6 ≤ 8) (b7 : c7 ≤ 8)
    (hy : y = 256 * (256 * (256 * (256 * (256 * (256 * (256 * c7 + c6) + c5) + c4) + c3) + c2) + c1) + c0) :
    (y + y / 256 + (y + y / 256) / 65536 + (y + y / 256 + (y + y / 256) / 65536) / 4294967296) % 128 = c0 + (c1 + (c2 + (c3 + (c4 + (c5 + (c6 + c7)))))) ∧ y < 1000000000000000000 := by
  obtain ⟨a7, h7⟩ : ∃ a, a = c7 := ⟨_, rfl⟩
  obtain ⟨a6, h6⟩ : ∃ a, a = 256 * a7 + c6 := ⟨_, rfl⟩
  obtain ⟨a5, h5⟩ : ∃ a, a = 256 * a6 + c5 := ⟨_, rfl⟩
  obtain ⟨a4, h4⟩ : ∃ a, a = 256 * a5 + c4 := ⟨_, rfl⟩
  obtain ⟨a3, h3⟩ : ∃ a, a = 256 * a4 + c3 := ⟨_, rfl⟩
  obtain ⟨a2, h2⟩ : ∃ a, a = 256 * a3 + c2 := ⟨_, rfl⟩
  obtain ⟨a1, h1⟩ : ∃ a, a = 256 * a2 + c1 := ⟨_, rfl⟩
  rw [← h7, ← h6, ← h5, ← h4, ← h3, ← h2, ← h1] at hy
  have l6 : a6 ≤ 2056 := by omega
  have l5 : a5 ≤ 526344 := by omega
  have l4 : a4 ≤ 134744072 := by omega
  have l3 : a3 ≤ 34494482440 := by omega
  have l2 : a2 ≤ 8830587504648 := by omega
  have l1 : a1 ≤ 2260630401189896 := by omega
  have l0 : y < 1000000000000000000 := by omega
  refine ⟨?_, l0⟩
  rw [sq_1 hy b0, sq_2 hy h1 h2 b0 b1 b2, sq_3 hy h1 h2 h3 h4 h5 h6 b0 b1 b2 b3 b4 b5 b6]
  exact sq_4 hy h1 h2 h3 h4 h5 h6 h7 (by clear hy h1 h2 h3 h4 h5 h6 l0 l1 l2 l3 l4 l5 l6; omega)
theorem sum_s (n k : Nat) : sumB n (k + 1) = 256 * sumB (n / 256) k + popL (n % 256) 8 := rfl
theorem sum_8 (n : Nat) : sumB n 8 = 256 * (256 * (256 * (256 * (256 * (256 * (256 * popL (n / 256 / 256 / 256 / 256 / 256 / 256 / 256 % 256) 8 + popL (n / 256 / 256 / 256 / 256 / 256 / 256 % 256) 8) + popL (n / 256 / 256 / 256 / 256 / 256 % 256) 8) + popL (n / 256 / 256 / 256 / 256 % 256) 8) + popL (n / 256 / 256 / 256 % 256) 8) + popL (n / 256 / 256 % 256) 8) + popL (n / 256 % 256) 8) + popL (n % 256) 8 := by
  rw [show sumB n 8 = _ from sum_s n 7, show sumB (n / 256) 7 = _ from sum_s _ 6, show sumB (n / 256 / 256) 6 = _ from sum_s _ 5, show sumB (n / 256 / 256 / 256) 5 = _ from sum_s _ 4, show sumB (n / 256 / 256 / 256 / 256) 4 = _ from sum_s _ 3, show sumB (n / 256 / 256 / 256 / 256 / 256) 3 = _ from sum_s _ 2, show sumB (n / 256 / 256 / 256 / 256 / 256 / 256) 2 = _ from sum_s _ 1, show sumB (n / 256 / 256 / 256 / 256 / 256 / 256 / 256) 1 = _ from sum_s _ 0]
  rw [show ∀ m, sumB m 0 = 0 from fun _ => rfl, Nat.mul_zero, Nat.zero_add]
theorem sum_end {n y : Nat} (hy : y = sumB n 8) : (y + y / 256 + (y + y / 256) / 65536 + (y + y / 256 + (y + y / 256) / 65536) / 4294967296) % 128 = popL n 64 ∧ y < 1000000000000000000 := by
  have b : ∀ m : Nat, popL (m % 256) 8 ≤ 8 := fun m => (t_all (m % 256) (Nat.mod_lt _ (by decide))).2.2.2.2
  rw [pop_64]
  exact sum_c (b _) (b _) (b _) (b _) (b _) (b _) (b _) (b _) (hy.trans (sum_8 n))
/-- the machine's numbers as naturals -/
def N64 (x : Int64) : Nat := x.toBitVec.toNat
theorem n_lt (x : Int64) : N64 x < 2 ^ 64 := x.toBitVec.isLt
theorem n_sub {x y : Int64} (h : N64 y ≤ N64 x) : N64 (x - y) = N64 x - N64 y := by
  have hx := n_lt x
  unfold N64 at *
  rw [Int64.toBitVec_sub, BitVec.toNat_sub]
  omega
theorem n_add {x y : Int64} (h : N64 x + N64 y < 2 ^ 64) : N64 (x + y) = N64 x + N64 y := by
  unfold N64 at *
  rw [Int64.toBitVec_add, BitVec.toNat_add]
  omega
theorem n_and {x y : Int64} : N64 (x &&& y) = N64 x &&& N64 y := by
  unfold N64
  rw [Int64.toBitVec_and, BitVec.toNat_and]
theorem n_shr {x : Int64} {s : UInt64} {k : Nat} (hs : s.toBitVec = BitVec.ofNat 64 k) (hk : k < 64) : N64 (x.toUInt64 >>> s).toInt64 = N64 x / 2 ^ k := by
  unfold N64
  show (x.toUInt64 >>> s).toBitVec.toNat = _
  rw [UInt64.toBitVec_shiftRight, hs]
  show (x.toBitVec >>> (BitVec.ofNat 64 k % 64)).toNat = _
  rw [BitVec.ushiftRight_eq', BitVec.toNat_ushiftRight, Nat.shiftRight_eq_div_pow]
  congr 2
  simp only [BitVec.toNat_umod, BitVec.toNat_ofNat]
  rw [show (64 : BitVec 64).toNat = 64 from rfl]
  omega
theorem bc_all {v x1 x2 x3 x4 x5 x6 : Int64} (e1 : x1 = v - ((v.toUInt64 >>> ((1 : Int32).toInt64.toUInt64 &&& Int64.toUInt64 63)).toInt64 &&& (6148914691236517205 : Int64)))
    (e2 : x2 = (x1 &&& (3689348814741910323 : Int64)) + ((x1.toUInt64 >>> ((2 : Int32).toInt64.toUInt64 &&& Int64.toUInt64 63)).toInt64 &&& (3689348814741910323 : Int64)))
    (e3 : x3 = (x2 + (x2.toUInt64 >>> ((4 : Int32).toInt64.toUInt64 &&& Int64.toUInt64 63)).toInt64) &&& (1085102592571150095 : Int64))
    (e4 : x4 = x3 + (x3.toUInt64 >>> ((8 : Int32).toInt64.toUInt64 &&& Int64.toUInt64 63)).toInt64)
    (e5 : x5 = x4 + (x4.toUInt64 >>> ((16 : Int32).toInt64.toUInt64 &&& Int64.toUInt64 63)).toInt64)
    (e6 : x6 = x5 + (x5.toUInt64 >>> ((32 : Int32).toInt64.toUInt64 &&& Int64.toUInt64 63)).toInt64) :
    x6.toInt32 &&& (127 : Int32) = nI (popL (N64 v) 64) := by
  have hv := n_lt v
  have m1 : N64 (6148914691236517205 : Int64) = msk 85 8 := by decide +kernel
  have m2 : N64 (3689348814741910323 : Int64) = msk 51 8 := by decide +kernel
  have m3 : N64 (1085102592571150095 : Int64) = msk 15 8 := by decide +kernel
  have a1 : N64 ((v.toUInt64 >>> ((1 : Int32).toInt64.toUInt64 &&& Int64.toUInt64 63)).toInt64 &&& (6148914691236517205 : Int64)) = N64 v / 2 &&& msk 85 8 := by
    rw [n_and, n_shr (k := 1) (by decide) (by decide), m1]
  have f1 : N64 x1 = T1 8 (N64 v) := by
    have hl : N64 v / 2 &&& msk 85 8 ≤ N64 v / 2 := Nat.and_le_left
    rw [e1, n_sub (by rw [a1]; omega), a1]
    rfl
  have hx1 := n_lt x1
  have f2 : N64 x2 = T2 8 (T1 8 (N64 v)) := by
    have h1 : N64 x1 &&& msk 51 8 ≤ msk 51 8 := Nat.and_le_right
    have h2 : N64 x1 / 4 &&& msk 51 8 ≤ msk 51 8 := Nat.and_le_right
    have hm : msk 51 8 + msk 51 8 < 2 ^ 64 := by decide +kernel
    have b1 : N64 (x1 &&& (3689348814741910323 : Int64)) = N64 x1 &&& msk 51 8 := by rw [n_and, m2]
    have b2 : N64 ((x1.toUInt64 >>> ((2 : Int32).toInt64.toUInt64 &&& Int64.toUInt64 63)).toInt64 &&& (3689348814741910323 : Int64)) = N64 x1 / 4 &&& msk 51 8 := by
      rw [n_and, n_shr (k := 2) (by decide) (by decide), m2]
    rw [e2, n_add (by rw [b1, b2]; omega), b1, b2, f1]
    rfl
  have hx2 : N64 x2 ≤ msk 51 8 + msk 51 8 := by
    rw [f2]
    exact Nat.add_le_add Nat.and_le_right Nat.and_le_right
  have f3 : N64 x3 = sumB (N64 v) 8 := by
    have hm : msk 51 8 + msk 51 8 + (msk 51 8 + msk 51 8) < 2 ^ 64 := by decide +kernel
    rw [e3, n_and, n_add (by rw [n_shr (k := 4) (by decide) (by decide)]; omega), n_shr (k := 4) (by decide) (by decide), m3, f2, ← T_sum]
    rfl
  obtain ⟨s1, s2⟩ := sum_end (n := N64 v) rfl
  generalize sumB (N64 v) 8 = y at f3 s1 s2
  have f4 : N64 x4 = y + y / 256 := by
    rw [e4, n_add (by rw [n_shr (k := 8) (by decide) (by decide), f3]; omega), n_shr (k := 8) (by decide) (by decide), f3]
  have f5 : N64 x5 = y + y / 256 + (y + y / 256) / 65536 := by
    rw [e5, n_add (by rw [n_shr (k := 16) (by decide) (by decide), f4]; omega), n_shr (k := 16) (by decide) (by decide), f4]
  have f6 : N64 x6 = y + y / 256 + (y + y / 256) / 65536 + (y + y / 256 + (y + y / 256) / 65536) / 4294967296 := by
    rw [e6, n_add (by rw [n_shr (k := 32) (by decide) (by decide), f5]; omega), n_shr (k := 32) (by decide) (by decide), f5]
  have hp : popL (N64 v) 64 < 128 := by omega
  apply Int32.toBitVec_inj.mp
  apply BitVec.eq_of_toNat_eq
  rw [Int32.toBitVec_and, BitVec.toNat_and, Int64.toBitVec_toInt32, BitVec.signExtend_eq_setWidth_of_le _ (by decide), BitVec.toNat_setWidth, pk_tn (by omega), show (127 : Int32).toBitVec.toNat = 2 ^ 7 - 1 from rfl, Nat.and_two_pow_sub_one_eq_mod, ← s1, ← f6]
  show N64 x6 % 2 ^ 32 % 2 ^ 7 = N64 x6 % 128
  omega
/-- how many of the first hold -/
noncomputable def cntP (P : Nat → Prop) : Nat → Nat
  | 0 => 0
  | n + 1 => cntP P n + @ite _ (P n) (Classical.propDecidable _) 1 0
theorem cnt_y {P : Nat → Prop} {n c : Nat} (h : c = cntP P n) (hp : P n) : c + 1 = cntP P (n + 1) := by
  rw [h]
  show _ = cntP P n + _
  rw [if_pos hp]
theorem cnt_n {P : Nat → Prop} {n c : Nat} (h : c = cntP P n) (hp : ¬ P n) : c = cntP P (n + 1) := by
  rw [h]
  show _ = cntP P n + _
  rw [if_neg hp, Nat.add_zero]
theorem cnt_le {P : Nat → Prop} (n : Nat) : cntP P n ≤ n := by
  induction n with
  | zero => exact Nat.le_refl _
  | succ n ih =>
    by_cases h : P n
    · rw [← cnt_y rfl h]; omega
    · rw [← cnt_n rfl h]; omega
theorem cnt_not {P Q : Nat → Prop} {n : Nat} (h : ∀ q, q < n → (P q ↔ ¬ Q q)) : cntP P n + cntP Q n = n := by
  induction n with
  | zero => rfl
  | succ n ih =>
    have i := ih (fun q hq => h q (by omega))
    by_cases c : Q n
    · rw [← cnt_y rfl c, ← cnt_n rfl (fun p => (h n (by omega)).mp p c)]; omega
    · rw [← cnt_n rfl c, ← cnt_y rfl ((h n (by omega)).mpr c)]; omega
theorem pop_cnt {x : Int64} {z : Nat} {P : Nat → Prop} (h : HB x z P) : ∀ k, k ≤ 64 → popL (N64 x) k = cntP (fun q => q < z ∧ P q) k := by
  intro k
  induction k with
  | zero => intro _; rfl
  | succ k ih =>
    intro hk
    have a := h k (by omega)
    have a : (N64 x).testBit k = true ↔ (k < z ∧ P k) := a
    show popL (N64 x) k + ((N64 x).testBit k).toNat = _
    rw [ih (by omega)]
    by_cases c : k < z ∧ P k
    · rw [a.mpr c]; exact cnt_y rfl c
    · rw [show (N64 x).testBit k = false from by
        cases e : (N64 x).testBit k with
        | false => rfl
        | true => exact absurd (a.mp e) c]
      exact cnt_n rfl c
theorem cnt_cut {P : Nat → Prop} {z : Nat} : ∀ d, cntP (fun q => q < z ∧ P q) (z + d) = cntP P z := by
  intro d
  induction d with
  | zero =>
    have e : ∀ k, k ≤ z → cntP (fun q => q < z ∧ P q) k = cntP P k := by
      intro k
      induction k with
      | zero => intro _; rfl
      | succ k ih =>
        intro hk
        by_cases c : P k
        · rw [← cnt_y rfl c, ← cnt_y rfl (show k < z ∧ P k from ⟨by omega, c⟩), ih (by omega)]
        · rw [← cnt_n rfl c, ← cnt_n rfl (fun q : k < z ∧ P k => c q.2), ih (by omega)]
    exact e z (Nat.le_refl _)
  | succ d ih =>
    rw [← ih]
    have h := cnt_n (P := fun q => q < z ∧ P q) (n := z + d) rfl (fun q => absurd q.1 (Nat.not_lt.mpr (Nat.le_add_right z d)))
    exact h.symm
theorem pop_z {x : Int64} {z : Nat} {P : Nat → Prop} (h : HB x z P) (hz : z ≤ 64) : popL (N64 x) 64 = cntP P z := by
  rw [pop_cnt h 64 (Nat.le_refl _), show 64 = z + (64 - z) by omega]
  exact cnt_cut _
/-- hard(): the first with fewest states in which it holds, the first with most in which not -/
def hdC (k : Nat → Nat) : Nat → Int32 × Nat
  | 0 => (-1, 65)
  | r + 1 => if k r < (hdC k r).2 then (nI r, k r) else hdC k r
def hdR (m : Nat → Nat) : Nat → Int32 × Int32
  | 0 => (-1, -1)
  | r + 1 => if nI (m r) > (hdR m r).2 then (nI r, nI (m r)) else hdR m r
theorem hd_i {k m : Nat → Nat} {z : Nat} (hz : z ≤ 64) : ∀ n, (∀ r, r < n → k r + m r = z) → (hdC k n).1 = (hdR m n).1 ∧ (((hdC k n).2 = 65 ∧ (hdR m n).2 = -1) ∨ ∃ a b : Nat, (hdC k n).2 = a ∧ (hdR m n).2 = nI b ∧ a + b = z) := by
  intro n
  induction n with
  | zero => intro _; exact ⟨rfl, Or.inl ⟨rfl, rfl⟩⟩
  | succ n ih =>
    intro h
    obtain ⟨i1, i2⟩ := ih (fun r hr => h r (by omega))
    have hn := h n (by omega)
    have eC : hdC k (n + 1) = if k n < (hdC k n).2 then (nI n, k n) else hdC k n := rfl
    have eR : hdR m (n + 1) = if nI (m n) > (hdR m n).2 then (nI n, nI (m n)) else hdR m n := rfl
    rcases i2 with ⟨a1, a2⟩ | ⟨a, b, a1, a2, a3⟩
    · have q : nI (m n) > (hdR m n).2 := by
        rw [a2, gt_iff_lt, Int32.lt_iff_toInt_lt, nI_toInt (by omega), show (-1 : Int32).toInt = -1 from by decide]
        omega
      rw [eC, eR, if_pos (by omega), if_pos q]
      exact ⟨rfl, Or.inr ⟨k n, m n, rfl, rfl, hn⟩⟩
    · by_cases c : k n < (hdC k n).2
      · have q : nI (m n) > (hdR m n).2 := by
          rw [a2]
          exact (nI_ltI (by omega) (by omega)).mpr (by omega)
        rw [eC, eR, if_pos c, if_pos q]
        exact ⟨rfl, Or.inr ⟨k n, m n, rfl, rfl, hn⟩⟩
      · have q : ¬ nI (m n) > (hdR m n).2 := fun q => by
          rw [a2] at q
          have := (nI_ltI (by omega) (by omega)).mp q
          omega
        rw [eC, eR, if_neg c, if_neg q]
        exact ⟨i1, Or.inr ⟨a, b, a1, a2, a3⟩⟩
theorem hd_eq {k m : Nat → Nat} {z n : Nat} (hz : z ≤ 64) (h : ∀ r, r < n → k r + m r = z) : (hdC k n).1 = (hdR m n).1 := (hd_i hz n h).1
theorem hdC_y {k : Nat → Nat} {n : Nat} {x : Int32} {b c : Nat} (h : x = (hdC k n).1 ∧ b = (hdC k n).2) (hc : c = k n) (q : c < b) : nI n = (hdC k (n + 1)).1 ∧ c = (hdC k (n + 1)).2 := by
  have eC : hdC k (n + 1) = if k n < (hdC k n).2 then (nI n, k n) else hdC k n := rfl
  rw [eC, if_pos (by rw [← h.2, ← hc]; exact q)]
  exact ⟨rfl, hc⟩
theorem hdC_n {k : Nat → Nat} {n : Nat} {x : Int32} {b c : Nat} (h : x = (hdC k n).1 ∧ b = (hdC k n).2) (hc : c = k n) (q : ¬ c < b) : x = (hdC k (n + 1)).1 ∧ b = (hdC k (n + 1)).2 := by
  have eC : hdC k (n + 1) = if k n < (hdC k n).2 then (nI n, k n) else hdC k n := rfl
  rw [eC, if_neg (by rw [← h.2, ← hc]; exact q)]
  exact h
theorem hdR_y {m : Nat → Nat} {n c : Nat} {x b : Int32} (h : x = (hdR m n).1 ∧ b = (hdR m n).2) (hc : c = m n) (q : nI c > b) : nI n = (hdR m (n + 1)).1 ∧ nI c = (hdR m (n + 1)).2 := by
  have eR : hdR m (n + 1) = if nI (m n) > (hdR m n).2 then (nI n, nI (m n)) else hdR m n := rfl
  rw [eR, if_pos (by rw [← h.2, ← hc]; exact q)]
  exact ⟨rfl, by rw [hc]⟩
theorem hdR_n {m : Nat → Nat} {n c : Nat} {x b : Int32} (h : x = (hdR m n).1 ∧ b = (hdR m n).2) (hc : c = m n) (q : ¬ nI c > b) : x = (hdR m (n + 1)).1 ∧ b = (hdR m (n + 1)).2 := by
  have eR : hdR m (n + 1) = if nI (m n) > (hdR m n).2 then (nI n, nI (m n)) else hdR m n := rfl
  rw [eR, if_neg (by rw [← h.2, ← hc]; exact q)]
  exact h
def haR (P : Prop) [Decidable P] (r x : Int32) : Prop := r = if P then x else -2
theorem haR_y {P : Prop} [Decidable P] {r x : Int32} (h : P) (e : r = x) : haR P r x := by unfold haR; rw [if_pos h]; exact e
theorem haR_n {P : Prop} [Decidable P] {x : Int32} (h : ¬ P) : haR P (-2) x := by unfold haR; rw [if_neg h]
theorem ha_eq {li r r' : Int32} {tp nc nr no zs sc st : Nat} {f1 f2 w fa : Nat → Int32} {fh : Nat → Int64} (h : DP li tp nc nr no f1 f2 w) (hs : SPC li tp nc zs sc st fa) (hl : LT li tp) (hf : HLC li tp nr zs f1 fa fh) (hv : VR w) (h3 : tp ≤ 3) (h4 : nc ≤ 3) (h5 : nr ≤ 5) (hz : zs ≤ 64)
    (a : haR (0 < li.toInt) r (hdC (fun q => popL (N64 (fh q)) 64) nr).1) (b : haR (0 < (w 7).toInt) r' (hdR (fun q => cntP (fun s => ¬ hlT w (11 + 5 * q) (wN w 0 + 1) s) (SM w)) (wN w 4)).1) : r = r' := by
  obtain ⟨e7, e0, e3, es⟩ := dp_sm h h3 h4
  have e4 : wN w 4 = nr := wN_of h.1.2.2.2.1 (by omega)
  unfold haR at a b
  rw [e7] at b
  by_cases c : 0 < li.toInt
  · rw [if_pos c] at a b
    rw [a, b, e4, e0, es]
    have l1 : ¬ li = 0 := fun e => by rw [e] at c; exact absurd c (by decide)
    have t1 : 1 ≤ tp := by
      rcases hl with q | q
      · exact absurd q l1
      · exact q.2
    have hz2 := (hs.2.2.2 ⟨l1, t1⟩)
    refine hd_eq hz (fun q hq => ?_)
    have hb := hf ⟨l1, t1⟩ q hq
    show popL (N64 (fh q)) 64 + cntP (fun s => ¬ hlT w (11 + 5 * q) (tp + 1) s) ((tp + 1) ^ nc) = zs
    rw [pop_z hb hz, hz2.1]
    exact cnt_not (fun s hs' => by
      rw [hl_eq t1 h3 h4 hz2.2 hs' (h.2.1 q hq) (e3 ▸ hv q (by rw [e4]; exact hq))]
      exact Classical.not_not.symm)
  · rw [if_neg c] at a b
    rw [a, b]
theorem pop_le (n : Nat) : ∀ k, popL n k ≤ k := by
  intro k
  induction k with
  | zero => exact Nat.le_refl _
  | succ k ih =>
    show popL n k + (n.testBit k).toNat ≤ k + 1
    cases n.testBit k
    · exact Nat.le_trans ih (Nat.le_succ k)
    · exact Nat.succ_le_succ ih
theorem bc_fin {j n : Nat} {x : Int32} (hj : j < 128) (e : x = nI j) (e2 : x = nI (popL n 64)) : j = popL n 64 := by
  have h := pop_le n 64
  exact (nI_eq (by omega) (by omega)).mp (e.symm.trans e2)
