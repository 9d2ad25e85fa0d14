theorem j2 : (2 : Int64).toInt = 2 := by decide
theorem i1 : (1 : Int32).toInt = 1 := by decide
theorem i2 : (2 : Int32).toInt = 2 := by decide
theorem i7 : (7 : Int32).toInt = 7 := by decide
theorem i8 : (8 : Int32).toInt = 8 := by decide
theorem i9 : (9 : Int32).toInt = 9 := by decide
theorem j0 : (0 : Int64).toInt = 0 := by decide
theorem j1 : (1 : Int64).toInt = 1 := by decide
theorem j3 : (3 : Int64).toInt = 3 := by decide
theorem j7 : (7 : Int64).toInt = 7 := by decide
theorem vp_c {i : Int32} {n : Nat} (h : ¬ (i < 0 ∨ n ≤ i.toNatClampNeg)) : vp_in i n := h
theorem i0 : (0 : Int32).toInt = 0 := by decide
theorem i3 : (3 : Int32).toInt = 3 := by decide
theorem i4 : (4 : Int32).toInt = 4 := by decide
theorem i60 : (60 : Int32).toInt = 60 := by decide
theorem ns_1 {k : Int32} (c : k < 0) : ¬ (0 ≤ k.toInt ∧ k.toInt ≤ 3) := by
  rw [Int32.lt_iff_toInt_lt, i0] at c
  omega
theorem ns_2 {k : Int32} (c : ¬ k < 4) : ¬ (0 ≤ k.toInt ∧ k.toInt ≤ 3) := by
  rw [Int32.lt_iff_toInt_lt, i4] at c
  omega
theorem ns_0 {k : Int32} (c1 : ¬ k < 0) (c2 : k < 4) : 0 ≤ k.toInt ∧ k.toInt ≤ 3 := by
  rw [Int32.lt_iff_toInt_lt, i0] at c1
  rw [Int32.lt_iff_toInt_lt, i4] at c2
  omega
/-- a small int is one of the first numbers -/
theorem one_3 {k : Int32} (h : 0 ≤ k.toInt ∧ k.toInt ≤ 2) : k = 0 ∨ k = 1 ∨ k = 2 := by
  rcases (show k.toInt = 0 ∨ k.toInt = 1 ∨ k.toInt = 2 by omega) with h | h | h
  · exact Or.inl (i32_toInt_inj h)
  · exact Or.inr (Or.inl (i32_toInt_inj h))
  · exact Or.inr (Or.inr (i32_toInt_inj h))
theorem one_4 {k : Int32} (h : 0 ≤ k.toInt ∧ k.toInt ≤ 3) : k = 0 ∨ k = 1 ∨ k = 2 ∨ k = 3 := by
  rcases (show k.toInt = 0 ∨ k.toInt = 1 ∨ k.toInt = 2 ∨ k.toInt = 3 by omega) with h | h | h | h
  · exact Or.inl (i32_toInt_inj h)
  · exact Or.inr (Or.inl (i32_toInt_inj h))
  · exact Or.inr (Or.inr (Or.inl (i32_toInt_inj h)))
  · exact Or.inr (Or.inr (Or.inr (i32_toInt_inj h)))
theorem one_8 {k : Int32} (h : 0 ≤ k.toInt ∧ k.toInt ≤ 7) : k = 0 ∨ k = 1 ∨ k = 2 ∨ k = 3 ∨ k = 4 ∨ k = 5 ∨ k = 6 ∨ k = 7 := by
  rcases (show k.toInt = 0 ∨ k.toInt = 1 ∨ k.toInt = 2 ∨ k.toInt = 3 ∨ k.toInt = 4 ∨ k.toInt = 5 ∨ k.toInt = 6 ∨ k.toInt = 7 by omega) with h | h | h | h | h | h | h | h
  · exact Or.inl (i32_toInt_inj h)
  · exact Or.inr (Or.inl (i32_toInt_inj h))
  · exact Or.inr (Or.inr (Or.inl (i32_toInt_inj h)))
  · exact Or.inr (Or.inr (Or.inr (Or.inl (i32_toInt_inj h))))
  · exact Or.inr (Or.inr (Or.inr (Or.inr (Or.inl (i32_toInt_inj h)))))
  · exact Or.inr (Or.inr (Or.inr (Or.inr (Or.inr (Or.inl (i32_toInt_inj h))))))
  · exact Or.inr (Or.inr (Or.inr (Or.inr (Or.inr (Or.inr (Or.inl (i32_toInt_inj h)))))))
  · exact Or.inr (Or.inr (Or.inr (Or.inr (Or.inr (Or.inr (Or.inr (i32_toInt_inj h)))))))
/-- between two longs: what the reference's in() asks -/
theorem in_y {v lo hi : Int64} (c1 : ¬ lg_cmp v lo < 0) (c2 : ¬ lg_cmp v hi > 0) : lo ≤ v ∧ v ≤ hi := by
  rw [lg_cmp_lt, Int64.lt_iff_toInt_lt] at c1
  rw [gt_iff_lt, lg_cmp_gt, Int64.lt_iff_toInt_lt] at c2
  rw [Int64.le_iff_toInt_le, Int64.le_iff_toInt_le]
  omega
theorem in_lo {v lo hi : Int64} (c : lg_cmp v lo < 0) : ¬ (lo ≤ v ∧ v ≤ hi) := by
  rw [lg_cmp_lt, Int64.lt_iff_toInt_lt] at c
  rw [Int64.le_iff_toInt_le, Int64.le_iff_toInt_le]
  omega
theorem in_hi {v lo hi : Int64} (c : lg_cmp v hi > 0) : ¬ (lo ≤ v ∧ v ≤ hi) := by
  rw [gt_iff_lt, lg_cmp_gt, Int64.lt_iff_toInt_lt] at c
  rw [Int64.le_iff_toInt_le, Int64.le_iff_toInt_le]
  omega
theorem in_32 {x : Int32} {lo hi : Int64} (a b : Int) (ha : lo.toInt = a) (hb : hi.toInt = b) : (lo ≤ x.toInt64 ∧ x.toInt64 ≤ hi) ↔ (a ≤ x.toInt ∧ x.toInt ≤ b) := by
  rw [Int64.le_iff_toInt_le, Int64.le_iff_toInt_le, Int32.toInt_toInt64, ha, hb]
theorem in_no {x : Int64} (h : 0 ≤ x ∧ x ≤ (-1)) : False := by
  rw [Int64.le_iff_toInt_le, Int64.le_iff_toInt_le] at h
  have e0 : (0 : Int64).toInt = 0 := by decide
  have e1 : (-1 : Int64).toInt = -1 := by decide
  rw [e0, e1] at h
  omega

theorem bge_t {a b : Nat} (c : nI a ≥ nI b) (ha : a < 2 ^ 31) (hb : b < 2 ^ 31) : b ≤ a := (nI_leI hb ha).mp c
theorem bge_f {a b : Nat} (c : ¬ nI a ≥ nI b) (ha : a < 2 ^ 31) (hb : b < 2 ^ 31) : a < b := Nat.lt_of_not_le (fun q => c ((nI_leI hb ha).mpr q))
theorem blt_t {a b : Nat} (c : nI a < nI b) (ha : a < 2 ^ 31) (hb : b < 2 ^ 31) : a < b := (nI_ltI ha hb).mp c
theorem blt_f {a b : Nat} (c : ¬ nI a < nI b) (ha : a < 2 ^ 31) (hb : b < 2 ^ 31) : b ≤ a := Nat.le_of_not_lt (fun q => c ((nI_ltI ha hb).mpr q))
theorem bgt_t {a b : Nat} (c : nI a > nI b) (ha : a < 2 ^ 31) (hb : b < 2 ^ 31) : b < a := (nI_ltI hb ha).mp c
theorem bgt_f {a b : Nat} (c : ¬ nI a > nI b) (ha : a < 2 ^ 31) (hb : b < 2 ^ 31) : a ≤ b := Nat.le_of_not_lt (fun q => c ((nI_ltI hb ha).mpr q))
theorem ble_t {a b : Nat} (c : nI a ≤ nI b) (ha : a < 2 ^ 31) (hb : b < 2 ^ 31) : a ≤ b := (nI_leI ha hb).mp c
theorem ble_f {a b : Nat} (c : ¬ nI a ≤ nI b) (ha : a < 2 ^ 31) (hb : b < 2 ^ 31) : b < a := Nat.lt_of_not_le (fun q => c ((nI_leI ha hb).mpr q))
theorem beq_t {a b : Nat} (c : nI a = nI b) (ha : a < 2 ^ 31) (hb : b < 2 ^ 31) : a = b := (nI_eq ha hb).mp c
theorem beq_f {a b : Nat} (c : ¬ nI a = nI b) (ha : a < 2 ^ 31) (hb : b < 2 ^ 31) : ¬ a = b := fun q => c ((nI_eq ha hb).mpr q)
theorem bne_t {a b : Nat} (c : ¬ nI a = nI b) (ha : a < 2 ^ 31) (hb : b < 2 ^ 31) : ¬ a = b := fun q => c ((nI_eq ha hb).mpr q)
theorem bne_f {a b : Nat} (c : nI a = nI b) (ha : a < 2 ^ 31) (hb : b < 2 ^ 31) : a = b := (nI_eq ha hb).mp c
theorem sw_9 (k : Int32) : k = 0 ∨ k = 1 ∨ k = 2 ∨ k = 3 ∨ k = 4 ∨ k = 5 ∨ k = 6 ∨ k = 7 ∨ k = 8 ∨ k = 9 ∨ (k.toInt < 0 ∨ 9 < k.toInt) := by
  by_cases h : k.toInt < 0 ∨ 9 < k.toInt
  · simp [h]
  · rcases (show k.toInt = 0 ∨ k.toInt = 1 ∨ k.toInt = 2 ∨ k.toInt = 3 ∨ k.toInt = 4 ∨ k.toInt = 5 ∨ k.toInt = 6 ∨ k.toInt = 7 ∨ k.toInt = 8 ∨ k.toInt = 9 by omega) with h | h | h | h | h | h | h | h | h | h
    · have e := i32_toInt_inj (y := 0) h; simp [e]
    · have e := i32_toInt_inj (y := 1) h; simp [e]
    · have e := i32_toInt_inj (y := 2) h; simp [e]
    · have e := i32_toInt_inj (y := 3) h; simp [e]
    · have e := i32_toInt_inj (y := 4) h; simp [e]
    · have e := i32_toInt_inj (y := 5) h; simp [e]
    · have e := i32_toInt_inj (y := 6) h; simp [e]
    · have e := i32_toInt_inj (y := 7) h; simp [e]
    · have e := i32_toInt_inj (y := 8) h; simp [e]
    · have e := i32_toInt_inj (y := 9) h; simp [e]

theorem end_z {k : Int32} (h : k.toInt = 0) : k = 0 := i32_toInt_inj (y := 0) h
theorem end_n {k : Int32} (h : ¬ k.toInt = 0) : ¬ k = 0 := fun e => h (by rw [e]; decide)
