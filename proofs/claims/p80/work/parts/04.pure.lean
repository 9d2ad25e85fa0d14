theorem j2 : (2 : Int64).toInt = 2 := by decide
theorem i1 : (1 : Int32).toInt = 1 := by decide
theorem i2 : (2 : Int32).toInt = 2 := by decide
theorem i7 : (7 : Int32).toInt = 7 := by decide
theorem i8 : (8 : Int32).toInt = 8 := by decide
theorem i9 : (9 : Int32).toInt = 9 := by decide
theorem j0 : (0 : Int64).toInt = 0 := by decide
theorem j1 : (1 : Int64).toInt = 1 := by decide
theorem j3 : (3 : Int64).toInt = 3 := by decide
theorem j7 : (7 : Int64).toInt = 7 := by decide
theorem vp_c {i : Int32} {n : Nat} (h : ¬ (i < 0 ∨ n ≤ i.toNatClampNeg)) : vp_in i n := h
theorem i0 : (0 : Int32).toInt = 0 := by decide
theorem i3 : (3 : Int32).toInt = 3 := by decide
theorem i4 : (4 : Int32).toInt = 4 := by decide
theorem i60 : (60 : Int32).toInt = 60 := by decide
theorem ns_1 {k : Int32} (c : k < 0) : ¬ (0 ≤ k.toInt ∧ k.toInt ≤ 3) := by
  rw [Int32.lt_iff_toInt_lt, i0] at c
  omega
theorem ns_2 {k : Int32} (c : ¬ k < 4) : ¬ (0 ≤ k.toInt ∧ k.toInt ≤ 3) := by
  rw [Int32.lt_iff_toInt_lt, i4] at c
  omega
theorem ns_0 {k : Int32} (c1 : ¬ k < 0) (c2 : k < 4) : 0 ≤ k.toInt ∧ k.toInt ≤ 3 := by
  rw [Int32.lt_iff_toInt_lt, i0] at c1
  rw [Int32.lt_iff_toInt_lt, i4] at c2
  omega
/-- a small int is one of the first numbers -/
theorem one_3 {k : Int32} (h : 0 ≤ k.toInt ∧ k.toInt ≤ 2) : k = 0 ∨ k = 1 ∨ k = 2 := by
  rcases (show k.toInt = 0 ∨ k.toInt = 1 ∨ k.toInt = 2 by omega) with h | h | h
  · exact Or.inl (i32_toInt_inj h)
  · exact Or.inr (Or.inl (i32_toInt_inj h))
  · exact Or.inr (Or.inr (i32_toInt_inj h))
theorem one_4 {k : Int32} (h : 0 ≤ k.toInt ∧ k.toInt ≤ 3) : k = 0 ∨ k = 1 ∨ k = 2 ∨ k = 3 := by
  rcases (show k.toInt = 0 ∨ k.toInt = 1 ∨ k.toInt = 2 ∨ k.toInt = 3 by omega) with h | h | h | h
  · exact Or.inl (i32_toInt_inj h)
  · exact Or.inr (Or.inl (i32_toInt_inj h))
  · exact Or.inr (Or.inr (Or.inl (i32_toInt_inj h)))
  · exact Or.inr (Or.inr (Or.inr (i32_toInt_inj h)))
theorem one_8 {k : Int32} (h : 0 ≤ k.toInt ∧ k.toInt ≤ 7) : k = 0 ∨ k = 1 ∨ k = 2 ∨ k = 3 ∨ k = 4 ∨ k = 5 ∨ k = 6 ∨ k = 7 := by
  rcases (show k.toInt = 0 ∨ k.toInt = 1 ∨ k.toInt = 2 ∨ k.toInt = 3 ∨ k.toInt = 4 ∨ k.toInt = 5 ∨ k.toInt = 6 ∨ k.toInt = 7 by omega) with h | h | h | h | h | h | h | h
  · exact Or.inl (i32_toInt_inj h)
  · exact Or.inr (Or.inl (i32_toInt_inj h))
  · exact Or.inr (Or.inr (Or.inl (i32_toInt_inj h)))
  · exact Or.inr (Or.inr (Or.inr (Or.inl (i32_toInt_inj h))))
  · exact Or.inr (Or.inr (Or.inr (Or.inr (Or.inl (i32_toInt_inj h)))))
  · exact Or.inr (Or.inr (Or.inr (Or.inr (Or.inr (Or.inl (i32_toInt_inj h))))))
  · exact Or.inr (Or.inr (Or.inr (Or.inr (Or.inr (Or.inr (Or.inl (i32_toInt_inj h)))))))
  · exact Or.inr (Or.inr (Or.inr (Or.inr (Or.inr (Or.inr (Or.inr (i32_toInt_inj h)))))))
/-- between two longs: what the reference's in() asks -/
theorem in_y {v lo hi : Int64} (c1 : ¬ lg_cmp v lo < 0) (c2 : ¬ lg_cmp v hi > 0) : lo ≤ v ∧ v ≤ hi := by
  rw [lg_cmp_lt, Int64.lt_iff_toInt_lt] at c1
  rw [gt_iff_lt, lg_cmp_gt, Int64.lt_iff_toInt_lt] at c2
  rw [Int64.le_iff_toInt_le, Int64.le_iff_toInt_le]
  omega
theorem in_lo {v lo hi : Int64} (c : lg_cmp v lo < 0) : ¬ (lo ≤ v ∧ v ≤ hi) := by
  rw [lg_cmp_lt, Int64.lt_iff_toInt_lt] at c
  rw [Int64.le_iff_toInt_le, Int64.le_iff_toInt_le]
  omega
theorem in_hi {v lo hi : Int64} (c : lg_cmp v hi > 0) : ¬ (lo ≤ v ∧ v ≤ hi) := by
  rw [gt_iff_lt, lg_cmp_gt, Int64.lt_iff_toInt_lt] at c
  rw [Int64.le_iff_toInt_le, Int64.le_iff_toInt_le]
  omega
theorem in_32 {x : Int32} {lo hi : Int64} (a b : Int) (ha : lo.toInt = a) (hb : hi.toInt = b) : (lo ≤ x.toInt64 ∧ x.toInt64 ≤ hi) ↔ (a ≤ x.toInt ∧ x.toInt ≤ b) := by
  rw [Int64.le_iff_toInt_le, Int64.le_iff_toInt_le, Int32.toInt_toInt64, ha, hb]
theorem in_no {x : Int64} (h : 0 ≤ x ∧ x ≤ (-1)) : False := by
  rw [Int64.le_iff_toInt_le, Int64.le_iff_toInt_le] at h
  have e0 : (0 : Int64).toInt = 0 := by decide
  have e1 : (-1 : Int64).toInt = -1 := by decide
  rw [e0, e1] at h
  omega

theorem bge_t {a b : Nat} (c : nI a ≥ nI b) (ha : a < 2 ^ 31) (hb : b < 2 ^ 31) : b ≤ a := (nI_leI hb ha).mp c
theorem bge_f {a b : Nat} (c : ¬ nI a ≥ nI b) (ha : a < 2 ^ 31) (hb : b < 2 ^ 31) : a < b := Nat.lt_of_not_le (fun q => c ((nI_leI hb ha).mpr q))
theorem blt_t {a b : Nat} (c : nI a < nI b) (ha : a < 2 ^ 31) (hb : b < 2 ^ 31) : a < b := (nI_ltI ha hb).mp c
theorem blt_f {a b : Nat} (c : ¬ nI a < nI b) (ha : a < 2 ^ 31) (hb : b < 2 ^ 31) : b ≤ a := Nat.le_of_not_lt (fun q => c ((nI_ltI ha hb).mpr q))
theorem bgt_t {a b : Nat} (c : nI a > nI b) (ha : a < 2 ^ 31) (hb : b < 2 ^ 31) : b < a := (nI_ltI hb ha).mp c
theorem bgt_f {a b : Nat} (c : ¬ nI a > nI b) (ha : a < 2 ^ 31) (hb : b < 2 ^ 31) : a ≤ b := Nat.le_of_not_lt (fun q => c ((nI_ltI hb ha).mpr q))
theorem ble_t {a b : Nat} (c : nI a ≤ nI b) (ha : a < 2 ^ 31) (hb : b < 2 ^ 31) : a ≤ b := (nI_leI ha hb).mp c
theorem ble_f {a b : Nat} (c : ¬ nI a ≤ nI b) (ha : a < 2 ^ 31) (hb : b < 2 ^ 31) : b < a := Nat.lt_of_not_le (fun q => c ((nI_leI ha hb).mpr q))
theorem beq_t {a b : Nat} (c : nI a = nI b) (ha : a < 2 ^ 31) (hb : b < 2 ^ 31) : a = b := (nI_eq ha hb).mp c
theorem beq_f {a b : Nat} (c : ¬ nI a = nI b) (ha : a < 2 ^ 31) (hb : b < 2 ^ 31) : ¬ a = b := fun q => c ((nI_eq ha hb).mpr q)
theorem bne_t {a b : Nat} (c : ¬ nI a = nI b) (ha : a < 2 ^ 31) (hb : b < 2 ^ 31) : ¬ a = b := fun q => c ((nI_eq ha hb).mpr q)
theorem bne_f {a b : Nat} (c : nI a = nI b) (ha : a < 2 ^ 31) (hb : b < 2 ^ 31) : a = b := (nI_eq ha hb).mp c
theorem sw_9 (k : Int32) : k = 0 ∨ k = 1 ∨ k = 2 ∨ k = 3 ∨ k = 4 ∨ k = 5 ∨ k = 6 ∨ k = 7 ∨ k = 8 ∨ k = 9 ∨ (k.toInt < 0 ∨ 9 < k.toInt) := by
  by_cases h : k.toInt < 0 ∨ 9 < k.toInt
  · simp [h]
  · rcases (show k.toInt = 0 ∨ k.toInt = 1 ∨ k.toInt = 2 ∨ k.toInt = 3 ∨ k.toInt = 4 ∨ k.toInt = 5 ∨ k.toInt = 6 ∨ k.toInt = 7 ∨ k.toInt = 8 ∨ k.toInt = 9 by omega) with h | h | h | h | h | h | h | h | h | h
    · have e := i32_toInt_inj (y := 0) h; simp [e]
    · have e := i32_toInt_inj (y := 1) h; simp [e]
    · have e := i32_toInt_inj (y := 2) h; simp [e]
    · have e := i32_toInt_inj (y := 3) h; simp [e]
    · have e := i32_toInt_inj (y := 4) h; simp [e]
    · have e := i32_toInt_inj (y := 5) h; simp [e]
    · have e := i32_toInt_inj (y := 6) h; simp [e]
    · have e := i32_toInt_inj (y := 7) h; simp [e]
    · have e := i32_toInt_inj (y := 8) h; simp [e]
    · have e := i32_toInt_inj (y := 9) h; simp [e]

theorem end_z {k : Int32} (h : k.toInt = 0) : k = 0 := i32_toInt_inj (y := 0) h
theorem end_n {k : Int32} (h : ¬ k.toInt = 0) : ¬ k = 0 := fun e => h (by rw [e]; decide)
theorem upd_0 {f : Nat → Int32} {k : Nat} (h : ∀ j, f j = 0) : ∀ j, upd f k 0 j = 0 := fun j => by
  unfold upd
  split
  · rfl
  · exact h j
theorem upd_0x {f : Nat → Int32} {k : Nat} {x : Int32} (h : ∀ j, f j = 0) (hx : x = 0) : ∀ j, upd f k x j = 0 := fun j => by
  unfold upd
  split
  · exact hx
  · exact h j
theorem nneg_eq {a : Nat} {y : Int32} (h : nI a = y) (ha : a < 2 ^ 31) (hy : y < 0) : False := nI_pos ha (h ▸ hy)
theorem nneg_ne {a : Nat} {y : Int32} (h : nI a = y) (ha : a < 2 ^ 31) (hy : y < 0) : False := nI_pos ha (h ▸ hy)
theorem nneg_lt {a : Nat} {y : Int32} (h : nI a < y) (ha : a < 2 ^ 31) (hy : y < 0) : False := by
  rw [Int32.lt_iff_toInt_lt, nI_toInt ha] at h
  rw [Int32.lt_iff_toInt_lt, i0] at hy
  omega
theorem nneg_le {a : Nat} {y : Int32} (h : nI a ≤ y) (ha : a < 2 ^ 31) (hy : y < 0) : False := by
  rw [Int32.le_iff_toInt_le, nI_toInt ha] at h
  rw [Int32.lt_iff_toInt_lt, i0] at hy
  omega
theorem nneg_gt {a : Nat} {y : Int32} (h : ¬ nI a > y) (ha : a < 2 ^ 31) (hy : y < 0) : False := by
  rw [gt_iff_lt, Int32.lt_iff_toInt_lt, nI_toInt ha] at h
  rw [Int32.lt_iff_toInt_lt, i0] at hy
  omega
theorem nneg_ge {a : Nat} {y : Int32} (h : ¬ nI a ≥ y) (ha : a < 2 ^ 31) (hy : y < 0) : False := by
  rw [ge_iff_le, Int32.le_iff_toInt_le, nI_toInt ha] at h
  rw [Int32.lt_iff_toInt_lt, i0] at hy
  omega
theorem nneg_l0 {a : Nat} (h : nI a < 0) (ha : a < 2 ^ 31) (_ : (0 : Int32) ≤ 0) : False := nI_pos ha h
theorem nneg_g0 {a : Nat} (h : ¬ nI a ≥ 0) (ha : a < 2 ^ 31) (_ : (0 : Int32) ≤ 0) : False := h (nI_pos' ha)
theorem tn_lt (t : Int32) : t.toInt.toNat < 2 ^ 31 := by
  have h := Int32.toInt_lt t
  omega
theorem biv_f {i : Nat} {t : Int32} (c : ¬ nI i ≥ t) (hi : i < 2 ^ 31) : i < t.toInt.toNat := by
  rw [ge_iff_le, Int32.le_iff_toInt_le, nI_toInt hi] at c
  omega
theorem ex_nat {k : Int32} {n : Nat} (h1 : ¬ k < 0) (h2 : k < nI n) (hn : n < 2 ^ 31) : ∃ j, j < n ∧ k = nI j := by
  obtain ⟨j, hj, rfl⟩ := nI_of h1
  exact ⟨j, (nI_ltI hj hn).mp h2, rfl⟩
/-- what an OP makes of a STATE: none, or a state -/
def RES (f : Nat → Int32) : Prop := ∀ k, k < 320 → f k = -1 ∨ ∃ j, j < 64 ∧ f k = nI j
/-- the first places of a row are states -/
def QIN (f : Nat → Int32) (t : Nat) : Prop := ∀ k, k < t → ∃ j, j < 64 ∧ f k = nI j
theorem qin_1 {f : Nat → Int32} {j : Nat} (hj : j < 64) : QIN (upd f 0 (nI j)) 1 := fun k hk => by
  obtain rfl : k = 0 := by omega
  exact ⟨j, hj, rfl⟩
theorem qin_put {f : Nat → Int32} {t j : Nat} (h : QIN f t) (ht : t < 2 ^ 31) (hj : j < 64) : QIN (upd f (nI t).toNatClampNeg (nI j)) (t + 1) := fun k hk => by
  rw [nI_clamp ht]
  by_cases e : k = t
  · exact ⟨j, hj, by simp [upd, e]⟩
  · obtain ⟨q, h1, h2⟩ := h k (by omega)
    exact ⟨q, h1, by simp [upd, e, h2]⟩
theorem bgtv_f {i : Nat} {t : Int32} (c : ¬ nI i > t) (hi : i < 2 ^ 31) : i ≤ t.toInt.toNat := by
  rw [gt_iff_lt, Int32.lt_iff_toInt_lt, nI_toInt hi] at c
  omega
theorem xor4_1 : ∀ {j : Nat}, j < 4 → ∃ k, k < 4 ∧ nI j ^^^ (1 : Int32) = nI k := by
  intro j hj
  rcases (show j = 0 ∨ j = 1 ∨ j = 2 ∨ j = 3 by omega) with rfl | rfl | rfl | rfl
  · exact ⟨1, by decide, by decide⟩
  · exact ⟨0, by decide, by decide⟩
  · exact ⟨3, by decide, by decide⟩
  · exact ⟨2, by decide, by decide⟩
theorem xor4_2 : ∀ {j : Nat}, j < 4 → ∃ k, k < 4 ∧ nI j ^^^ (2 : Int32) = nI k := by
  intro j hj
  rcases (show j = 0 ∨ j = 1 ∨ j = 2 ∨ j = 3 by omega) with rfl | rfl | rfl | rfl
  · exact ⟨2, by decide, by decide⟩
  · exact ⟨3, by decide, by decide⟩
  · exact ⟨0, by decide, by decide⟩
  · exact ⟨1, by decide, by decide⟩
theorem bc_le {j : Nat} (hj : j < 64) : (nI j - 1).toInt ≤ 1000 := by
  rw [show (1 : Int32) = nI 1 from rfl, pk_sub_toInt (by omega) (by decide)]
  omega
theorem bc_le2 {n j : Nat} (hn : n ≤ 5) (hj : j < 64) : (nI n - 1 - (nI j - 1)).toInt ≤ 1000 := by
  have h : ∀ n, n < 6 → ∀ j, j < 64 → (nI n - 1 - (nI j - 1)).toInt ≤ 1000 := by decide +kernel
  exact h n (by omega) j hj
theorem nr_le {n : Nat} (hn : n ≤ 5) : (nI n).toInt ≤ 1000 := by
  rw [nI_toInt (by omega)]
  omega
/-- bits of a small set, cut, are a small set -/
theorem and32 {j : Nat} (hj : j < 32) (y : Int32) : ∃ k, k < 32 ∧ nI j &&& y = nI k := by
  refine ⟨(nI j &&& y).toBitVec.toNat, ?_, ?_⟩
  · have h1 : (nI j &&& y).toBitVec.toNat ≤ (nI j).toBitVec.toNat := by
      rw [Int32.toBitVec_and, BitVec.toNat_and]
      exact Nat.and_le_left
    rw [pk_tn (by omega)] at h1
    omega
  · apply Int32.toBitVec_inj.mp
    apply BitVec.eq_of_toNat_eq
    rw [pk_tn (BitVec.isLt _)]
