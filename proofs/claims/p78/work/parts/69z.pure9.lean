/-! own lemmas: what the compared calls answer, the class's side -/
theorem rwr_2 {x w n : Int32} (h : ¬ (0 ≤ x.toInt ∧ x.toInt ≤ 3) ∨ ¬ (0 ≤ w.toInt ∧ w.toInt ≤ 3) ∨ 60 < n.toInt) : -2 = rwr x w n := (if_pos h).symm
theorem rwr_3 {x w n : Int32} (h : (0 ≤ x.toInt ∧ x.toInt ≤ 3) ∧ (0 ≤ w.toInt ∧ w.toInt ≤ 3) ∧ n.toInt ≤ 60) (h0 : n.toInt < 0) : -3 = rwr x w n := by
  unfold rwr
  rw [if_neg (by omega), if_pos h0]
theorem rwr_0 {x w n : Int32} (h : (0 ≤ x.toInt ∧ x.toInt ≤ 3) ∧ (0 ≤ w.toInt ∧ w.toInt ≤ 3) ∧ n.toInt ≤ 60) (h0 : ¬ n.toInt < 0) : 0 = rwr x w n := by
  unfold rwr
  rw [if_neg (by omega), if_neg h0]
theorem imr_0 {x : Int32} (h : 0 ≤ x.toInt ∧ x.toInt ≤ 2) : 0 = imr x := (if_pos h).symm
theorem imr_2 {x : Int32} (h : ¬ (0 ≤ x.toInt ∧ x.toInt ≤ 2)) : -2 = imr x := (if_neg h).symm
theorem imk_n {x : Int32} {f : Nat → Int32} (h : -2 = imr x) : f = imk x f := by
  unfold imk
  unfold imr at h
  split at h
  · exact absurd h (by decide)
  · rw [if_neg (by assumption)]
theorem imk_k {x : Int32} {f : Nat → Int32} {k : Nat} (h : 0 = imr x) (hk : x.toNatClampNeg = k) : upd f k (vp_nar .boolean 1) = imk x f := by
  unfold imk
  unfold imr at h
  split at h
  · rw [if_pos (by assumption), hk]; rfl
  · exact absurd h (by decide)
theorem imk_c {x : Int32} {f : Nat → Int32} (h : 0 = imr x) : upd f x.toNatClampNeg (vp_nar .boolean 1) = imk x f := imk_k h rfl
theorem bkr_2 {x : Int32} {f : Nat → Int32} (h : ¬ (0 ≤ x.toInt ∧ x.toInt ≤ 2)) : -2 = bkr x f := (if_neg h).symm
theorem bkr_6 {x : Int32} {f : Nat → Int32} {k : Nat} (h : 0 ≤ x.toInt ∧ x.toInt ≤ 2) (hk : x.toNatClampNeg = k) (e : f k = 0) : -6 = bkr x f := by
  unfold bkr
  rw [if_pos h, hk, if_pos e]
theorem bkr_0 {x : Int32} {f : Nat → Int32} {k : Nat} (h : 0 ≤ x.toInt ∧ x.toInt ≤ 2) (hk : x.toNatClampNeg = k) (e : ¬ f k = 0) : 0 = bkr x f := by
  unfold bkr
  rw [if_pos h, hk, if_neg e]
theorem enr_a {x : Int32} {n : Nat} (h : ¬ (0 ≤ x.toInt ∧ x.toInt ≤ (n : Int))) : -1 = enr x n ∧ n = enn x n := by
  unfold enr enn
  rw [if_neg h, if_neg h]
  exact ⟨rfl, rfl⟩
theorem enr_n1 {x : Int32} {n : Nat} (h : x < 0) : ¬ (0 ≤ x.toInt ∧ x.toInt ≤ (n : Int)) := fun q => by rw [Int32.lt_iff_toInt_lt, i0] at h; omega
theorem enr_n2 {x : Int32} {n : Nat} (hn : n ≤ 400) (h : ¬ x ≤ nI n) : ¬ (0 ≤ x.toInt ∧ x.toInt ≤ (n : Int)) := fun q => by rw [Int32.le_iff_toInt_le, nI_toInt (by omega)] at h; omega
