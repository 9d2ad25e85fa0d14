theorem spans_y {a b : Int32} {n : Nat} (h1 : ¬ a < 0) (h2 : ¬ b < 0) (h3 : ¬ a > nI n) (h4 : ¬ b > nI n - a) (hn : n ≤ 60) : ∃ f9 n9 : Nat, a = nI f9 ∧ b = nI n9 ∧ f9 + n9 ≤ n := by
  obtain ⟨f, hf, rfl⟩ := nI_of h1
  obtain ⟨k, hk, rfl⟩ := nI_of h2
  have h5 := bgt_f h3 hf (by omega)
  rw [pk_sub h5] at h4
  have h6 := bgt_f h4 hk (by omega)
  exact ⟨f, k, rfl, rfl, by omega⟩
