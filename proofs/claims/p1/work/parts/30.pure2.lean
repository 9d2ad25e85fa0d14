theorem upd_0 {f : Nat → Int32} {k : Nat} (h : ∀ j, f j = 0) : ∀ j, upd f k 0 j = 0 := fun j => by
  unfold upd
  split
  · rfl
  · exact h j
theorem upd_0x {f : Nat → Int32} {k : Nat} {x : Int32} (h : ∀ j, f j = 0) (hx : x = 0) : ∀ j, upd f k x j = 0 := fun j => by
  unfold upd
  split
  · exact hx
  · exact h j
