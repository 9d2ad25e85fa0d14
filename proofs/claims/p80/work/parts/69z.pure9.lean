/-! own lemmas: what the compared calls answer, the class's side -/
theorem rwr_2 {x w n : Int32} (h : ¬ (0 ≤ x.toInt ∧ x.toInt ≤ 3) ∨ ¬ (0 ≤ w.toInt ∧ w.toInt ≤ 3) ∨ 60 < n.toInt) : -2 = rwr x w n := (if_pos h).symm
theorem rwr_3 {x w n : Int32} (h : (0 ≤ x.toInt ∧ x.toInt ≤ 3) ∧ (0 ≤ w.toInt ∧ w.toInt ≤ 3) ∧ n.toInt ≤ 60) (h0 : n.toInt < 0) : -3 = rwr x w n := by
  unfold rwr
  rw [if_neg (by omega), if_pos h0]
theorem rwr_0 {x w n : Int32} (h : (0 ≤ x.toInt ∧ x.toInt ≤ 3) ∧ (0 ≤ w.toInt ∧ w.toInt ≤ 3) ∧ n.toInt ≤ 60) (h0 : ¬ n.toInt < 0) : 0 = rwr x w n := by
  unfold rwr
  rw [if_neg (by omega), if_neg h0]
theorem imr_0 {x : Int32} (h : 0 ≤ x.toInt ∧ x.toInt ≤ 2) : 0 = imr x := (if_pos h).symm
theorem imr_2 {x : Int32} (h : ¬ (0 ≤ x.toInt ∧ x.toInt ≤ 2)) : -2 = imr x := (if_neg h).symm
theorem imk_n {x : Int32} {f : Nat → Int32} (h : -2 = imr x) : f = imk x f := by
  unfold imk
  unfold imr at h
  split at h
  · exact absurd h (by decide)
  · rw [if_neg (by assumption)]
theorem imk_k {x : Int32} {f : Nat → Int32} {k : Nat} (h : 0 = imr x) (hk : x.toNatClampNeg = k) : upd f k (vp_nar .boolean 1) = imk x f := by
  unfold imk
  unfold imr at h
  split at h
  · rw [if_pos (by assumption), hk]; rfl
  · exact absurd h (by decide)
theorem imk_c {x : Int32} {f : Nat → Int32} (h : 0 = imr x) : upd f x.toNatClampNeg (vp_nar .boolean 1) = imk x f := imk_k h rfl
theorem bkr_2 {x : Int32} {f : Nat → Int32} (h : ¬ (0 ≤ x.toInt ∧ x.toInt ≤ 2)) : -2 = bkr x f := (if_neg h).symm
theorem bkr_6 {x : Int32} {f : Nat → Int32} {k : Nat} (h : 0 ≤ x.toInt ∧ x.toInt ≤ 2) (hk : x.toNatClampNeg = k) (e : f k = 0) : -6 = bkr x f := by
  unfold bkr
  rw [if_pos h, hk, if_pos e]
theorem bkr_0 {x : Int32} {f : Nat → Int32} {k : Nat} (h : 0 ≤ x.toInt ∧ x.toInt ≤ 2) (hk : x.toNatClampNeg = k) (e : ¬ f k = 0) : 0 = bkr x f := by
  unfold bkr
  rw [if_pos h, hk, if_neg e]
theorem enr_a {x : Int32} {n : Nat} (h : ¬ (0 ≤ x.toInt ∧ x.toInt ≤ (n : Int))) : -1 = enr x n ∧ n = enn x n := by
  unfold enr enn
  rw [if_neg h, if_neg h]
  exact ⟨rfl, rfl⟩
theorem enr_n1 {x : Int32} {n : Nat} (h : x < 0) : ¬ (0 ≤ x.toInt ∧ x.toInt ≤ (n : Int)) := fun q => by rw [Int32.lt_iff_toInt_lt, i0] at h; omega
theorem enr_n2 {x : Int32} {n : Nat} (hn : n ≤ 400) (h : ¬ x ≤ nI n) : ¬ (0 ≤ x.toInt ∧ x.toInt ≤ (n : Int)) := fun q => by rw [Int32.le_iff_toInt_le, nI_toInt (by omega)] at h; omega
/-! slots: what the class's calls answer and leave, by the four slots' rows -/
def SLP (x w n th wi th1 wi1 : Int32) (ns ns1 k : Nat) : Prop := ((0 = rwr x w n ∧ x.toNatClampNeg = k) → th1 = 1 ∧ wi1 = w ∧ nI ns1 = n) ∧ (¬ (0 = rwr x w n ∧ x.toNatClampNeg = k) → th1 = th ∧ wi1 = wi ∧ ns1 = ns)
def SR (th wi : Int32) (ns : Nat) (m d : Nat → Int32) (k : Nat) : Prop := ((th = 0 ∧ m k = -1) ∨ (th = 1 ∧ m k = nI ns)) ∧ d k = wi
theorem slp_n {x w n th wi r : Int32} {ns k : Nat} (h : r = rwr x w n) (hr : ¬ r = 0) : SLP x w n th wi th wi ns ns k := ⟨fun q => absurd (h.trans q.1.symm) hr, fun _ => ⟨rfl, rfl, rfl⟩⟩
theorem slp_o {x w n th wi : Int32} {ns k : Nat} (h : ¬ x.toNatClampNeg = k) : SLP x w n th wi th wi ns ns k := ⟨fun q => absurd q.2 h, fun _ => ⟨rfl, rfl, rfl⟩⟩
theorem slp_y {x w th wi : Int32} {ns n1 k : Nat} (h : 0 = rwr x w (nI n1)) (hk : x.toNatClampNeg = k) : SLP x w (nI n1) th wi 1 w ns n1 k := ⟨fun _ => ⟨rfl, rfl, rfl⟩, fun q => absurd ⟨h, hk⟩ q⟩
theorem sr_row {x w n th wi th1 wi1 : Int32} {ns ns1 k : Nat} {m d m1 d1 : Nat → Int32} (h : SR th wi ns m d k) (hp : SLP x w n th wi th1 wi1 ns ns1 k) (hm : m1 = rwm x w n n m) (hd : d1 = rwm x w n w d) : SR th1 wi1 ns1 m1 d1 k := by
  subst hm hd
  by_cases e : 0 = rwr x w n ∧ x.toNatClampNeg = k
  · obtain ⟨rfl, rfl, e3⟩ := hp.1 e
    refine ⟨Or.inr ⟨rfl, ?_⟩, ?_⟩
    · rw [← rwm_y e.1, e.2, upd_at, e3]
    · rw [← rwm_y e.1, e.2, upd_at]
  · obtain ⟨rfl, rfl, rfl⟩ := hp.2 e
    by_cases e1 : 0 = rwr x w n
    · have e2 : ¬ k = x.toNatClampNeg := fun q => e ⟨e1, q.symm⟩
      unfold SR
      rw [← rwm_y e1, ← rwm_y e1, upd_ne e2, upd_ne e2]
      exact h
    · unfold SR
      rw [← rwm_n rfl (fun q => e1 q.symm), ← rwm_n rfl (fun q => e1 q.symm)]
      exact h
/-- the same answers, told by the class's rows -/
def wrC (x i : Int32) (t : Nat → Int32) (n : Nat → Nat) : Int32 := if 0 ≤ x.toInt ∧ x.toInt ≤ 3 then (if t x.toNatClampNeg = 0 then -6 else if 0 ≤ i.toInt ∧ i.toInt < (n x.toNatClampNeg : Int) then 0 else -7) else -2
def paC (x i y k n : Int32) (t d : Nat → Int32) (s : Nat → Nat) : Int32 := if (0 ≤ x.toInt ∧ x.toInt ≤ 3) ∧ (0 ≤ y.toInt ∧ y.toInt ≤ 3) then (if t x.toNatClampNeg = 0 ∨ t y.toNatClampNeg = 0 then -6 else if ¬ d x.toNatClampNeg = d y.toNatClampNeg then -8 else if 0 ≤ i.toInt ∧ 0 ≤ k.toInt ∧ 0 ≤ n.toInt ∧ i.toInt + n.toInt ≤ (s x.toNatClampNeg : Int) ∧ k.toInt + n.toInt ≤ (s y.toNatClampNeg : Int) then 0 else -7) else -2
theorem sr_t0 {th wi : Int32} {ns k : Nat} {m d : Nat → Int32} (hn : ns ≤ 60) (h : SR th wi ns m d k) : th = 0 ↔ m k = -1 := by
  rcases h.1 with ⟨h1, h2⟩ | ⟨h1, h2⟩
  · rw [h1, h2]; decide
  · rw [h1, h2]
    exact ⟨fun e => absurd e (by decide), fun e => absurd e.symm (nm1 (by omega))⟩
theorem sr_n {th wi : Int32} {ns k : Nat} {m d : Nat → Int32} (hn : ns ≤ 60) (h : SR th wi ns m d k) (h0 : ¬ th = 0) : (m k).toInt = (ns : Int) := by
  rcases h.1 with ⟨h1, h2⟩ | ⟨h1, h2⟩
  · exact absurd h1 h0
  · rw [h2, nI_toInt (by omega)]
theorem wrC_eq {x i : Int32} {t w : Nat → Int32} {n : Nat → Nat} {m d : Nat → Int32} (hn : ∀ k, k < 4 → n k ≤ 60) (h : ∀ k, k < 4 → SR (t k) (w k) (n k) m d k) : wrC x i t n = wrR x i m := by
  unfold wrC wrR
  by_cases e : 0 ≤ x.toInt ∧ x.toInt ≤ 3
  · have hk : x.toNatClampNeg < 4 := by unfold Int32.toNatClampNeg; omega
    rw [if_pos e, if_pos e]
    have hs := h _ hk
    by_cases e0 : t x.toNatClampNeg = 0
    · rw [if_pos e0, if_pos ((sr_t0 (hn _ hk) hs).mp e0)]
    · rw [if_neg e0, if_neg (fun q => e0 ((sr_t0 (hn _ hk) hs).mpr q)), sr_n (hn _ hk) hs e0]
  · rw [if_neg e, if_neg e]
theorem paC_eq {x i y k n : Int32} {t w : Nat → Int32} {s : Nat → Nat} {m d : Nat → Int32} (hn : ∀ q, q < 4 → s q ≤ 60) (h : ∀ q, q < 4 → SR (t q) (w q) (s q) m d q) : paC x i y k n t w s = paR x i y k n m d := by
  unfold paC paR
  by_cases e : (0 ≤ x.toInt ∧ x.toInt ≤ 3) ∧ (0 ≤ y.toInt ∧ y.toInt ≤ 3)
  · have hx : x.toNatClampNeg < 4 := by unfold Int32.toNatClampNeg; omega
    have hy : y.toNatClampNeg < 4 := by unfold Int32.toNatClampNeg; omega
    rw [if_pos e, if_pos e]
    have s1 := h _ hx
    have s2 := h _ hy
    have a1 := sr_t0 (hn _ hx) s1
    have a2 := sr_t0 (hn _ hy) s2
    by_cases e0 : t x.toNatClampNeg = 0 ∨ t y.toNatClampNeg = 0
    · rw [if_pos e0, if_pos (by rw [← a1, ← a2]; exact e0)]
    · have e1 : ¬ (m x.toNatClampNeg = -1 ∨ m y.toNatClampNeg = -1) := by rw [← a1, ← a2]; exact e0
      rw [if_neg e0, if_neg e1, s1.2, s2.2, sr_n (hn _ hx) s1 (fun q => e0 (Or.inl q)), sr_n (hn _ hy) s2 (fun q => e0 (Or.inr q))]
  · rw [if_neg e, if_neg e]
def f4 (a b c d : Int32) : Nat → Int32 := fun k => if k = 0 then a else if k = 1 then b else if k = 2 then c else d
def n4 (a b c d : Nat) : Nat → Nat := fun k => if k = 0 then a else if k = 1 then b else if k = 2 then c else d
theorem sr_4 {t0 t1 t2 t3 w0 w1 w2 w3 : Int32} {n0 n1 n2 n3 : Nat} {m d : Nat → Int32} (h0 : SR t0 w0 n0 m d 0) (h1 : SR t1 w1 n1 m d 1) (h2 : SR t2 w2 n2 m d 2) (h3 : SR t3 w3 n3 m d 3) : ∀ k, k < 4 → SR (f4 t0 t1 t2 t3 k) (f4 w0 w1 w2 w3 k) (n4 n0 n1 n2 n3 k) m d k := fun k hk => by
  rcases (show k = 0 ∨ k = 1 ∨ k = 2 ∨ k = 3 by omega) with rfl | rfl | rfl | rfl
  · exact h0
  · exact h1
  · exact h2
  · exact h3
theorem n4_60 {n0 n1 n2 n3 : Nat} (h0 : n0 ≤ 60) (h1 : n1 ≤ 60) (h2 : n2 ≤ 60) (h3 : n3 ≤ 60) : ∀ k, k < 4 → n4 n0 n1 n2 n3 k ≤ 60 := fun k hk => by
  rcases (show k = 0 ∨ k = 1 ∨ k = 2 ∨ k = 3 by omega) with rfl | rfl | rfl | rfl
  · exact h0
  · exact h1
  · exact h2
  · exact h3
theorem wrC_2 {x i : Int32} {t : Nat → Int32} {n : Nat → Nat} (h : ¬ (0 ≤ x.toInt ∧ x.toInt ≤ 3)) : -2 = wrC x i t n := (if_neg h).symm
theorem wrC_6 {x i : Int32} {t : Nat → Int32} {n : Nat → Nat} {k : Nat} (h : 0 ≤ x.toInt ∧ x.toInt ≤ 3) (hk : x.toNatClampNeg = k) (e : t k = 0) : -6 = wrC x i t n := by unfold wrC; rw [if_pos h, hk, if_pos e]
theorem wrC_7 {x i : Int32} {t : Nat → Int32} {n : Nat → Nat} {k : Nat} (h : 0 ≤ x.toInt ∧ x.toInt ≤ 3) (hk : x.toNatClampNeg = k) (e : ¬ t k = 0) (e2 : ¬ (0 ≤ i.toInt ∧ i.toInt < (n k : Int))) : -7 = wrC x i t n := by unfold wrC; rw [if_pos h, hk, if_neg e, if_neg e2]
theorem wrC_0 {x i : Int32} {t : Nat → Int32} {n : Nat → Nat} {k : Nat} (h : 0 ≤ x.toInt ∧ x.toInt ≤ 3) (hk : x.toNatClampNeg = k) (e : ¬ t k = 0) (e2 : 0 ≤ i.toInt ∧ i.toInt < (n k : Int)) : 0 = wrC x i t n := by unfold wrC; rw [if_pos h, hk, if_neg e, if_pos e2]
theorem paC_2 {x i y k n : Int32} {t d : Nat → Int32} {s : Nat → Nat} (h : ¬ ((0 ≤ x.toInt ∧ x.toInt ≤ 3) ∧ (0 ≤ y.toInt ∧ y.toInt ≤ 3))) : -2 = paC x i y k n t d s := (if_neg h).symm
theorem paC_6 {x i y k n : Int32} {t d : Nat → Int32} {s : Nat → Nat} {a b : Nat} (h : (0 ≤ x.toInt ∧ x.toInt ≤ 3) ∧ (0 ≤ y.toInt ∧ y.toInt ≤ 3)) (ha : x.toNatClampNeg = a) (hb : y.toNatClampNeg = b) (e : t a = 0 ∨ t b = 0) : -6 = paC x i y k n t d s := by unfold paC; rw [if_pos h, ha, hb, if_pos e]
theorem paC_8 {x i y k n : Int32} {t d : Nat → Int32} {s : Nat → Nat} {a b : Nat} (h : (0 ≤ x.toInt ∧ x.toInt ≤ 3) ∧ (0 ≤ y.toInt ∧ y.toInt ≤ 3)) (ha : x.toNatClampNeg = a) (hb : y.toNatClampNeg = b) (e : ¬ (t a = 0 ∨ t b = 0)) (e2 : ¬ d a = d b) : -8 = paC x i y k n t d s := by unfold paC; rw [if_pos h, ha, hb, if_neg e, if_pos e2]
theorem paC_7 {x i y k n : Int32} {t d : Nat → Int32} {s : Nat → Nat} {a b : Nat} (h : (0 ≤ x.toInt ∧ x.toInt ≤ 3) ∧ (0 ≤ y.toInt ∧ y.toInt ≤ 3)) (ha : x.toNatClampNeg = a) (hb : y.toNatClampNeg = b) (e : ¬ (t a = 0 ∨ t b = 0)) (e2 : d a = d b) (e3 : ¬ (0 ≤ i.toInt ∧ 0 ≤ k.toInt ∧ 0 ≤ n.toInt ∧ i.toInt + n.toInt ≤ (s a : Int) ∧ k.toInt + n.toInt ≤ (s b : Int))) : -7 = paC x i y k n t d s := by unfold paC; rw [if_pos h, ha, hb, if_neg e, if_neg (fun q => q e2), if_neg e3]
theorem paC_0 {x i y k n : Int32} {t d : Nat → Int32} {s : Nat → Nat} {a b : Nat} (h : (0 ≤ x.toInt ∧ x.toInt ≤ 3) ∧ (0 ≤ y.toInt ∧ y.toInt ≤ 3)) (ha : x.toNatClampNeg = a) (hb : y.toNatClampNeg = b) (e : ¬ (t a = 0 ∨ t b = 0)) (e2 : d a = d b) (e3 : 0 ≤ i.toInt ∧ 0 ≤ k.toInt ∧ 0 ≤ n.toInt ∧ i.toInt + n.toInt ≤ (s a : Int) ∧ k.toInt + n.toInt ≤ (s b : Int)) : 0 = paC x i y k n t d s := by unfold paC; rw [if_pos h, ha, hb, if_neg e, if_neg (fun q => q e2), if_pos e3]
theorem i7a {i : Int32} {n : Nat} (h : i < 0) : ¬ (0 ≤ i.toInt ∧ i.toInt < (n : Int)) := fun q => by rw [Int32.lt_iff_toInt_lt, i0] at h; omega
theorem i7b {i : Int32} {n : Nat} (hn : n ≤ 60) (h : ¬ i < nI n) : ¬ (0 ≤ i.toInt ∧ i.toInt < (n : Int)) := fun q => by rw [Int32.lt_iff_toInt_lt, nI_toInt (by omega)] at h; omega
theorem i70 {i : Int32} {n : Nat} (hn : n ≤ 60) (h1 : ¬ i < 0) (h : i < nI n) : 0 ≤ i.toInt ∧ i.toInt < (n : Int) := by
  rw [Int32.lt_iff_toInt_lt, i0] at h1
  rw [Int32.lt_iff_toInt_lt, nI_toInt (by omega)] at h
  omega
theorem spn1 {a b : Int32} {n : Nat} (h : a < 0) : ¬ (0 ≤ a.toInt ∧ 0 ≤ b.toInt ∧ a.toInt + b.toInt ≤ (n : Int)) := fun q => by rw [Int32.lt_iff_toInt_lt, i0] at h; omega
theorem spn2 {a b : Int32} {n : Nat} (h : b < 0) : ¬ (0 ≤ a.toInt ∧ 0 ≤ b.toInt ∧ a.toInt + b.toInt ≤ (n : Int)) := fun q => by rw [Int32.lt_iff_toInt_lt, i0] at h; omega
theorem spn3 {a b : Int32} {n : Nat} (hn : n ≤ 60) (h : a > nI n) : ¬ (0 ≤ a.toInt ∧ 0 ≤ b.toInt ∧ a.toInt + b.toInt ≤ (n : Int)) := fun q => by rw [gt_iff_lt, Int32.lt_iff_toInt_lt, nI_toInt (by omega)] at h; omega
theorem spn4 {a b : Int32} {n : Nat} (hn : n ≤ 60) (h1 : ¬ a < 0) (h2 : ¬ a > nI n) (h : b > nI n - a) : ¬ (0 ≤ a.toInt ∧ 0 ≤ b.toInt ∧ a.toInt + b.toInt ≤ (n : Int)) := fun q => by
  obtain ⟨f, hf, rfl⟩ := nI_of h1
  rw [gt_iff_lt, Int32.lt_iff_toInt_lt, nI_toInt (by omega), nI_toInt hf] at h2
  rw [gt_iff_lt, Int32.lt_iff_toInt_lt, pk_sub (by omega), nI_toInt (by omega)] at h
  rw [nI_toInt hf] at q
  omega
