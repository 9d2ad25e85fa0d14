/-! own lemmas: what a line of a base says, told by the tape -/
def WD (f : Nat → Int32) (n s w : Nat) : Prop := tT f n s = 1 ∧ tE f n s = s + sl w ∧ ∀ q, q < sl w → f (s + q) = nI (sch w q)
/-- a word that must stand here: the fault so far and the place, before and after -/
noncomputable def exW (f : Nat → Int32) (n : Nat) (q : Int32 × Nat) (w : Nat) : Int32 × Nat := if q.1 = 0 then (@ite _ (WD f n q.2 w) (Classical.propDecidable _) (0, nx f n q.2) (1, q.2)) else q
/-- a number within bounds that must stand here -/
def nuS (f : Nat → Int32) (n : Nat) (q : Int32 × Nat) (lo : Nat) (hi : Int) : Int32 × Nat × Nat := if q.1 = 0 then (if tT f n q.2 = 2 then (if lo ≤ tV f n q.2 ∧ (tV f n q.2 : Int) ≤ hi then (0, nx f n q.2, tV f n q.2) else (2, q.2, 0)) else (1, q.2, 0)) else (q.1, q.2, 0)
def FP (k : Int32) (s : Nat) (fp : Int32) : Prop := ¬ k = 0 → fp = nI s
theorem exW_f {f : Nat → Int32} {n s w : Nat} {k : Int32} (h : ¬ k = 0) : exW f n (k, s) w = (k, s) := if_neg h
theorem exW_y {f : Nat → Int32} {n s w : Nat} (h : WD f n s w) : exW f n (0, s) w = (0, nx f n s) := by
  unfold exW
  rw [if_pos rfl]
  exact if_pos h
theorem exW_n {f : Nat → Int32} {n s w : Nat} (h : ¬ WD f n s w) : exW f n (0, s) w = (1, s) := by
  unfold exW
  rw [if_pos rfl]
  exact if_neg h
theorem nuS_f {f : Nat → Int32} {n s lo : Nat} {hi : Int} {k : Int32} (h : ¬ k = 0) : nuS f n (k, s) lo hi = (k, s, 0) := if_neg h
theorem nuS_y {f : Nat → Int32} {n s lo : Nat} {hi : Int} (h : tT f n s = 2) (h1 : lo ≤ tV f n s) (h2 : (tV f n s : Int) ≤ hi) : nuS f n (0, s) lo hi = (0, nx f n s, tV f n s) := by
  unfold nuS
  rw [if_pos rfl, if_pos h, if_pos ⟨h1, h2⟩]
theorem nuS_1 {f : Nat → Int32} {n s lo : Nat} {hi : Int} (h : ¬ tT f n s = 2) : nuS f n (0, s) lo hi = (1, s, 0) := by
  unfold nuS
  rw [if_pos rfl, if_neg h]
theorem nuS_2 {f : Nat → Int32} {n s lo : Nat} {hi : Int} (h : tT f n s = 2) (h1 : ¬ (lo ≤ tV f n s ∧ (tV f n s : Int) ≤ hi)) : nuS f n (0, s) lo hi = (2, s, 0) := by
  unfold nuS
  rw [if_pos rfl, if_pos h, if_neg h1]
/-- the class's number, cut at 1000, and the reference's, cut at 99999, keep bounds below them alike -/
theorem cap_lo {c v lo : Nat} (hl : lo < c) (hc : c ≤ 99999) : lo ≤ v ↔ lo ≤ min c v := by omega
theorem cap_hi {c v : Nat} {hi : Int} (hh : hi < c) : (v : Int) ≤ hi ↔ ((min c v : Nat) : Int) ≤ hi := by omega
theorem cap_eq {c v : Nat} {hi : Int} (hh : hi < c) (h : ((min c v : Nat) : Int) ≤ hi) : min c v = v := by omega
theorem isw_wd {f : Nat → Int32} {n s a w : Nat} {fk t v : Int32} (h : TKr f n s a t v) : ISW f fk t s a w ↔ fk = 0 ∧ WD f n s w := by
  unfold ISW WD
  rw [h.1, h.2.1]
/-- the first line -/
noncomputable def hdS (f : Nat → Int32) (n s : Nat) (w : Nat → Int32) : Int32 × Nat × (Nat → Int32) :=
  let q2 := exW f n (exW f n (0, s) 0) 1
  let v1 := nuS f n q2 1 ((3 : Nat) : Int)
  let q3 := exW f n (v1.1, v1.2.1) 2
  let v2 := nuS f n q3 0 ((3 : Nat) : Int)
  let q4 := exW f n (v2.1, v2.2.1) 3
  let v3 := nuS f n q4 0 ((10 : Nat) : Int)
  (v3.1, v3.2.1, upd (upd (upd w 0 (nI v1.2.2)) 1 (nI v2.2.2)) 2 (nI v3.2.2))
theorem wd_s {f : Nat → Int32} {s w i : Nat} (h : ∀ q, q < i → f (s + q) = nI (sch w q)) (e : f (s + i) = nI (sch w i)) : ∀ q, q < i + 1 → f (s + q) = nI (sch w q) := fun q hq => by
  rcases Nat.lt_succ_iff_lt_or_eq.mp hq with h1 | h1
  · exact h q h1
  · subst h1; exact e
theorem pn_lo {x : Int32} {v lo : Nat} (h : x = nI (min 1000 v)) (hl : lo < 100) (c : ¬ x < nI lo) : lo ≤ v := by
  subst h
  have := blt_f c (by omega) (by omega)
  omega
theorem pn_hi {x : Int32} {v hi : Nat} (h : x = nI (min 1000 v)) (hl : hi < 100) (c : x ≤ nI hi) : (v : Int) ≤ (hi : Int) := by
  subst h
  have := ble_t c (by omega) (by omega)
  omega
theorem pn_eq {x : Int32} {v hi : Nat} (h : x = nI (min 1000 v)) (hl : hi < 100) (c : x ≤ nI hi) : x = nI v := by
  subst h
  have := ble_t c (by omega) (by omega)
  rw [show min 1000 v = v by omega]
theorem pn_le {x : Int32} {v hi : Nat} (h : x = nI (min 1000 v)) (hl : hi < 100) (c : x ≤ nI hi) : v ≤ hi := by
  subst h
  have := ble_t c (by omega) (by omega)
  omega
theorem pn_lo2 {x : Int32} {v lo : Nat} (h : x = nI (min 1000 v)) (hl : lo < 100) (c : lo ≤ v) : ¬ x < nI lo := fun q => by
  subst h
  have := blt_t q (by omega) (by omega)
  omega
theorem pn_hi2 {x : Int32} {v hi : Nat} (h : x = nI (min 1000 v)) (hl : hi < 100) (c : (v : Int) ≤ (hi : Int)) : x ≤ nI hi := by
  subst h
  rw [Int32.le_iff_toInt_le, nI_toInt (by omega), nI_toInt (by omega)]
  omega
theorem ex_y {f : Nat → Int32} {n s s1 w : Nat} {k : Int32} (h : k = 0 ∧ WD f n s w) (e : s1 = nx f n s) : (k, s1) = exW f n (k, s) w := by
  obtain ⟨rfl, h2⟩ := h
  rw [exW_y h2, e]
def ERR (k k1 x fp fp1 : Int32) (s : Nat) : Prop := (k = 0 → k1 = x ∧ fp1 = nI s) ∧ (¬ k = 0 → k1 = k ∧ fp1 = fp)
theorem ex_n {f : Nat → Int32} {n s s1 w : Nat} {k k1 fp fp1 : Int32} (h : ¬ (k = 0 ∧ WD f n s w)) (e : s1 = s) (he : ERR k k1 1 fp fp1 s) : (k1, s1) = exW f n (k, s) w := by
  subst e
  by_cases h0 : k = 0
  · subst h0
    rw [exW_n (fun q => h ⟨rfl, q⟩), (he.1 rfl).1]
  · rw [exW_f h0, (he.2 h0).1]
theorem fp_e {k k1 x fp fp1 : Int32} {s s1 : Nat} (h : FP k s fp) (he : ERR k k1 x fp fp1 s) (e : s1 = s) : FP k1 s1 fp1 := fun q => by
  subst e
  by_cases h0 : k = 0
  · exact (he.1 h0).2
  · rw [(he.2 h0).2]; exact h h0
theorem fp_0 {k fp : Int32} {s : Nat} (h : k = 0) : FP k s fp := fun q => absurd h q
theorem nr_y {f : Nat → Int32} {n s lo : Nat} {x z : Int32} (h : z = nI (min 99999 (tV f n s))) (hx : x.toInt < 1000) (hl : lo < 100) (c : (nI lo).toInt64 ≤ z.toInt64 ∧ z.toInt64 ≤ x.toInt64) : lo ≤ tV f n s ∧ (tV f n s : Int) ≤ x.toInt ∧ z = nI (tV f n s) := by
  obtain ⟨c1, c2⟩ := c
  rw [Int64.le_iff_toInt_le, Int32.toInt_toInt64, Int32.toInt_toInt64] at c1 c2
  subst h
  rw [nI_toInt (by omega)] at c1 c2
  rw [nI_toInt (by omega)] at c1
  refine ⟨by omega, by omega, ?_⟩
  rw [show min 99999 (tV f n s) = tV f n s by omega]
theorem nr_n {f : Nat → Int32} {n s lo : Nat} {x z : Int32} (h : z = nI (min 99999 (tV f n s))) (hx : x.toInt < 1000) (hl : lo < 100) (c : ¬ ((nI lo).toInt64 ≤ z.toInt64 ∧ z.toInt64 ≤ x.toInt64)) : ¬ (lo ≤ tV f n s ∧ (tV f n s : Int) ≤ x.toInt) := fun q => by
  apply c
  rw [Int64.le_iff_toInt_le, Int64.le_iff_toInt_le, Int32.toInt_toInt64, Int32.toInt_toInt64, Int32.toInt_toInt64, h, nI_toInt (by omega), nI_toInt (by omega)]
  omega
theorem nu_1 {f : Nat → Int32} {n s lo : Nat} {hi : Int} {k k1 fp fp1 : Int32} (h0 : k = 0) (h : ¬ tT f n s = 2) (he : ERR k k1 1 fp fp1 s) : (k1, s, 0) = nuS f n (k, s) lo hi := by
  subst h0
  rw [nuS_1 h, (he.1 rfl).1]
theorem nu_2 {f : Nat → Int32} {n s lo : Nat} {hi : Int} {k k1 fp fp1 : Int32} (h0 : k = 0) (h : tT f n s = 2) (h1 : ¬ (lo ≤ tV f n s ∧ (tV f n s : Int) ≤ hi)) (he : ERR k k1 2 fp fp1 s) : (k1, s, 0) = nuS f n (k, s) lo hi := by
  subst h0
  rw [nuS_2 h h1, (he.1 rfl).1]
theorem nu_y {f : Nat → Int32} {n s s1 lo : Nat} {hi : Int} {k : Int32} (h0 : k = 0) (h : tT f n s = 2) (h1 : lo ≤ tV f n s) (h2 : (tV f n s : Int) ≤ hi) (e : s1 = nx f n s) : (k, s1, tV f n s) = nuS f n (k, s) lo hi := by
  subst h0
  rw [nuS_y h h1 h2, e]
theorem nu_le {f : Nat → Int32} {n lo s v : Nat} {q : Int32 × Nat} {hi : Int} {k : Int32} (h : (k, s, v) = nuS f n q lo hi) : v = 0 ∨ (v : Int) ≤ hi := by
  unfold nuS at h
  split at h
  · split at h
    · split at h
      · right
        have e := congrArg (fun x : Int32 × Nat × Nat => x.2.2) h
        have e : v = tV f n q.2 := e
        rw [e]
        exact (by assumption : _ ∧ _).2
      · left; exact congrArg (fun x : Int32 × Nat × Nat => x.2.2) h
    · left; exact congrArg (fun x : Int32 × Nat × Nat => x.2.2) h
  · left; exact congrArg (fun x : Int32 × Nat × Nat => x.2.2) h
theorem nu_len {f : Nat → Int32} {n lo s v : Nat} {q : Int32 × Nat} {hi : Nat} {k : Int32} (h : (k, s, v) = nuS f n q lo (hi : Nat)) : v ≤ hi := by
  rcases nu_le h with e | e <;> omega
/-- another cell's number than a -/
def noS (f : Nat → Int32) (n : Nat) (q : Int32 × Nat) (a : Nat) (hi : Int) : Int32 × Nat × Nat := if q.1 = 0 ∧ tT f n q.2 = 2 ∧ tV f n q.2 = a then (2, q.2, 0) else nuS f n q 0 hi
theorem noS_f {f : Nat → Int32} {n s a : Nat} {hi : Int} {k : Int32} (h : ¬ k = 0) : noS f n (k, s) a hi = (k, s, 0) := by
  unfold noS
  rw [if_neg (fun q => h q.1)]
  exact nuS_f h
theorem noS_y {f : Nat → Int32} {n s a : Nat} {hi : Int} (h : tT f n s = 2) (h1 : ¬ tV f n s = a) (h2 : (tV f n s : Int) ≤ hi) : noS f n (0, s) a hi = (0, nx f n s, tV f n s) := by
  unfold noS
  rw [if_neg (fun q => h1 q.2.2)]
  exact nuS_y h (Nat.zero_le _) h2
theorem noS_1 {f : Nat → Int32} {n s a : Nat} {hi : Int} (h : ¬ tT f n s = 2) : noS f n (0, s) a hi = (1, s, 0) := by
  unfold noS
  rw [if_neg (fun q => h q.2.1)]
  exact nuS_1 h
theorem noS_2 {f : Nat → Int32} {n s a : Nat} {hi : Int} (h : tT f n s = 2) (h1 : ¬ (¬ tV f n s = a ∧ (tV f n s : Int) ≤ hi)) : noS f n (0, s) a hi = (2, s, 0) := by
  unfold noS
  by_cases e : tV f n s = a
  · rw [if_pos ⟨rfl, h, e⟩]
  · rw [if_neg (fun q => e q.2.2)]
    exact nuS_2 h (fun q => h1 ⟨e, q.2⟩)
/-- the numbers behind a kind, by their shape: fault, place, the numbers -/
abbrev S4 := Int32 × Nat × Nat × Nat × Nat × Nat
def shAN (f : Nat → Int32) (n s nc top : Nat) : S4 :=
  let a := nuS f n (0, s) 0 ((nc : Int) - 1)
  let b := nuS f n (a.1, a.2.1) 0 (top : Int)
  (b.1, b.2.1, a.2.2, b.2.2, 0, 0)
def shAP (f : Nat → Int32) (n s nc top : Nat) : S4 :=
  let a := nuS f n (0, s) 0 ((nc : Int) - 1)
  let b := nuS f n (a.1, a.2.1) 1 (top : Int)
  (b.1, b.2.1, a.2.2, b.2.2, 0, 0)
def shAB (f : Nat → Int32) (n s nc top : Nat) : S4 :=
  let a := nuS f n (0, s) 0 ((nc : Int) - 1)
  let b := noS f n (a.1, a.2.1) a.2.2 ((nc : Int) - 1)
  (b.1, b.2.1, a.2.2, b.2.2, 0, 0)
def shABS (f : Nat → Int32) (n s nc top : Nat) : S4 :=
  let a := nuS f n (0, s) 0 ((nc : Int) - 1)
  let b := noS f n (a.1, a.2.1) a.2.2 ((nc : Int) - 1)
  let c := nuS f n (b.1, b.2.1) 0 ((6 : Nat) : Int)
  (c.1, c.2.1, a.2.2, b.2.2, c.2.2, 0)
def shABP (f : Nat → Int32) (n s nc top : Nat) : S4 :=
  let a := nuS f n (0, s) 0 ((nc : Int) - 1)
  let b := noS f n (a.1, a.2.1) a.2.2 ((nc : Int) - 1)
  let c := nuS f n (b.1, b.2.1) 1 (top : Int)
  (c.1, c.2.1, a.2.2, b.2.2, c.2.2, 0)
def shANAN (f : Nat → Int32) (n s nc top : Nat) : S4 :=
  let a := nuS f n (0, s) 0 ((nc : Int) - 1)
  let b := nuS f n (a.1, a.2.1) 0 (top : Int)
  let c := nuS f n (b.1, b.2.1) 0 ((nc : Int) - 1)
  let d := nuS f n (c.1, c.2.1) 0 (top : Int)
  (d.1, d.2.1, a.2.2, b.2.2, c.2.2, d.2.2)
/-- a rule's row, an op's row put into the base's row at i -/
def ruS (f : Nat → Int32) (n s kd nc top : Nat) : S4 := if kd = 2 ∨ kd = 4 then shAB f n s nc top else if kd = 3 then shABS f n s nc top else if kd = 5 then shANAN f n s nc top else shAN f n s nc top
def opS (f : Nat → Int32) (n s kd nc top : Nat) : S4 := if kd = 3 then shABP f n s nc top else if kd = 2 then shAN f n s nc top else shAP f n s nc top
def ruM (kd : Nat) : Nat := if kd = 3 then 3 else if kd = 5 then 4 else 2
def opM (kd : Nat) : Nat := if kd = 3 then 3 else 2
def putS (w : Nat → Int32) (i kd m : Nat) (x : S4) : Nat → Int32 :=
  let w2 := upd (upd (upd w i (nI kd)) (i + 1) (nI x.2.2.1)) (i + 2) (nI x.2.2.2.1)
  if m = 2 then w2 else if m = 3 then upd w2 (i + 3) (nI x.2.2.2.2.1) else upd (upd w2 (i + 3) (nI x.2.2.2.2.1)) (i + 4) (nI x.2.2.2.2.2)
theorem upd_hit {f : Nat → Int32} {k j : Nat} {x : Int32} (h : j = k) : upd f k x j = x := by subst h; exact upd_at
/-- the class's test of a number that stands: x is the number cut at 1000, h its highest -/
theorem st_y {x h : Int32} {v : Nat} {H : Int} (hx : x = nI (min 1000 v)) (hH : h.toInt = H) (h1 : H < 1000) (c : ¬ x > h) : (v : Int) ≤ H ∧ x = nI v := by
  subst hx
  rw [gt_iff_lt, Int32.lt_iff_toInt_lt, nI_toInt (by omega)] at c
  refine ⟨by omega, ?_⟩
  rw [show min 1000 v = v by omega]
theorem st_n {x h : Int32} {v : Nat} {H : Int} (hx : x = nI (min 1000 v)) (hH : h.toInt = H) (h1 : H < 1000) (c : x > h) : ¬ (v : Int) ≤ H := fun q => by
  subst hx
  rw [gt_iff_lt, Int32.lt_iff_toInt_lt, nI_toInt (by omega)] at c
  omega
theorem st_0 {x : Int32} {v : Nat} (hx : x = nI (min 1000 v)) (c : ¬ x = 0) : 1 ≤ v := by
  rcases Nat.eq_zero_or_pos v with rfl | h
  · exact absurd (hx.trans (by decide)) c
  · exact h
theorem st_z {x : Int32} {v : Nat} (hx : x = nI (min 1000 v)) (c : x = 0) : v = 0 := by
  have e := (nI_eq (a := min 1000 v) (b := 0) (by omega) (by omega)).mp (hx.symm.trans c)
  omega
theorem st_o {x : Int32} {v a : Nat} (hx : x = nI (min 1000 v)) (ha : a ≤ 2) : x = nI a ↔ v = a := by
  subst hx
  rw [nI_eq (by omega) (by omega)]
  omega
