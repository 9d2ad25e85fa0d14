/-! own lemmas: what a tape says, told once for both readers -/
def bL (x : Int32) : Bool := decide (97 ≤ x.toInt ∧ x.toInt ≤ 122)
def bD (x : Int32) : Bool := decide (48 ≤ x.toInt ∧ x.toInt ≤ 57)
def bS (x : Int32) : Bool := decide (x = 32 ∨ x = 10)
/-- from a place on, while the bytes are of a sort: where that ends -/
def rnF (p : Int32 → Bool) (f : Nat → Int32) : Nat → Nat → Nat
  | 0, a => a
  | m + 1, a => if p (f a) = true then rnF p f m (a + 1) else a
def rnT (p : Int32 → Bool) (f : Nat → Int32) (n a : Nat) : Nat := rnF p f (n - a) a
theorem rn_y {p : Int32 → Bool} {f : Nat → Int32} {n a : Nat} (h : a < n) (hp : p (f a) = true) : rnT p f n a = rnT p f n (a + 1) := by
  unfold rnT
  rw [show n - a = (n - (a + 1)) + 1 by omega]
  show (if p (f a) = true then rnF p f (n - (a + 1)) (a + 1) else a) = _
  rw [if_pos hp]
theorem rn_n {p : Int32 → Bool} {f : Nat → Int32} {n a : Nat} (hp : p (f a) = false) : rnT p f n a = a := by
  unfold rnT
  cases n - a with
  | zero => rfl
  | succ m =>
    show (if p (f a) = true then rnF p f m (a + 1) else a) = a
    rw [if_neg (by rw [hp]; decide)]
theorem rn_e {p : Int32 → Bool} {f : Nat → Int32} {n a : Nat} (h : n ≤ a) : rnT p f n a = a := by
  unfold rnT
  rw [show n - a = 0 by omega]
  rfl
theorem rnF_le {p : Int32 → Bool} {f : Nat → Int32} : ∀ m a, a ≤ rnF p f m a ∧ rnF p f m a ≤ a + m := by
  intro m
  induction m with
  | zero => intro a; exact ⟨Nat.le_refl _, Nat.le_refl _⟩
  | succ m ih =>
    intro a
    show a ≤ (if p (f a) = true then rnF p f m (a + 1) else a) ∧ (if p (f a) = true then rnF p f m (a + 1) else a) ≤ a + (m + 1)
    by_cases h : p (f a) = true
    · rw [if_pos h]
      have := ih (a + 1)
      omega
    · rw [if_neg h]; omega
theorem rn_le {p : Int32 → Bool} {f : Nat → Int32} {n a : Nat} : a ≤ rnT p f n a := (rnF_le _ _).1
theorem rn_ub {p : Int32 → Bool} {f : Nat → Int32} {n a : Nat} (h : a ≤ n) : rnT p f n a ≤ n := by
  have := (rnF_le (p := p) (f := f) (n - a) a).2
  unfold rnT
  omega
theorem rn_lt {p : Int32 → Bool} {f : Nat → Int32} {n a : Nat} (h : a < n) (hp : p (f a) = true) : a < rnT p f n a := by
  rw [rn_y h hp]
  exact rn_le
/-- the token at a place: its start behind the blanks, its end, its kind, its number -/
def tS (f : Nat → Int32) (n a : Nat) : Nat := rnT bS f n a
def tE (f : Nat → Int32) (n s : Nat) : Nat := if s < n then (if bL (f s) = true then rnT bL f n s else if bD (f s) = true then rnT bD f n s else s + 1) else s
def tT (f : Nat → Int32) (n s : Nat) : Int32 := if s < n then (if bL (f s) = true then 1 else if bD (f s) = true then 2 else if f s = 59 then 3 else 4) else 0
def dv (f : Nat → Int32) (s : Nat) : Nat → Nat
  | 0 => 0
  | k + 1 => dv f s k * 10 + ((f (s + k)).toInt.toNat - 48)
def tV (f : Nat → Int32) (n s : Nat) : Nat := dv f s (rnT bD f n s - s)
def nx (f : Nat → Int32) (n s : Nat) : Nat := tS f n (tE f n s)
/-- the two readers stand at the token that starts at s -/
def TKc (f : Nat → Int32) (n s a : Nat) (t v : Int32) : Prop := a = tE f n s ∧ t = tT f n s ∧ (t = 2 → v = nI (min 1000 (tV f n s)))
def TKr (f : Nat → Int32) (n s a : Nat) (t v : Int32) : Prop := a = tE f n s ∧ t = tT f n s ∧ (t = 2 → v = nI (min 99999 (tV f n s)))
/-- every cell of the tape is a byte -/
def BY (f : Nat → Int32) : Prop := ∀ k, -128 ≤ (f k).toInt ∧ (f k).toInt < 128
theorem ty_0 {f : Nat → Int32} {n s : Nat} (h : n ≤ s) : tE f n s = s ∧ tT f n s = 0 := by
  unfold tE tT
  rw [if_neg (by omega), if_neg (by omega)]
  exact ⟨rfl, rfl⟩
theorem ty_1 {f : Nat → Int32} {n s : Nat} (h : s < n) (hl : bL (f s) = true) : tE f n s = rnT bL f n s ∧ tT f n s = 1 := by
  unfold tE tT
  rw [if_pos h, if_pos h, if_pos hl, if_pos hl]
  exact ⟨rfl, rfl⟩
theorem ty_2 {f : Nat → Int32} {n s : Nat} (h : s < n) (hl : bL (f s) = false) (hd : bD (f s) = true) : tE f n s = rnT bD f n s ∧ tT f n s = 2 := by
  have hl1 : ¬ bL (f s) = true := by rw [hl]; decide
  unfold tE tT
  rw [if_pos h, if_pos h, if_neg hl1, if_neg hl1, if_pos hd, if_pos hd]
  exact ⟨rfl, rfl⟩
theorem ty_3 {f : Nat → Int32} {n s : Nat} (h : s < n) (hl : bL (f s) = false) (hd : bD (f s) = false) (e : f s = 59) : tE f n s = s + 1 ∧ tT f n s = 3 := by
  have hl1 : ¬ bL (f s) = true := by rw [hl]; decide
  have hd1 : ¬ bD (f s) = true := by rw [hd]; decide
  unfold tE tT
  rw [if_pos h, if_pos h, if_neg hl1, if_neg hl1, if_neg hd1, if_neg hd1, if_pos e]
  exact ⟨rfl, rfl⟩
theorem ty_4 {f : Nat → Int32} {n s : Nat} (h : s < n) (hl : bL (f s) = false) (hd : bD (f s) = false) (e : ¬ f s = 59) : tE f n s = s + 1 ∧ tT f n s = 4 := by
  have hl1 : ¬ bL (f s) = true := by rw [hl]; decide
  have hd1 : ¬ bD (f s) = true := by rw [hd]; decide
  unfold tE tT
  rw [if_pos h, if_pos h, if_neg hl1, if_neg hl1, if_neg hd1, if_neg hd1, if_neg e]
  exact ⟨rfl, rfl⟩
theorem tE_b {f : Nat → Int32} {n s : Nat} (h : s ≤ n) : s ≤ tE f n s ∧ tE f n s ≤ n := by
  unfold tE
  split
  · split
    · exact ⟨rn_le, rn_ub h⟩
    · split
      · exact ⟨rn_le, rn_ub h⟩
      · omega
  · omega
theorem tE_lt {f : Nat → Int32} {n s : Nat} (h : s < n) : s < tE f n s := by
  unfold tE
  rw [if_pos h]
  split
  · exact rn_lt h (by assumption)
  · split
    · exact rn_lt h (by assumption)
    · omega
theorem nx_b {f : Nat → Int32} {n s : Nat} (h : s ≤ n) : s ≤ nx f n s ∧ nx f n s ≤ n := by
  have h1 := tE_b (f := f) h
  have h2 : tE f n s ≤ tS f n (tE f n s) := rn_le
  have h3 : tS f n (tE f n s) ≤ n := rn_ub h1.2
  unfold nx
  omega
theorem nx_lt {f : Nat → Int32} {n s : Nat} (h : s < n) : s < nx f n s := by
  have h1 := tE_lt (f := f) h
  have h2 : tE f n s ≤ tS f n (tE f n s) := rn_le
  unfold nx
  omega
theorem bS_y {x : Int32} (h : x = 32 ∨ x = 10) : bS x = true := decide_eq_true h
theorem bS_n {x : Int32} (h1 : ¬ x = 32) (h2 : ¬ x = 10) : bS x = false := decide_eq_false (fun h => h.elim h1 h2)
theorem bL_y {x : Int32} (h : 97 ≤ x.toInt ∧ x.toInt ≤ 122) : bL x = true := decide_eq_true h
theorem bL_n {x : Int32} (h : ¬ (97 ≤ x.toInt ∧ x.toInt ≤ 122)) : bL x = false := decide_eq_false h
theorem bD_y {x : Int32} (h : 48 ≤ x.toInt ∧ x.toInt ≤ 57) : bD x = true := decide_eq_true h
theorem bD_n {x : Int32} (h : ¬ (48 ≤ x.toInt ∧ x.toInt ≤ 57)) : bD x = false := decide_eq_false h
theorem bD_i {x : Int32} (h : bD x = true) : 48 ≤ x.toInt ∧ x.toInt ≤ 57 := of_decide_eq_true h
theorem dvs_s {f : Nat → Int32} {s a : Nat} (h : s ≤ a) : dv f s (a + 1 - s) = dv f s (a - s) * 10 + ((f a).toInt.toNat - 48) := by
  rw [show a + 1 - s = (a - s) + 1 by omega]
  show dv f s (a - s) * 10 + ((f (s + (a - s))).toInt.toNat - 48) = _
  rw [show s + (a - s) = a by omega]
theorem cap_c {c v : Nat} {x y : Int32} (hc : c ≤ 99999) (hx : x = nI (min c v)) (hd : bD y = true) : (if x * 10 + y - (48 : Int32) < nI c then x * 10 + y - (48 : Int32) else nI c) = nI (min c (v * 10 + (y.toInt.toNat - 48))) := by
  obtain ⟨h1, h2⟩ := bD_i hd
  obtain ⟨d, hd9, e⟩ := ex_i (k := y) (n := 58) ⟨by omega, by omega⟩ (by omega)
  subst e
  rw [nI_toInt (by omega)] at h1 h2
  have e1 : x * 10 + nI d - (48 : Int32) = nI (min c v * 10 + d - 48) := by
    rw [hx, show (10 : Int32) = nI 10 from rfl, pk_mul, nI_add, show (48 : Int32) = nI 48 from rfl, pk_sub (by omega)]
  have e3 : (nI d).toInt.toNat = d := by rw [nI_toInt (by omega)]; exact Int.toNat_natCast d
  rw [e1, e3]
  have hm : min c v ≤ c := Nat.min_le_left _ _
  by_cases hlt : nI (min c v * 10 + d - 48) < nI c
  · rw [if_pos hlt]
    have := blt_t hlt (by omega) (by omega)
    congr 1
    omega
  · rw [if_neg hlt]
    have := blt_f hlt (by omega) (by omega)
    congr 1
    omega
theorem cap_c1 {v : Nat} {x y : Int32} (hx : x = nI (min 1000 v)) (hd : bD y = true) : (if x * (10 : Int32) + y - (48 : Int32) < 1000 then x * (10 : Int32) + y - (48 : Int32) else 1000) = nI (min 1000 (v * 10 + (y.toInt.toNat - 48))) := cap_c (c := 1000) (by omega) hx hd
theorem seeN_eq {f : Nat → Int32} (h : BY f) (k : Nat) : (seeN f k : Int) = if 0 ≤ (f k).toInt then (f k).toInt else (f k).toInt + 256 := by
  obtain ⟨h1, h2⟩ := h k
  by_cases h0 : 0 ≤ (f k).toInt
  · rw [if_pos h0]
    obtain ⟨j, hj, e⟩ := ex_i (k := f k) (n := 128) ⟨h0, by omega⟩ (by omega)
    unfold seeN
    rw [e, and255 j hj, nI_clamp (by omega), nI_toInt (by omega)]
  · rw [if_neg h0]
    obtain ⟨j, hj, e⟩ := ex_i (k := -(f k)) (n := 129) (by rw [Int32.toInt_neg, Int.bmod_eq_of_le (by omega) (by omega)]; omega) (by omega)
    have e2 : f k = -(nI j) := by rw [← e, Int32.neg_neg]
    have hj0 : 1 ≤ j := by
      rcases Nat.eq_zero_or_pos j with rfl | q
      · exfalso; rw [e2] at h0; exact h0 (by decide)
      · exact q
    have q : ∀ j, j < 129 → 1 ≤ j → (-(nI j)) &&& 255 = nI (256 - j) ∧ (-(nI j)).toInt = -(j : Int) := by decide +kernel
    unfold seeN
    rw [e2, (q j hj hj0).1, (q j hj hj0).2, nI_clamp (by omega)]
    omega
theorem see_i {f : Nat → Int32} {k j : Nat} (h : BY f) (e : j = seeN f k) : (j : Int) = if 0 ≤ (f k).toInt then (f k).toInt else (f k).toInt + 256 := by rw [e]; exact seeN_eq h k
theorem see_c {f : Nat → Int32} {k j c : Nat} (h : BY f) (e : j = seeN f k) (hj : j < 256) (hc : c < 128) : nI j = nI c ↔ f k = nI c := by
  have e1 := see_i h e
  have hb := h k
  constructor
  · intro q
    have q2 := (nI_eq (by omega) (by omega)).mp q
    apply Int32.toInt_inj.mp
    rw [nI_toInt (by omega)]
    split at e1 <;> omega
  · intro q
    rw [q, nI_toInt (by omega), if_pos (by omega)] at e1
    rw [show j = c by omega]
theorem see_r {f : Nat → Int32} {k j : Nat} {lo hi : Int64} (h : BY f) (e : j = seeN f k) (hj : j < 256) (a b : Int) (ha : lo.toInt = a) (hb : hi.toInt = b) (h0 : 0 ≤ a) (h1 : b < 128) : (lo ≤ (nI j).toInt64 ∧ (nI j).toInt64 ≤ hi) ↔ (a ≤ (f k).toInt ∧ (f k).toInt ≤ b) := by
  have e1 := see_i h e
  have hbb := h k
  rw [in_32 a b ha hb, nI_toInt (by omega)]
  split at e1 <;> omega
theorem see_L {f : Nat → Int32} {k j : Nat} (h : BY f) (e : j = seeN f k ∧ j < 256) : ((97 : Int64) ≤ (nI j).toInt64 ∧ (nI j).toInt64 ≤ 122) ↔ bL (f k) = true := by
  rw [see_r h e.1 e.2 97 122 (by decide) (by decide) (by decide) (by decide)]
  exact ⟨bL_y, of_decide_eq_true⟩
theorem see_D {f : Nat → Int32} {k j : Nat} (h : BY f) (e : j = seeN f k ∧ j < 256) : ((48 : Int64) ≤ (nI j).toInt64 ∧ (nI j).toInt64 ≤ 57) ↔ bD (f k) = true := by
  rw [see_r h e.1 e.2 48 57 (by decide) (by decide) (by decide) (by decide)]
  exact ⟨bD_y, of_decide_eq_true⟩
theorem bf {b : Bool} {p : Prop} (h : p ↔ b = true) (q : ¬ p) : b = false := by
  cases b
  · rfl
  · exact absurd (h.mpr rfl) q
theorem cap_r1 {f : Nat → Int32} {v k j : Nat} {x : Int32} (h : BY f) (e : j = seeN f k ∧ j < 256) (hx : x = nI (min 99999 v)) (hd : bD (f k) = true) : (if (10 : Int32) * x + nI j - (48 : Int32) < 99999 then (10 : Int32) * x + nI j - (48 : Int32) else 99999) = nI (min 99999 (v * 10 + ((f k).toInt.toNat - 48))) := by
  have hi := bD_i hd
  have e1 := see_i h e.1
  rw [if_pos (by omega)] at e1
  have e2 : f k = nI j := Int32.toInt_inj.mp (by rw [nI_toInt (by omega)]; omega)
  have q := cap_c (c := 99999) (by omega) hx hd
  rw [e2, Int32.mul_comm x (10 : Int32)] at q
  rw [e2]
  exact q
theorem tk_0 {f : Nat → Int32} {n s : Nat} {v : Int32} (h : n ≤ s) : TKc f n s s 0 v ∧ TKr f n s s 0 v := ⟨⟨(ty_0 h).1.symm, (ty_0 h).2.symm, fun e => absurd e (by decide)⟩, ⟨(ty_0 h).1.symm, (ty_0 h).2.symm, fun e => absurd e (by decide)⟩⟩
theorem tk_1 {f : Nat → Int32} {n s a : Nat} {v : Int32} (h : s < n) (hl : bL (f s) = true) (e : a = rnT bL f n s) : TKc f n s a 1 v ∧ TKr f n s a 1 v := ⟨⟨e.trans (ty_1 h hl).1.symm, (ty_1 h hl).2.symm, fun e => absurd e (by decide)⟩, ⟨e.trans (ty_1 h hl).1.symm, (ty_1 h hl).2.symm, fun e => absurd e (by decide)⟩⟩
theorem tk_2c {f : Nat → Int32} {n s a : Nat} {v : Int32} (h : s < n) (hl : bL (f s) = false) (hd : bD (f s) = true) (e : a = rnT bD f n s) (hv : v = nI (min 1000 (dv f s (a - s)))) : TKc f n s a 2 v := ⟨e.trans (ty_2 h hl hd).1.symm, (ty_2 h hl hd).2.symm, fun _ => by rw [hv, e]; rfl⟩
theorem tk_2r {f : Nat → Int32} {n s a : Nat} {v : Int32} (h : s < n) (hl : bL (f s) = false) (hd : bD (f s) = true) (e : a = rnT bD f n s) (hv : v = nI (min 99999 (dv f s (a - s)))) : TKr f n s a 2 v := ⟨e.trans (ty_2 h hl hd).1.symm, (ty_2 h hl hd).2.symm, fun _ => by rw [hv, e]; rfl⟩
theorem tk_3 {f : Nat → Int32} {n s : Nat} {v : Int32} (h : s < n) (hl : bL (f s) = false) (hd : bD (f s) = false) (e : f s = 59) : TKc f n s (s + 1) 3 v ∧ TKr f n s (s + 1) 3 v := ⟨⟨(ty_3 h hl hd e).1.symm, (ty_3 h hl hd e).2.symm, fun e => absurd e (by decide)⟩, ⟨(ty_3 h hl hd e).1.symm, (ty_3 h hl hd e).2.symm, fun e => absurd e (by decide)⟩⟩
theorem tk_4 {f : Nat → Int32} {n s : Nat} {v : Int32} (h : s < n) (hl : bL (f s) = false) (hd : bD (f s) = false) (e : ¬ f s = 59) : TKc f n s (s + 1) 4 v ∧ TKr f n s (s + 1) 4 v := ⟨⟨(ty_4 h hl hd e).1.symm, (ty_4 h hl hd e).2.symm, fun e => absurd e (by decide)⟩, ⟨(ty_4 h hl hd e).1.symm, (ty_4 h hl hd e).2.symm, fun e => absurd e (by decide)⟩⟩
theorem q48 : (48 : Int32).toInt = 48 := by decide
theorem q57 : (57 : Int32).toInt = 57 := by decide
theorem q97 : (97 : Int32).toInt = 97 := by decide
theorem q122 : (122 : Int32).toInt = 122 := by decide
