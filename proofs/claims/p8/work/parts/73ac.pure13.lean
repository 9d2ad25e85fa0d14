/-! own lemmas: lines and whole bases, told by the tape -/
noncomputable def kdS (f : Nat → Int32) (n s : Nat) : List Nat → Nat
  | [] => 0
  | w :: ws => @ite _ (WD f n s w) (Classical.propDecidable _) 0 (kdS f n s ws + 1)
theorem kd_0 {f : Nat → Int32} {n s w : Nat} {ws : List Nat} (h : WD f n s w) : kdS f n s (w :: ws) = 0 := if_pos h
theorem kd_s {f : Nat → Int32} {n s w : Nat} {ws : List Nat} (h : ¬ WD f n s w) : kdS f n s (w :: ws) = kdS f n s ws + 1 := if_neg h
theorem kd_e {f : Nat → Int32} {n s : Nat} : kdS f n s [] = 0 := rfl
/-- the lines of a base that stand behind their word at s -/
noncomputable def ceS (f : Nat → Int32) (n s : Nat) (w : Nat → Int32) : Int32 × Nat × (Nat → Int32) :=
  if wN w 3 = 3 then (3, s, w) else if kdS f n (nx f n s) [5, 6, 7, 8] = 4 then (1, nx f n s, w)
  else (0, nx f n (nx f n s), upd (upd w (8 + wN w 3) (nI (kdS f n (nx f n s) [5, 6, 7, 8]))) 3 (nI (wN w 3 + 1)))
noncomputable def ruL (f : Nat → Int32) (n s : Nat) (w : Nat → Int32) : Int32 × Nat × (Nat → Int32) :=
  if wN w 4 = 5 then (3, s, w) else if kdS f n (nx f n s) [10, 11, 12, 13, 14, 15] = 6 then (1, nx f n s, w)
  else ((ruS f n (nx f n (nx f n s)) (kdS f n (nx f n s) [10, 11, 12, 13, 14, 15]) (wN w 3) (wN w 0)).1, (ruS f n (nx f n (nx f n s)) (kdS f n (nx f n s) [10, 11, 12, 13, 14, 15]) (wN w 3) (wN w 0)).2.1,
    upd (putS w (11 + 5 * wN w 4) (kdS f n (nx f n s) [10, 11, 12, 13, 14, 15]) (ruM (kdS f n (nx f n s) [10, 11, 12, 13, 14, 15])) (ruS f n (nx f n (nx f n s)) (kdS f n (nx f n s) [10, 11, 12, 13, 14, 15]) (wN w 3) (wN w 0))) 4 (nI (wN w 4 + 1)))
noncomputable def opL (f : Nat → Int32) (n s : Nat) (w : Nat → Int32) : Int32 × Nat × (Nat → Int32) :=
  if wN w 5 = 5 then (3, s, w) else if kdS f n (nx f n s) [21, 22, 23, 24] = 4 then (1, nx f n s, w)
  else ((opS f n (nx f n (nx f n s)) (kdS f n (nx f n s) [21, 22, 23, 24]) (wN w 3) (wN w 0)).1, (opS f n (nx f n (nx f n s)) (kdS f n (nx f n s) [21, 22, 23, 24]) (wN w 3) (wN w 0)).2.1,
    upd (putS w (36 + 4 * wN w 5) (kdS f n (nx f n s) [21, 22, 23, 24]) (opM (kdS f n (nx f n s) [21, 22, 23, 24])) (opS f n (nx f n (nx f n s)) (kdS f n (nx f n s) [21, 22, 23, 24]) (wN w 3) (wN w 0))) 5 (nI (wN w 5 + 1)))
noncomputable def liS (f : Nat → Int32) (n s : Nat) (w : Nat → Int32) : Int32 × Nat × (Nat → Int32) :=
  if w 7 = 0 then hdS f n s w else @ite _ (WD f n s 4) (Classical.propDecidable _) (ceS f n s w) (@ite _ (WD f n s 9) (Classical.propDecidable _) (ruL f n s w) (@ite _ (WD f n s 20) (Classical.propDecidable _) (opL f n s w) (1, s, w)))
noncomputable def lnS (f : Nat → Int32) (n s : Nat) (w : Nat → Int32) : Int32 × Nat × (Nat → Int32) :=
  if (liS f n s w).1 = 0 then (if tT f n (liS f n s w).2.1 = 3 then (0, nx f n (liS f n s w).2.1, upd (liS f n s w).2.2 7 ((liS f n s w).2.2 7 + 1)) else (1, (liS f n s w).2.1, (liS f n s w).2.2)) else liS f n s w
/-- lines, as long as none is at fault and a token stands -/
noncomputable def rdS (f : Nat → Int32) (n : Nat) : Nat → Int32 × Nat × (Nat → Int32) → Int32 × Nat × (Nat → Int32)
  | 0, x => x
  | m + 1, x => if x.1 = 0 ∧ ¬ tT f n x.2.1 = 0 then rdS f n m (lnS f n x.2.1 x.2.2) else x
noncomputable def RD (f : Nat → Int32) (n : Nat) (x : Int32 × Nat × (Nat → Int32)) : Int32 × Nat × (Nat → Int32) := rdS f n (n + 1) x
theorem tT_lt {f : Nat → Int32} {n s : Nat} (h : ¬ tT f n s = 0) : s < n := by
  rcases Nat.lt_or_ge s n with q | q
  · exact q
  · exact absurd (ty_0 q).2 h
theorem rd_stop {f : Nat → Int32} {n m : Nat} {x : Int32 × Nat × (Nat → Int32)} (h : ¬ (x.1 = 0 ∧ ¬ tT f n x.2.1 = 0)) : rdS f n m x = x := by
  cases m with
  | zero => rfl
  | succ m => exact if_neg h
theorem tT3 {f : Nat → Int32} {n s : Nat} (h : tT f n s = 3) : s < n := tT_lt (by rw [h]; decide)
/-- a line is never before its place -/
theorem exW_b {f : Nat → Int32} {n w : Nat} {q : Int32 × Nat} (h : q.2 ≤ n) : q.2 ≤ (exW f n q w).2 ∧ (exW f n q w).2 ≤ n := by
  have hb := nx_b (f := f) h
  unfold exW
  split
  · by_cases e : WD f n q.2 w
    · rw [if_pos e]; exact hb
    · rw [if_neg e]; exact ⟨Nat.le_refl _, h⟩
  · exact ⟨Nat.le_refl _, h⟩
theorem nuS_b {f : Nat → Int32} {n lo : Nat} {hi : Int} {q : Int32 × Nat} (h : q.2 ≤ n) : q.2 ≤ (nuS f n q lo hi).2.1 ∧ (nuS f n q lo hi).2.1 ≤ n := by
  have hb := nx_b (f := f) h
  unfold nuS
  split
  · split
    · split
      · exact hb
      · exact ⟨Nat.le_refl _, h⟩
    · exact ⟨Nat.le_refl _, h⟩
  · exact ⟨Nat.le_refl _, h⟩
theorem noS_b {f : Nat → Int32} {n a : Nat} {hi : Int} {q : Int32 × Nat} (h : q.2 ≤ n) : q.2 ≤ (noS f n q a hi).2.1 ∧ (noS f n q a hi).2.1 ≤ n := by
  unfold noS
  split
  · exact ⟨Nat.le_refl _, h⟩
  · exact nuS_b h
theorem exW_c {f : Nat → Int32} {n s w : Nat} {q : Int32 × Nat} (h : s ≤ q.2 ∧ q.2 ≤ n) : s ≤ (exW f n q w).2 ∧ (exW f n q w).2 ≤ n := by
  have b := exW_b (f := f) (w := w) h.2
  exact ⟨Nat.le_trans h.1 b.1, b.2⟩
theorem nuS_c {f : Nat → Int32} {n s lo : Nat} {hi : Int} {q : Int32 × Nat} (h : s ≤ q.2 ∧ q.2 ≤ n) : s ≤ (nuS f n q lo hi).2.1 ∧ (nuS f n q lo hi).2.1 ≤ n := by
  have b := nuS_b (f := f) (lo := lo) (hi := hi) h.2
  exact ⟨Nat.le_trans h.1 b.1, b.2⟩
theorem hdS_b {f : Nat → Int32} {n s : Nat} {w : Nat → Int32} (h : s ≤ n) : s ≤ (hdS f n s w).2.1 ∧ (hdS f n s w).2.1 ≤ n := by
  have e : ∀ (q : Int32 × Nat), (s ≤ q.2 ∧ q.2 ≤ n) → ∀ (lo : Nat) (hi : Int) (w : Nat), s ≤ (exW f n ((nuS f n q lo hi).1, (nuS f n q lo hi).2.1) w).2 ∧ (exW f n ((nuS f n q lo hi).1, (nuS f n q lo hi).2.1) w).2 ≤ n := fun q hq lo hi w => exW_c (nuS_c hq)
  have a2 : s ≤ (exW f n (exW f n (0, s) 0) 1).2 ∧ (exW f n (exW f n (0, s) 0) 1).2 ≤ n := exW_c (exW_c (q := (0, s)) ⟨Nat.le_refl _, h⟩)
  unfold hdS
  generalize exW f n (exW f n (0, s) 0) 1 = q2 at a2 ⊢
  have a3 := e q2 a2 1 ((3 : Nat) : Int) 2
  have a4 := e _ a3 0 ((3 : Nat) : Int) 3
  exact nuS_c a4
theorem chain3 {f : Nat → Int32} {n s lo2 lo3 lo4 : Nat} {h1 h2 h3 h4 : Int} (h : s ≤ n) : (s ≤ (nuS f n (0, s) 0 h1).2.1 ∧ (nuS f n (0, s) 0 h1).2.1 ≤ n) := nuS_b (q := (0, s)) h
theorem sh_b2 {f : Nat → Int32} {n s lo : Nat} {h1 h2 : Int} (h : s ≤ n) : s ≤ (nuS f n ((nuS f n (0, s) 0 h1).1, (nuS f n (0, s) 0 h1).2.1) lo h2).2.1 ∧ (nuS f n ((nuS f n (0, s) 0 h1).1, (nuS f n (0, s) 0 h1).2.1) lo h2).2.1 ≤ n := by
  have a := nuS_b (f := f) (lo := 0) (hi := h1) (q := (0, s)) h
  have b := nuS_b (f := f) (lo := lo) (hi := h2) (q := ((nuS f n (0, s) 0 h1).1, (nuS f n (0, s) 0 h1).2.1)) a.2
  exact ⟨Nat.le_trans a.1 b.1, b.2⟩
theorem sh_o2 {f : Nat → Int32} {n s v : Nat} {h1 h2 : Int} (h : s ≤ n) : s ≤ (noS f n ((nuS f n (0, s) 0 h1).1, (nuS f n (0, s) 0 h1).2.1) v h2).2.1 ∧ (noS f n ((nuS f n (0, s) 0 h1).1, (nuS f n (0, s) 0 h1).2.1) v h2).2.1 ≤ n := by
  have a := nuS_b (f := f) (lo := 0) (hi := h1) (q := (0, s)) h
  have b := noS_b (f := f) (a := v) (hi := h2) (q := ((nuS f n (0, s) 0 h1).1, (nuS f n (0, s) 0 h1).2.1)) a.2
  exact ⟨Nat.le_trans a.1 b.1, b.2⟩
theorem sh_t {f : Nat → Int32} {n s lo : Nat} {hi : Int} {x : Int32 × Nat × Nat} (h : s ≤ x.2.1 ∧ x.2.1 ≤ n) : s ≤ (nuS f n (x.1, x.2.1) lo hi).2.1 ∧ (nuS f n (x.1, x.2.1) lo hi).2.1 ≤ n := by
  have b := nuS_b (f := f) (lo := lo) (hi := hi) (q := (x.1, x.2.1)) h.2
  exact ⟨Nat.le_trans h.1 b.1, b.2⟩
theorem ruS_b {f : Nat → Int32} {n s kd nc top : Nat} (h : s ≤ n) : s ≤ (ruS f n s kd nc top).2.1 ∧ (ruS f n s kd nc top).2.1 ≤ n := by
  unfold ruS
  split
  · exact sh_o2 h
  · split
    · exact sh_t (sh_o2 h)
    · split
      · exact sh_t (sh_t (sh_b2 h))
      · exact sh_b2 h
theorem opS_b {f : Nat → Int32} {n s kd nc top : Nat} (h : s ≤ n) : s ≤ (opS f n s kd nc top).2.1 ∧ (opS f n s kd nc top).2.1 ≤ n := by
  unfold opS
  split
  · exact sh_t (sh_o2 h)
  · split
    · exact sh_b2 h
    · exact sh_b2 h
theorem liS_b {f : Nat → Int32} {n s : Nat} {w : Nat → Int32} (h : s ≤ n) : s ≤ (liS f n s w).2.1 ∧ (liS f n s w).2.1 ≤ n := by
  have h1 := nx_b (f := f) h
  have h2 := nx_b (f := f) h1.2
  have id9 : s ≤ s ∧ s ≤ n := ⟨Nat.le_refl _, h⟩
  unfold liS
  split
  · exact hdS_b h
  · split
    · unfold ceS
      split
      · exact id9
      · split
        · exact h1
        · exact ⟨Nat.le_trans h1.1 h2.1, h2.2⟩
    · split
      · unfold ruL
        split
        · exact id9
        · split
          · exact h1
          · have b := ruS_b (f := f) (kd := kdS f n (nx f n s) [10, 11, 12, 13, 14, 15]) (nc := wN w 3) (top := wN w 0) h2.2
            exact ⟨Nat.le_trans h1.1 (Nat.le_trans h2.1 b.1), b.2⟩
      · split
        · unfold opL
          split
          · exact id9
          · split
            · exact h1
            · have b := opS_b (f := f) (kd := kdS f n (nx f n s) [21, 22, 23, 24]) (nc := wN w 3) (top := wN w 0) h2.2
              exact ⟨Nat.le_trans h1.1 (Nat.le_trans h2.1 b.1), b.2⟩
        · exact id9
theorem lnS_b {f : Nat → Int32} {n s : Nat} {w : Nat → Int32} (h : s ≤ n) : s ≤ (lnS f n s w).2.1 ∧ (lnS f n s w).2.1 ≤ n ∧ ((lnS f n s w).1 = 0 → s < (lnS f n s w).2.1) := by
  have a := liS_b (f := f) (w := w) h
  unfold lnS
  split
  · split
    · have q := tT3 (by assumption)
      have b := nx_lt (f := f) q
      have b2 := nx_b (f := f) a.2
      exact ⟨Nat.le_trans a.1 b2.1, b2.2, fun _ => Nat.lt_of_le_of_lt a.1 b⟩
    · exact ⟨a.1, a.2, fun e => absurd (show (1 : Int32) = 0 from e) (by decide)⟩
  · exact ⟨a.1, a.2, fun e => absurd e (by assumption)⟩
theorem rd_same {f : Nat → Int32} {n : Nat} : ∀ m m' (x : Int32 × Nat × (Nat → Int32)), x.2.1 ≤ n → n - x.2.1 < m → n - x.2.1 < m' → rdS f n m x = rdS f n m' x := by
  intro m
  induction m with
  | zero => intro m' x _ h; exact absurd h (Nat.not_lt_zero _)
  | succ m ih =>
    intro m' x hx h h'
    cases m' with
    | zero => exact absurd h' (Nat.not_lt_zero _)
    | succ m' =>
      by_cases c : x.1 = 0 ∧ ¬ tT f n x.2.1 = 0
      · show (if x.1 = 0 ∧ ¬ tT f n x.2.1 = 0 then rdS f n m (lnS f n x.2.1 x.2.2) else x) = (if x.1 = 0 ∧ ¬ tT f n x.2.1 = 0 then rdS f n m' (lnS f n x.2.1 x.2.2) else x)
        rw [if_pos c, if_pos c]
        have hb := lnS_b (f := f) (w := x.2.2) hx
        by_cases k0 : (lnS f n x.2.1 x.2.2).1 = 0
        · have hl := hb.2.2 k0
          exact ih m' _ hb.2.1 (by omega) (by omega)
        · rw [rd_stop (fun q => k0 q.1), rd_stop (fun q => k0 q.1)]
      · rw [rd_stop c, rd_stop c]
theorem RD_s {f : Nat → Int32} {n : Nat} {x : Int32 × Nat × (Nat → Int32)} (hx : x.2.1 ≤ n) (h : x.1 = 0) (h1 : ¬ tT f n x.2.1 = 0) : RD f n x = RD f n (lnS f n x.2.1 x.2.2) := by
  have hb := lnS_b (f := f) (w := x.2.2) hx
  unfold RD
  show (if x.1 = 0 ∧ ¬ tT f n x.2.1 = 0 then rdS f n n (lnS f n x.2.1 x.2.2) else x) = _
  rw [if_pos ⟨h, h1⟩]
  by_cases k0 : (lnS f n x.2.1 x.2.2).1 = 0
  · have hl := hb.2.2 k0
    exact rd_same n (n + 1) _ hb.2.1 (by omega) (by omega)
  · rw [rd_stop (fun q => k0 q.1), rd_stop (fun q => k0 q.1)]
theorem RD_e {f : Nat → Int32} {n : Nat} {x : Int32 × Nat × (Nat → Int32)} (h : ¬ x.1 = 0 ∨ tT f n x.2.1 = 0) : RD f n x = x := rd_stop (fun q => h.elim (fun e => e q.1) (fun e => q.2 e))
