/-! own lemmas: the class's draft against the reference's row -/
def RRow (g w : Nat → Int32) (r : Nat) : Prop := ∃ kd : Nat, kd < 6 ∧ g (5 * r) = nI kd ∧ w (11 + 5 * r) = nI kd ∧ (∀ j, 1 ≤ j → j ≤ ruM kd → g (5 * r + j) = w (11 + 5 * r + j)) ∧ (∀ j, ruM kd < j → j < 5 → g (5 * r + j) = -1)
def ORow (g w : Nat → Int32) (o : Nat) : Prop := ∃ kd : Nat, kd < 4 ∧ g (4 * o) = nI kd ∧ w (36 + 4 * o) = nI kd ∧ (∀ j, 1 ≤ j → j ≤ opM kd → g (4 * o + j) = w (36 + 4 * o + j)) ∧ (∀ j, opM kd < j → j < 4 → g (4 * o + j) = -1)
def DR (li : Int32) (tp : Nat) (lw od : Int32) (nc nr no : Nat) (f0 f1 f2 w : Nat → Int32) : Prop := (w 7 = li ∧ w 0 = nI tp ∧ w 1 = lw ∧ w 2 = od ∧ w 3 = nI nc ∧ w 4 = nI nr ∧ w 5 = nI no) ∧ (∀ k, k < nc → f0 k = w (8 + k)) ∧ (∀ r, r < nr → RRow f1 w r) ∧ (∀ o, o < no → ORow f2 w o)
theorem ruM_b (kd : Nat) : 2 ≤ ruM kd ∧ ruM kd ≤ 4 := by unfold ruM; split <;> (try split) <;> omega
theorem opM_b (kd : Nat) : 2 ≤ opM kd ∧ opM kd ≤ 3 := by unfold opM; split <;> omega
theorem rrow_c {g g' w w' : Nat → Int32} {r : Nat} (h : RRow g w r) (hg : ∀ j, j < 5 → g' (5 * r + j) = g (5 * r + j)) (hw : ∀ j, j < 5 → w' (11 + 5 * r + j) = w (11 + 5 * r + j)) : RRow g' w' r := by
  obtain ⟨kd, h1, h2, h3, h4, h5⟩ := h
  have hm := ruM_b kd
  refine ⟨kd, h1, (hg 0 (by omega)).trans h2, (hw 0 (by omega)).trans h3, fun j a b => ?_, fun j a b => ?_⟩
  · rw [hg j (by omega), hw j (by omega)]; exact h4 j a b
  · rw [hg j b]; exact h5 j a b
theorem orow_c {g g' w w' : Nat → Int32} {o : Nat} (h : ORow g w o) (hg : ∀ j, j < 4 → g' (4 * o + j) = g (4 * o + j)) (hw : ∀ j, j < 4 → w' (36 + 4 * o + j) = w (36 + 4 * o + j)) : ORow g' w' o := by
  obtain ⟨kd, h1, h2, h3, h4, h5⟩ := h
  have hm := opM_b kd
  refine ⟨kd, h1, (hg 0 (by omega)).trans h2, (hw 0 (by omega)).trans h3, fun j a b => ?_, fun j a b => ?_⟩
  · rw [hg j (by omega), hw j (by omega)]; exact h4 j a b
  · rw [hg j b]; exact h5 j a b
def vS (x : S4) (j : Nat) : Nat := if j = 1 then x.2.2.1 else if j = 2 then x.2.2.2.1 else if j = 3 then x.2.2.2.2.1 else x.2.2.2.2.2
theorem putS_0 {w : Nat → Int32} {i kd m : Nat} {x : S4} : putS w i kd m x i = nI kd := by
  unfold putS
  (try dsimp only)
  split
  · rw [upd_ne (by omega), upd_ne (by omega), upd_at]
  · split
    · rw [upd_ne (by omega), upd_ne (by omega), upd_ne (by omega), upd_at]
    · rw [upd_ne (by omega), upd_ne (by omega), upd_ne (by omega), upd_ne (by omega), upd_at]
theorem putS_v {w : Nat → Int32} {i kd m j : Nat} {x : S4} (hm : 2 ≤ m ∧ m ≤ 4) (h1 : 1 ≤ j) (h2 : j ≤ m) : putS w i kd m x (i + j) = nI (vS x j) := by
  unfold putS
  (try dsimp only)
  rcases (show j = 1 ∨ j = 2 ∨ j = 3 ∨ j = 4 by omega) with rfl | rfl | rfl | rfl
  · rw [show vS x 1 = x.2.2.1 from rfl]
    split
    · rw [upd_ne (by omega), upd_at]
    · split
      · rw [upd_ne (by omega), upd_ne (by omega), upd_at]
      · rw [upd_ne (by omega), upd_ne (by omega), upd_ne (by omega), upd_at]
  · rw [show vS x 2 = x.2.2.2.1 from rfl]
    split
    · rw [upd_at]
    · split
      · rw [upd_ne (by omega), upd_at]
      · rw [upd_ne (by omega), upd_ne (by omega), upd_at]
  · rw [show vS x 3 = x.2.2.2.2.1 from rfl, if_neg (by omega)]
    split
    · rw [upd_at]
    · rw [upd_ne (by omega), upd_at]
  · rw [show vS x 4 = x.2.2.2.2.2 from rfl, if_neg (by omega), if_neg (by omega), upd_at]
theorem putS_o {w : Nat → Int32} {i kd m j : Nat} {x : S4} (hm : 2 ≤ m ∧ m ≤ 4) (h : j < i ∨ i + m < j) : putS w i kd m x j = w j := by
  unfold putS
  (try dsimp only)
  split
  · rw [upd_ne (by omega), upd_ne (by omega), upd_ne (by omega)]
  · split
    · rw [upd_ne (by omega), upd_ne (by omega), upd_ne (by omega), upd_ne (by omega)]
    · rw [upd_ne (by omega), upd_ne (by omega), upd_ne (by omega), upd_ne (by omega), upd_ne (by omega)]
theorem dr_n {li lw od : Int32} {tp nc nr no : Nat} {f0 f1 f2 w : Nat → Int32} (h : DR li tp lw od nc nr no f0 f1 f2 w) (h3 : tp ≤ 3) (h4 : nc ≤ 3) (h5 : nr ≤ 5) (h6 : no ≤ 5) : wN w 0 = tp ∧ wN w 3 = nc ∧ wN w 4 = nr ∧ wN w 5 = no :=
  ⟨wN_of h.1.2.1 (by omega), wN_of h.1.2.2.2.2.1 (by omega), wN_of h.1.2.2.2.2.2.1 (by omega), wN_of h.1.2.2.2.2.2.2 (by omega)⟩
theorem dr_head {li lw od lw' od' : Int32} {tp tp' nc nr no : Nat} {f0 f1 f2 w : Nat → Int32} (h : DR li tp lw od nc nr no f0 f1 f2 w) : DR li tp' lw' od' nc nr no f0 f1 f2 (upd (upd (upd w 0 (nI tp')) 1 lw') 2 od') := by
  obtain ⟨⟨a7, a0, a1, a2, a3, a4, a5⟩, b, c, d⟩ := h
  have o : ∀ j, 3 ≤ j → (upd (upd (upd w 0 (nI tp')) 1 lw') 2 od') j = w j := fun j hj => by rw [upd_ne (by omega), upd_ne (by omega), upd_ne (by omega)]
  refine ⟨⟨?_, ?_, ?_, ?_, ?_, ?_, ?_⟩, fun k hk => ?_, fun r hr => ?_, fun q hq => ?_⟩
  · rw [o 7 (by omega)]; exact a7
  · rw [upd_ne (by omega), upd_ne (by omega), upd_at]
  · rw [upd_ne (by omega), upd_at]
  · rw [upd_at]
  · rw [o 3 (by omega)]; exact a3
  · rw [o 4 (by omega)]; exact a4
  · rw [o 5 (by omega)]; exact a5
  · rw [o (8 + k) (by omega)]; exact b k hk
  · exact rrow_c (c r hr) (fun j _ => rfl) (fun j _ => o _ (by omega))
  · exact orow_c (d q hq) (fun j _ => rfl) (fun j _ => o _ (by omega))
theorem dr_line {li lw od : Int32} {tp nc nr no : Nat} {f0 f1 f2 w : Nat → Int32} (h : DR li tp lw od nc nr no f0 f1 f2 w) : DR (li + 1) tp lw od nc nr no f0 f1 f2 (upd w 7 (w 7 + 1)) := by
  obtain ⟨⟨a7, a0, a1, a2, a3, a4, a5⟩, b, c, d⟩ := h
  have o : ∀ j, j ≠ 7 → (upd w 7 (w 7 + 1)) j = w j := fun j hj => upd_ne hj
  refine ⟨⟨?_, ?_, ?_, ?_, ?_, ?_, ?_⟩, fun k hk => ?_, fun r hr => ?_, fun q hq => ?_⟩
  · rw [upd_at, a7]
  · rw [o 0 (by omega)]; exact a0
  · rw [o 1 (by omega)]; exact a1
  · rw [o 2 (by omega)]; exact a2
  · rw [o 3 (by omega)]; exact a3
  · rw [o 4 (by omega)]; exact a4
  · rw [o 5 (by omega)]; exact a5
  · rw [o (8 + k) (by omega)]; exact b k hk
  · exact rrow_c (c r hr) (fun j _ => rfl) (fun j _ => o _ (by omega))
  · exact orow_c (d q hq) (fun j _ => rfl) (fun j _ => o _ (by omega))
theorem dr_cell {li lw od x : Int32} {tp nc nr no : Nat} {f0 f1 f2 w : Nat → Int32} (h : DR li tp lw od nc nr no f0 f1 f2 w) (hc : nc < 3) (e3 : wN w 3 = nc) : DR li tp lw od (nc + 1) nr no (upd f0 (nI nc).toNatClampNeg x) f1 f2 (upd (upd w (8 + wN w 3) x) 3 (nI (wN w 3 + 1))) := by
  obtain ⟨⟨a7, a0, a1, a2, a3, a4, a5⟩, b, c, d⟩ := h
  rw [nI_clamp (by omega), e3]
  have o : ∀ j, j ≠ 3 → j ≠ 8 + nc → (upd (upd w (8 + nc) x) 3 (nI (nc + 1))) j = w j := fun j h1 h2 => by rw [upd_ne h1, upd_ne h2]
  refine ⟨⟨?_, ?_, ?_, ?_, ?_, ?_, ?_⟩, fun k hk => ?_, fun r hr => ?_, fun q hq => ?_⟩
  · rw [o 7 (by omega) (by omega)]; exact a7
  · rw [o 0 (by omega) (by omega)]; exact a0
  · rw [o 1 (by omega) (by omega)]; exact a1
  · rw [o 2 (by omega) (by omega)]; exact a2
  · rw [upd_at]
  · rw [o 4 (by omega) (by omega)]; exact a4
  · rw [o 5 (by omega) (by omega)]; exact a5
  · by_cases e : k = nc
    · subst e; rw [upd_at, upd_ne (by omega), upd_at]
    · rw [upd_ne e, o (8 + k) (by omega) (by omega)]; exact b k (by omega)
  · exact rrow_c (c r hr) (fun j _ => rfl) (fun j _ => o _ (by omega) (by omega))
  · exact orow_c (d q hq) (fun j _ => rfl) (fun j _ => o _ (by omega) (by omega))
theorem dr_rule {li lw od : Int32} {tp nc nr no kd : Nat} {f0 f1 f2 g w : Nat → Int32} {x : S4} (h : DR li tp lw od nc nr no f0 f1 f2 w) (hn : nr < 5) (e4 : wN w 4 = nr) (hk : kd < 6) (hc : nc ≤ 3) (g0 : g (5 * nr) = nI kd) (gv : ∀ j, 1 ≤ j → j ≤ ruM kd → g (5 * nr + j) = nI (vS x j)) (g1 : ∀ j, ruM kd < j → j < 5 → g (5 * nr + j) = -1) (go : ∀ j, (j < 5 * nr ∨ 5 * nr + 5 ≤ j) → g j = f1 j) : DR li tp lw od nc (nr + 1) no f0 g f2 (upd (putS w (11 + 5 * wN w 4) kd (ruM kd) x) 4 (nI (wN w 4 + 1))) := by
  obtain ⟨⟨a7, a0, a1, a2, a3, a4, a5⟩, b, c, d⟩ := h
  rw [e4]
  have hm := ruM_b kd
  have o : ∀ j, j ≠ 4 → (j < 11 + 5 * nr ∨ 11 + 5 * nr + 5 ≤ j) → (upd (putS w (11 + 5 * nr) kd (ruM kd) x) 4 (nI (nr + 1))) j = w j := fun j h1 h2 => by rw [upd_ne h1, putS_o hm (by omega)]
  refine ⟨⟨?_, ?_, ?_, ?_, ?_, ?_, ?_⟩, fun k hk => ?_, fun r hr => ?_, fun q hq => ?_⟩
  · rw [o 7 (by omega) (by omega)]; exact a7
  · rw [o 0 (by omega) (by omega)]; exact a0
  · rw [o 1 (by omega) (by omega)]; exact a1
  · rw [o 2 (by omega) (by omega)]; exact a2
  · rw [o 3 (by omega) (by omega)]; exact a3
  · rw [upd_at]
  · rw [o 5 (by omega) (by omega)]; exact a5
  · rw [o (8 + k) (by omega) (by omega)]; exact b k hk
  · by_cases e : r = nr
    · subst e
      refine ⟨kd, hk, g0, ?_, fun j q1 q2 => ?_, fun j q1 q2 => g1 j q1 q2⟩
      · rw [upd_ne (by omega), putS_0]
      · rw [upd_ne (by omega), putS_v hm q1 q2]; exact gv j q1 q2
    · exact rrow_c (c r (by omega)) (fun j _ => go _ (by omega)) (fun j _ => o _ (by omega) (by omega))
  · exact orow_c (d q hq) (fun j _ => rfl) (fun j _ => o _ (by omega) (by omega))
theorem dr_op {li lw od : Int32} {tp nc nr no kd : Nat} {f0 f1 f2 g w : Nat → Int32} {x : S4} (h : DR li tp lw od nc nr no f0 f1 f2 w) (hn : no < 5) (e5 : wN w 5 = no) (hk : kd < 4) (hc : nc ≤ 3) (hr5 : nr ≤ 5) (g0 : g (4 * no) = nI kd) (gv : ∀ j, 1 ≤ j → j ≤ opM kd → g (4 * no + j) = nI (vS x j)) (g1 : ∀ j, opM kd < j → j < 4 → g (4 * no + j) = -1) (go : ∀ j, (j < 4 * no ∨ 4 * no + 4 ≤ j) → g j = f2 j) : DR li tp lw od nc nr (no + 1) f0 f1 g (upd (putS w (36 + 4 * wN w 5) kd (opM kd) x) 5 (nI (wN w 5 + 1))) := by
  obtain ⟨⟨a7, a0, a1, a2, a3, a4, a5⟩, b, c, d⟩ := h
  rw [e5]
  have hm := opM_b kd
  have o : ∀ j, j ≠ 5 → (j < 36 + 4 * no ∨ 36 + 4 * no + 4 ≤ j) → (upd (putS w (36 + 4 * no) kd (opM kd) x) 5 (nI (no + 1))) j = w j := fun j h1 h2 => by rw [upd_ne h1, putS_o (by omega) (by omega)]
  refine ⟨⟨?_, ?_, ?_, ?_, ?_, ?_, ?_⟩, fun k hk => ?_, fun r hr => ?_, fun q hq => ?_⟩
  · rw [o 7 (by omega) (by omega)]; exact a7
  · rw [o 0 (by omega) (by omega)]; exact a0
  · rw [o 1 (by omega) (by omega)]; exact a1
  · rw [o 2 (by omega) (by omega)]; exact a2
  · rw [o 3 (by omega) (by omega)]; exact a3
  · rw [o 4 (by omega) (by omega)]; exact a4
  · rw [upd_at]
  · rw [o (8 + k) (by omega) (by omega)]; exact b k hk
  · exact rrow_c (c r hr) (fun j _ => rfl) (fun j _ => o _ (by omega) (by omega))
  · by_cases e : q = no
    · subst e
      refine ⟨kd, hk, g0, ?_, fun j q1 q2 => ?_, fun j q1 q2 => g1 j q1 q2⟩
      · rw [upd_ne (by omega), putS_0]
      · rw [upd_ne (by omega), putS_v (by omega) q1 q2]; exact gv j q1 q2
    · exact orow_c (d q (by omega)) (fun j _ => go _ (by omega)) (fun j _ => o _ (by omega) (by omega))
/-- which line stands at s -/
theorem li_h {f : Nat → Int32} {n s : Nat} {w : Nat → Int32} (h : w 7 = 0) : liS f n s w = hdS f n s w := if_pos h
theorem li_c {f : Nat → Int32} {n s : Nat} {w : Nat → Int32} (h : ¬ w 7 = 0) (h1 : WD f n s 4) : liS f n s w = ceS f n s w := by
  unfold liS
  rw [if_neg h, if_pos h1]
theorem li_r {f : Nat → Int32} {n s : Nat} {w : Nat → Int32} (h : ¬ w 7 = 0) (h1 : ¬ WD f n s 4) (h2 : WD f n s 9) : liS f n s w = ruL f n s w := by
  unfold liS
  rw [if_neg h, if_neg h1, if_pos h2]
theorem li_o {f : Nat → Int32} {n s : Nat} {w : Nat → Int32} (h : ¬ w 7 = 0) (h1 : ¬ WD f n s 4) (h2 : ¬ WD f n s 9) (h3 : WD f n s 20) : liS f n s w = opL f n s w := by
  unfold liS
  rw [if_neg h, if_neg h1, if_neg h2, if_pos h3]
theorem li_x {f : Nat → Int32} {n s : Nat} {w : Nat → Int32} (h : ¬ w 7 = 0) (h1 : ¬ WD f n s 4) (h2 : ¬ WD f n s 9) (h3 : ¬ WD f n s 20) : liS f n s w = (1, s, w) := by
  unfold liS
  rw [if_neg h, if_neg h1, if_neg h2, if_neg h3]
theorem ln_y {f : Nat → Int32} {n s : Nat} {w : Nat → Int32} (h : (liS f n s w).1 = 0) (h3 : tT f n (liS f n s w).2.1 = 3) : lnS f n s w = (0, nx f n (liS f n s w).2.1, upd (liS f n s w).2.2 7 ((liS f n s w).2.2 7 + 1)) := by
  unfold lnS
  rw [if_pos h, if_pos h3]
theorem ln_1 {f : Nat → Int32} {n s : Nat} {w : Nat → Int32} (h : (liS f n s w).1 = 0) (h3 : ¬ tT f n (liS f n s w).2.1 = 3) : lnS f n s w = (1, (liS f n s w).2.1, (liS f n s w).2.2) := by
  unfold lnS
  rw [if_pos h, if_neg h3]
theorem ln_n {f : Nat → Int32} {n s : Nat} {w : Nat → Int32} (h : ¬ (liS f n s w).1 = 0) : lnS f n s w = liS f n s w := if_neg h
/-- the class's line, read: what its draft is then -/
def LY (f : Nat → Int32) (n s s1 : Nat) (P Q : (Nat → Int32) → Prop) : Prop := ∀ w, P w → (liS f n s w).1 = 0 ∧ (liS f n s w).2.1 = s1 ∧ Q (liS f n s w).2.2
def LN (f : Nat → Int32) (n s s1 : Nat) (k : Int32) (P : (Nat → Int32) → Prop) : Prop := ∀ w, P w → (liS f n s w).1 = k ∧ (liS f n s w).2.1 = s1
theorem ce_y {f : Nat → Int32} {n s s1 : Nat} {li lw od : Int32} {tp nc nr no : Nat} {f0 f1 f2 : Nat → Int32} (hl : ¬ li = 0) (hw : WD f n s 4) (hb : tp ≤ 3 ∧ nc ≤ 3 ∧ nr ≤ 5 ∧ no ≤ 5) (hc : nc < 3) (hk : kdS f n (nx f n s) [5, 6, 7, 8] < 4) (e : s1 = nx f n (nx f n s)) : LY f n s s1 (DR li tp lw od nc nr no f0 f1 f2) (DR li tp lw od (nc + 1) nr no (upd f0 (nI nc).toNatClampNeg (nI (kdS f n (nx f n s) [5, 6, 7, 8]))) f1 f2) := fun w h => by
  have hn := dr_n h hb.1 hb.2.1 hb.2.2.1 hb.2.2.2
  rw [li_c (by rw [h.1.1]; exact hl) hw]
  unfold ceS
  rw [if_neg (by omega), if_neg (by omega)]
  exact ⟨rfl, e.symm, dr_cell h hc hn.2.1⟩
theorem ce_n {f : Nat → Int32} {n s s1 : Nat} {k li lw od : Int32} {tp nc nr no : Nat} {f0 f1 f2 : Nat → Int32} (hl : ¬ li = 0) (hw : WD f n s 4) (hb : tp ≤ 3 ∧ nc ≤ 3 ∧ nr ≤ 5 ∧ no ≤ 5) (h : (¬ nc < 3 ∧ k = 3 ∧ s1 = s) ∨ (nc < 3 ∧ kdS f n (nx f n s) [5, 6, 7, 8] = 4 ∧ k = 1 ∧ s1 = nx f n s)) : LN f n s s1 k (DR li tp lw od nc nr no f0 f1 f2) := fun w hd => by
  have hn := dr_n hd hb.1 hb.2.1 hb.2.2.1 hb.2.2.2
  rw [li_c (by rw [hd.1.1]; exact hl) hw]
  unfold ceS
  rcases h with ⟨h1, h2, h3⟩ | ⟨h1, h2, h3, h4⟩
  · rw [if_pos (by omega)]; exact ⟨h2.symm, h3.symm⟩
  · rw [if_neg (by omega), if_pos h2]; exact ⟨h3.symm, h4.symm⟩
theorem ru_y {f : Nat → Int32} {n s s1 : Nat} {li lw od : Int32} {tp nc nr no : Nat} {f0 f1 f2 g : Nat → Int32} (hl : ¬ li = 0) (hw4 : ¬ WD f n s 4) (hw : WD f n s 9) (hb : tp ≤ 3 ∧ nc ≤ 3 ∧ nr ≤ 5 ∧ no ≤ 5) (hc : nr < 5) (hk : kdS f n (nx f n s) [10, 11, 12, 13, 14, 15] < 6)
    (e1 : (ruS f n (nx f n (nx f n s)) (kdS f n (nx f n s) [10, 11, 12, 13, 14, 15]) nc tp).1 = 0) (e2 : s1 = (ruS f n (nx f n (nx f n s)) (kdS f n (nx f n s) [10, 11, 12, 13, 14, 15]) nc tp).2.1)
    (g0 : g (5 * nr) = nI (kdS f n (nx f n s) [10, 11, 12, 13, 14, 15])) (gv : ∀ j, 1 ≤ j → j ≤ ruM (kdS f n (nx f n s) [10, 11, 12, 13, 14, 15]) → g (5 * nr + j) = nI (vS (ruS f n (nx f n (nx f n s)) (kdS f n (nx f n s) [10, 11, 12, 13, 14, 15]) nc tp) j)) (g1 : ∀ j, ruM (kdS f n (nx f n s) [10, 11, 12, 13, 14, 15]) < j → j < 5 → g (5 * nr + j) = -1) (go : ∀ j, (j < 5 * nr ∨ 5 * nr + 5 ≤ j) → g j = f1 j) :
    LY f n s s1 (DR li tp lw od nc nr no f0 f1 f2) (DR li tp lw od nc (nr + 1) no f0 g f2) := fun w h => by
  have hn := dr_n h hb.1 hb.2.1 hb.2.2.1 hb.2.2.2
  rw [li_r (by rw [h.1.1]; exact hl) hw4 hw]
  unfold ruL
  rw [if_neg (by omega), if_neg (by omega), hn.1, hn.2.1]
  exact ⟨e1, e2.symm, dr_rule h hc hn.2.2.1 hk hb.2.1 g0 gv g1 go⟩
theorem ru_n {f : Nat → Int32} {n s s1 : Nat} {k li lw od : Int32} {tp nc nr no : Nat} {f0 f1 f2 : Nat → Int32} (hl : ¬ li = 0) (hw4 : ¬ WD f n s 4) (hw : WD f n s 9) (hb : tp ≤ 3 ∧ nc ≤ 3 ∧ nr ≤ 5 ∧ no ≤ 5) (h : (¬ nr < 5 ∧ k = 3 ∧ s1 = s) ∨ (nr < 5 ∧ kdS f n (nx f n s) [10, 11, 12, 13, 14, 15] = 6 ∧ k = 1 ∧ s1 = nx f n s) ∨ (nr < 5 ∧ kdS f n (nx f n s) [10, 11, 12, 13, 14, 15] < 6 ∧ (ruS f n (nx f n (nx f n s)) (kdS f n (nx f n s) [10, 11, 12, 13, 14, 15]) nc tp).1 = k ∧ (ruS f n (nx f n (nx f n s)) (kdS f n (nx f n s) [10, 11, 12, 13, 14, 15]) nc tp).2.1 = s1)) : LN f n s s1 k (DR li tp lw od nc nr no f0 f1 f2) := fun w hd => by
  have hn := dr_n hd hb.1 hb.2.1 hb.2.2.1 hb.2.2.2
  rw [li_r (by rw [hd.1.1]; exact hl) hw4 hw]
  unfold ruL
  rcases h with ⟨h1, h2, h3⟩ | ⟨h1, h2, h3, h4⟩ | ⟨h1, h2, h3, h4⟩
  · rw [if_pos (by omega)]; exact ⟨h2.symm, h3.symm⟩
  · rw [if_neg (by omega), if_pos h2]; exact ⟨h3.symm, h4.symm⟩
  · rw [if_neg (by omega), if_neg (by omega), hn.1, hn.2.1]; exact ⟨h3, h4⟩
theorem op_y {f : Nat → Int32} {n s s1 : Nat} {li lw od : Int32} {tp nc nr no : Nat} {f0 f1 f2 g : Nat → Int32} (hl : ¬ li = 0) (hw4 : ¬ WD f n s 4) (hw9 : ¬ WD f n s 9) (hw : WD f n s 20) (hb : tp ≤ 3 ∧ nc ≤ 3 ∧ nr ≤ 5 ∧ no ≤ 5) (hc : no < 5) (hk : kdS f n (nx f n s) [21, 22, 23, 24] < 4)
    (e1 : (opS f n (nx f n (nx f n s)) (kdS f n (nx f n s) [21, 22, 23, 24]) nc tp).1 = 0) (e2 : s1 = (opS f n (nx f n (nx f n s)) (kdS f n (nx f n s) [21, 22, 23, 24]) nc tp).2.1)
    (g0 : g (4 * no) = nI (kdS f n (nx f n s) [21, 22, 23, 24])) (gv : ∀ j, 1 ≤ j → j ≤ opM (kdS f n (nx f n s) [21, 22, 23, 24]) → g (4 * no + j) = nI (vS (opS f n (nx f n (nx f n s)) (kdS f n (nx f n s) [21, 22, 23, 24]) nc tp) j)) (g1 : ∀ j, opM (kdS f n (nx f n s) [21, 22, 23, 24]) < j → j < 4 → g (4 * no + j) = -1) (go : ∀ j, (j < 4 * no ∨ 4 * no + 4 ≤ j) → g j = f2 j) :
    LY f n s s1 (DR li tp lw od nc nr no f0 f1 f2) (DR li tp lw od nc nr (no + 1) f0 f1 g) := fun w h => by
  have hn := dr_n h hb.1 hb.2.1 hb.2.2.1 hb.2.2.2
  rw [li_o (by rw [h.1.1]; exact hl) hw4 hw9 hw]
  unfold opL
  rw [if_neg (by omega), if_neg (by omega), hn.1, hn.2.1]
  exact ⟨e1, e2.symm, dr_op h hc hn.2.2.2 hk hb.2.1 hb.2.2.1 g0 gv g1 go⟩
theorem op_n {f : Nat → Int32} {n s s1 : Nat} {k li lw od : Int32} {tp nc nr no : Nat} {f0 f1 f2 : Nat → Int32} (hl : ¬ li = 0) (hw4 : ¬ WD f n s 4) (hw9 : ¬ WD f n s 9) (hw : WD f n s 20) (hb : tp ≤ 3 ∧ nc ≤ 3 ∧ nr ≤ 5 ∧ no ≤ 5) (h : (¬ no < 5 ∧ k = 3 ∧ s1 = s) ∨ (no < 5 ∧ kdS f n (nx f n s) [21, 22, 23, 24] = 4 ∧ k = 1 ∧ s1 = nx f n s) ∨ (no < 5 ∧ kdS f n (nx f n s) [21, 22, 23, 24] < 4 ∧ (opS f n (nx f n (nx f n s)) (kdS f n (nx f n s) [21, 22, 23, 24]) nc tp).1 = k ∧ (opS f n (nx f n (nx f n s)) (kdS f n (nx f n s) [21, 22, 23, 24]) nc tp).2.1 = s1)) : LN f n s s1 k (DR li tp lw od nc nr no f0 f1 f2) := fun w hd => by
  have hn := dr_n hd hb.1 hb.2.1 hb.2.2.1 hb.2.2.2
  rw [li_o (by rw [hd.1.1]; exact hl) hw4 hw9 hw]
  unfold opL
  rcases h with ⟨h1, h2, h3⟩ | ⟨h1, h2, h3, h4⟩ | ⟨h1, h2, h3, h4⟩
  · rw [if_pos (by omega)]; exact ⟨h2.symm, h3.symm⟩
  · rw [if_neg (by omega), if_pos h2]; exact ⟨h3.symm, h4.symm⟩
  · rw [if_neg (by omega), if_neg (by omega), hn.1, hn.2.1]; exact ⟨h3, h4⟩
