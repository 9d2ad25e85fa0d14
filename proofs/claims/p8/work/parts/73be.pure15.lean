/-! own lemmas: the reference's kinds and lines (not compiled yet) -/
theorem no_a {f : Nat → Int32} {n s a : Nat} {hi : Int} {k : Int32} (h : ¬ (k = 0 ∧ tT f n s = 2 ∧ tV f n s = a)) : noS f n (k, s) a hi = nuS f n (k, s) 0 hi := if_neg h
theorem no_b {f : Nat → Int32} {n s a : Nat} {hi : Int} {k : Int32} (h : k = 0 ∧ tT f n s = 2 ∧ tV f n s = a) : noS f n (k, s) a hi = (2, s, 0) := if_pos h
theorem wd_27 {f : Nat → Int32} {n s : Nat} : ¬ WD f n s 27 := fun h => by
  have h1 := tT_lt (f := f) (n := n) (s := s) (by rw [h.1]; decide)
  have h2 := tE_lt (f := f) h1
  have h3 := h.2.1
  rw [show sl 27 = 0 from by decide] at h3
  omega
theorem kd_46 {f : Nat → Int32} {n s a b c d : Nat} : kdS f n s [a, b, c, d, 27, 27] = if kdS f n s [a, b, c, d] = 4 then 6 else kdS f n s [a, b, c, d] := by
  by_cases h1 : WD f n s a
  · rw [kd_0 h1, kd_0 h1]; rfl
  · rw [kd_s h1, kd_s h1]
    by_cases h2 : WD f n s b
    · rw [kd_0 h2, kd_0 h2]; rfl
    · rw [kd_s h2, kd_s h2]
      by_cases h3 : WD f n s c
      · rw [kd_0 h3, kd_0 h3]; rfl
      · rw [kd_s h3, kd_s h3]
        by_cases h4 : WD f n s d
        · rw [kd_0 h4, kd_0 h4]; rfl
        · rw [kd_s h4, kd_s h4, kd_s wd_27, kd_s wd_27, kd_e]; rfl
theorem kd_le4 {f : Nat → Int32} {n s a b c d : Nat} : kdS f n s [a, b, c, d] ≤ 4 := by
  by_cases h1 : WD f n s a
  · rw [kd_0 h1]; omega
  · rw [kd_s h1]
    by_cases h2 : WD f n s b
    · rw [kd_0 h2]; omega
    · rw [kd_s h2]
      by_cases h3 : WD f n s c
      · rw [kd_0 h3]; omega
      · rw [kd_s h3]
        by_cases h4 : WD f n s d
        · rw [kd_0 h4]; omega
        · rw [kd_s h4, kd_e]; omega
/-- a kind that must stand: fault, place, kind -/
noncomputable def rkS (f : Nat → Int32) (n : Nat) (q : Int32 × Nat) (ws : List Nat) : Int32 × Nat × Nat := if q.1 = 0 then (if kdS f n q.2 ws = 6 then (1, q.2, 0) else (0, nx f n q.2, kdS f n q.2 ws)) else (q.1, q.2, 0)
theorem rk_f {f : Nat → Int32} {n s : Nat} {ws : List Nat} {k : Int32} (h : ¬ k = 0) : rkS f n (k, s) ws = (k, s, 0) := if_neg h
theorem rk_n {f : Nat → Int32} {n s : Nat} {ws : List Nat} (h : kdS f n s ws = 6) : rkS f n (0, s) ws = (1, s, 0) := by
  unfold rkS
  rw [if_pos rfl, if_pos h]
theorem rk_y {f : Nat → Int32} {n s k : Nat} {ws : List Nat} (h : kdS f n s ws = k) (hk : ¬ k = 6) : rkS f n (0, s) ws = (0, nx f n s, k) := by
  unfold rkS
  rw [if_pos rfl, if_neg (by rw [h]; exact hk), h]
theorem rk_e {f : Nat → Int32} {n s : Nat} {k k1 fp fp1 : Int32} {ws : List Nat} (h : k = 0 → kdS f n s ws = 6) (he : ERR k k1 1 fp fp1 s) : rkS f n (k, s) ws = (k1, s, 0) := by
  by_cases h0 : k = 0
  · subst h0; rw [rk_n (h rfl), (he.1 rfl).1]
  · rw [rk_f h0, (he.2 h0).1]
theorem rk_le3 {f : Nat → Int32} {n a b c d s1 v : Nat} {q : Int32 × Nat} {k1 : Int32} (h : rkS f n q [a, b, c, d, 27, 27] = (k1, s1, v)) : v ≤ 3 := by
  have e : (rkS f n q [a, b, c, d, 27, 27]).2.2 = v := by rw [h]
  unfold rkS at e
  split at e
  · split at e
    · exact e ▸ Nat.zero_le _
    · rename_i h6
      rw [kd_46] at e h6
      have e : (if kdS f n q.2 [a, b, c, d] = 4 then 6 else kdS f n q.2 [a, b, c, d]) = v := e
      have hb := kd_le4 (f := f) (n := n) (s := q.2) (a := a) (b := b) (c := c) (d := d)
      by_cases h4 : kdS f n q.2 [a, b, c, d] = 4
      · exact absurd (if_pos h4) h6
      · rw [if_neg h4] at e; omega
  · exact e ▸ Nat.zero_le _
/-- what a kind that was read tells -/
theorem rk_ok {f : Nat → Int32} {n s s1 kd : Nat} {k1 : Int32} {ws : List Nat} (h : rkS f n (0, s) ws = (k1, s1, kd)) (h0 : k1 = 0) : kdS f n s ws = kd ∧ ¬ kd = 6 ∧ s1 = nx f n s := by
  by_cases e : kdS f n s ws = 6
  · rw [rk_n e, h0] at h
    exact absurd (congrArg (fun x : Int32 × Nat × Nat => x.1) h) (show ¬ (1 : Int32) = 0 by decide)
  · rw [rk_y rfl e] at h
    have e1 : nx f n s = s1 := congrArg (fun x : Int32 × Nat × Nat => x.2.1) h
    have e2 : kdS f n s ws = kd := congrArg (fun x : Int32 × Nat × Nat => x.2.2) h
    exact ⟨e2, e2 ▸ e, e1.symm⟩
theorem rk_no {f : Nat → Int32} {n s s1 kd : Nat} {k1 : Int32} {ws : List Nat} (h : rkS f n (0, s) ws = (k1, s1, kd)) (h0 : ¬ k1 = 0) : kdS f n s ws = 6 ∧ k1 = 1 ∧ s1 = s := by
  by_cases e : kdS f n s ws = 6
  · rw [rk_n e] at h
    have e1 : (1 : Int32) = k1 := congrArg (fun x : Int32 × Nat × Nat => x.1) h
    have e2 : s = s1 := congrArg (fun x : Int32 × Nat × Nat => x.2.1) h
    exact ⟨e, e1.symm, e2.symm⟩
  · rw [rk_y rfl e] at h
    have e1 : (0 : Int32) = k1 := congrArg (fun x : Int32 × Nat × Nat => x.1) h
    exact absurd e1.symm h0
theorem nu_k {f : Nat → Int32} {n s s1 j lo : Nat} {hi : Int} {k k1 : Int32} (h : ¬ k = 0) (e : (k1, s1, j) = nuS f n (k, s) lo hi) : k1 = k ∧ s1 = s := by
  rw [nuS_f h] at e
  exact ⟨congrArg (fun x : Int32 × Nat × Nat => x.1) e, congrArg (fun x : Int32 × Nat × Nat => x.2.1) e⟩
theorem no_k {f : Nat → Int32} {n s s1 j a : Nat} {hi : Int} {k k1 : Int32} (h : ¬ k = 0) (e : (k1, s1, j) = noS f n (k, s) a hi) : k1 = k ∧ s1 = s := by
  rw [noS_f h] at e
  exact ⟨congrArg (fun x : Int32 × Nat × Nat => x.1) e, congrArg (fun x : Int32 × Nat × Nat => x.2.1) e⟩
/-- the reference's number that stands, cut at 99999: it is a -/
theorem st_9 {z : Int32} {v a : Nat} (hz : z = nI (min 99999 v)) (ha : a ≤ 2) : z = nI a ↔ v = a := by
  subst hz
  rw [nI_eq (by omega) (by omega)]
  omega
theorem ro_y {f : Nat → Int32} {n s s1 j a : Nat} {hi : Int} {k k1 k2 fp fp1 : Int32} (h : k = 0 ∧ tT f n s = 2 ∧ tV f n s = a) (he : ERR k k1 2 fp fp1 s) (e : (k2, s1, j) = nuS f n (k1, s) 0 hi) : (k2, s1, j) = noS f n (k, s) a hi := by
  rw [e, (he.1 h.1).1, nuS_f (show ¬ (2 : Int32) = 0 by decide), no_b h]
theorem ro_n {f : Nat → Int32} {n s s1 j a : Nat} {hi : Int} {k k2 : Int32} (h : ¬ (k = 0 ∧ tT f n s = 2 ∧ tV f n s = a)) (e : (k2, s1, j) = nuS f n (k, s) 0 hi) : (k2, s1, j) = noS f n (k, s) a hi := by
  rw [e, no_a h]
/-- a rule, an op as the reference reads them, behind their word -/
noncomputable def rrS (f : Nat → Int32) (n s : Nat) (w : Nat → Int32) : Int32 × Nat × (Nat → Int32) :=
  if kdS f n s [10, 11, 12, 13, 14, 15] = 6 then (1, s, w)
  else ((ruS f n (nx f n s) (kdS f n s [10, 11, 12, 13, 14, 15]) (wN w 3) (wN w 0)).1, (ruS f n (nx f n s) (kdS f n s [10, 11, 12, 13, 14, 15]) (wN w 3) (wN w 0)).2.1,
    upd (putS w (11 + 5 * wN w 4) (kdS f n s [10, 11, 12, 13, 14, 15]) (ruM (kdS f n s [10, 11, 12, 13, 14, 15])) (ruS f n (nx f n s) (kdS f n s [10, 11, 12, 13, 14, 15]) (wN w 3) (wN w 0))) 4 (nI (wN w 4 + 1)))
noncomputable def roS (f : Nat → Int32) (n s : Nat) (w : Nat → Int32) : Int32 × Nat × (Nat → Int32) :=
  if kdS f n s [21, 22, 23, 24] = 4 then (1, s, w)
  else ((opS f n (nx f n s) (kdS f n s [21, 22, 23, 24]) (wN w 3) (wN w 0)).1, (opS f n (nx f n s) (kdS f n s [21, 22, 23, 24]) (wN w 3) (wN w 0)).2.1,
    upd (putS w (36 + 4 * wN w 5) (kdS f n s [21, 22, 23, 24]) (opM (kdS f n s [21, 22, 23, 24])) (opS f n (nx f n s) (kdS f n s [21, 22, 23, 24]) (wN w 3) (wN w 0))) 5 (nI (wN w 5 + 1)))
theorem ruL_rr {f : Nat → Int32} {n s : Nat} {w : Nat → Int32} (h : ¬ wN w 4 = 5) : ruL f n s w = rrS f n (nx f n s) w := by
  unfold ruL
  rw [if_neg h]
  rfl
theorem opL_ro {f : Nat → Int32} {n s : Nat} {w : Nat → Int32} (h : ¬ wN w 5 = 5) : opL f n s w = roS f n (nx f n s) w := by
  unfold opL
  rw [if_neg h]
  rfl
/-- a result of the reference: fault and place, and the row if there is none -/
def RR (k : Int32) (s : Nat) (g : Nat → Int32) (x : Int32 × Nat × (Nat → Int32)) : Prop := (k, s) = (x.1, x.2.1) ∧ (k = 0 → g = x.2.2)
theorem rr_fin {f : Nat → Int32} {n s s1 s2 kd : Nat} {w g : Nat → Int32} {k0 k1 k2 : Int32} {X : S4} (hk0 : k0 = 0) (hrk : rkS f n (k0, s) [10, 11, 12, 13, 14, 15] = (k1, s1, kd)) (hX : k1 = 0 → X = ruS f n s1 kd (wN w 3) (wN w 0)) (hF : ¬ k1 = 0 → k2 = k1 ∧ s2 = s1) (hx : k2 = X.1 ∧ s2 = X.2.1) (hg : g = upd (putS w (11 + 5 * wN w 4) kd (ruM kd) X) 4 (nI (wN w 4 + 1))) : RR k2 s2 g (rrS f n s w) := by
  subst hk0
  unfold RR rrS
  by_cases h0 : k1 = 0
  · obtain ⟨e1, e2, e3⟩ := rk_ok hrk h0
    rw [if_neg (by rw [e1]; exact e2), e1, ← e3, ← hX h0]
    exact ⟨by rw [hx.1, hx.2], fun _ => hg⟩
  · obtain ⟨e1, e2, e3⟩ := rk_no hrk h0
    obtain ⟨f1, f2⟩ := hF h0
    rw [if_pos e1, f1, f2, e2, e3]
    exact ⟨rfl, fun e => absurd e (by decide)⟩
theorem ro_fin {f : Nat → Int32} {n s s1 s2 kd : Nat} {w g : Nat → Int32} {k0 k1 k2 : Int32} {X : S4} (hk0 : k0 = 0) (hrk : rkS f n (k0, s) [21, 22, 23, 24, 27, 27] = (k1, s1, kd)) (hX : k1 = 0 → X = opS f n s1 kd (wN w 3) (wN w 0)) (hF : ¬ k1 = 0 → k2 = k1 ∧ s2 = s1) (hx : k2 = X.1 ∧ s2 = X.2.1) (hg : g = upd (putS w (36 + 4 * wN w 5) kd (opM kd) X) 5 (nI (wN w 5 + 1))) : RR k2 s2 g (roS f n s w) := by
  subst hk0
  unfold RR roS
  by_cases h0 : k1 = 0
  · obtain ⟨e1, e2, e3⟩ := rk_ok hrk h0
    rw [kd_46] at e1
    have e4 : ¬ kdS f n s [21, 22, 23, 24] = 4 := fun q => by rw [if_pos q] at e1; exact e2 e1.symm
    rw [if_neg e4] at e1
    rw [if_neg e4, e1, ← e3, ← hX h0]
    exact ⟨by rw [hx.1, hx.2], fun _ => hg⟩
  · obtain ⟨e1, e2, e3⟩ := rk_no hrk h0
    obtain ⟨f1, f2⟩ := hF h0
    rw [kd_46] at e1
    have e4 : kdS f n s [21, 22, 23, 24] = 4 := by
      by_cases q : kdS f n s [21, 22, 23, 24] = 4
      · exact q
      · rw [if_neg q] at e1
        have hb := kd_le4 (f := f) (n := n) (s := s) (a := 21) (b := 22) (c := 23) (d := 24)
        omega
    rw [if_pos e4, f1, f2, e2, e3]
    exact ⟨rfl, fun e => absurd e (by decide)⟩
/-- two words don't stand at one place -/
theorem wd_ex {f : Nat → Int32} {n s a b q : Nat} (h1 : WD f n s a) (h2 : WD f n s b) (hq : q < sl a) (hq2 : q < sl b) (hn : ¬ nI (sch a q) = nI (sch b q)) : False := hn ((h1.2.2 q hq).symm.trans (h2.2.2 q hq2))
theorem wd_49 {f : Nat → Int32} {n s : Nat} (h1 : WD f n s 4) (h2 : WD f n s 9) : False := wd_ex (q := 0) h1 h2 (by decide) (by decide) (by decide)
theorem wd_40 {f : Nat → Int32} {n s : Nat} (h1 : WD f n s 4) (h2 : WD f n s 20) : False := wd_ex (q := 0) h1 h2 (by decide) (by decide) (by decide)
theorem wd_90 {f : Nat → Int32} {n s : Nat} (h1 : WD f n s 9) (h2 : WD f n s 20) : False := wd_ex (q := 0) h1 h2 (by decide) (by decide) (by decide)
/-- a line of the reference is full -/
def FUL (f : Nat → Int32) (n s : Nat) (k : Int32) (w : Nat → Int32) : Prop := k = 0 ∧ ((WD f n s 4 ∧ wN w 3 = 3) ∨ (WD f n s 9 ∧ wN w 4 = 5) ∨ (WD f n s 20 ∧ wN w 5 = 5))
theorem ful_4 {f : Nat → Int32} {n s : Nat} {k : Int32} {w : Nat → Int32} (h : FUL f n s k w) (hw : WD f n s 4) : wN w 3 = 3 := by
  rcases h.2 with h | h | h
  · exact h.2
  · exact (wd_49 hw h.1).elim
  · exact (wd_40 hw h.1).elim
theorem ful_9 {f : Nat → Int32} {n s : Nat} {k : Int32} {w : Nat → Int32} (h : FUL f n s k w) (hw : WD f n s 9) : wN w 4 = 5 := by
  rcases h.2 with h | h | h
  · exact (wd_49 h.1 hw).elim
  · exact h.2
  · exact (wd_90 hw h.1).elim
theorem ful_0 {f : Nat → Int32} {n s : Nat} {k : Int32} {w : Nat → Int32} (h : FUL f n s k w) (hw : WD f n s 20) : wN w 5 = 5 := by
  rcases h.2 with h | h | h
  · exact (wd_40 h.1 hw).elim
  · exact (wd_90 h.1 hw).elim
  · exact h.2
theorem RR.of {k : Int32} {s : Nat} {g : Nat → Int32} {x y : Int32 × Nat × (Nat → Int32)} (h : RR k s g x) (e : y = x) : RR k s g y := e ▸ h
/-- the reference's lines, by what its readers tell -/
theorem rn_full {f : Nat → Int32} {n s s1 : Nat} {w g : Nat → Int32} {k1 : Int32} (h7 : ¬ w 7 = 0) (e1 : k1 = 3) (e2 : s1 = s) (h : (WD f n s 4 ∧ wN w 3 = 3) ∨ (WD f n s 9 ∧ wN w 4 = 5) ∨ (WD f n s 20 ∧ wN w 5 = 5)) : RR k1 s1 g (liS f n s w) := by
  have k3 : ¬ (3 : Int32) = 0 := by decide
  subst e1 e2
  rcases h with ⟨h1, h2⟩ | ⟨h1, h2⟩ | ⟨h1, h2⟩
  · rw [li_c h7 h1]; unfold ceS RR; rw [if_pos h2]; exact ⟨rfl, fun e => absurd e k3⟩
  · rw [li_r h7 (fun q => wd_49 q h1) h1]; unfold ruL RR; rw [if_pos h2]; exact ⟨rfl, fun e => absurd e k3⟩
  · rw [li_o h7 (fun q => wd_40 q h1) (fun q => wd_90 q h1) h1]; unfold opL RR; rw [if_pos h2]; exact ⟨rfl, fun e => absurd e k3⟩
theorem rn_x {f : Nat → Int32} {n s s1 : Nat} {w g : Nat → Int32} {k1 : Int32} (h7 : ¬ w 7 = 0) (e1 : k1 = 1) (e2 : s1 = s) (h4 : ¬ WD f n s 4) (h9 : ¬ WD f n s 9) (h0 : ¬ WD f n s 20) : RR k1 s1 g (liS f n s w) := by
  subst e1 e2
  rw [li_x h7 h4 h9 h0]
  exact ⟨rfl, fun e => absurd e (by decide)⟩
theorem rn_ce {f : Nat → Int32} {n s s1 s2 kd : Nat} {w g : Nat → Int32} {k0 k2 : Int32} (h7 : ¬ w 7 = 0) (h4 : WD f n s 4) (h3 : ¬ wN w 3 = 3) (hk : k0 = 0) (hs : s1 = nx f n s) (hrk : rkS f n (k0, s1) [5, 6, 7, 8, 27, 27] = (k2, s2, kd)) (hg : g = upd (upd w (8 + wN w 3) (nI kd)) 3 (nI (wN w 3 + 1))) : RR k2 s2 g (liS f n s w) := by
  subst hk hs
  rw [li_c h7 h4]
  unfold ceS RR
  rw [if_neg h3]
  by_cases h0 : k2 = 0
  · obtain ⟨e1, e2, e3⟩ := rk_ok hrk h0
    rw [kd_46] at e1
    have e4 : ¬ kdS f n (nx f n s) [5, 6, 7, 8] = 4 := fun q => by rw [if_pos q] at e1; exact e2 e1.symm
    rw [if_neg e4] at e1
    rw [if_neg e4, h0, e3, e1]
    exact ⟨rfl, fun _ => hg⟩
  · obtain ⟨e1, e2, e3⟩ := rk_no hrk h0
    rw [kd_46] at e1
    have e4 : kdS f n (nx f n s) [5, 6, 7, 8] = 4 := by
      by_cases q : kdS f n (nx f n s) [5, 6, 7, 8] = 4
      · exact q
      · rw [if_neg q] at e1
        have hb := kd_le4 (f := f) (n := n) (s := nx f n s) (a := 5) (b := 6) (c := 7) (d := 8)
        omega
    rw [if_pos e4, e2, e3]
    exact ⟨rfl, fun e => absurd e (by decide)⟩
theorem rn_ru {f : Nat → Int32} {n s s1 s2 : Nat} {w g : Nat → Int32} {k2 : Int32} (h7 : ¬ w 7 = 0) (h9 : WD f n s 9) (h5 : ¬ wN w 4 = 5) (hs : s1 = nx f n s) (h : RR k2 s2 g (rrS f n s1 w)) : RR k2 s2 g (liS f n s w) := by
  subst hs
  rw [li_r h7 (fun q => wd_49 q h9) h9, ruL_rr h5]
  exact h
theorem rn_op {f : Nat → Int32} {n s s1 s2 : Nat} {w g : Nat → Int32} {k2 : Int32} (h7 : ¬ w 7 = 0) (h0 : WD f n s 20) (h5 : ¬ wN w 5 = 5) (hs : s1 = nx f n s) (h : RR k2 s2 g (roS f n s1 w)) : RR k2 s2 g (liS f n s w) := by
  subst hs
  rw [li_o h7 (fun q => wd_40 q h0) (fun q => wd_90 q h0) h0, opL_ro h5]
  exact h
theorem rl_h {f : Nat → Int32} {n s s1 : Nat} {w g : Nat → Int32} {k1 : Int32} (h7 : w 7 = 0) (h : (k1, s1, g) = hdS f n s w) : RR k1 s1 g (liS f n s w) := by
  rw [li_h h7, ← h]
  exact ⟨rfl, fun _ => rfl⟩
/-- behind a line: its sign -/
theorem rl_y {f : Nat → Int32} {n s s1 s2 : Nat} {w g g2 : Nat → Int32} {k1 : Int32} (h : RR k1 s1 g (liS f n s w)) (h0 : k1 = 0) (t : tT f n s1 = 3) (e : s2 = nx f n s1) (hg : g2 = upd g 7 (g 7 + 1)) : RR k1 s2 g2 (lnS f n s w) := by
  have e1 : k1 = (liS f n s w).1 := congrArg (fun x : Int32 × Nat => x.1) h.1
  have e2 : s1 = (liS f n s w).2.1 := congrArg (fun x : Int32 × Nat => x.2) h.1
  unfold RR
  rw [ln_y (by rw [← e1]; exact h0) (by rw [← e2]; exact t), ← e2, ← h.2 h0]
  exact ⟨by rw [h0, e], fun _ => hg⟩
theorem rl_1 {f : Nat → Int32} {n s s1 : Nat} {w g g2 : Nat → Int32} {k1 k2 : Int32} (h : RR k1 s1 g (liS f n s w)) (h0 : k1 = 0) (t : ¬ tT f n s1 = 3) (e : k2 = 1) : RR k2 s1 g2 (lnS f n s w) := by
  have e1 : k1 = (liS f n s w).1 := congrArg (fun x : Int32 × Nat => x.1) h.1
  have e2 : s1 = (liS f n s w).2.1 := congrArg (fun x : Int32 × Nat => x.2) h.1
  unfold RR
  rw [ln_1 (by rw [← e1]; exact h0) (by rw [← e2]; exact t), ← e2, e]
  exact ⟨rfl, fun q => absurd q (by decide)⟩
theorem rl_n {f : Nat → Int32} {n s s1 : Nat} {w g g2 : Nat → Int32} {k1 : Int32} (h : RR k1 s1 g (liS f n s w)) (h0 : ¬ k1 = 0) : RR k1 s1 g2 (lnS f n s w) := by
  have e1 : k1 = (liS f n s w).1 := congrArg (fun x : Int32 × Nat => x.1) h.1
  unfold RR
  rw [ln_n (by rw [← e1]; exact h0)]
  exact ⟨h.1, fun q => absurd q h0⟩
theorem nu_hi {f : Nat → Int32} {n lo : Nat} {hi hi' : Int} {q : Int32 × Nat} (e : hi = hi') : nuS f n q lo hi = nuS f n q lo hi' := by rw [e]
theorem no_hi {f : Nat → Int32} {n a : Nat} {hi hi' : Int} {q : Int32 × Nat} (e : hi = hi') : noS f n q a hi = noS f n q a hi' := by rw [e]
theorem nu_c2 {f : Nat → Int32} {n lo s j c : Nat} {q : Int32 × Nat} {k : Int32} (h : (k, s, j) = nuS f n q lo ((c : Int) - 1)) (hc : c ≤ 3) : j ≤ 2 := by
  rcases nu_le h with e | e <;> omega
theorem nu_le3 {f : Nat → Int32} {n lo s j : Nat} {hi : Int} {q : Int32 × Nat} {k : Int32} (h : (k, s, j) = nuS f n q lo hi) (hh : hi ≤ 3) : j ≤ 3 := by
  rcases nu_le h with e | e <;> omega
theorem wN_c3 {g : Nat → Int32} (h : wN g 3 ≤ 3) (c : nI (wN g 3) = 3) : wN g 3 = 3 := (nI_eq (a := wN g 3) (b := 3) (by omega) (by omega)).mp c
theorem wN_c5 {g : Nat → Int32} {k : Nat} (h : wN g k ≤ 5) (c : nI (wN g k) = 5) : wN g k = 5 := (nI_eq (a := wN g k) (b := 5) (by omega) (by omega)).mp c
