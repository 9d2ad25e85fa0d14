/-! own lemmas: the space of states that is told -/
def SPC (li : Int32) (tp nc zs sc st : Nat) (fa : Nat → Int32) : Prop := sc = nc ∧ st = tp ∧ (li = 0 ∨ tp < 1 → zs = 0) ∧ (¬ li = 0 ∧ 1 ≤ tp → zs = (tp + 1) ^ nc ∧ PKD fa tp nc)
theorem sp_ok {li : Int32} {tp nc zs sc st : Nat} {fa : Nat → Int32} (h : SPC li tp nc zs sc st fa) (hz : 0 < zs) : 1 ≤ st ∧ zs = (st + 1) ^ sc ∧ PKD fa st sc := by
  obtain ⟨rfl, rfl, h1, h2⟩ := h
  have e1 : ¬ li = 0 := fun e => by have := h1 (Or.inl e); omega
  have e2 : 1 ≤ st := by
    rcases Nat.lt_or_ge st 1 with q | q
    · have := h1 (Or.inr q); omega
    · exact q
  exact ⟨e2, h2 ⟨e1, e2⟩⟩
def LT (li : Int32) (tp : Nat) : Prop := li = 0 ∨ (0 < li.toInt ∧ 1 ≤ tp)
theorem lt_z {li : Int32} {tp : Nat} (h : li = 0) : LT li tp := Or.inl h
theorem sp_q {li : Int32} {tp nc zs sc st : Nat} {fa : Nat → Int32} (h : SPC li tp nc zs sc st fa) (hl : LT li tp) : (0 < li.toInt → zs = (tp + 1) ^ nc) ∧ (¬ 0 < li.toInt → zs = 0) := by
  obtain ⟨-, -, h1, h2⟩ := h
  rcases hl with e | ⟨e1, e2⟩
  · subst e
    exact ⟨fun q => absurd q (by decide), fun _ => h1 (Or.inl rfl)⟩
  · exact ⟨fun _ => (h2 ⟨fun e => by rw [e] at e1; exact absurd e1 (by decide), e2⟩).1, fun q => absurd e1 q⟩
theorem it_y {x : Int32} (h : ¬ x ≤ 0) : 0 < x.toInt := by rw [Int32.le_iff_toInt_le, i0] at h; omega
theorem it_n {x : Int32} (h : x ≤ 0) : ¬ 0 < x.toInt := by rw [Int32.le_iff_toInt_le, i0] at h; omega
/-- states(), value(), weight(): on both sides -/
def stC (tl : Int32) (zs : Nat) : Int32 := if 0 < tl.toInt then nI zs else -2
theorem stC_y {tl : Int32} {zs : Nat} (h : 0 < tl.toInt) : nI zs = stC tl zs := (if_pos h).symm
theorem stC_n {tl : Int32} {zs : Nat} (h : ¬ 0 < tl.toInt) : -2 = stC tl zs := (if_neg h).symm
def vaC (x y : Int32) (P : Prop) [Decidable P] (b nc zs : Nat) : Int32 := if (P ∧ 0 ≤ x.toInt ∧ x.toInt < (zs : Int)) ∧ (0 ≤ y.toInt ∧ y.toInt < (nc : Int)) then nI (dgt b y.toNatClampNeg x.toNatClampNeg) else -2
theorem vaC_n {x y : Int32} {P : Prop} [Decidable P] {b nc zs : Nat} (h : ¬ ((P ∧ 0 ≤ x.toInt ∧ x.toInt < (zs : Int)) ∧ (0 ≤ y.toInt ∧ y.toInt < (nc : Int)))) : -2 = vaC x y P b nc zs := (if_neg h).symm
theorem vaC_y {i j k b nc zs : Nat} {P : Prop} [Decidable P] (hp : P) (hz : zs ≤ 1000) (hn : nc ≤ 1000) (hi : i < zs) (hj : j < nc) (h : k = dgt b j i) : nI k = vaC (nI i) (nI j) P b nc zs := by
  unfold vaC
  rw [nI_toInt (by omega), nI_toInt (by omega), nI_clamp (by omega), nI_clamp (by omega), if_pos ⟨⟨hp, by omega, by omega⟩, by omega, by omega⟩, h]
def sdg (b s : Nat) : Nat → Nat
  | 0 => 0
  | c + 1 => sdg b s c + dgt b c s
theorem sd_s {b s c v d : Nat} (h : v = sdg b s c) (hd : d = dgt b c s) : v + d = sdg b s (c + 1) := by rw [h, hd]; rfl
def wtC (x : Int32) (P : Prop) [Decidable P] (b nc zs : Nat) : Int32 := if P ∧ 0 ≤ x.toInt ∧ x.toInt < (zs : Int) then nI (sdg b x.toNatClampNeg nc) else -2
theorem wtC_n {x : Int32} {P : Prop} [Decidable P] {b nc zs : Nat} (h : ¬ (P ∧ 0 ≤ x.toInt ∧ x.toInt < (zs : Int))) : -2 = wtC x P b nc zs := (if_neg h).symm
theorem wtC_y {i k b nc zs : Nat} {P : Prop} [Decidable P] (hp : P) (hz : zs ≤ 1000) (hi : i < zs) (h : k = sdg b i nc) : nI k = wtC (nI i) P b nc zs := by
  unfold wtC
  rw [nI_toInt (by omega), nI_clamp (by omega), if_pos ⟨hp, by omega, by omega⟩, h]
theorem nin_s {v : Int64} {n : Nat} (hn : n ≤ 1000) (h : ¬ (0 ≤ v ∧ v ≤ (nI n - (1 : Int32)).toInt64)) : ¬ (0 ≤ v.toInt ∧ v.toInt < (n : Int)) := fun q => h (by
  rw [Int64.le_iff_toInt_le, Int64.le_iff_toInt_le, j0, Int32.toInt_toInt64, nI_m1 hn]
  omega)
theorem dp_sm {li : Int32} {tp nc nr no : Nat} {f1 f2 w : Nat → Int32} (h : DP li tp nc nr no f1 f2 w) (h3 : tp ≤ 3) (h4 : nc ≤ 3) : w 7 = li ∧ wN w 0 = tp ∧ wN w 3 = nc ∧ SM w = (tp + 1) ^ nc := by
  have e0 := wN_of h.1.2.1 (by omega)
  have e3 := wN_of h.1.2.2.1 (by omega)
  exact ⟨h.1.1, e0, e3, by unfold SM; rw [e0, e3]⟩
theorem st_eq {li : Int32} {tp nc nr no zs sc st : Nat} {f1 f2 w fa : Nat → Int32} (h : DP li tp nc nr no f1 f2 w) (hs : SPC li tp nc zs sc st fa) (hl : LT li tp) (h3 : tp ≤ 3) (h4 : nc ≤ 3) : stC li zs = stC (w 7) (SM w) := by
  obtain ⟨e7, -, -, es⟩ := dp_sm h h3 h4
  unfold stC
  rw [e7, es]
  by_cases c : 0 < li.toInt
  · rw [if_pos c, if_pos c, (sp_q hs hl).1 c]
  · rw [if_neg c, if_neg c]
theorem in_eq {li x : Int32} {tp nc nr no zs sc st : Nat} {f1 f2 w fa : Nat → Int32} (h : DP li tp nc nr no f1 f2 w) (hs : SPC li tp nc zs sc st fa) (hl : LT li tp) (h3 : tp ≤ 3) (h4 : nc ≤ 3) : (True ∧ 0 ≤ x.toInt ∧ x.toInt < (zs : Int)) ↔ (0 < (w 7).toInt ∧ 0 ≤ x.toInt ∧ x.toInt < (SM w : Int)) := by
  obtain ⟨e7, -, -, es⟩ := dp_sm h h3 h4
  rw [e7, es]
  by_cases c : 0 < li.toInt
  · rw [(sp_q hs hl).1 c]
    exact ⟨fun q => ⟨c, q.2⟩, fun q => ⟨trivial, q.2⟩⟩
  · rw [(sp_q hs hl).2 c]
    exact ⟨fun q => by omega, fun q => absurd q.1 c⟩
theorem va_eq {li x y : Int32} {tp nc nr no zs sc st : Nat} {f1 f2 w fa : Nat → Int32} (h : DP li tp nc nr no f1 f2 w) (hs : SPC li tp nc zs sc st fa) (hl : LT li tp) (h3 : tp ≤ 3) (h4 : nc ≤ 3) : vaC x y True (tp + 1) nc zs = vaC x y (0 < (w 7).toInt) (wN w 0 + 1) (wN w 3) (SM w) := by
  have hi := in_eq (x := x) h hs hl h3 h4
  obtain ⟨-, e0, e3, -⟩ := dp_sm h h3 h4
  unfold vaC
  rw [e0, e3]
  by_cases c : (True ∧ 0 ≤ x.toInt ∧ x.toInt < (zs : Int)) ∧ (0 ≤ y.toInt ∧ y.toInt < (nc : Int))
  · rw [if_pos c, if_pos ⟨hi.mp c.1, c.2⟩]
  · rw [if_neg c, if_neg (fun q => c ⟨hi.mpr q.1, q.2⟩)]
theorem wt_eq {li x : Int32} {tp nc nr no zs sc st : Nat} {f1 f2 w fa : Nat → Int32} (h : DP li tp nc nr no f1 f2 w) (hs : SPC li tp nc zs sc st fa) (hl : LT li tp) (h3 : tp ≤ 3) (h4 : nc ≤ 3) : wtC x True (tp + 1) nc zs = wtC x (0 < (w 7).toInt) (wN w 0 + 1) (wN w 3) (SM w) := by
  have hi := in_eq (x := x) h hs hl h3 h4
  obtain ⟨-, e0, e3, -⟩ := dp_sm h h3 h4
  unfold wtC
  rw [e0, e3]
  by_cases c : True ∧ 0 ≤ x.toInt ∧ x.toInt < (zs : Int)
  · rw [if_pos c, if_pos (hi.mp c)]
  · rw [if_neg c, if_neg (fun q => c (hi.mpr q))]
/-- a base that was read has its top, its lines -/
theorem exW_z {f : Nat → Int32} {n w : Nat} {q : Int32 × Nat} (h : (exW f n q w).1 = 0) : q.1 = 0 := by
  by_cases e : q.1 = 0
  · exact e
  · unfold exW at h; rw [if_neg e] at h; exact h
theorem nuS_z {f : Nat → Int32} {n lo : Nat} {hi : Int} {q : Int32 × Nat} (h : (nuS f n q lo hi).1 = 0) : q.1 = 0 ∧ lo ≤ (nuS f n q lo hi).2.2 ∧ ((nuS f n q lo hi).2.2 : Int) ≤ hi := by
  unfold nuS at h ⊢
  by_cases e : q.1 = 0
  · rw [if_pos e] at h ⊢
    by_cases e2 : tT f n q.2 = 2
    · rw [if_pos e2] at h ⊢
      by_cases e3 : lo ≤ tV f n q.2 ∧ (tV f n q.2 : Int) ≤ hi
      · rw [if_pos e3]; exact ⟨e, e3⟩
      · rw [if_neg e3] at h; exact absurd h (show ¬ (2 : Int32) = 0 by decide)
    · rw [if_neg e2] at h; exact absurd h (show ¬ (1 : Int32) = 0 by decide)
  · rw [if_neg e] at h; exact absurd h e
theorem hdS_t {f : Nat → Int32} {n s : Nat} {w : Nat → Int32} (h : (hdS f n s w).1 = 0) : (∃ t : Nat, 1 ≤ t ∧ t ≤ 3 ∧ (hdS f n s w).2.2 0 = nI t) ∧ (hdS f n s w).2.2 7 = w 7 := by
  unfold hdS at h ⊢
  dsimp only at h ⊢
  generalize exW f n (exW f n (0, s) 0) 1 = q2 at h ⊢
  have a1 := (nuS_z h).1
  have a2 := exW_z a1
  have a3 := (nuS_z a2).1
  have a4 := exW_z a3
  have a5 := nuS_z a4
  refine ⟨⟨(nuS f n q2 1 ((3 : Nat) : Int)).2.2, a5.2.1, by have := a5.2.2; omega, ?_⟩, ?_⟩
  · rw [upd_ne (by decide), upd_ne (by decide), upd_at]
  · rw [upd_ne (by decide), upd_ne (by decide), upd_ne (by decide)]
theorem putS_07 {w : Nat → Int32} {i kd m j : Nat} {x : S4} (hi : 8 ≤ i) (hj : j < 8) : putS w i kd m x j = w j := by
  unfold putS
  (try dsimp only)
  split
  · rw [upd_ne (by omega), upd_ne (by omega), upd_ne (by omega)]
  · split
    · rw [upd_ne (by omega), upd_ne (by omega), upd_ne (by omega), upd_ne (by omega)]
    · rw [upd_ne (by omega), upd_ne (by omega), upd_ne (by omega), upd_ne (by omega), upd_ne (by omega)]
theorem liS_07 {f : Nat → Int32} {n s : Nat} {w : Nat → Int32} (h : (liS f n s w).1 = 0) : (w 7 = 0 → ∃ t : Nat, 1 ≤ t ∧ t ≤ 3 ∧ (liS f n s w).2.2 0 = nI t) ∧ (¬ w 7 = 0 → (liS f n s w).2.2 0 = w 0) ∧ (liS f n s w).2.2 7 = w 7 := by
  have k3 : ¬ (3 : Int32) = 0 := by decide
  have k1 : ¬ (1 : Int32) = 0 := by decide
  by_cases c : w 7 = 0
  · rw [li_h c] at h ⊢
    have a := hdS_t h
    exact ⟨fun _ => a.1, fun q => absurd c q, a.2⟩
  · by_cases c4 : WD f n s 4
    · rw [li_c c c4] at h ⊢
      unfold ceS at h ⊢
      by_cases d : wN w 3 = 3
      · rw [if_pos d] at h; exact absurd h k3
      · rw [if_neg d] at h ⊢
        by_cases d2 : kdS f n (nx f n s) [5, 6, 7, 8] = 4
        · rw [if_pos d2] at h; exact absurd h k1
        · rw [if_neg d2]
          exact ⟨fun q => absurd q c, fun _ => by dsimp only; rw [upd_ne (by decide), upd_ne (by omega)], by dsimp only; rw [upd_ne (by decide), upd_ne (by omega)]⟩
    · by_cases c9 : WD f n s 9
      · rw [li_r c c4 c9] at h ⊢
        unfold ruL at h ⊢
        by_cases d : wN w 4 = 5
        · rw [if_pos d] at h; exact absurd h k3
        · rw [if_neg d] at h ⊢
          by_cases d2 : kdS f n (nx f n s) [10, 11, 12, 13, 14, 15] = 6
          · rw [if_pos d2] at h; exact absurd h k1
          · rw [if_neg d2]
            exact ⟨fun q => absurd q c, fun _ => by dsimp only; rw [upd_ne (by decide), putS_07 (by omega) (by decide)], by dsimp only; rw [upd_ne (by decide), putS_07 (by omega) (by decide)]⟩
      · by_cases c0 : WD f n s 20
        · rw [li_o c c4 c9 c0] at h ⊢
          unfold opL at h ⊢
          by_cases d : wN w 5 = 5
          · rw [if_pos d] at h; exact absurd h k3
          · rw [if_neg d] at h ⊢
            by_cases d2 : kdS f n (nx f n s) [21, 22, 23, 24] = 4
            · rw [if_pos d2] at h; exact absurd h k1
            · rw [if_neg d2]
              exact ⟨fun q => absurd q c, fun _ => by dsimp only; rw [upd_ne (by decide), putS_07 (by omega) (by decide)], by dsimp only; rw [upd_ne (by decide), putS_07 (by omega) (by decide)]⟩
        · rw [li_x c c4 c9 c0] at h; exact absurd h k1
/-- lines counted, a top that stands -/
def TW (s : Nat) (w : Nat → Int32) : Prop := ∃ m : Nat, m ≤ s ∧ w 7 = nI m ∧ (m = 0 ∨ ∃ t : Nat, 1 ≤ t ∧ t ≤ 3 ∧ w 0 = nI t)
theorem tw_s {f : Nat → Int32} {n s : Nat} {w : Nat → Int32} (hn : n ≤ 1000) (hs : s ≤ n) (hw : TW s w) (h : (lnS f n s w).1 = 0) : TW (lnS f n s w).2.1 (lnS f n s w).2.2 := by
  have hb := lnS_b (f := f) (w := w) hs
  have hl := hb.2.2 h
  have li0 : (liS f n s w).1 = 0 := by
    by_cases e : (liS f n s w).1 = 0
    · exact e
    · rw [ln_n e] at h; exact absurd h e
  have t3 : tT f n (liS f n s w).2.1 = 3 := by
    by_cases e : tT f n (liS f n s w).2.1 = 3
    · exact e
    · rw [ln_1 li0 e] at h; exact absurd h (show ¬ (1 : Int32) = 0 by decide)
  obtain ⟨a, b, c⟩ := liS_07 li0
  rw [ln_y li0 t3] at hb hl ⊢
  obtain ⟨m, hm, e7, e0⟩ := hw
  have hl : s < nx f n (liS f n s w).2.1 := hl
  have hle : nx f n (liS f n s w).2.1 ≤ n := hb.2.1
  refine ⟨m + 1, by show m + 1 ≤ nx f n (liS f n s w).2.1; omega, ?_, Or.inr ?_⟩
  · show upd (liS f n s w).2.2 7 ((liS f n s w).2.2 7 + 1) 7 = nI (m + 1)
    rw [upd_at, c, e7, show (1 : Int32) = nI 1 from rfl, nI_add]
  · show ∃ t : Nat, 1 ≤ t ∧ t ≤ 3 ∧ upd (liS f n s w).2.2 7 ((liS f n s w).2.2 7 + 1) 0 = nI t
    rw [upd_ne (by decide)]
    by_cases q : w 7 = 0
    · exact a q
    · rw [b q]
      rcases e0 with e0 | e0
      · exact absurd (by rw [e7, e0]; rfl) q
      · exact e0
theorem tw_rd {f : Nat → Int32} {n : Nat} (hn : n ≤ 1000) : ∀ m (x : Int32 × Nat × (Nat → Int32)), x.2.1 ≤ n → TW x.2.1 x.2.2 → (rdS f n m x).1 = 0 → (rdS f n m x).2.1 ≤ n ∧ TW (rdS f n m x).2.1 (rdS f n m x).2.2 := by
  intro m
  induction m with
  | zero => intro x hx hw _; exact ⟨hx, hw⟩
  | succ m ih =>
    intro x hx hw h
    by_cases c : x.1 = 0 ∧ ¬ tT f n x.2.1 = 0
    · have e : rdS f n (m + 1) x = rdS f n m (lnS f n x.2.1 x.2.2) := if_pos c
      rw [e] at h ⊢
      have hb := lnS_b (f := f) (w := x.2.2) hx
      by_cases k0 : (lnS f n x.2.1 x.2.2).1 = 0
      · exact ih _ hb.2.1 (tw_s hn hx hw k0) h
      · rw [rd_stop (fun q => k0 q.1)] at h
        exact absurd h k0
    · rw [rd_stop c]
      exact ⟨hx, hw⟩
theorem lt_base {f : Nat → Int32} {n : Nat} {tl tl' : Int32} {tp nc nr no tp' nc' nr' no' : Nat} {f1 f2 g1 g2 : Nat → Int32} (hn : n ≤ 400) (hC : BDC f n tl tp nc nr no f1 f2 tl' tp' nc' nr' no' g1 g2) (h : LT tl tp) (h3 : tp' ≤ 3) : LT tl' tp' := by
  have hc := hC (fun _ => 0) (fun _ _ => rfl)
  by_cases e : (BX f n (fun _ => 0)).1 = 0
  · have hs : tS f n 0 ≤ n := rn_ub (Nat.zero_le _)
    have hw := (tw_rd (f := f) (n := n) (by omega) (n + 1) (0, tS f n 0, fun _ => 0) hs ⟨0, Nat.zero_le _, rfl, Or.inl rfl⟩ e)
    have hd := hc.1 e
    obtain ⟨m, hm, e7, e0⟩ := hw.2
    have hb : (rdS f n (n + 1) (0, tS f n 0, fun _ => 0)).2.1 ≤ n := hw.1
    have e7 : tl' = nI m := hd.1.1.symm.trans e7
    rcases e0 with e0 | ⟨t, t1, t3, et⟩
    · exact Or.inl (by rw [e7, e0]; rfl)
    · rcases Nat.eq_zero_or_pos m with m0 | m0
      · exact Or.inl (by rw [e7, m0]; rfl)
      · refine Or.inr ⟨by rw [e7, nI_toInt (by omega)]; omega, ?_⟩
        have e9 := (nI_eq (a := tp') (b := t) (by omega) (by omega)).mp (hd.1.2.1.symm.trans et)
        omega
  · obtain ⟨rfl, rfl, -⟩ := hc.2 e
    exact h
theorem lt_sam {li li' : Int32} {tp nc nr no tp' nc' nr' no' : Nat} {f1 f2 g1 g2 : Nat → Int32} (hs : SAM li tp nc nr no f1 f2 li' tp' nc' nr' no' g1 g2) (h : LT li tp) : LT li' tp' := by rw [hs.1, hs.2.1]; exact h
theorem lt_img {x : Int32} {k : Nat} {li tl li' : Int32} {tp nc nr no ap ac ar ao tp' nc' nr' no' : Nat} {f1 f2 a1 a2 g1 g2 : Nat → Int32} (hC : IMK x k (SAM tl ap ac ar ao a1 a2 li' tp' nc' nr' no' g1 g2) (SAM li tp nc nr no f1 f2 li' tp' nc' nr' no' g1 g2)) (ht : LT tl ap) (h : LT li tp) : LT li' tp' := by
  by_cases e : 0 = imr x ∧ x.toNatClampNeg = k
  · exact lt_sam (hC.1 e) ht
  · exact lt_sam (hC.2 e) h
theorem lt_back {x : Int32} {m : Nat → Int32} {l0 l1 l2 tl tl' : Int32} {p0 c0 r0 o0 p1 c1 r1 o1 p2 c2 r2 o2 tp nc nr no tp' nc' nr' no' : Nat} {a0 b0 a1 b1 a2 b2 f1 f2 g1 g2 : Nat → Int32}
    (hC : BKC x m (SAM l0 p0 c0 r0 o0 a0 b0 tl' tp' nc' nr' no' g1 g2) (SAM l1 p1 c1 r1 o1 a1 b1 tl' tp' nc' nr' no' g1 g2) (SAM l2 p2 c2 r2 o2 a2 b2 tl' tp' nc' nr' no' g1 g2) (SAM tl tp nc nr no f1 f2 tl' tp' nc' nr' no' g1 g2))
    (ht : LT tl tp) (h0 : LT l0 p0) (h1 : LT l1 p1) (h2 : LT l2 p2) : LT tl' tp' := by
  by_cases e : 0 = bkr x m
  · rcases bkr_3 e with k | k | k
    · exact lt_sam ((hC.1 e).1 k) h0
    · exact lt_sam ((hC.1 e).2.1 k) h1
    · exact lt_sam ((hC.1 e).2.2 k) h2
  · exact lt_sam (hC.2 e) ht
theorem dp_z {f1 f2 w : Nat → Int32} (h : ∀ j, j < 8 → w j = 0) : DP 0 0 0 0 0 f1 f2 w := ⟨⟨h 7 (by decide), h 0 (by decide), h 3 (by decide), h 4 (by decide), h 5 (by decide)⟩, fun k hk => absurd hk (Nat.not_lt_zero k), fun k hk => absurd hk (Nat.not_lt_zero k)⟩
theorem spc_z {fa : Nat → Int32} : SPC 0 0 0 0 0 0 fa := ⟨rfl, rfl, fun _ => rfl, fun q => absurd rfl q.1⟩
theorem rr_dec {f : Nat → Int32} {n s s1 : Nat} {w g : Nat → Int32} {k1 : Int32} (F : RR k1 s1 g (lnS f n s w)) (hs : s ≤ n) : gd k1 + (n - s1) < 1 + (n - s) := by
  have hb := lnS_b (f := f) (w := w) hs
  have e1 : k1 = (lnS f n s w).1 := congrArg (fun x : Int32 × Nat => x.1) F.1
  have e2 : s1 = (lnS f n s w).2.1 := congrArg (fun x : Int32 × Nat => x.2) F.1
  rw [← e1, ← e2] at hb
  by_cases c : k1 = 0
  · have := hb.2.2 c
    rw [gd_1 c]
    omega
  · rw [gd_0 c]
    omega
