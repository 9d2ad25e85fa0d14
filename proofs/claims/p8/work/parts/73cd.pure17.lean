/-! own lemmas: what is told against the reference's world, images, acts -/
def DP (li : Int32) (tp nc nr no : Nat) (f1 f2 w : Nat → Int32) : Prop := (w 7 = li ∧ w 0 = nI tp ∧ w 3 = nI nc ∧ w 4 = nI nr ∧ w 5 = nI no) ∧ (∀ r, r < nr → RRow f1 w r) ∧ (∀ o, o < no → ORow f2 w o)
theorem dp_of {li lw od : Int32} {tp nc nr no : Nat} {f0 f1 f2 w : Nat → Int32} (h : DR li tp lw od nc nr no f0 f1 f2 w) : DP li tp nc nr no f1 f2 w := ⟨⟨h.1.1, h.1.2.1, h.1.2.2.2.2.1, h.1.2.2.2.2.2.1, h.1.2.2.2.2.2.2⟩, h.2.2.1, h.2.2.2⟩
/-- rows alike where a base is told -/
def KP (w v : Nat → Int32) : Prop := ∀ j, j < 56 → j ≠ 6 → (j < 8 ∨ 11 ≤ j) → v j = w j
theorem kp_r {w : Nat → Int32} : KP w w := fun _ _ _ _ => rfl
theorem kp_6 {w v : Nat → Int32} {x : Int32} (h : KP w v) : KP w (upd v 6 x) := fun j h1 h2 h3 => by rw [upd_ne h2]; exact h j h1 h2 h3
theorem kp_i {w v : Nat → Int32} {k : Nat} {x : Int32} (h : KP w v) (hk : k < 2 ^ 31) (hb : 56 ≤ k ∨ (8 ≤ k ∧ k ≤ 10)) : KP w (upd v (nI k).toNatClampNeg x) := fun j h1 h2 h3 => by rw [nI_clamp hk, upd_ne (by omega)]; exact h j h1 h2 h3
theorem kp_76 {w v : Nat → Int32} (h : ∀ j, j < 76 → v j = w j) : KP w v := fun j h1 _ _ => h j (by omega)
theorem kp_t {w v u : Nat → Int32} (h : KP w v) (h' : KP v u) : KP w u := fun j h1 h2 h3 => (h' j h1 h2 h3).trans (h j h1 h2 h3)
theorem dp_c {li : Int32} {tp nc nr no : Nat} {f1 f2 g1 g2 w v : Nat → Int32} (h : DP li tp nc nr no f1 f2 w) (hr : nr ≤ 5) (ho : no ≤ 5) (h1 : ∀ j, j < 25 → g1 j = f1 j) (h2 : ∀ j, j < 20 → g2 j = f2 j) (hw : KP w v) : DP li tp nc nr no g1 g2 v := by
  obtain ⟨⟨a7, a0, a3, a4, a5⟩, b, c⟩ := h
  have k : ∀ j, j < 56 → j ≠ 6 → (j < 8 ∨ 11 ≤ j) → v j = w j := hw
  refine ⟨⟨(k 7 (by omega) (by omega) (by omega)).trans a7, (k 0 (by omega) (by omega) (by omega)).trans a0, (k 3 (by omega) (by omega) (by omega)).trans a3, (k 4 (by omega) (by omega) (by omega)).trans a4, (k 5 (by omega) (by omega) (by omega)).trans a5⟩, fun r q => ?_, fun o q => ?_⟩
  · exact rrow_c (b r q) (fun j hj => h1 _ (by omega)) (fun j hj => k _ (by omega) (by omega) (by omega))
  · exact orow_c (c o q) (fun j hj => h2 _ (by omega)) (fun j hj => k _ (by omega) (by omega) (by omega))
theorem cpy_in {f g : Nat → Int32} {n j : Nat} (h : j < n) : va_cpy f g 0 0 n j = f j := by
  unfold va_cpy
  rw [if_pos (by omega)]
  congr 1
  omega
/-- what base() leaves of what is told, on both sides -/
def BDC (f : Nat → Int32) (n : Nat) (tl : Int32) (tp nc nr no : Nat) (f1 f2 : Nat → Int32) (tl' : Int32) (tp' nc' nr' no' : Nat) (g1 g2 : Nat → Int32) : Prop := ∀ w0, Z76 w0 → ((BX f n w0).1 = 0 → DP tl' tp' nc' nr' no' g1 g2 (BX f n w0).2.2) ∧ (¬ (BX f n w0).1 = 0 → tl' = tl ∧ tp' = tp ∧ nc' = nc ∧ nr' = nr ∧ no' = no ∧ g1 = f1 ∧ g2 = f2)
def BDR (f : Nat → Int32) (n : Nat) (w v : Nat → Int32) : Prop := ∃ w0, Z76 w0 ∧ ((BX f n w0).1 = 0 → ∀ j, j < 76 → v j = (BX f n w0).2.2 j) ∧ (¬ (BX f n w0).1 = 0 → v = w)
theorem bd_n {f : Nat → Int32} {n s : Nat} {k tl : Int32} {tp nc nr no : Nat} {f1 f2 : Nat → Int32} (h : ∀ w0, Z76 w0 → (RD f n (0, tS f n 0, w0)).1 = k ∧ (RD f n (0, tS f n 0, w0)).2.1 = s) (hk : ¬ k = 0) : BDC f n tl tp nc nr no f1 f2 tl tp nc nr no f1 f2 := fun w0 h0 => ⟨fun e => absurd ((h w0 h0).1.symm.trans e) hk, fun _ => ⟨rfl, rfl, rfl, rfl, rfl, rfl, rfl⟩⟩
theorem bd_y {f : Nat → Int32} {n : Nat} {tl li lw od : Int32} {tp nc nr no tp' nc' nr' no' : Nat} {f1 f2 g0 g1 g2 x1 x2 : Nat → Int32} (hr : nr' ≤ 5) (ho : no' ≤ 5) (h : ∀ w0, Z76 w0 → (RD f n (0, tS f n 0, w0)).1 = 0 ∧ DR li tp' lw od nc' nr' no' g0 g1 g2 (RD f n (0, tS f n 0, w0)).2.2) : BDC f n tl tp nc nr no f1 f2 li tp' nc' nr' no' (va_cpy g1 x1 0 0 25) (va_cpy g2 x2 0 0 20) := fun w0 h0 => ⟨fun _ => dp_c (dp_of (h w0 h0).2) hr ho (fun j hj => cpy_in hj) (fun j hj => cpy_in hj) kp_r, fun e => absurd (h w0 h0).1 e⟩
theorem bdr_n {f : Nat → Int32} {n s : Nat} {k : Int32} {w0 w u : Nat → Int32} (hz : Z76 w0) (h : RRI f n (tS f n 0) w0 k s w) (hk : ¬ k = 0) : BDR f n u u := ⟨w0, hz, fun e => absurd ((h.2 hk).1.symm.trans e) hk, fun _ => rfl⟩
theorem bdr_y {f : Nat → Int32} {n s : Nat} {k : Int32} {w0 w u v : Nat → Int32} (hz : Z76 w0) (h : RRI f n (tS f n 0) w0 k s w) (hk : k = 0) (ht : tT f n s = 0) (hv : ∀ j, j < 76 → v j = w j) : BDR f n u v := by
  have e := h.1 hk
  rw [RD_e (x := (0, s, w)) (Or.inr ht)] at e
  have e : BX f n w0 = (0, s, w) := e
  exact ⟨w0, hz, fun _ j hj => by rw [e]; exact hv j hj, fun q => absurd (by rw [e]) q⟩
theorem dp_base {f : Nat → Int32} {n : Nat} {tl tl' : Int32} {tp nc nr no tp' nc' nr' no' : Nat} {f1 f2 g1 g2 w v : Nat → Int32} (hC : BDC f n tl tp nc nr no f1 f2 tl' tp' nc' nr' no' g1 g2) (hR : BDR f n w v) (h : DP tl tp nc nr no f1 f2 w) (hr : nr' ≤ 5) (ho : no' ≤ 5) : DP tl' tp' nc' nr' no' g1 g2 v := by
  obtain ⟨w0, h0, hy, hn⟩ := hR
  by_cases e : (BX f n w0).1 = 0
  · exact dp_c ((hC w0 h0).1 e) hr ho (fun _ _ => rfl) (fun _ _ => rfl) (kp_76 (hy e))
  · obtain ⟨rfl, rfl, rfl, rfl, rfl, rfl, rfl⟩ := (hC w0 h0).2 e
    rw [hn e]
    exact h
/-- images kept and gone back to -/
def SAM (li : Int32) (tp nc nr no : Nat) (f1 f2 : Nat → Int32) (li' : Int32) (tp' nc' nr' no' : Nat) (g1 g2 : Nat → Int32) : Prop := li' = li ∧ tp' = tp ∧ nc' = nc ∧ nr' = nr ∧ no' = no ∧ (∀ j, j < 25 → g1 j = f1 j) ∧ (∀ j, j < 20 → g2 j = f2 j)
theorem sam_r {li : Int32} {tp nc nr no : Nat} {f1 f2 : Nat → Int32} : SAM li tp nc nr no f1 f2 li tp nc nr no f1 f2 := ⟨rfl, rfl, rfl, rfl, rfl, fun _ _ => rfl, fun _ _ => rfl⟩
theorem sam_c {li : Int32} {tp nc nr no : Nat} {f1 f2 x1 x2 : Nat → Int32} : SAM li tp nc nr no f1 f2 li tp nc nr no (va_cpy f1 x1 0 0 25) (va_cpy f2 x2 0 0 20) := ⟨rfl, rfl, rfl, rfl, rfl, fun _ hj => cpy_in hj, fun _ hj => cpy_in hj⟩
theorem dp_sam {li li' : Int32} {tp nc nr no tp' nc' nr' no' : Nat} {f1 f2 g1 g2 w v : Nat → Int32} (hs : SAM li tp nc nr no f1 f2 li' tp' nc' nr' no' g1 g2) (h : DP li tp nc nr no f1 f2 w) (hr : nr ≤ 5) (ho : no ≤ 5) (hw : KP w v) : DP li' tp' nc' nr' no' g1 g2 v := by
  obtain ⟨rfl, rfl, rfl, rfl, rfl, h1, h2⟩ := hs
  exact dp_c h hr ho h1 h2 hw
def IMK (x : Int32) (k : Nat) (A B : Prop) : Prop := ((0 = imr x ∧ x.toNatClampNeg = k) → A) ∧ (¬ (0 = imr x ∧ x.toNatClampNeg = k) → B)
theorem imk_y2 {x : Int32} {k : Nat} {A B : Prop} (h : 0 = imr x) (hk : x.toNatClampNeg = k) (ha : A) : IMK x k A B := ⟨fun _ => ha, fun q => absurd ⟨h, hk⟩ q⟩
theorem imk_o2 {x : Int32} {k : Nat} {A B : Prop} (hk : ¬ x.toNatClampNeg = k) (hb : B) : IMK x k A B := ⟨fun q => absurd q.2 hk, fun _ => hb⟩
theorem imk_n2 {x : Int32} {k : Nat} {A B : Prop} (h : -2 = imr x) (hb : B) : IMK x k A B := ⟨fun q => absurd (h.trans q.1.symm) (by decide), fun _ => hb⟩
def IMR (x : Int32) (w f g : Nat → Int32) : Prop := ∀ k, k < 3 → IMK x k (∀ j, j < 76 → g (76 * k + j) = w j) (∀ j, j < 76 → g (76 * k + j) = f (76 * k + j))
theorem imr_y {x : Int32} {w f g : Nat → Int32} {k i : Nat} (h : 0 = imr x) (hx : x.toNatClampNeg = k) (hi : i = 76) (h1 : ∀ j, j < i → g (76 * k + j) = w j) (h2 : ∀ j, (j < 76 * k ∨ 76 * k + 76 ≤ j) → g j = f j) : IMR x w f g := fun q hq => by
  subst hi
  by_cases e : x.toNatClampNeg = q
  · have e2 : k = q := hx.symm.trans e
    subst e2
    exact imk_y2 h e h1
  · exact imk_o2 e (fun j hj => h2 _ (by omega))
theorem imr_n {x : Int32} {w f : Nat → Int32} (h : -2 = imr x) : IMR x w f f := fun q hq => imk_n2 h (fun _ _ => rfl)
theorem dp_img {x : Int32} {k : Nat} {li tl li' : Int32} {tp nc nr no ap ac ar ao tp' nc' nr' no' : Nat} {f1 f2 a1 a2 g1 g2 w f g : Nat → Int32} (hk : k < 3) (hC : IMK x k (SAM tl ap ac ar ao a1 a2 li' tp' nc' nr' no' g1 g2) (SAM li tp nc nr no f1 f2 li' tp' nc' nr' no' g1 g2)) (hR : IMR x w f g) (ht : DP tl ap ac ar ao a1 a2 w) (h : DP li tp nc nr no f1 f2 (fun j => f (76 * k + j))) (b : ar ≤ 5 ∧ ao ≤ 5 ∧ nr ≤ 5 ∧ no ≤ 5) : DP li' tp' nc' nr' no' g1 g2 (fun j => g (76 * k + j)) := by
  by_cases e : 0 = imr x ∧ x.toNatClampNeg = k
  · exact dp_sam (hC.1 e) ht b.1 b.2.1 (kp_76 ((hR k hk).1 e))
  · exact dp_sam (hC.2 e) h b.2.2.1 b.2.2.2 (kp_76 ((hR k hk).2 e))
def BKR (x : Int32) (m w f v : Nat → Int32) : Prop := (0 = bkr x m → ∀ j, j < 76 → v j = f (76 * x.toNatClampNeg + j)) ∧ (¬ 0 = bkr x m → v = w)
def BKC (x : Int32) (m : Nat → Int32) (A0 A1 A2 B : Prop) : Prop := (0 = bkr x m → (x.toNatClampNeg = 0 → A0) ∧ (x.toNatClampNeg = 1 → A1) ∧ (x.toNatClampNeg = 2 → A2)) ∧ (¬ 0 = bkr x m → B)
theorem bkc_n {x r : Int32} {m : Nat → Int32} {A0 A1 A2 B : Prop} (h : r = bkr x m) (hr : ¬ r = 0) (hb : B) : BKC x m A0 A1 A2 B := ⟨fun e => absurd (h.trans e.symm) hr, fun _ => hb⟩
theorem bkc_0 {m : Nat → Int32} {A0 A1 A2 B : Prop} (h : 0 = bkr 0 m) (ha : A0) : BKC 0 m A0 A1 A2 B := ⟨fun _ => ⟨fun _ => ha, fun e => absurd e (by decide), fun e => absurd e (by decide)⟩, fun e => absurd h e⟩
theorem bkc_1 {m : Nat → Int32} {A0 A1 A2 B : Prop} (h : 0 = bkr 1 m) (ha : A1) : BKC 1 m A0 A1 A2 B := ⟨fun _ => ⟨fun e => absurd e (by decide), fun _ => ha, fun e => absurd e (by decide)⟩, fun e => absurd h e⟩
theorem bkc_2 {m : Nat → Int32} {A0 A1 A2 B : Prop} (h : 0 = bkr 2 m) (ha : A2) : BKC 2 m A0 A1 A2 B := ⟨fun _ => ⟨fun e => absurd e (by decide), fun e => absurd e (by decide), fun _ => ha⟩, fun e => absurd h e⟩
theorem bkr_n {x r : Int32} {m w f : Nat → Int32} (h : r = bkr x m) (hr : ¬ r = 0) : BKR x m w f w := ⟨fun e => absurd (h.trans e.symm) hr, fun _ => rfl⟩
theorem bkr_y {x : Int32} {m w f v : Nat → Int32} {k i : Nat} (h : 0 = bkr x m) (hx : x.toNatClampNeg = k) (hi : i = 76) (hv : ∀ j, j < i → v j = f (76 * k + j)) : BKR x m w f v := ⟨fun _ j hj => by subst hi; rw [hx]; exact hv j hj, fun e => absurd h e⟩
theorem bkr_3 {x : Int32} {m : Nat → Int32} (h : 0 = bkr x m) : x.toNatClampNeg = 0 ∨ x.toNatClampNeg = 1 ∨ x.toNatClampNeg = 2 := by
  unfold bkr at h
  by_cases e : 0 ≤ x.toInt ∧ x.toInt ≤ 2
  · unfold Int32.toNatClampNeg; omega
  · rw [if_neg e] at h; exact absurd h (by decide)
theorem dp_back {x : Int32} {m w f v : Nat → Int32} {l0 l1 l2 tl tl' : Int32} {p0 c0 r0 o0 p1 c1 r1 o1 p2 c2 r2 o2 tp nc nr no tp' nc' nr' no' : Nat} {a0 b0 a1 b1 a2 b2 f1 f2 g1 g2 : Nat → Int32}
    (hC : BKC x m (SAM l0 p0 c0 r0 o0 a0 b0 tl' tp' nc' nr' no' g1 g2) (SAM l1 p1 c1 r1 o1 a1 b1 tl' tp' nc' nr' no' g1 g2) (SAM l2 p2 c2 r2 o2 a2 b2 tl' tp' nc' nr' no' g1 g2) (SAM tl tp nc nr no f1 f2 tl' tp' nc' nr' no' g1 g2)) (hR : BKR x m w f v)
    (ht : DP tl tp nc nr no f1 f2 w) (h0 : DP l0 p0 c0 r0 o0 a0 b0 (fun j => f (76 * 0 + j))) (h1 : DP l1 p1 c1 r1 o1 a1 b1 (fun j => f (76 * 1 + j))) (h2 : DP l2 p2 c2 r2 o2 a2 b2 (fun j => f (76 * 2 + j)))
    (b : nr ≤ 5 ∧ no ≤ 5 ∧ r0 ≤ 5 ∧ o0 ≤ 5 ∧ r1 ≤ 5 ∧ o1 ≤ 5 ∧ r2 ≤ 5 ∧ o2 ≤ 5) : DP tl' tp' nc' nr' no' g1 g2 v := by
  by_cases e : 0 = bkr x m
  · have hv := hR.1 e
    rcases bkr_3 e with k | k | k
    · rw [k] at hv; exact dp_sam ((hC.1 e).1 k) h0 b.2.2.1 b.2.2.2.1 (kp_76 hv)
    · rw [k] at hv; exact dp_sam ((hC.1 e).2.1 k) h1 b.2.2.2.2.1 b.2.2.2.2.2.1 (kp_76 hv)
    · rw [k] at hv; exact dp_sam ((hC.1 e).2.2 k) h2 b.2.2.2.2.2.2.1 b.2.2.2.2.2.2.2 (kp_76 hv)
  · rw [hR.2 e]
    exact dp_sam (hC.2 e) ht b.1 b.2.1 kp_r
/-- rule() and op(), on both sides -/
def rowC (x y : Int32) (n m b : Nat) (f : Nat → Int32) : Int32 := if (0 ≤ x.toInt ∧ x.toInt < (n : Int)) ∧ (0 ≤ y.toInt ∧ y.toInt ≤ (m : Int)) then f (b * x.toNatClampNeg + y.toNatClampNeg) else -2
def rnm (x : Int32) : Int32 := if x = 3 then 3 else if x = 5 then 4 else 2
def onm (x : Int32) : Int32 := if x = 3 then 3 else 2
def rowR (q : Int32 → Int32) (x y : Int32) (n m b h : Nat) (w : Nat → Int32) : Int32 := if (0 ≤ x.toInt ∧ x.toInt < (n : Int)) ∧ (0 ≤ y.toInt ∧ y.toInt ≤ (m : Int)) then (if y ≤ q (w (h + b * x.toNatClampNeg)) then w (h + b * x.toNatClampNeg + y.toNatClampNeg) else -1) else -2
theorem rowC_n {x y : Int32} {n m b : Nat} {f : Nat → Int32} (h : ¬ ((0 ≤ x.toInt ∧ x.toInt < (n : Int)) ∧ (0 ≤ y.toInt ∧ y.toInt ≤ (m : Int)))) : -2 = rowC x y n m b f := (if_neg h).symm
theorem rowC_y {i j n m b k : Nat} {f : Nat → Int32} {r : Int32} (hn : n < 2 ^ 31) (hm : m < 2 ^ 31) (hi : i < n) (hj : j ≤ m) (e : k = b * i + j) (hr : r = f k) : r = rowC (nI i) (nI j) n m b f := by
  unfold rowC
  rw [nI_toInt (by omega), nI_toInt (by omega), nI_clamp (by omega), nI_clamp (by omega), if_pos (by omega), ← e]
  exact hr
theorem rowR_n {q : Int32 → Int32} {x y : Int32} {n m b h : Nat} {w : Nat → Int32} (hh : ¬ ((0 ≤ x.toInt ∧ x.toInt < (n : Int)) ∧ (0 ≤ y.toInt ∧ y.toInt ≤ (m : Int)))) : -2 = rowR q x y n m b h w := (if_neg hh).symm
theorem rowR_1 {q : Int32 → Int32} {i j n m b h k : Nat} {w : Nat → Int32} (hn : n < 2 ^ 31) (hm : m < 2 ^ 31) (hi : i < n) (hj : j ≤ m) (e : k = h + b * i) (c : nI j > q (w k)) : -1 = rowR q (nI i) (nI j) n m b h w := by
  unfold rowR
  rw [nI_toInt (by omega), nI_toInt (by omega), nI_clamp (by omega), if_pos (by omega), ← e, if_neg (Int32.not_le.mpr c)]
theorem rowR_y {q : Int32 → Int32} {i j n m b h k k2 : Nat} {w : Nat → Int32} {r : Int32} (hn : n < 2 ^ 31) (hm : m < 2 ^ 31) (hi : i < n) (hj : j ≤ m) (e : k = h + b * i) (c : ¬ nI j > q (w k)) (e2 : k2 = h + b * i + j) (hr : r = w k2) : r = rowR q (nI i) (nI j) n m b h w := by
  unfold rowR
  rw [nI_toInt (by omega), nI_toInt (by omega), nI_clamp (by omega), nI_clamp (by omega), if_pos (by omega), ← e, if_pos (Int32.not_lt.mp c), e, ← e2]
  exact hr
theorem rnm_k : ∀ kd, kd < 6 → rnm (nI kd) = nI (ruM kd) := by decide +kernel
theorem onm_k : ∀ kd, kd < 4 → onm (nI kd) = nI (opM kd) := by decide +kernel
theorem ru_eq {x y li : Int32} {tp nc nr no : Nat} {f1 f2 w : Nat → Int32} (h : DP li tp nc nr no f1 f2 w) (hr : nr ≤ 5) : rowC x y nr 4 5 f1 = rowR rnm x y (wN w 4) 4 5 11 w := by
  have e4 : wN w 4 = nr := wN_of h.1.2.2.2.1 (by omega)
  unfold rowC rowR
  rw [e4]
  by_cases c : (0 ≤ x.toInt ∧ x.toInt < (nr : Int)) ∧ (0 ≤ y.toInt ∧ y.toInt ≤ ((4 : Nat) : Int))
  · rw [if_pos c, if_pos c]
    obtain ⟨i, hi, rfl⟩ := ex_i (k := x) (n := nr) c.1 (by omega)
    obtain ⟨j, hj, rfl⟩ := ex_i (k := y) (n := 5) ⟨c.2.1, by omega⟩ (by omega)
    rw [nI_clamp (by omega), nI_clamp (by omega)]
    obtain ⟨kd, h1, h2, h3, h4, h5⟩ := h.2.1 i hi
    have hm := ruM_b kd
    rw [h3, rnm_k kd h1]
    by_cases q : j ≤ ruM kd
    · rw [if_pos ((nI_leI (by omega) (by omega)).mpr q)]
      rcases Nat.eq_zero_or_pos j with rfl | hp
      · rw [Nat.add_zero, Nat.add_zero, h2, h3]
      · exact h4 j hp q
    · rw [if_neg (fun z => q ((nI_leI (by omega) (by omega)).mp z))]
      exact h5 j (by omega) hj
  · rw [if_neg c, if_neg c]
theorem op_eq {x y li : Int32} {tp nc nr no : Nat} {f1 f2 w : Nat → Int32} (h : DP li tp nc nr no f1 f2 w) (hr : no ≤ 5) : rowC x y no 3 4 f2 = rowR onm x y (wN w 5) 3 4 36 w := by
  have e4 : wN w 5 = no := wN_of h.1.2.2.2.2 (by omega)
  unfold rowC rowR
  rw [e4]
  by_cases c : (0 ≤ x.toInt ∧ x.toInt < (no : Int)) ∧ (0 ≤ y.toInt ∧ y.toInt ≤ ((3 : Nat) : Int))
  · rw [if_pos c, if_pos c]
    obtain ⟨i, hi, rfl⟩ := ex_i (k := x) (n := no) c.1 (by omega)
    obtain ⟨j, hj, rfl⟩ := ex_i (k := y) (n := 4) ⟨c.2.1, by omega⟩ (by omega)
    rw [nI_clamp (by omega), nI_clamp (by omega)]
    obtain ⟨kd, h1, h2, h3, h4, h5⟩ := h.2.2 i hi
    have hm := opM_b kd
    rw [h3, onm_k kd h1]
    by_cases q : j ≤ opM kd
    · rw [if_pos ((nI_leI (by omega) (by omega)).mpr q)]
      rcases Nat.eq_zero_or_pos j with rfl | hp
      · rw [Nat.add_zero, Nat.add_zero, h2, h3]
      · exact h4 j hp q
    · rw [if_neg (fun z => q ((nI_leI (by omega) (by omega)).mp z))]
      exact h5 j (by omega) hj
  · rw [if_neg c, if_neg c]
theorem ncell {x : Int32} {n : Nat} (hn : n < 2 ^ 31) (h : x ≥ nI n) : ¬ (0 ≤ x.toInt ∧ x.toInt < (n : Int)) := fun q => by
  rw [ge_iff_le, Int32.le_iff_toInt_le, nI_toInt hn] at h
  omega
theorem ncell2 {x : Int32} {n : Nat} (hn : n < 2 ^ 31) (h : ¬ x < nI n) : ¬ (0 ≤ x.toInt ∧ x.toInt < (n : Int)) := ncell hn (Int32.not_lt.mp h)
theorem nin_c {x : Int32} {n : Nat} (hn : n ≤ 1000) (h : ¬ (0 ≤ x.toInt64 ∧ x.toInt64 ≤ (nI n - (1 : Int32)).toInt64)) : ¬ (0 ≤ x.toInt ∧ x.toInt < (n : Int)) := fun q => h ((in_32 0 ((n : Int) - 1) j0 (by rw [Int32.toInt_toInt64, nI_m1 hn])).mpr (by omega))
theorem le_n0 {x : Int32} {m : Nat} (h : x < 0) : ¬ (0 ≤ x.toInt ∧ x.toInt ≤ (m : Int)) := fun q => by rw [Int32.lt_iff_toInt_lt, i0] at h; omega
theorem le_n4 {x : Int32} (h : ¬ x < 5) : ¬ (0 ≤ x.toInt ∧ x.toInt ≤ ((4 : Nat) : Int)) := fun q => by rw [Int32.lt_iff_toInt_lt, i5] at h; omega
theorem le_n3 {x : Int32} (h : ¬ x < 4) : ¬ (0 ≤ x.toInt ∧ x.toInt ≤ ((3 : Nat) : Int)) := fun q => by rw [Int32.lt_iff_toInt_lt, i4] at h; omega
