/-! own lemmas: lines of the class's reader; whole tapes, for both -/
theorem hd_y {f : Nat → Int32} {n s s1 : Nat} {li lw od lw' od' : Int32} {tp tp' nc nr no : Nat} {f0 f1 f2 : Nat → Int32} (hl : li = 0) (H : ∀ w : Nat → Int32, hdS f n s w = (0, s1, upd (upd (upd w 0 (nI tp')) 1 lw') 2 od')) : LY f n s s1 (DR li tp lw od nc nr no f0 f1 f2) (DR li tp' lw' od' nc nr no f0 f1 f2) := fun w h => by
  rw [li_h (by rw [h.1.1]; exact hl), H w]
  exact ⟨rfl, rfl, dr_head h⟩
theorem hd_n {f : Nat → Int32} {n s s1 : Nat} {k li lw od : Int32} {tp nc nr no : Nat} {f0 f1 f2 : Nat → Int32} (hl : li = 0) (H : ∀ w : Nat → Int32, (hdS f n s w).1 = k ∧ (hdS f n s w).2.1 = s1) : LN f n s s1 k (DR li tp lw od nc nr no f0 f1 f2) := fun w h => by
  rw [li_h (by rw [h.1.1]; exact hl)]
  exact H w
theorem x_n {f : Nat → Int32} {n s s1 : Nat} {k li lw od : Int32} {tp nc nr no : Nat} {f0 f1 f2 : Nat → Int32} (hl : ¬ li = 0) (h4 : ¬ WD f n s 4) (h9 : ¬ WD f n s 9) (h0 : ¬ WD f n s 20) (e1 : k = 1) (e2 : s1 = s) : LN f n s s1 k (DR li tp lw od nc nr no f0 f1 f2) := fun w h => by
  rw [li_x (by rw [h.1.1]; exact hl) h4 h9 h0, e1, e2]
  exact ⟨rfl, rfl⟩
/-- a line read, a line at fault -/
def LZ (f : Nat → Int32) (n s s1 : Nat) (P Q : (Nat → Int32) → Prop) : Prop := ∀ w, P w → (lnS f n s w).1 = 0 ∧ (lnS f n s w).2.1 = s1 ∧ Q (lnS f n s w).2.2
def LM (f : Nat → Int32) (n s s1 : Nat) (k : Int32) (P : (Nat → Int32) → Prop) : Prop := ∀ w, P w → (lnS f n s w).1 = k ∧ (lnS f n s w).2.1 = s1
theorem lz_y {f : Nat → Int32} {n s s1 s2 : Nat} {P : (Nat → Int32) → Prop} {li lw od : Int32} {tp nc nr no : Nat} {f0 f1 f2 : Nat → Int32} (h : LY f n s s1 P (DR li tp lw od nc nr no f0 f1 f2)) (t : tT f n s1 = 3) (e : s2 = nx f n s1) : LZ f n s s2 P (DR (li + 1) tp lw od nc nr no f0 f1 f2) := fun w hw => by
  obtain ⟨a, b, c⟩ := h w hw
  rw [ln_y a (by rw [b]; exact t)]
  exact ⟨rfl, by rw [e, ← b], dr_line c⟩
theorem lm_1 {f : Nat → Int32} {n s s1 : Nat} {k : Int32} {P Q : (Nat → Int32) → Prop} (h : LY f n s s1 P Q) (t : ¬ tT f n s1 = 3) (e : k = 1) : LM f n s s1 k P := fun w hw => by
  obtain ⟨a, b, c⟩ := h w hw
  rw [ln_1 a (by rw [b]; exact t), e]
  exact ⟨rfl, b⟩
theorem lm_n {f : Nat → Int32} {n s s1 : Nat} {k : Int32} {P : (Nat → Int32) → Prop} (h : LN f n s s1 k P) (hk : ¬ k = 0) : LM f n s s1 k P := fun w hw => by
  obtain ⟨a, b⟩ := h w hw
  rw [ln_n (by rw [a]; exact hk)]
  exact ⟨a, b⟩
def Z76 (w : Nat → Int32) : Prop := ∀ j, j < 76 → w j = 0
theorem dr_z {w f0 f1 f2 : Nat → Int32} (h : Z76 w) : DR 0 0 0 0 0 0 0 f0 f1 f2 w :=
  ⟨⟨h 7 (by decide), h 0 (by decide), h 1 (by decide), h 2 (by decide), h 3 (by decide), h 4 (by decide), h 5 (by decide)⟩, fun k hk => absurd hk (Nat.not_lt_zero k), fun k hk => absurd hk (Nat.not_lt_zero k), fun k hk => absurd hk (Nat.not_lt_zero k)⟩
/-- from a row of noughts at a on, so far read up to s -/
def RDI (f : Nat → Int32) (n a s : Nat) (P : (Nat → Int32) → Prop) : Prop := ∀ w0, Z76 w0 → ∃ w, P w ∧ RD f n (0, a, w0) = RD f n (0, s, w)
theorem rdi_0 {f : Nat → Int32} {n a s : Nat} {P : (Nat → Int32) → Prop} (e : s = a) (h : ∀ w0, Z76 w0 → P w0) : RDI f n a s P := fun w0 h0 => ⟨w0, h w0 h0, by rw [e]⟩
theorem rdi_s {f : Nat → Int32} {n a s s1 : Nat} {P Q : (Nat → Int32) → Prop} (h : RDI f n a s P) (hs : s ≤ n) (ht : ¬ tT f n s = 0) (F : LZ f n s s1 P Q) : RDI f n a s1 Q := fun w0 h0 => by
  obtain ⟨w, hw, e⟩ := h w0 h0
  obtain ⟨x, y, z⟩ := F w hw
  refine ⟨(lnS f n s w).2.2, z, e.trans ?_⟩
  rw [RD_s hs rfl ht]
  have e3 : lnS f n s w = (0, s1, (lnS f n s w).2.2) := Prod.ext x (Prod.ext y rfl)
  exact congrArg (RD f n) e3
theorem rdi_e {f : Nat → Int32} {n a s : Nat} {P : (Nat → Int32) → Prop} (h : RDI f n a s P) (ht : tT f n s = 0) : ∀ w0, Z76 w0 → (RD f n (0, a, w0)).1 = 0 ∧ P (RD f n (0, a, w0)).2.2 := fun w0 h0 => by
  obtain ⟨w, hw, e⟩ := h w0 h0
  rw [e, RD_e (Or.inr ht)]
  exact ⟨rfl, hw⟩
theorem rdi_n {f : Nat → Int32} {n a s s1 : Nat} {k : Int32} {P : (Nat → Int32) → Prop} (h : RDI f n a s P) (hs : s ≤ n) (ht : ¬ tT f n s = 0) (F : LM f n s s1 k P) (hk : ¬ k = 0) : ∀ w0, Z76 w0 → (RD f n (0, a, w0)).1 = k ∧ (RD f n (0, a, w0)).2.1 = s1 := fun w0 h0 => by
  obtain ⟨w, hw, e⟩ := h w0 h0
  obtain ⟨x, y⟩ := F w hw
  rw [e, RD_s hs rfl ht, RD_e (Or.inl (by rw [x]; exact hk))]
  exact ⟨x, y⟩
/-- what base() answers, its fault's place -/
def bsR (x : Int32 × Nat × (Nat → Int32)) : Int32 := if x.1 = 0 then x.2.2 7 else -4
def bsF (x : Int32 × Nat × (Nat → Int32)) : Int32 := if x.1 = 0 then -1 else nI x.2.1
noncomputable def BX (f : Nat → Int32) (n : Nat) (w0 : Nat → Int32) : Int32 × Nat × (Nat → Int32) := RD f n (0, tS f n 0, w0)
def BSP (f : Nat → Int32) (n : Nat) (r k p : Int32) (w0 : Nat → Int32) : Prop := r = bsR (BX f n w0) ∧ k = (BX f n w0).1 ∧ p = bsF (BX f n w0)
def BSC (f : Nat → Int32) (n : Nat) (r k p : Int32) : Prop := ∀ w0, Z76 w0 → BSP f n r k p w0
def BSR (f : Nat → Int32) (n : Nat) (r k p : Int32) : Prop := ∃ w0, Z76 w0 ∧ BSP f n r k p w0
theorem bs_eq {f : Nat → Int32} {n : Nat} {r k p r' k' p' : Int32} (h : BSC f n r k p) (h' : BSR f n r' k' p') : r = r' ∧ k = k' ∧ p = p' := by
  obtain ⟨w0, h0, a, b, c⟩ := h'
  obtain ⟨a', b', c'⟩ := h w0 h0
  exact ⟨a'.trans a.symm, b'.trans b.symm, c'.trans c.symm⟩
theorem bs_n {f : Nat → Int32} {n s : Nat} {k p : Int32} (h : ∀ w0, Z76 w0 → (RD f n (0, tS f n 0, w0)).1 = k ∧ (RD f n (0, tS f n 0, w0)).2.1 = s) (hk : ¬ k = 0) (hp : p = nI s) : BSC f n (-4) k p := fun w0 h0 => by
  obtain ⟨a, b⟩ := h w0 h0
  have a : (BX f n w0).1 = k := a
  have b : (BX f n w0).2.1 = s := b
  unfold BSP bsR bsF
  rw [a, b, if_neg hk, if_neg hk]
  exact ⟨rfl, rfl, hp⟩
theorem bs_y {f : Nat → Int32} {n : Nat} {li lw od k p : Int32} {tp nc nr no : Nat} {f0 f1 f2 : Nat → Int32} (h : ∀ w0, Z76 w0 → (RD f n (0, tS f n 0, w0)).1 = 0 ∧ DR li tp lw od nc nr no f0 f1 f2 (RD f n (0, tS f n 0, w0)).2.2) (hk : k = 0) (hp : p = -1) : BSC f n li k p := fun w0 h0 => by
  obtain ⟨a, b⟩ := h w0 h0
  have a : (BX f n w0).1 = 0 := a
  have b : (BX f n w0).2.2 7 = li := b.1.1
  unfold BSP bsR bsF
  rw [a, b, if_pos rfl, if_pos rfl]
  exact ⟨rfl, hk, hp⟩
/-- the reference's tape, so far read -/
def RRI (f : Nat → Int32) (n a : Nat) (w0 : Nat → Int32) (k : Int32) (s : Nat) (w : Nat → Int32) : Prop := (k = 0 → RD f n (0, a, w0) = RD f n (0, s, w)) ∧ (¬ k = 0 → (RD f n (0, a, w0)).1 = k ∧ (RD f n (0, a, w0)).2.1 = s)
theorem rri_0 {f : Nat → Int32} {n a s : Nat} {w0 : Nat → Int32} {k : Int32} (hk : k = 0) (e : s = a) : RRI f n a w0 k s w0 := ⟨fun _ => by rw [e], fun h => absurd hk h⟩
theorem rri_s {f : Nat → Int32} {n a s s1 : Nat} {w0 w g : Nat → Int32} {k k1 : Int32} (h : RRI f n a w0 k s w) (h0 : k = 0) (hs : s ≤ n) (ht : ¬ tT f n s = 0) (F : RR k1 s1 g (lnS f n s w)) : RRI f n a w0 k1 s1 g := by
  have e := h.1 h0
  rw [RD_s (x := (0, s, w)) hs rfl ht] at e
  have e1 : k1 = (lnS f n s w).1 := congrArg (fun x : Int32 × Nat => x.1) F.1
  have e2 : s1 = (lnS f n s w).2.1 := congrArg (fun x : Int32 × Nat => x.2) F.1
  constructor
  · intro q
    rw [e]
    have e3 : lnS f n s w = (0, s1, g) := Prod.ext (e1.symm.trans q) (Prod.ext e2.symm (F.2 q).symm)
    exact congrArg (RD f n) e3
  · intro q
    rw [e, RD_e (Or.inl (by rw [← e1]; exact q)), ← e1, ← e2]
    exact ⟨rfl, rfl⟩
theorem br_n {f : Nat → Int32} {n s : Nat} {k p : Int32} {w0 w : Nat → Int32} (hz : Z76 w0) (h : RRI f n (tS f n 0) w0 k s w) (hk : ¬ k = 0) (hp : FP k s p) : BSR f n (-4) k p := by
  obtain ⟨a, b⟩ := h.2 hk
  have a : (BX f n w0).1 = k := a
  have b : (BX f n w0).2.1 = s := b
  refine ⟨w0, hz, ?_⟩
  unfold BSP bsR bsF
  rw [a, b, if_neg hk, if_neg hk]
  exact ⟨rfl, rfl, hp hk⟩
theorem br_y {f : Nat → Int32} {n s : Nat} {k p r : Int32} {w0 w : Nat → Int32} (hz : Z76 w0) (h : RRI f n (tS f n 0) w0 k s w) (hk : k = 0) (ht : tT f n s = 0) (hp : p = -1) (hr : r = w 7) : BSR f n r k p := by
  have e := h.1 hk
  rw [RD_e (x := (0, s, w)) (Or.inr ht)] at e
  have e : BX f n w0 = (0, s, w) := e
  refine ⟨w0, hz, ?_⟩
  unfold BSP bsR bsF
  rw [e, if_pos rfl, if_pos rfl]
  exact ⟨hr, hk, hp⟩
/-- what a fault is asked -/
def ftr (x k p : Int32) : Int32 := if x = 0 then k else if x = 1 then p else -1
theorem ftr_0 {k p : Int32} : k = ftr 0 k p := (if_pos rfl).symm
theorem ftr_1 {k p : Int32} : p = ftr 1 k p := by unfold ftr; rw [if_neg (by decide), if_pos rfl]
theorem ftr_n {x k p : Int32} (h0 : ¬ x = 0) (h1 : ¬ x = 1) : -1 = ftr x k p := by unfold ftr; rw [if_neg h0, if_neg h1]
theorem rdi_lt {f : Nat → Int32} {n a s s1 : Nat} {P Q : (Nat → Int32) → Prop} (h : RDI f n a s P) (hs : s ≤ n) (F : LZ f n s s1 P Q) : s < s1 := by
  obtain ⟨w, hw, -⟩ := h (fun _ => 0) (fun _ _ => rfl)
  obtain ⟨x, y, -⟩ := F w hw
  have b := (lnS_b (f := f) (w := w) hs).2.2 x
  omega
/-- the bytes of a number, the highest first -/
def byt (x : Int32) (k : Nat) : Int32 := vp_nar .byte (x >>> (nI (24 - 8 * k) &&& 31)).toInt8.toInt32
def PB (x : Int32) (n : Nat) (f : Nat → Int32) : Nat → Int32 := upd (upd (upd (upd f n (byt x 0)) (n + 1) (byt x 1)) (n + 2) (byt x 2)) (n + 3) (byt x 3)
def FD5 (a b c d e : Int32) (n : Nat) (f : Nat → Int32) : Nat → Int32 := PB e (n + 16) (PB d (n + 12) (PB c (n + 8) (PB b (n + 4) (PB a n f))))
def FDB (a b c d e : Int32) (n : Nat) (f : Nat → Int32) : Nat → Int32 := if n + 20 ≤ 400 then FD5 a b c d e n f else f
theorem fdb_y {a b c d e : Int32} {n : Nat} {f : Nat → Int32} (h : n + 20 ≤ 400) : FDB a b c d e n f = FD5 a b c d e n f := if_pos h
theorem fdb_n {a b c d e : Int32} {n : Nat} {f : Nat → Int32} (h : ¬ n + 20 ≤ 400) : f = FDB a b c d e n f := (if_neg h).symm
theorem byt_b (x : Int32) (k : Nat) : -128 ≤ (byt x k).toInt ∧ (byt x k).toInt < 128 := by
  unfold byt
  rw [vp_nar_byte, Int8.toInt_toInt32]
  have h1 := Int8.toInt_lt ((x >>> (nI (24 - 8 * k) &&& 31)).toInt8.toInt32.toInt8)
  have h2 := Int8.le_toInt ((x >>> (nI (24 - 8 * k) &&& 31)).toInt8.toInt32.toInt8)
  omega
theorem by_upd {f : Nat → Int32} {n : Nat} {x : Int32} (h : BY f) (hx : -128 ≤ x.toInt ∧ x.toInt < 128) : BY (upd f n x) := fun k => by
  by_cases e : k = n
  · subst e; rw [upd_at]; exact hx
  · rw [upd_ne e]; exact h k
theorem by_pb {x : Int32} {n : Nat} {f : Nat → Int32} (h : BY f) : BY (PB x n f) := by_upd (by_upd (by_upd (by_upd h (byt_b _ _)) (byt_b _ _)) (byt_b _ _)) (byt_b _ _)
theorem by_fdb {a b c d e : Int32} {n : Nat} {f : Nat → Int32} (h : BY f) : BY (FDB a b c d e n f) := by
  unfold FDB
  split
  · exact by_pb (by_pb (by_pb (by_pb (by_pb h))))
  · exact h
theorem by_z : BY (fun _ => 0) := fun _ => show -128 ≤ (0 : Int32).toInt ∧ (0 : Int32).toInt < 128 by decide
/-- the reference's row of bytes: the first m of twenty -/
def FB (F : Nat → Int32) (n m : Nat) (f : Nat → Int32) : Nat → Int32 := fun q => if n ≤ q ∧ q < n + m then byt (F ((q - n) / 4)) ((q - n) % 4) else f q
theorem fb_0 {F f : Nat → Int32} {n : Nat} : f = FB F n 0 f := funext fun q => by unfold FB; rw [if_neg (by omega)]
theorem fb_s {F f g : Nat → Int32} {n i : Nat} (h : g = FB F n i f) (hi : n + i < 2 ^ 31) : upd g (nI (n + i)).toNatClampNeg (vp_nar .byte (F (i / 4) >>> (nI (24 - 8 * (i % 4)) &&& 31)).toInt8.toInt32) = FB F n (i + 1) f := funext fun q => by
  rw [nI_clamp hi, h]
  by_cases e : q = n + i
  · subst e
    rw [upd_at]
    unfold FB
    rw [if_pos (by omega), show n + i - n = i by omega]
    rfl
  · rw [upd_ne e]
    unfold FB
    by_cases e2 : n ≤ q ∧ q < n + i
    · rw [if_pos e2, if_pos (by omega)]
    · rw [if_neg e2, if_neg (by omega)]
theorem pb_in {x : Int32} {n k : Nat} {f : Nat → Int32} (hk : k < 4) : PB x n f (n + k) = byt x k := by
  unfold PB
  rcases (show k = 0 ∨ k = 1 ∨ k = 2 ∨ k = 3 by omega) with rfl | rfl | rfl | rfl
  · rw [upd_ne (by omega), upd_ne (by omega), upd_ne (by omega)]; exact upd_at
  · rw [upd_ne (by omega), upd_ne (by omega), upd_at]
  · rw [upd_ne (by omega), upd_at]
  · rw [upd_at]
theorem pb_out {x : Int32} {n q : Nat} {f : Nat → Int32} (h : q < n ∨ n + 4 ≤ q) : PB x n f q = f q := by
  unfold PB
  rw [upd_ne (by omega), upd_ne (by omega), upd_ne (by omega), upd_ne (by omega)]
theorem fb_20 {a b c d e : Int32} {n : Nat} {f g h : Nat → Int32} (hg : g = FB (upd (upd (upd (upd (upd h 0 a) 1 b) 2 c) 3 d) 4 e) n 20 f) : g = FD5 a b c d e n f := by
  subst hg
  funext q
  unfold FB FD5
  by_cases hq : n ≤ q ∧ q < n + 20
  · rw [if_pos hq]
    obtain ⟨k, hk, rfl⟩ : ∃ k, k < 20 ∧ q = n + k := ⟨q - n, by omega, by omega⟩
    rw [show n + k - n = k by omega]
    have hm : k % 4 < 4 := Nat.mod_lt _ (by decide)
    rcases (show k / 4 = 0 ∨ k / 4 = 1 ∨ k / 4 = 2 ∨ k / 4 = 3 ∨ k / 4 = 4 by omega) with e4 | e4 | e4 | e4 | e4
    · rw [e4, upd_ne (by decide), upd_ne (by decide), upd_ne (by decide), upd_ne (by decide), upd_at, pb_out (by omega), pb_out (by omega), pb_out (by omega), pb_out (by omega), pb_in (by omega), show k % 4 = k by omega]
    · rw [e4, upd_ne (by decide), upd_ne (by decide), upd_ne (by decide), upd_at, pb_out (by omega), pb_out (by omega), pb_out (by omega), show n + k = (n + 4) + k % 4 by omega, pb_in hm]
    · rw [e4, upd_ne (by decide), upd_ne (by decide), upd_at, pb_out (by omega), pb_out (by omega), show n + k = (n + 8) + k % 4 by omega, pb_in hm]
    · rw [e4, upd_ne (by decide), upd_at, pb_out (by omega), show n + k = (n + 12) + k % 4 by omega, pb_in hm]
    · rw [e4, upd_at, show n + k = (n + 16) + k % 4 by omega, pb_in hm]
  · rw [if_neg hq, pb_out (by omega), pb_out (by omega), pb_out (by omega), pb_out (by omega), pb_out (by omega)]
