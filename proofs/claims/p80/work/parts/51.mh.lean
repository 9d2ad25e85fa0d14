set_option maxHeartbeats 4000000 in
set_option maxRecDepth 100000 in
theorem k_X9_in (l : Launch) (D : va_G) (cs : Nat → ClassId) (sz : Nat) (v : Int64) (lo : Int64) (hi : Int64)  : Mi l D cs yX9_in W_X9_in 0 0 0 0 [.long v, .long lo, .long hi] [] sz (fun (r : Int32) (u : Unit) => ((r = 1 ∧ lo ≤ v ∧ v ≤ hi) ∨ (r = 0 ∧ ¬ (lo ≤ v ∧ v ≤ hi)))) (fun (u : Unit) => []) := by
  refine ent (D := D) (cs := cs) (y := yX9_in) (ws := W_X9_in) (As := [.long v, .long lo, .long hi]) (W0 := []) (Qx := fun A => va_Qi (fun (r : Int32) (u : Unit) => ((r = 1 ∧ lo ≤ v ∧ v ≤ hi) ∨ (r = 0 ∧ ¬ (lo ≤ v ∧ v ≤ hi)))) (mpost D A (fun (u : Unit) => [])) A) (maxL := 6) (ret := (some .boolean)) (by decide) rfl (Nat.le_of_ble_eq_true rfl) ?_
  intro p e s m below meth c A ls hx hb hr hml hlk hown hts hin hK hE hP hD hA hS hl
  have hl : lv_has ls 6 [(0, .long v), (2, .long lo), (4, .long hi)] := hl
  generalize hHe : s.heap = H at hP
  have hS : va_S A s.heap H [] := hHe ▸ hS
  generalize hLe : ([] : List Loc) = locs at hS ⊢
  have htw : ∀ w ∈ O_X9_in, w.before ([.long v, .long lo, .long hi] : List Value).toArray s = true := fun w h => hts w (List.mem_cons_of_mem _ h)
  have hFix := (⟨hx, hb, hml, hown, hts⟩ : CallFix p m c _ _ s _ _ _)
  refine lv_lload_n hx hb dX9_in_0 rfl (lv_at hl 0 rfl) ?_
  refine lv_lload_n hx hb dX9_in_1 rfl (lv_at hl 1 rfl) ?_
  refine W.lcmp hx hb dX9_in_2 ?_
  refine lv_if_lt (tgt := 17) hx hb dX9_in_3 (by decide) (fun c_1 => ?_) (fun c_1 => ?_)
  ·
    refine lv_iconst (v := 0) hx hb dX9_in_17 (by decide) ?_
    exact ret_z hx hb hr hlk hS (Nat.le_of_ble_eq_true rfl) (Nat.le_of_ble_eq_true rfl) (by decide) () (Or.inr (⟨rfl, in_lo c_1⟩)) (hP.sub [] rfl) (hD.sub [] (by decide) rfl) dX9_in_18
  ·
    refine lv_lload_n hx hb dX9_in_6 rfl (lv_at hl 0 rfl) ?_
    refine lv_lload hx hb dX9_in_7 (lv_at hl 2 rfl) ?_
    refine W.lcmp hx hb dX9_in_9 ?_
    refine lv_if_gt (tgt := 17) hx hb dX9_in_10 (by decide) (fun c_2 => ?_) (fun c_2 => ?_)
    ·
      refine lv_iconst (v := 0) hx hb dX9_in_17 (by decide) ?_
      exact ret_z hx hb hr hlk hS (Nat.le_of_ble_eq_true rfl) (Nat.le_of_ble_eq_true rfl) (by decide) () (Or.inr (⟨rfl, in_hi c_2⟩)) (hP.sub [] rfl) (hD.sub [] (by decide) rfl) dX9_in_18
    ·
      refine lv_iconst (v := 1) hx hb dX9_in_13 (by decide) ?_
      refine lv_goto (tgt := 18) hx hb dX9_in_14 (by decide) ?_
      exact ret_z hx hb hr hlk hS (Nat.le_of_ble_eq_true rfl) (Nat.le_of_ble_eq_true rfl) (by decide) () (Or.inl ⟨rfl, in_y c_1 c_2⟩) (hP.sub [] rfl) (hD.sub [] (by decide) rfl) dX9_in_18

set_option maxHeartbeats 4000000 in
set_option maxRecDepth 100000 in
theorem k_X9_bits (l : Launch) (D : va_G) (cs : Nat → ClassId) (sz : Nat) (x1 : Int32)  : Mi l D cs yX9_bits W_X9_bits 0 0 0 0 [.int x1] [] sz (fun (r : Int32) (u : Nat) => ((r = nI u ∧ u ≤ 16))) (fun (u : Nat) => []) := by
  refine ent (D := D) (cs := cs) (y := yX9_bits) (ws := W_X9_bits) (As := [.int x1]) (W0 := []) (Qx := fun A => va_Qi (fun (r : Int32) (u : Nat) => ((r = nI u ∧ u ≤ 16))) (mpost D A (fun (u : Nat) => [])) A) (maxL := 3) (ret := (some .int)) (by decide) rfl (Nat.le_of_ble_eq_true rfl) ?_
  intro p e s m below meth c A ls hx hb hr hml hlk hown hts hin hK hE hP hD hA hS hl
  have hl : lv_has ls 3 [(0, .int x1)] := hl
  generalize hHe : s.heap = H at hP
  have hS : va_S A s.heap H [] := hHe ▸ hS
  generalize hLe : ([] : List Loc) = locs at hS ⊢
  have htw : ∀ w ∈ O_X9_bits, w.before ([.int x1] : List Value).toArray s = true := fun w h => hts w (List.mem_cons_of_mem _ h)
  have hFix := (⟨hx, hb, hml, hown, hts⟩ : CallFix p m c _ _ s _ _ _)
  refine lv_iconst (v := 0) hx hb dX9_bits_0 (by decide) ?_
  refine lv_istore_n (lv' := [(1, .int 0), (0, .int x1)]) hx hb dX9_bits_1 rfl hl (by decide) rfl (fun ls hl => ?_)
  refine lv_iconst (v := 0) hx hb dX9_bits_2 (by decide) ?_
  refine lv_istore_n (lv' := [(2, .int 0), (1, .int 0), (0, .int x1)]) hx hb dX9_bits_3 rfl hl (by decide) rfl (fun ls hl => ?_)
  have lp_2 : ∀ (nfu : Nat) (i_1 : Nat) (v1_1 : Nat) (H : Heap) (locs : List Loc) (ls : Array Slot) (hi_1 : i_1 ≤ 16) (hv0_1 : v1_1 ≤ i_1), 16 - i_1 < nfu → va_P D vwCl [] H → va_D A [] → va_S A s.heap H locs → lv_has ls 3 [(2, .int (nI i_1)), (1, .int (nI v1_1)), (0, .int x1)] → W p l e (mRm 0 0 0 0) s m ([.int x1] : List Value).toArray below meth c H locs 0 0 (MQ below (va_Qi (fun (r : Int32) (u : Nat) => ((r = nI u ∧ u ≤ 16))) (mpost D A (fun (u : Nat) => [])) A) ([.int x1] : List Value).toArray s 0 0 A) (F0 m 4 ls []) := by
    intro nfu
    induction nfu with
    | zero => intro i_1 v1_1 H locs ls hi_1 hv0_1 hmu; exact absurd hmu (Nat.not_lt_zero _)
    | succ nfu ih =>
      intro i_1 v1_1 H locs ls hi_1 hv0_1 hmu hP hD hS hl
      have ih_lp_2 := @ih
      refine lv_iload_n hx hb dX9_bits_4 rfl (lv_at hl 0 rfl) ?_
      refine lv_bipush (v := 16) hx hb dX9_bits_5 (by decide) ?_
      refine lv_icmp_ge (tgt := 24) hx hb dX9_bits_7 (by decide) (fun c_3 => ?_) (fun c_3 => ?_)
      ·
        have hn_3 := bge_t (a := i_1) (b := 16) c_3 (by omega) (by omega)
        refine lv_iload_n hx hb dX9_bits_24 rfl (lv_at hl 1 rfl) ?_
        exact ret_i hx hb hr hlk hS (Nat.le_of_ble_eq_true rfl) (Nat.le_of_ble_eq_true rfl) (v1_1) (⟨rfl, (by omega)⟩) (hP.sub [] rfl) (hD.sub [] (by decide) rfl) dX9_bits_25
      ·
        have hn_3 := bge_f (a := i_1) (b := 16) c_3 (by omega) (by omega)
        refine lv_iload_n hx hb dX9_bits_10 rfl (lv_at hl 1 rfl) ?_
        refine lv_iload_n hx hb dX9_bits_11 rfl (lv_at hl 2 rfl) ?_
        refine lv_iload_n hx hb dX9_bits_12 rfl (lv_at hl 0 rfl) ?_
        refine lv_ishr hx hb dX9_bits_13 ?_
        refine lv_iconst (v := 1) hx hb dX9_bits_14 (by decide) ?_
        refine lv_iand hx hb dX9_bits_15 ?_
        obtain ⟨j_4, hj_4, ej_4⟩ := pk_andE (x1 >>> ((nI i_1) &&& 31)) (m := 1) 1 (by decide)
        replace hj_4 : j_4 < 2 := hj_4
        refine cf_i (nI j_4) ej_4 ?_
        refine lv_iadd hx hb dX9_bits_16 ?_
        refine cf_i (nI (v1_1 + j_4)) (nI_add v1_1 j_4) ?_
        refine lv_istore_n (lv' := [(1, .int (nI (v1_1 + j_4))), (2, .int (nI i_1)), (0, .int x1)]) hx hb dX9_bits_17 rfl hl (by decide) rfl (fun ls hl => ?_)
        refine lv_iinc (v := (nI (i_1 + 1))) (lv' := [(2, .int (nI (i_1 + 1))), (1, .int (nI (v1_1 + j_4))), (0, .int x1)]) hx hb dX9_bits_18 hl (k := 1) rfl (nI_1 _) (by decide) rfl (fun ls hl => ?_)
        refine lv_goto (tgt := 4) hx hb dX9_bits_21 (by decide) ?_
        exact ih_lp_2 (i_1 + 1) (v1_1 + j_4) H locs ls (by omega) (by first | assumption | omega) (by omega) (hP.sub [] rfl) (hD.sub [] (by decide) rfl) hS (lv_sub hl [0, 1, 2] rfl)
  exact lp_2 _ 0 0 H locs ls (by omega) (by first | assumption | omega) (Nat.lt_succ_self _) (hP.sub [] rfl) (hD.sub [] (by decide) rfl) hS (lv_sub hl [0, 1, 2] rfl)

set_option maxHeartbeats 4000000 in
set_option maxRecDepth 100000 in
theorem k_X9_bit_n (l : Launch) (D : va_G) (cs : Nat → ClassId) (sz : Nat) (s1 : Nat) (r1 : Nat) (ha_s1 : s1 < 32) (ha_r1 : r1 < 5) : Mi l D cs yX9_bit W_X9_bit 0 0 0 0 [.int (nI s1), .int (nI r1)] [] sz (fun (r : Int32) (u : Nat) => ((r = nI u ∧ u = btN s1 r1))) (fun (u : Nat) => []) := by
  refine ent (D := D) (cs := cs) (y := yX9_bit) (ws := W_X9_bit) (As := [.int (nI s1), .int (nI r1)]) (W0 := []) (Qx := fun A => va_Qi (fun (r : Int32) (u : Nat) => ((r = nI u ∧ u = btN s1 r1))) (mpost D A (fun (u : Nat) => [])) A) (maxL := 2) (ret := (some .int)) (by decide) rfl (Nat.le_of_ble_eq_true rfl) ?_
  intro p e s m below meth c A ls hx hb hr hml hlk hown hts hin hK hE hP hD hA hS hl
  have hl : lv_has ls 2 [(0, .int (nI s1)), (1, .int (nI r1))] := hl
  generalize hHe : s.heap = H at hP
  have hS : va_S A s.heap H [] := hHe ▸ hS
  generalize hLe : ([] : List Loc) = locs at hS ⊢
  have htw : ∀ w ∈ O_X9_bit, w.before ([.int (nI s1), .int (nI r1)] : List Value).toArray s = true := fun w h => hts w (List.mem_cons_of_mem _ h)
  have hFix := (⟨hx, hb, hml, hown, hts⟩ : CallFix p m c _ _ s _ _ _)
  refine lv_iload_n hx hb dX9_bit_0 rfl (lv_at hl 0 rfl) ?_
  refine lv_iload_n hx hb dX9_bit_1 rfl (lv_at hl 1 rfl) ?_
  refine lv_ishr hx hb dX9_bit_2 ?_
  refine lv_iconst (v := 1) hx hb dX9_bit_3 (by decide) ?_
  refine lv_iand hx hb dX9_bit_4 ?_
  obtain ⟨j_1, hj_1, ej_1⟩ := bt_ex ha_s1 ha_r1
  refine cf_i (nI j_1) ej_1 ?_
  exact ret_i hx hb hr hlk hS (Nat.le_of_ble_eq_true rfl) (Nat.le_of_ble_eq_true rfl) (j_1) (⟨rfl, (by assumption)⟩) (hP.sub [] rfl) (hD.sub [] (by decide) rfl) dX9_bit_5

set_option maxHeartbeats 4000000 in
set_option maxRecDepth 100000 in
theorem k_X9_bit (l : Launch) (D : va_G) (cs : Nat → ClassId) (sz : Nat) (x1 : Int32) (x2 : Int32)  : Mi l D cs yX9_bit W_X9_bit 0 0 0 0 [.int x1, .int x2] [] sz (fun (r : Int32) (u : Unit) => True) (fun (u : Unit) => []) := by
  refine ent (D := D) (cs := cs) (y := yX9_bit) (ws := W_X9_bit) (As := [.int x1, .int x2]) (W0 := []) (Qx := fun A => va_Qi (fun (r : Int32) (u : Unit) => True) (mpost D A (fun (u : Unit) => [])) A) (maxL := 2) (ret := (some .int)) (by decide) rfl (Nat.le_of_ble_eq_true rfl) ?_
  intro p e s m below meth c A ls hx hb hr hml hlk hown hts hin hK hE hP hD hA hS hl
  have hl : lv_has ls 2 [(0, .int x1), (1, .int x2)] := hl
  generalize hHe : s.heap = H at hP
  have hS : va_S A s.heap H [] := hHe ▸ hS
  generalize hLe : ([] : List Loc) = locs at hS ⊢
  have htw : ∀ w ∈ O_X9_bit, w.before ([.int x1, .int x2] : List Value).toArray s = true := fun w h => hts w (List.mem_cons_of_mem _ h)
  have hFix := (⟨hx, hb, hml, hown, hts⟩ : CallFix p m c _ _ s _ _ _)
  refine lv_iload_n hx hb dX9_bit_0 rfl (lv_at hl 0 rfl) ?_
  refine lv_iload_n hx hb dX9_bit_1 rfl (lv_at hl 1 rfl) ?_
  refine lv_ishr hx hb dX9_bit_2 ?_
  refine lv_iconst (v := 1) hx hb dX9_bit_3 (by decide) ?_
  refine lv_iand hx hb dX9_bit_4 ?_
  obtain ⟨j_1, hj_1, ej_1⟩ := pk_andE (x1 >>> (x2 &&& 31)) (m := 1) 1 (by decide)
  replace hj_1 : j_1 < 2 := hj_1
  refine cf_i (nI j_1) ej_1 ?_
  exact ret_i hx hb hr hlk hS (Nat.le_of_ble_eq_true rfl) (Nat.le_of_ble_eq_true rfl) () (trivial) (hP.sub [] rfl) (hD.sub [] (by decide) rfl) dX9_bit_5

set_option maxHeartbeats 4000000 in
set_option maxRecDepth 100000 in
theorem k_X9_isBase (l : Launch) (D : va_G) (cs : Nat → ClassId) (sz : Nat) (b0 : Nat) (zThrown : Int32) (mWorld : Nat) (mImages : Nat) (mHasImage : Nat) (mTape : Nat) (mFive : Nat) (zToken : Int32) (zValue : Int32) (zFaultKind : Int32) (zFaultPlace : Int32) (mFresh : Nat) (mMergedBy : Nat) (zLawNow : Int32) (zLockedNow : Int32) (zDroppedNow : Int32) (mIsValid : Nat) (mGoes : Nat) (mFarNow : Nat) (mFreeNow : Nat) (mIsPair : Nat) (mHitsBy : Nat) (zBreakMany : Int32) (zLeastOps : Int32) (zLeastBase : Int32) (zLeastFirst : Int32) (zLeastSecond : Int32) (zBestLocks : Int32) (zInEach : Int32) (zFitMany : Int32) (zFitFirst : Int32) (mWorthBy : Nat) (zOftenAll : Int64) (zOftenSafe : Int64) (zOftenValid : Int64) (mMany : Nat) (mWidth : Nat) (mNumbers : Nat) (mMoving : Nat) (gWorld : Nat → Int32) (zTaped : Nat) (zSize : Nat) (zAt : Nat) (zFrom : Nat) (hzt : zTaped ≤ 400) (hzs : zSize ≤ 400) (hwok : WOK gWorld) : Mi l D cs yX9_isBase W_X9_isBase 0 0 0 0 [.ref b0] [(b0, .inr (9, [.int zThrown, .ref mWorld, .ref mImages, .ref mHasImage, .ref mTape, .int (nI zTaped), .ref mFive, .int (nI zSize), .int (nI zAt), .int (nI zFrom), .int zToken, .int zValue, .int zFaultKind, .int zFaultPlace, .ref mFresh, .ref mMergedBy, .int zLawNow, .int zLockedNow, .int zDroppedNow, .ref mIsValid, .ref mGoes, .ref mFarNow, .ref mFreeNow, .ref mIsPair, .ref mHitsBy, .int zBreakMany, .int zLeastOps, .int zLeastBase, .int zLeastFirst, .int zLeastSecond, .int zBestLocks, .int zInEach, .int zFitMany, .int zFitFirst, .ref mWorthBy, .long zOftenAll, .long zOftenSafe, .long zOftenValid, .ref mMany, .ref mWidth, .ref mNumbers, .ref mMoving])), (mWorld, .inl (cs 1, 76, .inl gWorld))] sz (fun (r : Int32) (u : Unit) => ((r = 1 ∧ True) ∨ (r = 0 ∧ True))) (fun (u : Unit) => [(b0, .inr (9, [.int zThrown, .ref mWorld, .ref mImages, .ref mHasImage, .ref mTape, .int (nI zTaped), .ref mFive, .int (nI zSize), .int (nI zAt), .int (nI zFrom), .int zToken, .int zValue, .int zFaultKind, .int zFaultPlace, .ref mFresh, .ref mMergedBy, .int zLawNow, .int zLockedNow, .int zDroppedNow, .ref mIsValid, .ref mGoes, .ref mFarNow, .ref mFreeNow, .ref mIsPair, .ref mHitsBy, .int zBreakMany, .int zLeastOps, .int zLeastBase, .int zLeastFirst, .int zLeastSecond, .int zBestLocks, .int zInEach, .int zFitMany, .int zFitFirst, .ref mWorthBy, .long zOftenAll, .long zOftenSafe, .long zOftenValid, .ref mMany, .ref mWidth, .ref mNumbers, .ref mMoving])), (mWorld, .inl (cs 1, 76, .inl gWorld))]) := by
  refine ent (D := D) (cs := cs) (y := yX9_isBase) (ws := W_X9_isBase) (As := [.ref b0]) (W0 := [(b0, .inr (9, [.int zThrown, .ref mWorld, .ref mImages, .ref mHasImage, .ref mTape, .int (nI zTaped), .ref mFive, .int (nI zSize), .int (nI zAt), .int (nI zFrom), .int zToken, .int zValue, .int zFaultKind, .int zFaultPlace, .ref mFresh, .ref mMergedBy, .int zLawNow, .int zLockedNow, .int zDroppedNow, .ref mIsValid, .ref mGoes, .ref mFarNow, .ref mFreeNow, .ref mIsPair, .ref mHitsBy, .int zBreakMany, .int zLeastOps, .int zLeastBase, .int zLeastFirst, .int zLeastSecond, .int zBestLocks, .int zInEach, .int zFitMany, .int zFitFirst, .ref mWorthBy, .long zOftenAll, .long zOftenSafe, .long zOftenValid, .ref mMany, .ref mWidth, .ref mNumbers, .ref mMoving])), (mWorld, .inl (cs 1, 76, .inl gWorld))]) (Qx := fun A => va_Qi (fun (r : Int32) (u : Unit) => ((r = 1 ∧ True) ∨ (r = 0 ∧ True))) (mpost D A (fun (u : Unit) => [(b0, .inr (9, [.int zThrown, .ref mWorld, .ref mImages, .ref mHasImage, .ref mTape, .int (nI zTaped), .ref mFive, .int (nI zSize), .int (nI zAt), .int (nI zFrom), .int zToken, .int zValue, .int zFaultKind, .int zFaultPlace, .ref mFresh, .ref mMergedBy, .int zLawNow, .int zLockedNow, .int zDroppedNow, .ref mIsValid, .ref mGoes, .ref mFarNow, .ref mFreeNow, .ref mIsPair, .ref mHitsBy, .int zBreakMany, .int zLeastOps, .int zLeastBase, .int zLeastFirst, .int zLeastSecond, .int zBestLocks, .int zInEach, .int zFitMany, .int zFitFirst, .ref mWorthBy, .long zOftenAll, .long zOftenSafe, .long zOftenValid, .ref mMany, .ref mWidth, .ref mNumbers, .ref mMoving])), (mWorld, .inl (cs 1, 76, .inl gWorld))])) A) (maxL := 1) (ret := (some .boolean)) (by decide) rfl (Nat.le_of_ble_eq_true rfl) ?_
  intro p e s m below meth c A ls hx hb hr hml hlk hown hts hin hK hE hP hD hA hS hl
  have hl : lv_has ls 1 [(0, .ref b0)] := hl
  generalize hHe : s.heap = H at hP
  have hS : va_S A s.heap H [] := hHe ▸ hS
  generalize hLe : ([] : List Loc) = locs at hS ⊢
  have htw : ∀ w ∈ O_X9_isBase, w.before ([.ref b0] : List Value).toArray s = true := fun w h => hts w (List.mem_cons_of_mem _ (List.mem_append_left _ h))
  have hFix := (⟨hx, hb, hml, hown, hts⟩ : CallFix p m c _ _ s _ _ _)
  have hH := wok_h hwok
  have hR := wok_r hwok
  have hb0 := hok_b0 hH
  have hb2 := hok_b2 hH
  have hb3 := hok_b3 hH
  have hb4 := hok_b4 hH
  have hb5 := hok_b5 hH
  have hb6 := hok_b6 hH
  have hsm1 := sm_1 (f := gWorld)
  have hsm2 := sm_64 hH
  have hsp2 := sp_64 hH
  have hsm3 := sm_sp hH
  refine lv_aload_n hx hb dX9_isBase_0 rfl (lv_at hl 0 rfl) ?_
  refine va_get (D := D) (ci := 9) (v := .ref mWorld) (C := RX9) (T := TX9) (N := 42) hx hb hts iuX9_isBase_X9 hown hK hP 0 rfl rfl 1 (by decide) (htw (.fieldLink RX9 9 "MergeJudgeModel" "world" "[I") (List.mem_of_getElem? (i := 0) rfl)) (fun _ h9 => h9) rfl dX9_isBase_1 ?_
  refine lv_bipush (v := 7) hx hb dX9_isBase_4 (by decide) ?_
  refine va_iald hx hb hK hP 1 1 rfl rfl (vp_c (by decide)) dX9_isBase_6 ?_
  refine cf_v (.int (gWorld 7)) rfl ?_
  refine lv_if_le (tgt := 14) hx hb dX9_isBase_7 (by decide) (fun c_1 => ?_) (fun c_1 => ?_)
  ·
    refine lv_iconst (v := 0) hx hb dX9_isBase_14 (by decide) ?_
    exact ret_z hx hb hr hlk hS (Nat.le_of_ble_eq_true rfl) (Nat.le_of_ble_eq_true rfl) (by decide) () (Or.inr (⟨rfl, trivial⟩)) (hP.sub [0, 1] rfl) (hD.sub [0, 1] (by decide) rfl) dX9_isBase_15
  ·
    refine lv_iconst (v := 1) hx hb dX9_isBase_10 (by decide) ?_
    refine lv_goto (tgt := 15) hx hb dX9_isBase_11 (by decide) ?_
    exact ret_z hx hb hr hlk hS (Nat.le_of_ble_eq_true rfl) (Nat.le_of_ble_eq_true rfl) (by decide) () (Or.inl ⟨rfl, trivial⟩) (hP.sub [0, 1] rfl) (hD.sub [0, 1] (by decide) rfl) dX9_isBase_15

set_option maxHeartbeats 4000000 in
set_option maxRecDepth 100000 in
theorem k_X9_cells (l : Launch) (D : va_G) (cs : Nat → ClassId) (sz : Nat) (b0 : Nat) (zThrown : Int32) (mWorld : Nat) (mImages : Nat) (mHasImage : Nat) (mTape : Nat) (mFive : Nat) (zToken : Int32) (zValue : Int32) (zFaultKind : Int32) (zFaultPlace : Int32) (mFresh : Nat) (mMergedBy : Nat) (zLawNow : Int32) (zLockedNow : Int32) (zDroppedNow : Int32) (mIsValid : Nat) (mGoes : Nat) (mFarNow : Nat) (mFreeNow : Nat) (mIsPair : Nat) (mHitsBy : Nat) (zBreakMany : Int32) (zLeastOps : Int32) (zLeastBase : Int32) (zLeastFirst : Int32) (zLeastSecond : Int32) (zBestLocks : Int32) (zInEach : Int32) (zFitMany : Int32) (zFitFirst : Int32) (mWorthBy : Nat) (zOftenAll : Int64) (zOftenSafe : Int64) (zOftenValid : Int64) (mMany : Nat) (mWidth : Nat) (mNumbers : Nat) (mMoving : Nat) (gWorld : Nat → Int32) (zTaped : Nat) (zSize : Nat) (zAt : Nat) (zFrom : Nat) (hzt : zTaped ≤ 400) (hzs : zSize ≤ 400) (hwok : WOK gWorld) : Mi l D cs yX9_cells W_X9_cells 0 0 0 0 [.ref b0] [(b0, .inr (9, [.int zThrown, .ref mWorld, .ref mImages, .ref mHasImage, .ref mTape, .int (nI zTaped), .ref mFive, .int (nI zSize), .int (nI zAt), .int (nI zFrom), .int zToken, .int zValue, .int zFaultKind, .int zFaultPlace, .ref mFresh, .ref mMergedBy, .int zLawNow, .int zLockedNow, .int zDroppedNow, .ref mIsValid, .ref mGoes, .ref mFarNow, .ref mFreeNow, .ref mIsPair, .ref mHitsBy, .int zBreakMany, .int zLeastOps, .int zLeastBase, .int zLeastFirst, .int zLeastSecond, .int zBestLocks, .int zInEach, .int zFitMany, .int zFitFirst, .ref mWorthBy, .long zOftenAll, .long zOftenSafe, .long zOftenValid, .ref mMany, .ref mWidth, .ref mNumbers, .ref mMoving])), (mWorld, .inl (cs 1, 76, .inl gWorld))] sz (fun (r : Int32) (u : Nat) => ((r = nI u ∧ u = wN gWorld 3))) (fun (u : Nat) => [(b0, .inr (9, [.int zThrown, .ref mWorld, .ref mImages, .ref mHasImage, .ref mTape, .int (nI zTaped), .ref mFive, .int (nI zSize), .int (nI zAt), .int (nI zFrom), .int zToken, .int zValue, .int zFaultKind, .int zFaultPlace, .ref mFresh, .ref mMergedBy, .int zLawNow, .int zLockedNow, .int zDroppedNow, .ref mIsValid, .ref mGoes, .ref mFarNow, .ref mFreeNow, .ref mIsPair, .ref mHitsBy, .int zBreakMany, .int zLeastOps, .int zLeastBase, .int zLeastFirst, .int zLeastSecond, .int zBestLocks, .int zInEach, .int zFitMany, .int zFitFirst, .ref mWorthBy, .long zOftenAll, .long zOftenSafe, .long zOftenValid, .ref mMany, .ref mWidth, .ref mNumbers, .ref mMoving])), (mWorld, .inl (cs 1, 76, .inl gWorld))]) := by
  refine ent (D := D) (cs := cs) (y := yX9_cells) (ws := W_X9_cells) (As := [.ref b0]) (W0 := [(b0, .inr (9, [.int zThrown, .ref mWorld, .ref mImages, .ref mHasImage, .ref mTape, .int (nI zTaped), .ref mFive, .int (nI zSize), .int (nI zAt), .int (nI zFrom), .int zToken, .int zValue, .int zFaultKind, .int zFaultPlace, .ref mFresh, .ref mMergedBy, .int zLawNow, .int zLockedNow, .int zDroppedNow, .ref mIsValid, .ref mGoes, .ref mFarNow, .ref mFreeNow, .ref mIsPair, .ref mHitsBy, .int zBreakMany, .int zLeastOps, .int zLeastBase, .int zLeastFirst, .int zLeastSecond, .int zBestLocks, .int zInEach, .int zFitMany, .int zFitFirst, .ref mWorthBy, .long zOftenAll, .long zOftenSafe, .long zOftenValid, .ref mMany, .ref mWidth, .ref mNumbers, .ref mMoving])), (mWorld, .inl (cs 1, 76, .inl gWorld))]) (Qx := fun A => va_Qi (fun (r : Int32) (u : Nat) => ((r = nI u ∧ u = wN gWorld 3))) (mpost D A (fun (u : Nat) => [(b0, .inr (9, [.int zThrown, .ref mWorld, .ref mImages, .ref mHasImage, .ref mTape, .int (nI zTaped), .ref mFive, .int (nI zSize), .int (nI zAt), .int (nI zFrom), .int zToken, .int zValue, .int zFaultKind, .int zFaultPlace, .ref mFresh, .ref mMergedBy, .int zLawNow, .int zLockedNow, .int zDroppedNow, .ref mIsValid, .ref mGoes, .ref mFarNow, .ref mFreeNow, .ref mIsPair, .ref mHitsBy, .int zBreakMany, .int zLeastOps, .int zLeastBase, .int zLeastFirst, .int zLeastSecond, .int zBestLocks, .int zInEach, .int zFitMany, .int zFitFirst, .ref mWorthBy, .long zOftenAll, .long zOftenSafe, .long zOftenValid, .ref mMany, .ref mWidth, .ref mNumbers, .ref mMoving])), (mWorld, .inl (cs 1, 76, .inl gWorld))])) A) (maxL := 1) (ret := (some .int)) (by decide) rfl (Nat.le_of_ble_eq_true rfl) ?_
  intro p e s m below meth c A ls hx hb hr hml hlk hown hts hin hK hE hP hD hA hS hl
  have hl : lv_has ls 1 [(0, .ref b0)] := hl
  generalize hHe : s.heap = H at hP
  have hS : va_S A s.heap H [] := hHe ▸ hS
  generalize hLe : ([] : List Loc) = locs at hS ⊢
  have htw : ∀ w ∈ O_X9_cells, w.before ([.ref b0] : List Value).toArray s = true := fun w h => hts w (List.mem_cons_of_mem _ (List.mem_append_left _ h))
  have hFix := (⟨hx, hb, hml, hown, hts⟩ : CallFix p m c _ _ s _ _ _)
  have hH := wok_h hwok
  have hR := wok_r hwok
  have hb0 := hok_b0 hH
  have hb2 := hok_b2 hH
  have hb3 := hok_b3 hH
  have hb4 := hok_b4 hH
  have hb5 := hok_b5 hH
  have hb6 := hok_b6 hH
  have hsm1 := sm_1 (f := gWorld)
  have hsm2 := sm_64 hH
  have hsp2 := sp_64 hH
  have hsm3 := sm_sp hH
  refine lv_aload_n hx hb dX9_cells_0 rfl (lv_at hl 0 rfl) ?_
  refine va_get (D := D) (ci := 9) (v := .ref mWorld) (C := RX9) (T := TX9) (N := 42) hx hb hts iuX9_cells_X9 hown hK hP 0 rfl rfl 1 (by decide) (htw (.fieldLink RX9 9 "MergeJudgeModel" "world" "[I") (List.mem_of_getElem? (i := 0) rfl)) (fun _ h9 => h9) rfl dX9_cells_1 ?_
  refine lv_iconst (v := 3) hx hb dX9_cells_4 (by decide) ?_
  refine va_iald hx hb hK hP 1 1 rfl rfl (vp_c (by decide)) dX9_cells_5 ?_
  refine cf_v (.int (gWorld 3)) rfl ?_
  refine cf_i (nI (wN gWorld 3)) (hok_3 (by assumption)) ?_
  exact ret_i hx hb hr hlk hS (Nat.le_of_ble_eq_true rfl) (Nat.le_of_ble_eq_true rfl) (wN gWorld 3) (⟨rfl, rfl⟩) (hP.sub [0, 1] rfl) (hD.sub [0, 1] (by decide) rfl) dX9_cells_6

set_option maxHeartbeats 4000000 in
set_option maxRecDepth 100000 in
theorem k_X9_rules (l : Launch) (D : va_G) (cs : Nat → ClassId) (sz : Nat) (b0 : Nat) (zThrown : Int32) (mWorld : Nat) (mImages : Nat) (mHasImage : Nat) (mTape : Nat) (mFive : Nat) (zToken : Int32) (zValue : Int32) (zFaultKind : Int32) (zFaultPlace : Int32) (mFresh : Nat) (mMergedBy : Nat) (zLawNow : Int32) (zLockedNow : Int32) (zDroppedNow : Int32) (mIsValid : Nat) (mGoes : Nat) (mFarNow : Nat) (mFreeNow : Nat) (mIsPair : Nat) (mHitsBy : Nat) (zBreakMany : Int32) (zLeastOps : Int32) (zLeastBase : Int32) (zLeastFirst : Int32) (zLeastSecond : Int32) (zBestLocks : Int32) (zInEach : Int32) (zFitMany : Int32) (zFitFirst : Int32) (mWorthBy : Nat) (zOftenAll : Int64) (zOftenSafe : Int64) (zOftenValid : Int64) (mMany : Nat) (mWidth : Nat) (mNumbers : Nat) (mMoving : Nat) (gWorld : Nat → Int32) (zTaped : Nat) (zSize : Nat) (zAt : Nat) (zFrom : Nat) (hzt : zTaped ≤ 400) (hzs : zSize ≤ 400) (hwok : WOK gWorld) : Mi l D cs yX9_rules W_X9_rules 0 0 0 0 [.ref b0] [(b0, .inr (9, [.int zThrown, .ref mWorld, .ref mImages, .ref mHasImage, .ref mTape, .int (nI zTaped), .ref mFive, .int (nI zSize), .int (nI zAt), .int (nI zFrom), .int zToken, .int zValue, .int zFaultKind, .int zFaultPlace, .ref mFresh, .ref mMergedBy, .int zLawNow, .int zLockedNow, .int zDroppedNow, .ref mIsValid, .ref mGoes, .ref mFarNow, .ref mFreeNow, .ref mIsPair, .ref mHitsBy, .int zBreakMany, .int zLeastOps, .int zLeastBase, .int zLeastFirst, .int zLeastSecond, .int zBestLocks, .int zInEach, .int zFitMany, .int zFitFirst, .ref mWorthBy, .long zOftenAll, .long zOftenSafe, .long zOftenValid, .ref mMany, .ref mWidth, .ref mNumbers, .ref mMoving])), (mWorld, .inl (cs 1, 76, .inl gWorld))] sz (fun (r : Int32) (u : Nat) => ((r = nI u ∧ u = wN gWorld 4))) (fun (u : Nat) => [(b0, .inr (9, [.int zThrown, .ref mWorld, .ref mImages, .ref mHasImage, .ref mTape, .int (nI zTaped), .ref mFive, .int (nI zSize), .int (nI zAt), .int (nI zFrom), .int zToken, .int zValue, .int zFaultKind, .int zFaultPlace, .ref mFresh, .ref mMergedBy, .int zLawNow, .int zLockedNow, .int zDroppedNow, .ref mIsValid, .ref mGoes, .ref mFarNow, .ref mFreeNow, .ref mIsPair, .ref mHitsBy, .int zBreakMany, .int zLeastOps, .int zLeastBase, .int zLeastFirst, .int zLeastSecond, .int zBestLocks, .int zInEach, .int zFitMany, .int zFitFirst, .ref mWorthBy, .long zOftenAll, .long zOftenSafe, .long zOftenValid, .ref mMany, .ref mWidth, .ref mNumbers, .ref mMoving])), (mWorld, .inl (cs 1, 76, .inl gWorld))]) := by
  refine ent (D := D) (cs := cs) (y := yX9_rules) (ws := W_X9_rules) (As := [.ref b0]) (W0 := [(b0, .inr (9, [.int zThrown, .ref mWorld, .ref mImages, .ref mHasImage, .ref mTape, .int (nI zTaped), .ref mFive, .int (nI zSize), .int (nI zAt), .int (nI zFrom), .int zToken, .int zValue, .int zFaultKind, .int zFaultPlace, .ref mFresh, .ref mMergedBy, .int zLawNow, .int zLockedNow, .int zDroppedNow, .ref mIsValid, .ref mGoes, .ref mFarNow, .ref mFreeNow, .ref mIsPair, .ref mHitsBy, .int zBreakMany, .int zLeastOps, .int zLeastBase, .int zLeastFirst, .int zLeastSecond, .int zBestLocks, .int zInEach, .int zFitMany, .int zFitFirst, .ref mWorthBy, .long zOftenAll, .long zOftenSafe, .long zOftenValid, .ref mMany, .ref mWidth, .ref mNumbers, .ref mMoving])), (mWorld, .inl (cs 1, 76, .inl gWorld))]) (Qx := fun A => va_Qi (fun (r : Int32) (u : Nat) => ((r = nI u ∧ u = wN gWorld 4))) (mpost D A (fun (u : Nat) => [(b0, .inr (9, [.int zThrown, .ref mWorld, .ref mImages, .ref mHasImage, .ref mTape, .int (nI zTaped), .ref mFive, .int (nI zSize), .int (nI zAt), .int (nI zFrom), .int zToken, .int zValue, .int zFaultKind, .int zFaultPlace, .ref mFresh, .ref mMergedBy, .int zLawNow, .int zLockedNow, .int zDroppedNow, .ref mIsValid, .ref mGoes, .ref mFarNow, .ref mFreeNow, .ref mIsPair, .ref mHitsBy, .int zBreakMany, .int zLeastOps, .int zLeastBase, .int zLeastFirst, .int zLeastSecond, .int zBestLocks, .int zInEach, .int zFitMany, .int zFitFirst, .ref mWorthBy, .long zOftenAll, .long zOftenSafe, .long zOftenValid, .ref mMany, .ref mWidth, .ref mNumbers, .ref mMoving])), (mWorld, .inl (cs 1, 76, .inl gWorld))])) A) (maxL := 1) (ret := (some .int)) (by decide) rfl (Nat.le_of_ble_eq_true rfl) ?_
  intro p e s m below meth c A ls hx hb hr hml hlk hown hts hin hK hE hP hD hA hS hl
  have hl : lv_has ls 1 [(0, .ref b0)] := hl
  generalize hHe : s.heap = H at hP
  have hS : va_S A s.heap H [] := hHe ▸ hS
  generalize hLe : ([] : List Loc) = locs at hS ⊢
  have htw : ∀ w ∈ O_X9_rules, w.before ([.ref b0] : List Value).toArray s = true := fun w h => hts w (List.mem_cons_of_mem _ (List.mem_append_left _ h))
  have hFix := (⟨hx, hb, hml, hown, hts⟩ : CallFix p m c _ _ s _ _ _)
  have hH := wok_h hwok
  have hR := wok_r hwok
  have hb0 := hok_b0 hH
  have hb2 := hok_b2 hH
  have hb3 := hok_b3 hH
  have hb4 := hok_b4 hH
  have hb5 := hok_b5 hH
  have hb6 := hok_b6 hH
  have hsm1 := sm_1 (f := gWorld)
  have hsm2 := sm_64 hH
  have hsp2 := sp_64 hH
  have hsm3 := sm_sp hH
  refine lv_aload_n hx hb dX9_rules_0 rfl (lv_at hl 0 rfl) ?_
  refine va_get (D := D) (ci := 9) (v := .ref mWorld) (C := RX9) (T := TX9) (N := 42) hx hb hts iuX9_rules_X9 hown hK hP 0 rfl rfl 1 (by decide) (htw (.fieldLink RX9 9 "MergeJudgeModel" "world" "[I") (List.mem_of_getElem? (i := 0) rfl)) (fun _ h9 => h9) rfl dX9_rules_1 ?_
  refine lv_iconst (v := 4) hx hb dX9_rules_4 (by decide) ?_
  refine va_iald hx hb hK hP 1 1 rfl rfl (vp_c (by decide)) dX9_rules_5 ?_
  refine cf_v (.int (gWorld 4)) rfl ?_
  refine cf_i (nI (wN gWorld 4)) (hok_4 (by assumption)) ?_
  exact ret_i hx hb hr hlk hS (Nat.le_of_ble_eq_true rfl) (Nat.le_of_ble_eq_true rfl) (wN gWorld 4) (⟨rfl, rfl⟩) (hP.sub [0, 1] rfl) (hD.sub [0, 1] (by decide) rfl) dX9_rules_6

set_option maxHeartbeats 4000000 in
set_option maxRecDepth 100000 in
theorem k_X9_ops (l : Launch) (D : va_G) (cs : Nat → ClassId) (sz : Nat) (b0 : Nat) (zThrown : Int32) (mWorld : Nat) (mImages : Nat) (mHasImage : Nat) (mTape : Nat) (mFive : Nat) (zToken : Int32) (zValue : Int32) (zFaultKind : Int32) (zFaultPlace : Int32) (mFresh : Nat) (mMergedBy : Nat) (zLawNow : Int32) (zLockedNow : Int32) (zDroppedNow : Int32) (mIsValid : Nat) (mGoes : Nat) (mFarNow : Nat) (mFreeNow : Nat) (mIsPair : Nat) (mHitsBy : Nat) (zBreakMany : Int32) (zLeastOps : Int32) (zLeastBase : Int32) (zLeastFirst : Int32) (zLeastSecond : Int32) (zBestLocks : Int32) (zInEach : Int32) (zFitMany : Int32) (zFitFirst : Int32) (mWorthBy : Nat) (zOftenAll : Int64) (zOftenSafe : Int64) (zOftenValid : Int64) (mMany : Nat) (mWidth : Nat) (mNumbers : Nat) (mMoving : Nat) (gWorld : Nat → Int32) (zTaped : Nat) (zSize : Nat) (zAt : Nat) (zFrom : Nat) (hzt : zTaped ≤ 400) (hzs : zSize ≤ 400) (hwok : WOK gWorld) : Mi l D cs yX9_ops W_X9_ops 0 0 0 0 [.ref b0] [(b0, .inr (9, [.int zThrown, .ref mWorld, .ref mImages, .ref mHasImage, .ref mTape, .int (nI zTaped), .ref mFive, .int (nI zSize), .int (nI zAt), .int (nI zFrom), .int zToken, .int zValue, .int zFaultKind, .int zFaultPlace, .ref mFresh, .ref mMergedBy, .int zLawNow, .int zLockedNow, .int zDroppedNow, .ref mIsValid, .ref mGoes, .ref mFarNow, .ref mFreeNow, .ref mIsPair, .ref mHitsBy, .int zBreakMany, .int zLeastOps, .int zLeastBase, .int zLeastFirst, .int zLeastSecond, .int zBestLocks, .int zInEach, .int zFitMany, .int zFitFirst, .ref mWorthBy, .long zOftenAll, .long zOftenSafe, .long zOftenValid, .ref mMany, .ref mWidth, .ref mNumbers, .ref mMoving])), (mWorld, .inl (cs 1, 76, .inl gWorld))] sz (fun (r : Int32) (u : Nat) => ((r = nI u ∧ u = wN gWorld 5))) (fun (u : Nat) => [(b0, .inr (9, [.int zThrown, .ref mWorld, .ref mImages, .ref mHasImage, .ref mTape, .int (nI zTaped), .ref mFive, .int (nI zSize), .int (nI zAt), .int (nI zFrom), .int zToken, .int zValue, .int zFaultKind, .int zFaultPlace, .ref mFresh, .ref mMergedBy, .int zLawNow, .int zLockedNow, .int zDroppedNow, .ref mIsValid, .ref mGoes, .ref mFarNow, .ref mFreeNow, .ref mIsPair, .ref mHitsBy, .int zBreakMany, .int zLeastOps, .int zLeastBase, .int zLeastFirst, .int zLeastSecond, .int zBestLocks, .int zInEach, .int zFitMany, .int zFitFirst, .ref mWorthBy, .long zOftenAll, .long zOftenSafe, .long zOftenValid, .ref mMany, .ref mWidth, .ref mNumbers, .ref mMoving])), (mWorld, .inl (cs 1, 76, .inl gWorld))]) := by
  refine ent (D := D) (cs := cs) (y := yX9_ops) (ws := W_X9_ops) (As := [.ref b0]) (W0 := [(b0, .inr (9, [.int zThrown, .ref mWorld, .ref mImages, .ref mHasImage, .ref mTape, .int (nI zTaped), .ref mFive, .int (nI zSize), .int (nI zAt), .int (nI zFrom), .int zToken, .int zValue, .int zFaultKind, .int zFaultPlace, .ref mFresh, .ref mMergedBy, .int zLawNow, .int zLockedNow, .int zDroppedNow, .ref mIsValid, .ref mGoes, .ref mFarNow, .ref mFreeNow, .ref mIsPair, .ref mHitsBy, .int zBreakMany, .int zLeastOps, .int zLeastBase, .int zLeastFirst, .int zLeastSecond, .int zBestLocks, .int zInEach, .int zFitMany, .int zFitFirst, .ref mWorthBy, .long zOftenAll, .long zOftenSafe, .long zOftenValid, .ref mMany, .ref mWidth, .ref mNumbers, .ref mMoving])), (mWorld, .inl (cs 1, 76, .inl gWorld))]) (Qx := fun A => va_Qi (fun (r : Int32) (u : Nat) => ((r = nI u ∧ u = wN gWorld 5))) (mpost D A (fun (u : Nat) => [(b0, .inr (9, [.int zThrown, .ref mWorld, .ref mImages, .ref mHasImage, .ref mTape, .int (nI zTaped), .ref mFive, .int (nI zSize), .int (nI zAt), .int (nI zFrom), .int zToken, .int zValue, .int zFaultKind, .int zFaultPlace, .ref mFresh, .ref mMergedBy, .int zLawNow, .int zLockedNow, .int zDroppedNow, .ref mIsValid, .ref mGoes, .ref mFarNow, .ref mFreeNow, .ref mIsPair, .ref mHitsBy, .int zBreakMany, .int zLeastOps, .int zLeastBase, .int zLeastFirst, .int zLeastSecond, .int zBestLocks, .int zInEach, .int zFitMany, .int zFitFirst, .ref mWorthBy, .long zOftenAll, .long zOftenSafe, .long zOftenValid, .ref mMany, .ref mWidth, .ref mNumbers, .ref mMoving])), (mWorld, .inl (cs 1, 76, .inl gWorld))])) A) (maxL := 1) (ret := (some .int)) (by decide) rfl (Nat.le_of_ble_eq_true rfl) ?_
  intro p e s m below meth c A ls hx hb hr hml hlk hown hts hin hK hE hP hD hA hS hl
  have hl : lv_has ls 1 [(0, .ref b0)] := hl
  generalize hHe : s.heap = H at hP
  have hS : va_S A s.heap H [] := hHe ▸ hS
  generalize hLe : ([] : List Loc) = locs at hS ⊢
  have htw : ∀ w ∈ O_X9_ops, w.before ([.ref b0] : List Value).toArray s = true := fun w h => hts w (List.mem_cons_of_mem _ (List.mem_append_left _ h))
  have hFix := (⟨hx, hb, hml, hown, hts⟩ : CallFix p m c _ _ s _ _ _)
  have hH := wok_h hwok
  have hR := wok_r hwok
  have hb0 := hok_b0 hH
  have hb2 := hok_b2 hH
  have hb3 := hok_b3 hH
  have hb4 := hok_b4 hH
  have hb5 := hok_b5 hH
  have hb6 := hok_b6 hH
  have hsm1 := sm_1 (f := gWorld)
  have hsm2 := sm_64 hH
  have hsp2 := sp_64 hH
  have hsm3 := sm_sp hH
  refine lv_aload_n hx hb dX9_ops_0 rfl (lv_at hl 0 rfl) ?_
  refine va_get (D := D) (ci := 9) (v := .ref mWorld) (C := RX9) (T := TX9) (N := 42) hx hb hts iuX9_ops_X9 hown hK hP 0 rfl rfl 1 (by decide) (htw (.fieldLink RX9 9 "MergeJudgeModel" "world" "[I") (List.mem_of_getElem? (i := 0) rfl)) (fun _ h9 => h9) rfl dX9_ops_1 ?_
  refine lv_iconst (v := 5) hx hb dX9_ops_4 (by decide) ?_
  refine va_iald hx hb hK hP 1 1 rfl rfl (vp_c (by decide)) dX9_ops_5 ?_
  refine cf_v (.int (gWorld 5)) rfl ?_
  refine cf_i (nI (wN gWorld 5)) (hok_5 (by assumption)) ?_
  exact ret_i hx hb hr hlk hS (Nat.le_of_ble_eq_true rfl) (Nat.le_of_ble_eq_true rfl) (wN gWorld 5) (⟨rfl, rfl⟩) (hP.sub [0, 1] rfl) (hD.sub [0, 1] (by decide) rfl) dX9_ops_6

set_option maxHeartbeats 4000000 in
set_option maxRecDepth 100000 in
theorem k_X9_allRules (l : Launch) (D : va_G) (cs : Nat → ClassId) (sz : Nat) (b0 : Nat) (zThrown : Int32) (mWorld : Nat) (mImages : Nat) (mHasImage : Nat) (mTape : Nat) (mFive : Nat) (zToken : Int32) (zValue : Int32) (zFaultKind : Int32) (zFaultPlace : Int32) (mFresh : Nat) (mMergedBy : Nat) (zLawNow : Int32) (zLockedNow : Int32) (zDroppedNow : Int32) (mIsValid : Nat) (mGoes : Nat) (mFarNow : Nat) (mFreeNow : Nat) (mIsPair : Nat) (mHitsBy : Nat) (zBreakMany : Int32) (zLeastOps : Int32) (zLeastBase : Int32) (zLeastFirst : Int32) (zLeastSecond : Int32) (zBestLocks : Int32) (zInEach : Int32) (zFitMany : Int32) (zFitFirst : Int32) (mWorthBy : Nat) (zOftenAll : Int64) (zOftenSafe : Int64) (zOftenValid : Int64) (mMany : Nat) (mWidth : Nat) (mNumbers : Nat) (mMoving : Nat) (gWorld : Nat → Int32) (zTaped : Nat) (zSize : Nat) (zAt : Nat) (zFrom : Nat) (hzt : zTaped ≤ 400) (hzs : zSize ≤ 400) (hwok : WOK gWorld) : Mi l D cs yX9_allRules W_X9_allRules 1 20 0 0 [.ref b0] [(b0, .inr (9, [.int zThrown, .ref mWorld, .ref mImages, .ref mHasImage, .ref mTape, .int (nI zTaped), .ref mFive, .int (nI zSize), .int (nI zAt), .int (nI zFrom), .int zToken, .int zValue, .int zFaultKind, .int zFaultPlace, .ref mFresh, .ref mMergedBy, .int zLawNow, .int zLockedNow, .int zDroppedNow, .ref mIsValid, .ref mGoes, .ref mFarNow, .ref mFreeNow, .ref mIsPair, .ref mHitsBy, .int zBreakMany, .int zLeastOps, .int zLeastBase, .int zLeastFirst, .int zLeastSecond, .int zBestLocks, .int zInEach, .int zFitMany, .int zFitFirst, .ref mWorthBy, .long zOftenAll, .long zOftenSafe, .long zOftenValid, .ref mMany, .ref mWidth, .ref mNumbers, .ref mMoving])), (mWorld, .inl (cs 1, 76, .inl gWorld))] sz (fun (r : Int32) (u : Unit) => True) (fun (u : Unit) => [(b0, .inr (9, [.int zThrown, .ref mWorld, .ref mImages, .ref mHasImage, .ref mTape, .int (nI zTaped), .ref mFive, .int (nI zSize), .int (nI zAt), .int (nI zFrom), .int zToken, .int zValue, .int zFaultKind, .int zFaultPlace, .ref mFresh, .ref mMergedBy, .int zLawNow, .int zLockedNow, .int zDroppedNow, .ref mIsValid, .ref mGoes, .ref mFarNow, .ref mFreeNow, .ref mIsPair, .ref mHitsBy, .int zBreakMany, .int zLeastOps, .int zLeastBase, .int zLeastFirst, .int zLeastSecond, .int zBestLocks, .int zInEach, .int zFitMany, .int zFitFirst, .ref mWorthBy, .long zOftenAll, .long zOftenSafe, .long zOftenValid, .ref mMany, .ref mWidth, .ref mNumbers, .ref mMoving])), (mWorld, .inl (cs 1, 76, .inl gWorld))]) := by
  refine ent (D := D) (cs := cs) (y := yX9_allRules) (ws := W_X9_allRules) (As := [.ref b0]) (W0 := [(b0, .inr (9, [.int zThrown, .ref mWorld, .ref mImages, .ref mHasImage, .ref mTape, .int (nI zTaped), .ref mFive, .int (nI zSize), .int (nI zAt), .int (nI zFrom), .int zToken, .int zValue, .int zFaultKind, .int zFaultPlace, .ref mFresh, .ref mMergedBy, .int zLawNow, .int zLockedNow, .int zDroppedNow, .ref mIsValid, .ref mGoes, .ref mFarNow, .ref mFreeNow, .ref mIsPair, .ref mHitsBy, .int zBreakMany, .int zLeastOps, .int zLeastBase, .int zLeastFirst, .int zLeastSecond, .int zBestLocks, .int zInEach, .int zFitMany, .int zFitFirst, .ref mWorthBy, .long zOftenAll, .long zOftenSafe, .long zOftenValid, .ref mMany, .ref mWidth, .ref mNumbers, .ref mMoving])), (mWorld, .inl (cs 1, 76, .inl gWorld))]) (Qx := fun A => va_Qi (fun (r : Int32) (u : Unit) => True) (mpost D A (fun (u : Unit) => [(b0, .inr (9, [.int zThrown, .ref mWorld, .ref mImages, .ref mHasImage, .ref mTape, .int (nI zTaped), .ref mFive, .int (nI zSize), .int (nI zAt), .int (nI zFrom), .int zToken, .int zValue, .int zFaultKind, .int zFaultPlace, .ref mFresh, .ref mMergedBy, .int zLawNow, .int zLockedNow, .int zDroppedNow, .ref mIsValid, .ref mGoes, .ref mFarNow, .ref mFreeNow, .ref mIsPair, .ref mHitsBy, .int zBreakMany, .int zLeastOps, .int zLeastBase, .int zLeastFirst, .int zLeastSecond, .int zBestLocks, .int zInEach, .int zFitMany, .int zFitFirst, .ref mWorthBy, .long zOftenAll, .long zOftenSafe, .long zOftenValid, .ref mMany, .ref mWidth, .ref mNumbers, .ref mMoving])), (mWorld, .inl (cs 1, 76, .inl gWorld))])) A) (maxL := 1) (ret := (some .int)) (by decide) rfl (Nat.le_of_ble_eq_true rfl) ?_
  intro p e s m below meth c A ls hx hb hr hml hlk hown hts hin hK hE hP hD hA hS hl
  have hl : lv_has ls 1 [(0, .ref b0)] := hl
  generalize hHe : s.heap = H at hP
  have hS : va_S A s.heap H [] := hHe ▸ hS
  generalize hLe : ([] : List Loc) = locs at hS ⊢
  have htw : ∀ w ∈ O_X9_allRules, w.before ([.ref b0] : List Value).toArray s = true := fun w h => hts w (List.mem_cons_of_mem _ (List.mem_append_left _ h))
  have hFix := (⟨hx, hb, hml, hown, hts⟩ : CallFix p m c _ _ s _ _ _)
  have hH := wok_h hwok
  have hR := wok_r hwok
  have hb0 := hok_b0 hH
  have hb2 := hok_b2 hH
  have hb3 := hok_b3 hH
  have hb4 := hok_b4 hH
  have hb5 := hok_b5 hH
  have hb6 := hok_b6 hH
  have hsm1 := sm_1 (f := gWorld)
  have hsm2 := sm_64 hH
  have hsp2 := sp_64 hH
  have hsm3 := sm_sp hH
  refine lv_iconst (v := 1) hx hb dX9_allRules_0 (by decide) ?_
  refine lv_aload_n hx hb dX9_allRules_1 rfl (lv_at hl 0 rfl) ?_
  refine aft_i (wr := []) hP hD hS hA [0, 1] [] rfl rfl (by decide) (by decide) (run_v (As := []) (rest := [.int 1]) hFix hK hE hP hD [0, 1] (k_X9_rules l D cs _ b0 zThrown mWorld mImages mHasImage mTape mFive zToken zValue zFaultKind zFaultPlace mFresh mMergedBy zLawNow zLockedNow zDroppedNow mIsValid mGoes mFarNow mFreeNow mIsPair mHitsBy zBreakMany zLeastOps zLeastBase zLeastFirst zLeastSecond zBestLocks zInEach zFitMany zFitFirst mWorthBy zOftenAll zOftenSafe zOftenValid mMany mWidth mNumbers mMoving gWorld zTaped zSize zAt zFrom (by first | assumption | decide | omega) (by first | assumption | decide | omega) (by first | assumption | decide | omega)) (cwV 0 hts gc_X9_allRules_80_X9_rules rfl rfl rfl (by decide +kernel) ⟨Nat.le_of_ble_eq_true rfl, Nat.le_of_ble_eq_true rfl⟩) rfl (by decide) rfl rfl rfl hl.1 rfl (Nat.le_of_ble_eq_true rfl) dX9_allRules_2 ⟨Nat.le_of_ble_eq_true rfl, Nat.le_of_ble_eq_true rfl⟩) (fun r_1 u_1 H locs hq_1 hP hD hS => ?_)
  obtain ⟨j_1, rfl⟩ : ∃ z, z = u_1 := ⟨_, rfl⟩
  have hP : va_P D vwCl [(b0, .inr (9, [.int zThrown, .ref mWorld, .ref mImages, .ref mHasImage, .ref mTape, .int (nI zTaped), .ref mFive, .int (nI zSize), .int (nI zAt), .int (nI zFrom), .int zToken, .int zValue, .int zFaultKind, .int zFaultPlace, .ref mFresh, .ref mMergedBy, .int zLawNow, .int zLockedNow, .int zDroppedNow, .ref mIsValid, .ref mGoes, .ref mFarNow, .ref mFreeNow, .ref mIsPair, .ref mHitsBy, .int zBreakMany, .int zLeastOps, .int zLeastBase, .int zLeastFirst, .int zLeastSecond, .int zBestLocks, .int zInEach, .int zFitMany, .int zFitFirst, .ref mWorthBy, .long zOftenAll, .long zOftenSafe, .long zOftenValid, .ref mMany, .ref mWidth, .ref mNumbers, .ref mMoving])), (mWorld, .inl (cs 1, 76, .inl gWorld))] H := hP
  have hD : va_D A [(b0, .inr (9, [.int zThrown, .ref mWorld, .ref mImages, .ref mHasImage, .ref mTape, .int (nI zTaped), .ref mFive, .int (nI zSize), .int (nI zAt), .int (nI zFrom), .int zToken, .int zValue, .int zFaultKind, .int zFaultPlace, .ref mFresh, .ref mMergedBy, .int zLawNow, .int zLockedNow, .int zDroppedNow, .ref mIsValid, .ref mGoes, .ref mFarNow, .ref mFreeNow, .ref mIsPair, .ref mHitsBy, .int zBreakMany, .int zLeastOps, .int zLeastBase, .int zLeastFirst, .int zLeastSecond, .int zBestLocks, .int zInEach, .int zFitMany, .int zFitFirst, .ref mWorthBy, .long zOftenAll, .long zOftenSafe, .long zOftenValid, .ref mMany, .ref mWidth, .ref mNumbers, .ref mMoving])), (mWorld, .inl (cs 1, 76, .inl gWorld))] := hD
  replace hq_1 : ((r_1 = nI j_1 ∧ j_1 = wN gWorld 4)) := hq_1
  obtain ⟨rfl, hq_1⟩ := hq_1
  ·
    refine lv_ishl hx hb dX9_allRules_5 ?_
    refine lv_iconst (v := 1) hx hb dX9_allRules_6 (by decide) ?_
    refine lv_isub hx hb dX9_allRules_7 ?_
    exact ret_i hx hb hr hlk hS (Nat.le_of_ble_eq_true rfl) (Nat.le_of_ble_eq_true rfl) () (trivial) (hP.sub [0, 1] rfl) (hD.sub [0, 1] (by decide) rfl) dX9_allRules_8

set_option maxHeartbeats 4000000 in
set_option maxRecDepth 100000 in
theorem k_X9_allOps (l : Launch) (D : va_G) (cs : Nat → ClassId) (sz : Nat) (b0 : Nat) (zThrown : Int32) (mWorld : Nat) (mImages : Nat) (mHasImage : Nat) (mTape : Nat) (mFive : Nat) (zToken : Int32) (zValue : Int32) (zFaultKind : Int32) (zFaultPlace : Int32) (mFresh : Nat) (mMergedBy : Nat) (zLawNow : Int32) (zLockedNow : Int32) (zDroppedNow : Int32) (mIsValid : Nat) (mGoes : Nat) (mFarNow : Nat) (mFreeNow : Nat) (mIsPair : Nat) (mHitsBy : Nat) (zBreakMany : Int32) (zLeastOps : Int32) (zLeastBase : Int32) (zLeastFirst : Int32) (zLeastSecond : Int32) (zBestLocks : Int32) (zInEach : Int32) (zFitMany : Int32) (zFitFirst : Int32) (mWorthBy : Nat) (zOftenAll : Int64) (zOftenSafe : Int64) (zOftenValid : Int64) (mMany : Nat) (mWidth : Nat) (mNumbers : Nat) (mMoving : Nat) (gWorld : Nat → Int32) (zTaped : Nat) (zSize : Nat) (zAt : Nat) (zFrom : Nat) (hzt : zTaped ≤ 400) (hzs : zSize ≤ 400) (hwok : WOK gWorld) : Mi l D cs yX9_allOps W_X9_allOps 1 20 0 0 [.ref b0] [(b0, .inr (9, [.int zThrown, .ref mWorld, .ref mImages, .ref mHasImage, .ref mTape, .int (nI zTaped), .ref mFive, .int (nI zSize), .int (nI zAt), .int (nI zFrom), .int zToken, .int zValue, .int zFaultKind, .int zFaultPlace, .ref mFresh, .ref mMergedBy, .int zLawNow, .int zLockedNow, .int zDroppedNow, .ref mIsValid, .ref mGoes, .ref mFarNow, .ref mFreeNow, .ref mIsPair, .ref mHitsBy, .int zBreakMany, .int zLeastOps, .int zLeastBase, .int zLeastFirst, .int zLeastSecond, .int zBestLocks, .int zInEach, .int zFitMany, .int zFitFirst, .ref mWorthBy, .long zOftenAll, .long zOftenSafe, .long zOftenValid, .ref mMany, .ref mWidth, .ref mNumbers, .ref mMoving])), (mWorld, .inl (cs 1, 76, .inl gWorld))] sz (fun (r : Int32) (u : Unit) => r = (1 : Int32) <<< (nI (wN gWorld 5) &&& 31) - (1 : Int32)) (fun (u : Unit) => [(b0, .inr (9, [.int zThrown, .ref mWorld, .ref mImages, .ref mHasImage, .ref mTape, .int (nI zTaped), .ref mFive, .int (nI zSize), .int (nI zAt), .int (nI zFrom), .int zToken, .int zValue, .int zFaultKind, .int zFaultPlace, .ref mFresh, .ref mMergedBy, .int zLawNow, .int zLockedNow, .int zDroppedNow, .ref mIsValid, .ref mGoes, .ref mFarNow, .ref mFreeNow, .ref mIsPair, .ref mHitsBy, .int zBreakMany, .int zLeastOps, .int zLeastBase, .int zLeastFirst, .int zLeastSecond, .int zBestLocks, .int zInEach, .int zFitMany, .int zFitFirst, .ref mWorthBy, .long zOftenAll, .long zOftenSafe, .long zOftenValid, .ref mMany, .ref mWidth, .ref mNumbers, .ref mMoving])), (mWorld, .inl (cs 1, 76, .inl gWorld))]) := by
  refine ent (D := D) (cs := cs) (y := yX9_allOps) (ws := W_X9_allOps) (As := [.ref b0]) (W0 := [(b0, .inr (9, [.int zThrown, .ref mWorld, .ref mImages, .ref mHasImage, .ref mTape, .int (nI zTaped), .ref mFive, .int (nI zSize), .int (nI zAt), .int (nI zFrom), .int zToken, .int zValue, .int zFaultKind, .int zFaultPlace, .ref mFresh, .ref mMergedBy, .int zLawNow, .int zLockedNow, .int zDroppedNow, .ref mIsValid, .ref mGoes, .ref mFarNow, .ref mFreeNow, .ref mIsPair, .ref mHitsBy, .int zBreakMany, .int zLeastOps, .int zLeastBase, .int zLeastFirst, .int zLeastSecond, .int zBestLocks, .int zInEach, .int zFitMany, .int zFitFirst, .ref mWorthBy, .long zOftenAll, .long zOftenSafe, .long zOftenValid, .ref mMany, .ref mWidth, .ref mNumbers, .ref mMoving])), (mWorld, .inl (cs 1, 76, .inl gWorld))]) (Qx := fun A => va_Qi (fun (r : Int32) (u : Unit) => r = (1 : Int32) <<< (nI (wN gWorld 5) &&& 31) - (1 : Int32)) (mpost D A (fun (u : Unit) => [(b0, .inr (9, [.int zThrown, .ref mWorld, .ref mImages, .ref mHasImage, .ref mTape, .int (nI zTaped), .ref mFive, .int (nI zSize), .int (nI zAt), .int (nI zFrom), .int zToken, .int zValue, .int zFaultKind, .int zFaultPlace, .ref mFresh, .ref mMergedBy, .int zLawNow, .int zLockedNow, .int zDroppedNow, .ref mIsValid, .ref mGoes, .ref mFarNow, .ref mFreeNow, .ref mIsPair, .ref mHitsBy, .int zBreakMany, .int zLeastOps, .int zLeastBase, .int zLeastFirst, .int zLeastSecond, .int zBestLocks, .int zInEach, .int zFitMany, .int zFitFirst, .ref mWorthBy, .long zOftenAll, .long zOftenSafe, .long zOftenValid, .ref mMany, .ref mWidth, .ref mNumbers, .ref mMoving])), (mWorld, .inl (cs 1, 76, .inl gWorld))])) A) (maxL := 1) (ret := (some .int)) (by decide) rfl (Nat.le_of_ble_eq_true rfl) ?_
  intro p e s m below meth c A ls hx hb hr hml hlk hown hts hin hK hE hP hD hA hS hl
  have hl : lv_has ls 1 [(0, .ref b0)] := hl
  generalize hHe : s.heap = H at hP
  have hS : va_S A s.heap H [] := hHe ▸ hS
  generalize hLe : ([] : List Loc) = locs at hS ⊢
  have htw : ∀ w ∈ O_X9_allOps, w.before ([.ref b0] : List Value).toArray s = true := fun w h => hts w (List.mem_cons_of_mem _ (List.mem_append_left _ h))
  have hFix := (⟨hx, hb, hml, hown, hts⟩ : CallFix p m c _ _ s _ _ _)
  have hH := wok_h hwok
  have hR := wok_r hwok
  have hb0 := hok_b0 hH
  have hb2 := hok_b2 hH
  have hb3 := hok_b3 hH
  have hb4 := hok_b4 hH
  have hb5 := hok_b5 hH
  have hb6 := hok_b6 hH
  have hsm1 := sm_1 (f := gWorld)
  have hsm2 := sm_64 hH
  have hsp2 := sp_64 hH
  have hsm3 := sm_sp hH
  refine lv_iconst (v := 1) hx hb dX9_allOps_0 (by decide) ?_
  refine lv_aload_n hx hb dX9_allOps_1 rfl (lv_at hl 0 rfl) ?_
  refine aft_i (wr := []) hP hD hS hA [0, 1] [] rfl rfl (by decide) (by decide) (run_v (As := []) (rest := [.int 1]) hFix hK hE hP hD [0, 1] (k_X9_ops l D cs _ b0 zThrown mWorld mImages mHasImage mTape mFive zToken zValue zFaultKind zFaultPlace mFresh mMergedBy zLawNow zLockedNow zDroppedNow mIsValid mGoes mFarNow mFreeNow mIsPair mHitsBy zBreakMany zLeastOps zLeastBase zLeastFirst zLeastSecond zBestLocks zInEach zFitMany zFitFirst mWorthBy zOftenAll zOftenSafe zOftenValid mMany mWidth mNumbers mMoving gWorld zTaped zSize zAt zFrom (by first | assumption | decide | omega) (by first | assumption | decide | omega) (by first | assumption | decide | omega)) (cwV 0 hts gc_X9_allOps_84_X9_ops rfl rfl rfl (by decide +kernel) ⟨Nat.le_of_ble_eq_true rfl, Nat.le_of_ble_eq_true rfl⟩) rfl (by decide) rfl rfl rfl hl.1 rfl (Nat.le_of_ble_eq_true rfl) dX9_allOps_2 ⟨Nat.le_of_ble_eq_true rfl, Nat.le_of_ble_eq_true rfl⟩) (fun r_1 u_1 H locs hq_1 hP hD hS => ?_)
  obtain ⟨j_1, rfl⟩ : ∃ z, z = u_1 := ⟨_, rfl⟩
  have hP : va_P D vwCl [(b0, .inr (9, [.int zThrown, .ref mWorld, .ref mImages, .ref mHasImage, .ref mTape, .int (nI zTaped), .ref mFive, .int (nI zSize), .int (nI zAt), .int (nI zFrom), .int zToken, .int zValue, .int zFaultKind, .int zFaultPlace, .ref mFresh, .ref mMergedBy, .int zLawNow, .int zLockedNow, .int zDroppedNow, .ref mIsValid, .ref mGoes, .ref mFarNow, .ref mFreeNow, .ref mIsPair, .ref mHitsBy, .int zBreakMany, .int zLeastOps, .int zLeastBase, .int zLeastFirst, .int zLeastSecond, .int zBestLocks, .int zInEach, .int zFitMany, .int zFitFirst, .ref mWorthBy, .long zOftenAll, .long zOftenSafe, .long zOftenValid, .ref mMany, .ref mWidth, .ref mNumbers, .ref mMoving])), (mWorld, .inl (cs 1, 76, .inl gWorld))] H := hP
  have hD : va_D A [(b0, .inr (9, [.int zThrown, .ref mWorld, .ref mImages, .ref mHasImage, .ref mTape, .int (nI zTaped), .ref mFive, .int (nI zSize), .int (nI zAt), .int (nI zFrom), .int zToken, .int zValue, .int zFaultKind, .int zFaultPlace, .ref mFresh, .ref mMergedBy, .int zLawNow, .int zLockedNow, .int zDroppedNow, .ref mIsValid, .ref mGoes, .ref mFarNow, .ref mFreeNow, .ref mIsPair, .ref mHitsBy, .int zBreakMany, .int zLeastOps, .int zLeastBase, .int zLeastFirst, .int zLeastSecond, .int zBestLocks, .int zInEach, .int zFitMany, .int zFitFirst, .ref mWorthBy, .long zOftenAll, .long zOftenSafe, .long zOftenValid, .ref mMany, .ref mWidth, .ref mNumbers, .ref mMoving])), (mWorld, .inl (cs 1, 76, .inl gWorld))] := hD
  replace hq_1 : ((r_1 = nI j_1 ∧ j_1 = wN gWorld 5)) := hq_1
  obtain ⟨rfl, hq_1⟩ := hq_1
  ·
    refine lv_ishl hx hb dX9_allOps_5 ?_
    refine lv_iconst (v := 1) hx hb dX9_allOps_6 (by decide) ?_
    refine lv_isub hx hb dX9_allOps_7 ?_
    exact ret_i hx hb hr hlk hS (Nat.le_of_ble_eq_true rfl) (Nat.le_of_ble_eq_true rfl) () ((by rw [hq_1])) (hP.sub [0, 1] rfl) (hD.sub [0, 1] (by decide) rfl) dX9_allOps_8

set_option maxHeartbeats 4000000 in
set_option maxRecDepth 100000 in
theorem k_X9_isCell (l : Launch) (D : va_G) (cs : Nat → ClassId) (sz : Nat) (b0 : Nat) (x1 : Int32) (zThrown : Int32) (mWorld : Nat) (mImages : Nat) (mHasImage : Nat) (mTape : Nat) (mFive : Nat) (zToken : Int32) (zValue : Int32) (zFaultKind : Int32) (zFaultPlace : Int32) (mFresh : Nat) (mMergedBy : Nat) (zLawNow : Int32) (zLockedNow : Int32) (zDroppedNow : Int32) (mIsValid : Nat) (mGoes : Nat) (mFarNow : Nat) (mFreeNow : Nat) (mIsPair : Nat) (mHitsBy : Nat) (zBreakMany : Int32) (zLeastOps : Int32) (zLeastBase : Int32) (zLeastFirst : Int32) (zLeastSecond : Int32) (zBestLocks : Int32) (zInEach : Int32) (zFitMany : Int32) (zFitFirst : Int32) (mWorthBy : Nat) (zOftenAll : Int64) (zOftenSafe : Int64) (zOftenValid : Int64) (mMany : Nat) (mWidth : Nat) (mNumbers : Nat) (mMoving : Nat) (gWorld : Nat → Int32) (zTaped : Nat) (zSize : Nat) (zAt : Nat) (zFrom : Nat) (hzt : zTaped ≤ 400) (hzs : zSize ≤ 400) (hwok : WOK gWorld) : Mi l D cs yX9_isCell W_X9_isCell 1 25 0 0 [.ref b0, .int x1] [(b0, .inr (9, [.int zThrown, .ref mWorld, .ref mImages, .ref mHasImage, .ref mTape, .int (nI zTaped), .ref mFive, .int (nI zSize), .int (nI zAt), .int (nI zFrom), .int zToken, .int zValue, .int zFaultKind, .int zFaultPlace, .ref mFresh, .ref mMergedBy, .int zLawNow, .int zLockedNow, .int zDroppedNow, .ref mIsValid, .ref mGoes, .ref mFarNow, .ref mFreeNow, .ref mIsPair, .ref mHitsBy, .int zBreakMany, .int zLeastOps, .int zLeastBase, .int zLeastFirst, .int zLeastSecond, .int zBestLocks, .int zInEach, .int zFitMany, .int zFitFirst, .ref mWorthBy, .long zOftenAll, .long zOftenSafe, .long zOftenValid, .ref mMany, .ref mWidth, .ref mNumbers, .ref mMoving])), (mWorld, .inl (cs 1, 76, .inl gWorld))] sz (fun (r : Int32) (u : Unit) => ((r = 1 ∧ ∃ j9, j9 < wN gWorld 3 ∧ x1 = nI j9) ∨ (r = 0 ∧ True))) (fun (u : Unit) => [(b0, .inr (9, [.int zThrown, .ref mWorld, .ref mImages, .ref mHasImage, .ref mTape, .int (nI zTaped), .ref mFive, .int (nI zSize), .int (nI zAt), .int (nI zFrom), .int zToken, .int zValue, .int zFaultKind, .int zFaultPlace, .ref mFresh, .ref mMergedBy, .int zLawNow, .int zLockedNow, .int zDroppedNow, .ref mIsValid, .ref mGoes, .ref mFarNow, .ref mFreeNow, .ref mIsPair, .ref mHitsBy, .int zBreakMany, .int zLeastOps, .int zLeastBase, .int zLeastFirst, .int zLeastSecond, .int zBestLocks, .int zInEach, .int zFitMany, .int zFitFirst, .ref mWorthBy, .long zOftenAll, .long zOftenSafe, .long zOftenValid, .ref mMany, .ref mWidth, .ref mNumbers, .ref mMoving])), (mWorld, .inl (cs 1, 76, .inl gWorld))]) := by
  refine ent (D := D) (cs := cs) (y := yX9_isCell) (ws := W_X9_isCell) (As := [.ref b0, .int x1]) (W0 := [(b0, .inr (9, [.int zThrown, .ref mWorld, .ref mImages, .ref mHasImage, .ref mTape, .int (nI zTaped), .ref mFive, .int (nI zSize), .int (nI zAt), .int (nI zFrom), .int zToken, .int zValue, .int zFaultKind, .int zFaultPlace, .ref mFresh, .ref mMergedBy, .int zLawNow, .int zLockedNow, .int zDroppedNow, .ref mIsValid, .ref mGoes, .ref mFarNow, .ref mFreeNow, .ref mIsPair, .ref mHitsBy, .int zBreakMany, .int zLeastOps, .int zLeastBase, .int zLeastFirst, .int zLeastSecond, .int zBestLocks, .int zInEach, .int zFitMany, .int zFitFirst, .ref mWorthBy, .long zOftenAll, .long zOftenSafe, .long zOftenValid, .ref mMany, .ref mWidth, .ref mNumbers, .ref mMoving])), (mWorld, .inl (cs 1, 76, .inl gWorld))]) (Qx := fun A => va_Qi (fun (r : Int32) (u : Unit) => ((r = 1 ∧ ∃ j9, j9 < wN gWorld 3 ∧ x1 = nI j9) ∨ (r = 0 ∧ True))) (mpost D A (fun (u : Unit) => [(b0, .inr (9, [.int zThrown, .ref mWorld, .ref mImages, .ref mHasImage, .ref mTape, .int (nI zTaped), .ref mFive, .int (nI zSize), .int (nI zAt), .int (nI zFrom), .int zToken, .int zValue, .int zFaultKind, .int zFaultPlace, .ref mFresh, .ref mMergedBy, .int zLawNow, .int zLockedNow, .int zDroppedNow, .ref mIsValid, .ref mGoes, .ref mFarNow, .ref mFreeNow, .ref mIsPair, .ref mHitsBy, .int zBreakMany, .int zLeastOps, .int zLeastBase, .int zLeastFirst, .int zLeastSecond, .int zBestLocks, .int zInEach, .int zFitMany, .int zFitFirst, .ref mWorthBy, .long zOftenAll, .long zOftenSafe, .long zOftenValid, .ref mMany, .ref mWidth, .ref mNumbers, .ref mMoving])), (mWorld, .inl (cs 1, 76, .inl gWorld))])) A) (maxL := 2) (ret := (some .boolean)) (by decide) rfl (Nat.le_of_ble_eq_true rfl) ?_
  intro p e s m below meth c A ls hx hb hr hml hlk hown hts hin hK hE hP hD hA hS hl
  have hl : lv_has ls 2 [(0, .ref b0), (1, .int x1)] := hl
  generalize hHe : s.heap = H at hP
  have hS : va_S A s.heap H [] := hHe ▸ hS
  generalize hLe : ([] : List Loc) = locs at hS ⊢
  have htw : ∀ w ∈ O_X9_isCell, w.before ([.ref b0, .int x1] : List Value).toArray s = true := fun w h => hts w (List.mem_cons_of_mem _ (List.mem_append_left _ h))
  have hFix := (⟨hx, hb, hml, hown, hts⟩ : CallFix p m c _ _ s _ _ _)
  have hH := wok_h hwok
  have hR := wok_r hwok
  have hb0 := hok_b0 hH
  have hb2 := hok_b2 hH
  have hb3 := hok_b3 hH
  have hb4 := hok_b4 hH
  have hb5 := hok_b5 hH
  have hb6 := hok_b6 hH
  have hsm1 := sm_1 (f := gWorld)
  have hsm2 := sm_64 hH
  have hsp2 := sp_64 hH
  have hsm3 := sm_sp hH
  refine lv_iload_n hx hb dX9_isCell_0 rfl (lv_at hl 1 rfl) ?_
  refine lv_i2l (v := x1.toInt64) hx hb dX9_isCell_1 rfl ?_
  refine lv_lconst (v := 0) hx hb dX9_isCell_2 (by decide) ?_
  refine lv_aload_n hx hb dX9_isCell_3 rfl (lv_at hl 0 rfl) ?_
  refine aft_i (wr := []) hP hD hS hA [0, 1] [] rfl rfl (by decide) (by decide) (run_v (As := []) (rest := [.long 0, .long x1.toInt64]) hFix hK hE hP hD [0, 1] (k_X9_cells l D cs _ b0 zThrown mWorld mImages mHasImage mTape mFive zToken zValue zFaultKind zFaultPlace mFresh mMergedBy zLawNow zLockedNow zDroppedNow mIsValid mGoes mFarNow mFreeNow mIsPair mHitsBy zBreakMany zLeastOps zLeastBase zLeastFirst zLeastSecond zBestLocks zInEach zFitMany zFitFirst mWorthBy zOftenAll zOftenSafe zOftenValid mMany mWidth mNumbers mMoving gWorld zTaped zSize zAt zFrom (by first | assumption | decide | omega) (by first | assumption | decide | omega) (by first | assumption | decide | omega)) (cwV 0 hts gc_X9_isCell_87_X9_cells rfl rfl rfl (by decide +kernel) ⟨Nat.le_of_ble_eq_true rfl, Nat.le_of_ble_eq_true rfl⟩) rfl (by decide) rfl rfl rfl hl.1 rfl (Nat.le_of_ble_eq_true rfl) dX9_isCell_4 ⟨Nat.le_of_ble_eq_true rfl, Nat.le_of_ble_eq_true rfl⟩) (fun r_1 u_1 H locs hq_1 hP hD hS => ?_)
  obtain ⟨j_1, rfl⟩ : ∃ z, z = u_1 := ⟨_, rfl⟩
  have hP : va_P D vwCl [(b0, .inr (9, [.int zThrown, .ref mWorld, .ref mImages, .ref mHasImage, .ref mTape, .int (nI zTaped), .ref mFive, .int (nI zSize), .int (nI zAt), .int (nI zFrom), .int zToken, .int zValue, .int zFaultKind, .int zFaultPlace, .ref mFresh, .ref mMergedBy, .int zLawNow, .int zLockedNow, .int zDroppedNow, .ref mIsValid, .ref mGoes, .ref mFarNow, .ref mFreeNow, .ref mIsPair, .ref mHitsBy, .int zBreakMany, .int zLeastOps, .int zLeastBase, .int zLeastFirst, .int zLeastSecond, .int zBestLocks, .int zInEach, .int zFitMany, .int zFitFirst, .ref mWorthBy, .long zOftenAll, .long zOftenSafe, .long zOftenValid, .ref mMany, .ref mWidth, .ref mNumbers, .ref mMoving])), (mWorld, .inl (cs 1, 76, .inl gWorld))] H := hP
  have hD : va_D A [(b0, .inr (9, [.int zThrown, .ref mWorld, .ref mImages, .ref mHasImage, .ref mTape, .int (nI zTaped), .ref mFive, .int (nI zSize), .int (nI zAt), .int (nI zFrom), .int zToken, .int zValue, .int zFaultKind, .int zFaultPlace, .ref mFresh, .ref mMergedBy, .int zLawNow, .int zLockedNow, .int zDroppedNow, .ref mIsValid, .ref mGoes, .ref mFarNow, .ref mFreeNow, .ref mIsPair, .ref mHitsBy, .int zBreakMany, .int zLeastOps, .int zLeastBase, .int zLeastFirst, .int zLeastSecond, .int zBestLocks, .int zInEach, .int zFitMany, .int zFitFirst, .ref mWorthBy, .long zOftenAll, .long zOftenSafe, .long zOftenValid, .ref mMany, .ref mWidth, .ref mNumbers, .ref mMoving])), (mWorld, .inl (cs 1, 76, .inl gWorld))] := hD
  replace hq_1 : ((r_1 = nI j_1 ∧ j_1 = wN gWorld 3)) := hq_1
  obtain ⟨rfl, hq_1⟩ := hq_1
  ·
    refine lv_iconst (v := 1) hx hb dX9_isCell_7 (by decide) ?_
    refine lv_isub hx hb dX9_isCell_8 ?_
    refine lv_i2l (v := (((nI j_1) - (1 : Int32)).toInt64)) hx hb dX9_isCell_9 rfl ?_
    refine aft_i (wr := [(b0, .inr (9, [.int zThrown, .ref mWorld, .ref mImages, .ref mHasImage, .ref mTape, .int (nI zTaped), .ref mFive, .int (nI zSize), .int (nI zAt), .int (nI zFrom), .int zToken, .int zValue, .int zFaultKind, .int zFaultPlace, .ref mFresh, .ref mMergedBy, .int zLawNow, .int zLockedNow, .int zDroppedNow, .ref mIsValid, .ref mGoes, .ref mFarNow, .ref mFreeNow, .ref mIsPair, .ref mHitsBy, .int zBreakMany, .int zLeastOps, .int zLeastBase, .int zLeastFirst, .int zLeastSecond, .int zBestLocks, .int zInEach, .int zFitMany, .int zFitFirst, .ref mWorthBy, .long zOftenAll, .long zOftenSafe, .long zOftenValid, .ref mMany, .ref mWidth, .ref mNumbers, .ref mMoving])), (mWorld, .inl (cs 1, 76, .inl gWorld))]) hP hD hS hA [] [0, 1] rfl rfl (by decide) (by decide) (run_s (As := [.long x1.toInt64, .long 0, .long (((nI j_1) - (1 : Int32)).toInt64)]) (rest := []) hFix hK hE hP hD [] (k_X9_in l D cs _ x1.toInt64 0 (((nI j_1) - (1 : Int32)).toInt64)) (va_cwS 3 hts gc_X9_isCell_76_X9_in rfl rfl rfl (by decide +kernel) ⟨Nat.le_of_ble_eq_true rfl, Nat.le_of_ble_eq_true rfl⟩) rfl (by decide) rfl hl.1 rfl (Nat.le_of_ble_eq_true rfl) dX9_isCell_10 ⟨Nat.le_of_ble_eq_true rfl, Nat.le_of_ble_eq_true rfl⟩) (fun r_2 u_2 H locs hq_2 hP hD hS => ?_)
    have hP : va_P D vwCl [(b0, .inr (9, [.int zThrown, .ref mWorld, .ref mImages, .ref mHasImage, .ref mTape, .int (nI zTaped), .ref mFive, .int (nI zSize), .int (nI zAt), .int (nI zFrom), .int zToken, .int zValue, .int zFaultKind, .int zFaultPlace, .ref mFresh, .ref mMergedBy, .int zLawNow, .int zLockedNow, .int zDroppedNow, .ref mIsValid, .ref mGoes, .ref mFarNow, .ref mFreeNow, .ref mIsPair, .ref mHitsBy, .int zBreakMany, .int zLeastOps, .int zLeastBase, .int zLeastFirst, .int zLeastSecond, .int zBestLocks, .int zInEach, .int zFitMany, .int zFitFirst, .ref mWorthBy, .long zOftenAll, .long zOftenSafe, .long zOftenValid, .ref mMany, .ref mWidth, .ref mNumbers, .ref mMoving])), (mWorld, .inl (cs 1, 76, .inl gWorld))] H := hP
    have hD : va_D A [(b0, .inr (9, [.int zThrown, .ref mWorld, .ref mImages, .ref mHasImage, .ref mTape, .int (nI zTaped), .ref mFive, .int (nI zSize), .int (nI zAt), .int (nI zFrom), .int zToken, .int zValue, .int zFaultKind, .int zFaultPlace, .ref mFresh, .ref mMergedBy, .int zLawNow, .int zLockedNow, .int zDroppedNow, .ref mIsValid, .ref mGoes, .ref mFarNow, .ref mFreeNow, .ref mIsPair, .ref mHitsBy, .int zBreakMany, .int zLeastOps, .int zLeastBase, .int zLeastFirst, .int zLeastSecond, .int zBestLocks, .int zInEach, .int zFitMany, .int zFitFirst, .ref mWorthBy, .long zOftenAll, .long zOftenSafe, .long zOftenValid, .ref mMany, .ref mWidth, .ref mNumbers, .ref mMoving])), (mWorld, .inl (cs 1, 76, .inl gWorld))] := hD
    replace hq_2 : ((r_2 = 1 ∧ 0 ≤ x1.toInt64 ∧ x1.toInt64 ≤ (((nI j_1) - (1 : Int32)).toInt64)) ∨ (r_2 = 0 ∧ ¬ (0 ≤ x1.toInt64 ∧ x1.toInt64 ≤ (((nI j_1) - (1 : Int32)).toInt64)))) := hq_2
    rcases hq_2 with ⟨rfl, hq_2⟩ | ⟨rfl, hq_2⟩
    ·
      exact ret_z hx hb hr hlk hS (Nat.le_of_ble_eq_true rfl) (Nat.le_of_ble_eq_true rfl) (by decide) () (Or.inl ⟨rfl, (by obtain ⟨j9, h9, e9⟩ := in_cell (by omega) hq_2; exact ⟨j9, by omega, e9⟩)⟩) (hP.sub [0, 1] rfl) (hD.sub [0, 1] (by decide) rfl) dX9_isCell_13
    ·
      exact ret_z hx hb hr hlk hS (Nat.le_of_ble_eq_true rfl) (Nat.le_of_ble_eq_true rfl) (by decide) () (Or.inr (⟨rfl, trivial⟩)) (hP.sub [0, 1] rfl) (hD.sub [0, 1] (by decide) rfl) dX9_isCell_13

set_option maxHeartbeats 4000000 in
set_option maxRecDepth 100000 in
theorem k_X9_isRule (l : Launch) (D : va_G) (cs : Nat → ClassId) (sz : Nat) (b0 : Nat) (x1 : Int32) (zThrown : Int32) (mWorld : Nat) (mImages : Nat) (mHasImage : Nat) (mTape : Nat) (mFive : Nat) (zToken : Int32) (zValue : Int32) (zFaultKind : Int32) (zFaultPlace : Int32) (mFresh : Nat) (mMergedBy : Nat) (zLawNow : Int32) (zLockedNow : Int32) (zDroppedNow : Int32) (mIsValid : Nat) (mGoes : Nat) (mFarNow : Nat) (mFreeNow : Nat) (mIsPair : Nat) (mHitsBy : Nat) (zBreakMany : Int32) (zLeastOps : Int32) (zLeastBase : Int32) (zLeastFirst : Int32) (zLeastSecond : Int32) (zBestLocks : Int32) (zInEach : Int32) (zFitMany : Int32) (zFitFirst : Int32) (mWorthBy : Nat) (zOftenAll : Int64) (zOftenSafe : Int64) (zOftenValid : Int64) (mMany : Nat) (mWidth : Nat) (mNumbers : Nat) (mMoving : Nat) (gWorld : Nat → Int32) (zTaped : Nat) (zSize : Nat) (zAt : Nat) (zFrom : Nat) (hzt : zTaped ≤ 400) (hzs : zSize ≤ 400) (hwok : WOK gWorld) : Mi l D cs yX9_isRule W_X9_isRule 1 25 0 0 [.ref b0, .int x1] [(b0, .inr (9, [.int zThrown, .ref mWorld, .ref mImages, .ref mHasImage, .ref mTape, .int (nI zTaped), .ref mFive, .int (nI zSize), .int (nI zAt), .int (nI zFrom), .int zToken, .int zValue, .int zFaultKind, .int zFaultPlace, .ref mFresh, .ref mMergedBy, .int zLawNow, .int zLockedNow, .int zDroppedNow, .ref mIsValid, .ref mGoes, .ref mFarNow, .ref mFreeNow, .ref mIsPair, .ref mHitsBy, .int zBreakMany, .int zLeastOps, .int zLeastBase, .int zLeastFirst, .int zLeastSecond, .int zBestLocks, .int zInEach, .int zFitMany, .int zFitFirst, .ref mWorthBy, .long zOftenAll, .long zOftenSafe, .long zOftenValid, .ref mMany, .ref mWidth, .ref mNumbers, .ref mMoving])), (mWorld, .inl (cs 1, 76, .inl gWorld))] sz (fun (r : Int32) (u : Unit) => ((r = 1 ∧ ∃ j9, j9 < wN gWorld 4 ∧ x1 = nI j9) ∨ (r = 0 ∧ True))) (fun (u : Unit) => [(b0, .inr (9, [.int zThrown, .ref mWorld, .ref mImages, .ref mHasImage, .ref mTape, .int (nI zTaped), .ref mFive, .int (nI zSize), .int (nI zAt), .int (nI zFrom), .int zToken, .int zValue, .int zFaultKind, .int zFaultPlace, .ref mFresh, .ref mMergedBy, .int zLawNow, .int zLockedNow, .int zDroppedNow, .ref mIsValid, .ref mGoes, .ref mFarNow, .ref mFreeNow, .ref mIsPair, .ref mHitsBy, .int zBreakMany, .int zLeastOps, .int zLeastBase, .int zLeastFirst, .int zLeastSecond, .int zBestLocks, .int zInEach, .int zFitMany, .int zFitFirst, .ref mWorthBy, .long zOftenAll, .long zOftenSafe, .long zOftenValid, .ref mMany, .ref mWidth, .ref mNumbers, .ref mMoving])), (mWorld, .inl (cs 1, 76, .inl gWorld))]) := by
  refine ent (D := D) (cs := cs) (y := yX9_isRule) (ws := W_X9_isRule) (As := [.ref b0, .int x1]) (W0 := [(b0, .inr (9, [.int zThrown, .ref mWorld, .ref mImages, .ref mHasImage, .ref mTape, .int (nI zTaped), .ref mFive, .int (nI zSize), .int (nI zAt), .int (nI zFrom), .int zToken, .int zValue, .int zFaultKind, .int zFaultPlace, .ref mFresh, .ref mMergedBy, .int zLawNow, .int zLockedNow, .int zDroppedNow, .ref mIsValid, .ref mGoes, .ref mFarNow, .ref mFreeNow, .ref mIsPair, .ref mHitsBy, .int zBreakMany, .int zLeastOps, .int zLeastBase, .int zLeastFirst, .int zLeastSecond, .int zBestLocks, .int zInEach, .int zFitMany, .int zFitFirst, .ref mWorthBy, .long zOftenAll, .long zOftenSafe, .long zOftenValid, .ref mMany, .ref mWidth, .ref mNumbers, .ref mMoving])), (mWorld, .inl (cs 1, 76, .inl gWorld))]) (Qx := fun A => va_Qi (fun (r : Int32) (u : Unit) => ((r = 1 ∧ ∃ j9, j9 < wN gWorld 4 ∧ x1 = nI j9) ∨ (r = 0 ∧ True))) (mpost D A (fun (u : Unit) => [(b0, .inr (9, [.int zThrown, .ref mWorld, .ref mImages, .ref mHasImage, .ref mTape, .int (nI zTaped), .ref mFive, .int (nI zSize), .int (nI zAt), .int (nI zFrom), .int zToken, .int zValue, .int zFaultKind, .int zFaultPlace, .ref mFresh, .ref mMergedBy, .int zLawNow, .int zLockedNow, .int zDroppedNow, .ref mIsValid, .ref mGoes, .ref mFarNow, .ref mFreeNow, .ref mIsPair, .ref mHitsBy, .int zBreakMany, .int zLeastOps, .int zLeastBase, .int zLeastFirst, .int zLeastSecond, .int zBestLocks, .int zInEach, .int zFitMany, .int zFitFirst, .ref mWorthBy, .long zOftenAll, .long zOftenSafe, .long zOftenValid, .ref mMany, .ref mWidth, .ref mNumbers, .ref mMoving])), (mWorld, .inl (cs 1, 76, .inl gWorld))])) A) (maxL := 2) (ret := (some .boolean)) (by decide) rfl (Nat.le_of_ble_eq_true rfl) ?_
  intro p e s m below meth c A ls hx hb hr hml hlk hown hts hin hK hE hP hD hA hS hl
  have hl : lv_has ls 2 [(0, .ref b0), (1, .int x1)] := hl
  generalize hHe : s.heap = H at hP
  have hS : va_S A s.heap H [] := hHe ▸ hS
  generalize hLe : ([] : List Loc) = locs at hS ⊢
  have htw : ∀ w ∈ O_X9_isRule, w.before ([.ref b0, .int x1] : List Value).toArray s = true := fun w h => hts w (List.mem_cons_of_mem _ (List.mem_append_left _ h))
  have hFix := (⟨hx, hb, hml, hown, hts⟩ : CallFix p m c _ _ s _ _ _)
  have hH := wok_h hwok
  have hR := wok_r hwok
  have hb0 := hok_b0 hH
  have hb2 := hok_b2 hH
  have hb3 := hok_b3 hH
  have hb4 := hok_b4 hH
  have hb5 := hok_b5 hH
  have hb6 := hok_b6 hH
  have hsm1 := sm_1 (f := gWorld)
  have hsm2 := sm_64 hH
  have hsp2 := sp_64 hH
  have hsm3 := sm_sp hH
  refine lv_iload_n hx hb dX9_isRule_0 rfl (lv_at hl 1 rfl) ?_
  refine lv_i2l (v := x1.toInt64) hx hb dX9_isRule_1 rfl ?_
  refine lv_lconst (v := 0) hx hb dX9_isRule_2 (by decide) ?_
  refine lv_aload_n hx hb dX9_isRule_3 rfl (lv_at hl 0 rfl) ?_
  refine aft_i (wr := []) hP hD hS hA [0, 1] [] rfl rfl (by decide) (by decide) (run_v (As := []) (rest := [.long 0, .long x1.toInt64]) hFix hK hE hP hD [0, 1] (k_X9_rules l D cs _ b0 zThrown mWorld mImages mHasImage mTape mFive zToken zValue zFaultKind zFaultPlace mFresh mMergedBy zLawNow zLockedNow zDroppedNow mIsValid mGoes mFarNow mFreeNow mIsPair mHitsBy zBreakMany zLeastOps zLeastBase zLeastFirst zLeastSecond zBestLocks zInEach zFitMany zFitFirst mWorthBy zOftenAll zOftenSafe zOftenValid mMany mWidth mNumbers mMoving gWorld zTaped zSize zAt zFrom (by first | assumption | decide | omega) (by first | assumption | decide | omega) (by first | assumption | decide | omega)) (cwV 0 hts gc_X9_isRule_80_X9_rules rfl rfl rfl (by decide +kernel) ⟨Nat.le_of_ble_eq_true rfl, Nat.le_of_ble_eq_true rfl⟩) rfl (by decide) rfl rfl rfl hl.1 rfl (Nat.le_of_ble_eq_true rfl) dX9_isRule_4 ⟨Nat.le_of_ble_eq_true rfl, Nat.le_of_ble_eq_true rfl⟩) (fun r_1 u_1 H locs hq_1 hP hD hS => ?_)
  obtain ⟨j_1, rfl⟩ : ∃ z, z = u_1 := ⟨_, rfl⟩
  have hP : va_P D vwCl [(b0, .inr (9, [.int zThrown, .ref mWorld, .ref mImages, .ref mHasImage, .ref mTape, .int (nI zTaped), .ref mFive, .int (nI zSize), .int (nI zAt), .int (nI zFrom), .int zToken, .int zValue, .int zFaultKind, .int zFaultPlace, .ref mFresh, .ref mMergedBy, .int zLawNow, .int zLockedNow, .int zDroppedNow, .ref mIsValid, .ref mGoes, .ref mFarNow, .ref mFreeNow, .ref mIsPair, .ref mHitsBy, .int zBreakMany, .int zLeastOps, .int zLeastBase, .int zLeastFirst, .int zLeastSecond, .int zBestLocks, .int zInEach, .int zFitMany, .int zFitFirst, .ref mWorthBy, .long zOftenAll, .long zOftenSafe, .long zOftenValid, .ref mMany, .ref mWidth, .ref mNumbers, .ref mMoving])), (mWorld, .inl (cs 1, 76, .inl gWorld))] H := hP
  have hD : va_D A [(b0, .inr (9, [.int zThrown, .ref mWorld, .ref mImages, .ref mHasImage, .ref mTape, .int (nI zTaped), .ref mFive, .int (nI zSize), .int (nI zAt), .int (nI zFrom), .int zToken, .int zValue, .int zFaultKind, .int zFaultPlace, .ref mFresh, .ref mMergedBy, .int zLawNow, .int zLockedNow, .int zDroppedNow, .ref mIsValid, .ref mGoes, .ref mFarNow, .ref mFreeNow, .ref mIsPair, .ref mHitsBy, .int zBreakMany, .int zLeastOps, .int zLeastBase, .int zLeastFirst, .int zLeastSecond, .int zBestLocks, .int zInEach, .int zFitMany, .int zFitFirst, .ref mWorthBy, .long zOftenAll, .long zOftenSafe, .long zOftenValid, .ref mMany, .ref mWidth, .ref mNumbers, .ref mMoving])), (mWorld, .inl (cs 1, 76, .inl gWorld))] := hD
  replace hq_1 : ((r_1 = nI j_1 ∧ j_1 = wN gWorld 4)) := hq_1
  obtain ⟨rfl, hq_1⟩ := hq_1
  ·
    refine lv_iconst (v := 1) hx hb dX9_isRule_7 (by decide) ?_
    refine lv_isub hx hb dX9_isRule_8 ?_
    refine lv_i2l (v := (((nI j_1) - (1 : Int32)).toInt64)) hx hb dX9_isRule_9 rfl ?_
    refine aft_i (wr := [(b0, .inr (9, [.int zThrown, .ref mWorld, .ref mImages, .ref mHasImage, .ref mTape, .int (nI zTaped), .ref mFive, .int (nI zSize), .int (nI zAt), .int (nI zFrom), .int zToken, .int zValue, .int zFaultKind, .int zFaultPlace, .ref mFresh, .ref mMergedBy, .int zLawNow, .int zLockedNow, .int zDroppedNow, .ref mIsValid, .ref mGoes, .ref mFarNow, .ref mFreeNow, .ref mIsPair, .ref mHitsBy, .int zBreakMany, .int zLeastOps, .int zLeastBase, .int zLeastFirst, .int zLeastSecond, .int zBestLocks, .int zInEach, .int zFitMany, .int zFitFirst, .ref mWorthBy, .long zOftenAll, .long zOftenSafe, .long zOftenValid, .ref mMany, .ref mWidth, .ref mNumbers, .ref mMoving])), (mWorld, .inl (cs 1, 76, .inl gWorld))]) hP hD hS hA [] [0, 1] rfl rfl (by decide) (by decide) (run_s (As := [.long x1.toInt64, .long 0, .long (((nI j_1) - (1 : Int32)).toInt64)]) (rest := []) hFix hK hE hP hD [] (k_X9_in l D cs _ x1.toInt64 0 (((nI j_1) - (1 : Int32)).toInt64)) (va_cwS 3 hts gc_X9_isRule_76_X9_in rfl rfl rfl (by decide +kernel) ⟨Nat.le_of_ble_eq_true rfl, Nat.le_of_ble_eq_true rfl⟩) rfl (by decide) rfl hl.1 rfl (Nat.le_of_ble_eq_true rfl) dX9_isRule_10 ⟨Nat.le_of_ble_eq_true rfl, Nat.le_of_ble_eq_true rfl⟩) (fun r_2 u_2 H locs hq_2 hP hD hS => ?_)
    have hP : va_P D vwCl [(b0, .inr (9, [.int zThrown, .ref mWorld, .ref mImages, .ref mHasImage, .ref mTape, .int (nI zTaped), .ref mFive, .int (nI zSize), .int (nI zAt), .int (nI zFrom), .int zToken, .int zValue, .int zFaultKind, .int zFaultPlace, .ref mFresh, .ref mMergedBy, .int zLawNow, .int zLockedNow, .int zDroppedNow, .ref mIsValid, .ref mGoes, .ref mFarNow, .ref mFreeNow, .ref mIsPair, .ref mHitsBy, .int zBreakMany, .int zLeastOps, .int zLeastBase, .int zLeastFirst, .int zLeastSecond, .int zBestLocks, .int zInEach, .int zFitMany, .int zFitFirst, .ref mWorthBy, .long zOftenAll, .long zOftenSafe, .long zOftenValid, .ref mMany, .ref mWidth, .ref mNumbers, .ref mMoving])), (mWorld, .inl (cs 1, 76, .inl gWorld))] H := hP
    have hD : va_D A [(b0, .inr (9, [.int zThrown, .ref mWorld, .ref mImages, .ref mHasImage, .ref mTape, .int (nI zTaped), .ref mFive, .int (nI zSize), .int (nI zAt), .int (nI zFrom), .int zToken, .int zValue, .int zFaultKind, .int zFaultPlace, .ref mFresh, .ref mMergedBy, .int zLawNow, .int zLockedNow, .int zDroppedNow, .ref mIsValid, .ref mGoes, .ref mFarNow, .ref mFreeNow, .ref mIsPair, .ref mHitsBy, .int zBreakMany, .int zLeastOps, .int zLeastBase, .int zLeastFirst, .int zLeastSecond, .int zBestLocks, .int zInEach, .int zFitMany, .int zFitFirst, .ref mWorthBy, .long zOftenAll, .long zOftenSafe, .long zOftenValid, .ref mMany, .ref mWidth, .ref mNumbers, .ref mMoving])), (mWorld, .inl (cs 1, 76, .inl gWorld))] := hD
    replace hq_2 : ((r_2 = 1 ∧ 0 ≤ x1.toInt64 ∧ x1.toInt64 ≤ (((nI j_1) - (1 : Int32)).toInt64)) ∨ (r_2 = 0 ∧ ¬ (0 ≤ x1.toInt64 ∧ x1.toInt64 ≤ (((nI j_1) - (1 : Int32)).toInt64)))) := hq_2
    rcases hq_2 with ⟨rfl, hq_2⟩ | ⟨rfl, hq_2⟩
    ·
      exact ret_z hx hb hr hlk hS (Nat.le_of_ble_eq_true rfl) (Nat.le_of_ble_eq_true rfl) (by decide) () (Or.inl ⟨rfl, (by obtain ⟨j9, h9, e9⟩ := in_cell (by omega) hq_2; exact ⟨j9, by omega, e9⟩)⟩) (hP.sub [0, 1] rfl) (hD.sub [0, 1] (by decide) rfl) dX9_isRule_13
    ·
      exact ret_z hx hb hr hlk hS (Nat.le_of_ble_eq_true rfl) (Nat.le_of_ble_eq_true rfl) (by decide) () (Or.inr (⟨rfl, trivial⟩)) (hP.sub [0, 1] rfl) (hD.sub [0, 1] (by decide) rfl) dX9_isRule_13

set_option maxHeartbeats 4000000 in
set_option maxRecDepth 100000 in
theorem k_X9_isOp (l : Launch) (D : va_G) (cs : Nat → ClassId) (sz : Nat) (b0 : Nat) (x1 : Int32) (zThrown : Int32) (mWorld : Nat) (mImages : Nat) (mHasImage : Nat) (mTape : Nat) (mFive : Nat) (zToken : Int32) (zValue : Int32) (zFaultKind : Int32) (zFaultPlace : Int32) (mFresh : Nat) (mMergedBy : Nat) (zLawNow : Int32) (zLockedNow : Int32) (zDroppedNow : Int32) (mIsValid : Nat) (mGoes : Nat) (mFarNow : Nat) (mFreeNow : Nat) (mIsPair : Nat) (mHitsBy : Nat) (zBreakMany : Int32) (zLeastOps : Int32) (zLeastBase : Int32) (zLeastFirst : Int32) (zLeastSecond : Int32) (zBestLocks : Int32) (zInEach : Int32) (zFitMany : Int32) (zFitFirst : Int32) (mWorthBy : Nat) (zOftenAll : Int64) (zOftenSafe : Int64) (zOftenValid : Int64) (mMany : Nat) (mWidth : Nat) (mNumbers : Nat) (mMoving : Nat) (gWorld : Nat → Int32) (zTaped : Nat) (zSize : Nat) (zAt : Nat) (zFrom : Nat) (hzt : zTaped ≤ 400) (hzs : zSize ≤ 400) (hwok : WOK gWorld) : Mi l D cs yX9_isOp W_X9_isOp 1 25 0 0 [.ref b0, .int x1] [(b0, .inr (9, [.int zThrown, .ref mWorld, .ref mImages, .ref mHasImage, .ref mTape, .int (nI zTaped), .ref mFive, .int (nI zSize), .int (nI zAt), .int (nI zFrom), .int zToken, .int zValue, .int zFaultKind, .int zFaultPlace, .ref mFresh, .ref mMergedBy, .int zLawNow, .int zLockedNow, .int zDroppedNow, .ref mIsValid, .ref mGoes, .ref mFarNow, .ref mFreeNow, .ref mIsPair, .ref mHitsBy, .int zBreakMany, .int zLeastOps, .int zLeastBase, .int zLeastFirst, .int zLeastSecond, .int zBestLocks, .int zInEach, .int zFitMany, .int zFitFirst, .ref mWorthBy, .long zOftenAll, .long zOftenSafe, .long zOftenValid, .ref mMany, .ref mWidth, .ref mNumbers, .ref mMoving])), (mWorld, .inl (cs 1, 76, .inl gWorld))] sz (fun (r : Int32) (u : Unit) => ((r = 1 ∧ ∃ j9, j9 < wN gWorld 5 ∧ x1 = nI j9) ∨ (r = 0 ∧ True))) (fun (u : Unit) => [(b0, .inr (9, [.int zThrown, .ref mWorld, .ref mImages, .ref mHasImage, .ref mTape, .int (nI zTaped), .ref mFive, .int (nI zSize), .int (nI zAt), .int (nI zFrom), .int zToken, .int zValue, .int zFaultKind, .int zFaultPlace, .ref mFresh, .ref mMergedBy, .int zLawNow, .int zLockedNow, .int zDroppedNow, .ref mIsValid, .ref mGoes, .ref mFarNow, .ref mFreeNow, .ref mIsPair, .ref mHitsBy, .int zBreakMany, .int zLeastOps, .int zLeastBase, .int zLeastFirst, .int zLeastSecond, .int zBestLocks, .int zInEach, .int zFitMany, .int zFitFirst, .ref mWorthBy, .long zOftenAll, .long zOftenSafe, .long zOftenValid, .ref mMany, .ref mWidth, .ref mNumbers, .ref mMoving])), (mWorld, .inl (cs 1, 76, .inl gWorld))]) := by
  refine ent (D := D) (cs := cs) (y := yX9_isOp) (ws := W_X9_isOp) (As := [.ref b0, .int x1]) (W0 := [(b0, .inr (9, [.int zThrown, .ref mWorld, .ref mImages, .ref mHasImage, .ref mTape, .int (nI zTaped), .ref mFive, .int (nI zSize), .int (nI zAt), .int (nI zFrom), .int zToken, .int zValue, .int zFaultKind, .int zFaultPlace, .ref mFresh, .ref mMergedBy, .int zLawNow, .int zLockedNow, .int zDroppedNow, .ref mIsValid, .ref mGoes, .ref mFarNow, .ref mFreeNow, .ref mIsPair, .ref mHitsBy, .int zBreakMany, .int zLeastOps, .int zLeastBase, .int zLeastFirst, .int zLeastSecond, .int zBestLocks, .int zInEach, .int zFitMany, .int zFitFirst, .ref mWorthBy, .long zOftenAll, .long zOftenSafe, .long zOftenValid, .ref mMany, .ref mWidth, .ref mNumbers, .ref mMoving])), (mWorld, .inl (cs 1, 76, .inl gWorld))]) (Qx := fun A => va_Qi (fun (r : Int32) (u : Unit) => ((r = 1 ∧ ∃ j9, j9 < wN gWorld 5 ∧ x1 = nI j9) ∨ (r = 0 ∧ True))) (mpost D A (fun (u : Unit) => [(b0, .inr (9, [.int zThrown, .ref mWorld, .ref mImages, .ref mHasImage, .ref mTape, .int (nI zTaped), .ref mFive, .int (nI zSize), .int (nI zAt), .int (nI zFrom), .int zToken, .int zValue, .int zFaultKind, .int zFaultPlace, .ref mFresh, .ref mMergedBy, .int zLawNow, .int zLockedNow, .int zDroppedNow, .ref mIsValid, .ref mGoes, .ref mFarNow, .ref mFreeNow, .ref mIsPair, .ref mHitsBy, .int zBreakMany, .int zLeastOps, .int zLeastBase, .int zLeastFirst, .int zLeastSecond, .int zBestLocks, .int zInEach, .int zFitMany, .int zFitFirst, .ref mWorthBy, .long zOftenAll, .long zOftenSafe, .long zOftenValid, .ref mMany, .ref mWidth, .ref mNumbers, .ref mMoving])), (mWorld, .inl (cs 1, 76, .inl gWorld))])) A) (maxL := 2) (ret := (some .boolean)) (by decide) rfl (Nat.le_of_ble_eq_true rfl) ?_
  intro p e s m below meth c A ls hx hb hr hml hlk hown hts hin hK hE hP hD hA hS hl
  have hl : lv_has ls 2 [(0, .ref b0), (1, .int x1)] := hl
  generalize hHe : s.heap = H at hP
  have hS : va_S A s.heap H [] := hHe ▸ hS
  generalize hLe : ([] : List Loc) = locs at hS ⊢
  have htw : ∀ w ∈ O_X9_isOp, w.before ([.ref b0, .int x1] : List Value).toArray s = true := fun w h => hts w (List.mem_cons_of_mem _ (List.mem_append_left _ h))
  have hFix := (⟨hx, hb, hml, hown, hts⟩ : CallFix p m c _ _ s _ _ _)
  have hH := wok_h hwok
  have hR := wok_r hwok
  have hb0 := hok_b0 hH
  have hb2 := hok_b2 hH
  have hb3 := hok_b3 hH
  have hb4 := hok_b4 hH
  have hb5 := hok_b5 hH
  have hb6 := hok_b6 hH
  have hsm1 := sm_1 (f := gWorld)
  have hsm2 := sm_64 hH
  have hsp2 := sp_64 hH
  have hsm3 := sm_sp hH
  refine lv_iload_n hx hb dX9_isOp_0 rfl (lv_at hl 1 rfl) ?_
  refine lv_i2l (v := x1.toInt64) hx hb dX9_isOp_1 rfl ?_
  refine lv_lconst (v := 0) hx hb dX9_isOp_2 (by decide) ?_
  refine lv_aload_n hx hb dX9_isOp_3 rfl (lv_at hl 0 rfl) ?_
  refine aft_i (wr := []) hP hD hS hA [0, 1] [] rfl rfl (by decide) (by decide) (run_v (As := []) (rest := [.long 0, .long x1.toInt64]) hFix hK hE hP hD [0, 1] (k_X9_ops l D cs _ b0 zThrown mWorld mImages mHasImage mTape mFive zToken zValue zFaultKind zFaultPlace mFresh mMergedBy zLawNow zLockedNow zDroppedNow mIsValid mGoes mFarNow mFreeNow mIsPair mHitsBy zBreakMany zLeastOps zLeastBase zLeastFirst zLeastSecond zBestLocks zInEach zFitMany zFitFirst mWorthBy zOftenAll zOftenSafe zOftenValid mMany mWidth mNumbers mMoving gWorld zTaped zSize zAt zFrom (by first | assumption | decide | omega) (by first | assumption | decide | omega) (by first | assumption | decide | omega)) (cwV 0 hts gc_X9_isOp_84_X9_ops rfl rfl rfl (by decide +kernel) ⟨Nat.le_of_ble_eq_true rfl, Nat.le_of_ble_eq_true rfl⟩) rfl (by decide) rfl rfl rfl hl.1 rfl (Nat.le_of_ble_eq_true rfl) dX9_isOp_4 ⟨Nat.le_of_ble_eq_true rfl, Nat.le_of_ble_eq_true rfl⟩) (fun r_1 u_1 H locs hq_1 hP hD hS => ?_)
  obtain ⟨j_1, rfl⟩ : ∃ z, z = u_1 := ⟨_, rfl⟩
  have hP : va_P D vwCl [(b0, .inr (9, [.int zThrown, .ref mWorld, .ref mImages, .ref mHasImage, .ref mTape, .int (nI zTaped), .ref mFive, .int (nI zSize), .int (nI zAt), .int (nI zFrom), .int zToken, .int zValue, .int zFaultKind, .int zFaultPlace, .ref mFresh, .ref mMergedBy, .int zLawNow, .int zLockedNow, .int zDroppedNow, .ref mIsValid, .ref mGoes, .ref mFarNow, .ref mFreeNow, .ref mIsPair, .ref mHitsBy, .int zBreakMany, .int zLeastOps, .int zLeastBase, .int zLeastFirst, .int zLeastSecond, .int zBestLocks, .int zInEach, .int zFitMany, .int zFitFirst, .ref mWorthBy, .long zOftenAll, .long zOftenSafe, .long zOftenValid, .ref mMany, .ref mWidth, .ref mNumbers, .ref mMoving])), (mWorld, .inl (cs 1, 76, .inl gWorld))] H := hP
  have hD : va_D A [(b0, .inr (9, [.int zThrown, .ref mWorld, .ref mImages, .ref mHasImage, .ref mTape, .int (nI zTaped), .ref mFive, .int (nI zSize), .int (nI zAt), .int (nI zFrom), .int zToken, .int zValue, .int zFaultKind, .int zFaultPlace, .ref mFresh, .ref mMergedBy, .int zLawNow, .int zLockedNow, .int zDroppedNow, .ref mIsValid, .ref mGoes, .ref mFarNow, .ref mFreeNow, .ref mIsPair, .ref mHitsBy, .int zBreakMany, .int zLeastOps, .int zLeastBase, .int zLeastFirst, .int zLeastSecond, .int zBestLocks, .int zInEach, .int zFitMany, .int zFitFirst, .ref mWorthBy, .long zOftenAll, .long zOftenSafe, .long zOftenValid, .ref mMany, .ref mWidth, .ref mNumbers, .ref mMoving])), (mWorld, .inl (cs 1, 76, .inl gWorld))] := hD
  replace hq_1 : ((r_1 = nI j_1 ∧ j_1 = wN gWorld 5)) := hq_1
  obtain ⟨rfl, hq_1⟩ := hq_1
  ·
    refine lv_iconst (v := 1) hx hb dX9_isOp_7 (by decide) ?_
    refine lv_isub hx hb dX9_isOp_8 ?_
    refine lv_i2l (v := (((nI j_1) - (1 : Int32)).toInt64)) hx hb dX9_isOp_9 rfl ?_
    refine aft_i (wr := [(b0, .inr (9, [.int zThrown, .ref mWorld, .ref mImages, .ref mHasImage, .ref mTape, .int (nI zTaped), .ref mFive, .int (nI zSize), .int (nI zAt), .int (nI zFrom), .int zToken, .int zValue, .int zFaultKind, .int zFaultPlace, .ref mFresh, .ref mMergedBy, .int zLawNow, .int zLockedNow, .int zDroppedNow, .ref mIsValid, .ref mGoes, .ref mFarNow, .ref mFreeNow, .ref mIsPair, .ref mHitsBy, .int zBreakMany, .int zLeastOps, .int zLeastBase, .int zLeastFirst, .int zLeastSecond, .int zBestLocks, .int zInEach, .int zFitMany, .int zFitFirst, .ref mWorthBy, .long zOftenAll, .long zOftenSafe, .long zOftenValid, .ref mMany, .ref mWidth, .ref mNumbers, .ref mMoving])), (mWorld, .inl (cs 1, 76, .inl gWorld))]) hP hD hS hA [] [0, 1] rfl rfl (by decide) (by decide) (run_s (As := [.long x1.toInt64, .long 0, .long (((nI j_1) - (1 : Int32)).toInt64)]) (rest := []) hFix hK hE hP hD [] (k_X9_in l D cs _ x1.toInt64 0 (((nI j_1) - (1 : Int32)).toInt64)) (va_cwS 3 hts gc_X9_isOp_76_X9_in rfl rfl rfl (by decide +kernel) ⟨Nat.le_of_ble_eq_true rfl, Nat.le_of_ble_eq_true rfl⟩) rfl (by decide) rfl hl.1 rfl (Nat.le_of_ble_eq_true rfl) dX9_isOp_10 ⟨Nat.le_of_ble_eq_true rfl, Nat.le_of_ble_eq_true rfl⟩) (fun r_2 u_2 H locs hq_2 hP hD hS => ?_)
    have hP : va_P D vwCl [(b0, .inr (9, [.int zThrown, .ref mWorld, .ref mImages, .ref mHasImage, .ref mTape, .int (nI zTaped), .ref mFive, .int (nI zSize), .int (nI zAt), .int (nI zFrom), .int zToken, .int zValue, .int zFaultKind, .int zFaultPlace, .ref mFresh, .ref mMergedBy, .int zLawNow, .int zLockedNow, .int zDroppedNow, .ref mIsValid, .ref mGoes, .ref mFarNow, .ref mFreeNow, .ref mIsPair, .ref mHitsBy, .int zBreakMany, .int zLeastOps, .int zLeastBase, .int zLeastFirst, .int zLeastSecond, .int zBestLocks, .int zInEach, .int zFitMany, .int zFitFirst, .ref mWorthBy, .long zOftenAll, .long zOftenSafe, .long zOftenValid, .ref mMany, .ref mWidth, .ref mNumbers, .ref mMoving])), (mWorld, .inl (cs 1, 76, .inl gWorld))] H := hP
    have hD : va_D A [(b0, .inr (9, [.int zThrown, .ref mWorld, .ref mImages, .ref mHasImage, .ref mTape, .int (nI zTaped), .ref mFive, .int (nI zSize), .int (nI zAt), .int (nI zFrom), .int zToken, .int zValue, .int zFaultKind, .int zFaultPlace, .ref mFresh, .ref mMergedBy, .int zLawNow, .int zLockedNow, .int zDroppedNow, .ref mIsValid, .ref mGoes, .ref mFarNow, .ref mFreeNow, .ref mIsPair, .ref mHitsBy, .int zBreakMany, .int zLeastOps, .int zLeastBase, .int zLeastFirst, .int zLeastSecond, .int zBestLocks, .int zInEach, .int zFitMany, .int zFitFirst, .ref mWorthBy, .long zOftenAll, .long zOftenSafe, .long zOftenValid, .ref mMany, .ref mWidth, .ref mNumbers, .ref mMoving])), (mWorld, .inl (cs 1, 76, .inl gWorld))] := hD
    replace hq_2 : ((r_2 = 1 ∧ 0 ≤ x1.toInt64 ∧ x1.toInt64 ≤ (((nI j_1) - (1 : Int32)).toInt64)) ∨ (r_2 = 0 ∧ ¬ (0 ≤ x1.toInt64 ∧ x1.toInt64 ≤ (((nI j_1) - (1 : Int32)).toInt64)))) := hq_2
    rcases hq_2 with ⟨rfl, hq_2⟩ | ⟨rfl, hq_2⟩
    ·
      exact ret_z hx hb hr hlk hS (Nat.le_of_ble_eq_true rfl) (Nat.le_of_ble_eq_true rfl) (by decide) () (Or.inl ⟨rfl, (by obtain ⟨j9, h9, e9⟩ := in_cell (by omega) hq_2; exact ⟨j9, by omega, e9⟩)⟩) (hP.sub [0, 1] rfl) (hD.sub [0, 1] (by decide) rfl) dX9_isOp_13
    ·
      exact ret_z hx hb hr hlk hS (Nat.le_of_ble_eq_true rfl) (Nat.le_of_ble_eq_true rfl) (by decide) () (Or.inr (⟨rfl, trivial⟩)) (hP.sub [0, 1] rfl) (hD.sub [0, 1] (by decide) rfl) dX9_isOp_13

set_option maxHeartbeats 4000000 in
set_option maxRecDepth 100000 in
theorem k_X9_isDepth (l : Launch) (D : va_G) (cs : Nat → ClassId) (sz : Nat) (x1 : Int32)  : Mi l D cs yX9_isDepth W_X9_isDepth 1 25 0 0 [.int x1] [] sz (fun (r : Int32) (u : Unit) => ((r = 1 ∧ ∃ j9, j9 < 4 ∧ x1 = nI j9) ∨ (r = 0 ∧ True))) (fun (u : Unit) => []) := by
  refine ent (D := D) (cs := cs) (y := yX9_isDepth) (ws := W_X9_isDepth) (As := [.int x1]) (W0 := []) (Qx := fun A => va_Qi (fun (r : Int32) (u : Unit) => ((r = 1 ∧ ∃ j9, j9 < 4 ∧ x1 = nI j9) ∨ (r = 0 ∧ True))) (mpost D A (fun (u : Unit) => [])) A) (maxL := 1) (ret := (some .boolean)) (by decide) rfl (Nat.le_of_ble_eq_true rfl) ?_
  intro p e s m below meth c A ls hx hb hr hml hlk hown hts hin hK hE hP hD hA hS hl
  have hl : lv_has ls 1 [(0, .int x1)] := hl
  generalize hHe : s.heap = H at hP
  have hS : va_S A s.heap H [] := hHe ▸ hS
  generalize hLe : ([] : List Loc) = locs at hS ⊢
  have htw : ∀ w ∈ O_X9_isDepth, w.before ([.int x1] : List Value).toArray s = true := fun w h => hts w (List.mem_cons_of_mem _ (List.mem_append_left _ h))
  have hFix := (⟨hx, hb, hml, hown, hts⟩ : CallFix p m c _ _ s _ _ _)
  refine lv_iload_n hx hb dX9_isDepth_0 rfl (lv_at hl 0 rfl) ?_
  refine lv_i2l (v := x1.toInt64) hx hb dX9_isDepth_1 rfl ?_
  refine lv_lconst (v := 0) hx hb dX9_isDepth_2 (by decide) ?_
  refine lv_ldc2 (v := 3) hx hb hown (htw (.constantLong RX9 90 (3)) (List.mem_of_getElem? (i := 0) rfl)) dX9_isDepth_3 ?_
  refine aft_i (wr := []) hP hD hS hA [] [] rfl rfl (by decide) (by decide) (run_s (As := [.long x1.toInt64, .long 0, .long 3]) (rest := []) hFix hK hE hP hD [] (k_X9_in l D cs _ x1.toInt64 0 3) (va_cwS 3 hts gc_X9_isDepth_76_X9_in rfl rfl rfl (by decide +kernel) ⟨Nat.le_of_ble_eq_true rfl, Nat.le_of_ble_eq_true rfl⟩) rfl (by decide) rfl hl.1 rfl (Nat.le_of_ble_eq_true rfl) dX9_isDepth_6 ⟨Nat.le_of_ble_eq_true rfl, Nat.le_of_ble_eq_true rfl⟩) (fun r_1 u_1 H locs hq_1 hP hD hS => ?_)
  replace hq_1 : ((r_1 = 1 ∧ 0 ≤ x1.toInt64 ∧ x1.toInt64 ≤ 3) ∨ (r_1 = 0 ∧ ¬ (0 ≤ x1.toInt64 ∧ x1.toInt64 ≤ 3))) := hq_1
  rcases hq_1 with ⟨rfl, hq_1⟩ | ⟨rfl, hq_1⟩
  ·
    exact ret_z hx hb hr hlk hS (Nat.le_of_ble_eq_true rfl) (Nat.le_of_ble_eq_true rfl) (by decide) () (Or.inl ⟨rfl, (by obtain ⟨j9, h9, e9⟩ := in_nat (n := 3) j0 j3 (by decide) hq_1; exact ⟨j9, by omega, e9⟩)⟩) (hP.sub [] rfl) (hD.sub [] (by decide) rfl) dX9_isDepth_9
  ·
    exact ret_z hx hb hr hlk hS (Nat.le_of_ble_eq_true rfl) (Nat.le_of_ble_eq_true rfl) (by decide) () (Or.inr (⟨rfl, trivial⟩)) (hP.sub [] rfl) (hD.sub [] (by decide) rfl) dX9_isDepth_9

set_option maxHeartbeats 4000000 in
set_option maxRecDepth 100000 in
theorem k_X9_isSlot (l : Launch) (D : va_G) (cs : Nat → ClassId) (sz : Nat) (x1 : Int32)  : Mi l D cs yX9_isSlot W_X9_isSlot 1 25 0 0 [.int x1] [] sz (fun (r : Int32) (u : Unit) => ((r = 1 ∧ ∃ j9, j9 < 4 ∧ x1 = nI j9) ∨ (r = 0 ∧ ¬ (0 ≤ x1.toInt ∧ x1.toInt ≤ 3)))) (fun (u : Unit) => []) := by
  refine ent (D := D) (cs := cs) (y := yX9_isSlot) (ws := W_X9_isSlot) (As := [.int x1]) (W0 := []) (Qx := fun A => va_Qi (fun (r : Int32) (u : Unit) => ((r = 1 ∧ ∃ j9, j9 < 4 ∧ x1 = nI j9) ∨ (r = 0 ∧ ¬ (0 ≤ x1.toInt ∧ x1.toInt ≤ 3)))) (mpost D A (fun (u : Unit) => [])) A) (maxL := 1) (ret := (some .boolean)) (by decide) rfl (Nat.le_of_ble_eq_true rfl) ?_
  intro p e s m below meth c A ls hx hb hr hml hlk hown hts hin hK hE hP hD hA hS hl
  have hl : lv_has ls 1 [(0, .int x1)] := hl
  generalize hHe : s.heap = H at hP
  have hS : va_S A s.heap H [] := hHe ▸ hS
  generalize hLe : ([] : List Loc) = locs at hS ⊢
  have htw : ∀ w ∈ O_X9_isSlot, w.before ([.int x1] : List Value).toArray s = true := fun w h => hts w (List.mem_cons_of_mem _ (List.mem_append_left _ h))
  have hFix := (⟨hx, hb, hml, hown, hts⟩ : CallFix p m c _ _ s _ _ _)
  refine lv_iload_n hx hb dX9_isSlot_0 rfl (lv_at hl 0 rfl) ?_
  refine lv_i2l (v := x1.toInt64) hx hb dX9_isSlot_1 rfl ?_
  refine lv_lconst (v := 0) hx hb dX9_isSlot_2 (by decide) ?_
  refine lv_ldc2 (v := 3) hx hb hown (htw (.constantLong RX9 90 (3)) (List.mem_of_getElem? (i := 0) rfl)) dX9_isSlot_3 ?_
  refine aft_i (wr := []) hP hD hS hA [] [] rfl rfl (by decide) (by decide) (run_s (As := [.long x1.toInt64, .long 0, .long 3]) (rest := []) hFix hK hE hP hD [] (k_X9_in l D cs _ x1.toInt64 0 3) (va_cwS 3 hts gc_X9_isSlot_76_X9_in rfl rfl rfl (by decide +kernel) ⟨Nat.le_of_ble_eq_true rfl, Nat.le_of_ble_eq_true rfl⟩) rfl (by decide) rfl hl.1 rfl (Nat.le_of_ble_eq_true rfl) dX9_isSlot_6 ⟨Nat.le_of_ble_eq_true rfl, Nat.le_of_ble_eq_true rfl⟩) (fun r_1 u_1 H locs hq_1 hP hD hS => ?_)
  replace hq_1 : ((r_1 = 1 ∧ 0 ≤ x1.toInt64 ∧ x1.toInt64 ≤ 3) ∨ (r_1 = 0 ∧ ¬ (0 ≤ x1.toInt64 ∧ x1.toInt64 ≤ 3))) := hq_1
  rcases hq_1 with ⟨rfl, hq_1⟩ | ⟨rfl, hq_1⟩
  ·
    exact ret_z hx hb hr hlk hS (Nat.le_of_ble_eq_true rfl) (Nat.le_of_ble_eq_true rfl) (by decide) () (Or.inl ⟨rfl, (by obtain ⟨j9, h9, e9⟩ := in_nat (n := 3) j0 j3 (by decide) hq_1; exact ⟨j9, by omega, e9⟩)⟩) (hP.sub [] rfl) (hD.sub [] (by decide) rfl) dX9_isSlot_9
  ·
    exact ret_z hx hb hr hlk hS (Nat.le_of_ble_eq_true rfl) (Nat.le_of_ble_eq_true rfl) (by decide) () (Or.inr (⟨rfl, (fun h9 => hq_1 ((in_32 0 3 j0 j3).mpr h9))⟩)) (hP.sub [] rfl) (hD.sub [] (by decide) rfl) dX9_isSlot_9

set_option maxHeartbeats 4000000 in
set_option maxRecDepth 100000 in
theorem k_X9_isSeed (l : Launch) (D : va_G) (cs : Nat → ClassId) (sz : Nat) (x1 : Int32)  : Mi l D cs yX9_isSeed W_X9_isSeed 1 25 0 0 [.int x1] [] sz (fun (r : Int32) (u : Unit) => ((r = 1 ∧ True) ∨ (r = 0 ∧ True))) (fun (u : Unit) => []) := by
  refine ent (D := D) (cs := cs) (y := yX9_isSeed) (ws := W_X9_isSeed) (As := [.int x1]) (W0 := []) (Qx := fun A => va_Qi (fun (r : Int32) (u : Unit) => ((r = 1 ∧ True) ∨ (r = 0 ∧ True))) (mpost D A (fun (u : Unit) => [])) A) (maxL := 1) (ret := (some .boolean)) (by decide) rfl (Nat.le_of_ble_eq_true rfl) ?_
  intro p e s m below meth c A ls hx hb hr hml hlk hown hts hin hK hE hP hD hA hS hl
  have hl : lv_has ls 1 [(0, .int x1)] := hl
  generalize hHe : s.heap = H at hP
  have hS : va_S A s.heap H [] := hHe ▸ hS
  generalize hLe : ([] : List Loc) = locs at hS ⊢
  have htw : ∀ w ∈ O_X9_isSeed, w.before ([.int x1] : List Value).toArray s = true := fun w h => hts w (List.mem_cons_of_mem _ (List.mem_append_left _ h))
  have hFix := (⟨hx, hb, hml, hown, hts⟩ : CallFix p m c _ _ s _ _ _)
  refine lv_iload_n hx hb dX9_isSeed_0 rfl (lv_at hl 0 rfl) ?_
  refine lv_i2l (v := x1.toInt64) hx hb dX9_isSeed_1 rfl ?_
  refine lv_lconst (v := 0) hx hb dX9_isSeed_2 (by decide) ?_
  refine lv_ldc2 (v := 2000000000) hx hb hown (htw (.constantLong RX9 512 (2000000000)) (List.mem_of_getElem? (i := 0) rfl)) dX9_isSeed_3 ?_
  refine aft_i (wr := []) hP hD hS hA [] [] rfl rfl (by decide) (by decide) (run_s (As := [.long x1.toInt64, .long 0, .long 2000000000]) (rest := []) hFix hK hE hP hD [] (k_X9_in l D cs _ x1.toInt64 0 2000000000) (va_cwS 3 hts gc_X9_isSeed_76_X9_in rfl rfl rfl (by decide +kernel) ⟨Nat.le_of_ble_eq_true rfl, Nat.le_of_ble_eq_true rfl⟩) rfl (by decide) rfl hl.1 rfl (Nat.le_of_ble_eq_true rfl) dX9_isSeed_6 ⟨Nat.le_of_ble_eq_true rfl, Nat.le_of_ble_eq_true rfl⟩) (fun r_1 u_1 H locs hq_1 hP hD hS => ?_)
  replace hq_1 : ((r_1 = 1 ∧ 0 ≤ x1.toInt64 ∧ x1.toInt64 ≤ 2000000000) ∨ (r_1 = 0 ∧ ¬ (0 ≤ x1.toInt64 ∧ x1.toInt64 ≤ 2000000000))) := hq_1
  rcases hq_1 with ⟨rfl, hq_1⟩ | ⟨rfl, hq_1⟩
  ·
    exact ret_z hx hb hr hlk hS (Nat.le_of_ble_eq_true rfl) (Nat.le_of_ble_eq_true rfl) (by decide) () (Or.inl ⟨rfl, trivial⟩) (hP.sub [] rfl) (hD.sub [] (by decide) rfl) dX9_isSeed_9
  ·
    exact ret_z hx hb hr hlk hS (Nat.le_of_ble_eq_true rfl) (Nat.le_of_ble_eq_true rfl) (by decide) () (Or.inr (⟨rfl, trivial⟩)) (hP.sub [] rfl) (hD.sub [] (by decide) rfl) dX9_isSeed_9

set_option maxHeartbeats 4000000 in
set_option maxRecDepth 100000 in
theorem k_X9_stateMany (l : Launch) (D : va_G) (cs : Nat → ClassId) (sz : Nat) (b0 : Nat) (zThrown : Int32) (mWorld : Nat) (mImages : Nat) (mHasImage : Nat) (mTape : Nat) (mFive : Nat) (zToken : Int32) (zValue : Int32) (zFaultKind : Int32) (zFaultPlace : Int32) (mFresh : Nat) (mMergedBy : Nat) (zLawNow : Int32) (zLockedNow : Int32) (zDroppedNow : Int32) (mIsValid : Nat) (mGoes : Nat) (mFarNow : Nat) (mFreeNow : Nat) (mIsPair : Nat) (mHitsBy : Nat) (zBreakMany : Int32) (zLeastOps : Int32) (zLeastBase : Int32) (zLeastFirst : Int32) (zLeastSecond : Int32) (zBestLocks : Int32) (zInEach : Int32) (zFitMany : Int32) (zFitFirst : Int32) (mWorthBy : Nat) (zOftenAll : Int64) (zOftenSafe : Int64) (zOftenValid : Int64) (mMany : Nat) (mWidth : Nat) (mNumbers : Nat) (mMoving : Nat) (gWorld : Nat → Int32) (zTaped : Nat) (zSize : Nat) (zAt : Nat) (zFrom : Nat) (hzt : zTaped ≤ 400) (hzs : zSize ≤ 400) (hwok : WOK gWorld) : Mi l D cs yX9_stateMany W_X9_stateMany 1 20 0 0 [.ref b0] [(b0, .inr (9, [.int zThrown, .ref mWorld, .ref mImages, .ref mHasImage, .ref mTape, .int (nI zTaped), .ref mFive, .int (nI zSize), .int (nI zAt), .int (nI zFrom), .int zToken, .int zValue, .int zFaultKind, .int zFaultPlace, .ref mFresh, .ref mMergedBy, .int zLawNow, .int zLockedNow, .int zDroppedNow, .ref mIsValid, .ref mGoes, .ref mFarNow, .ref mFreeNow, .ref mIsPair, .ref mHitsBy, .int zBreakMany, .int zLeastOps, .int zLeastBase, .int zLeastFirst, .int zLeastSecond, .int zBestLocks, .int zInEach, .int zFitMany, .int zFitFirst, .ref mWorthBy, .long zOftenAll, .long zOftenSafe, .long zOftenValid, .ref mMany, .ref mWidth, .ref mNumbers, .ref mMoving])), (mWorld, .inl (cs 1, 76, .inl gWorld))] sz (fun (r : Int32) (u : Nat) => ((r = nI u ∧ u = SM gWorld))) (fun (u : Nat) => [(b0, .inr (9, [.int zThrown, .ref mWorld, .ref mImages, .ref mHasImage, .ref mTape, .int (nI zTaped), .ref mFive, .int (nI zSize), .int (nI zAt), .int (nI zFrom), .int zToken, .int zValue, .int zFaultKind, .int zFaultPlace, .ref mFresh, .ref mMergedBy, .int zLawNow, .int zLockedNow, .int zDroppedNow, .ref mIsValid, .ref mGoes, .ref mFarNow, .ref mFreeNow, .ref mIsPair, .ref mHitsBy, .int zBreakMany, .int zLeastOps, .int zLeastBase, .int zLeastFirst, .int zLeastSecond, .int zBestLocks, .int zInEach, .int zFitMany, .int zFitFirst, .ref mWorthBy, .long zOftenAll, .long zOftenSafe, .long zOftenValid, .ref mMany, .ref mWidth, .ref mNumbers, .ref mMoving])), (mWorld, .inl (cs 1, 76, .inl gWorld))]) := by
  refine ent (D := D) (cs := cs) (y := yX9_stateMany) (ws := W_X9_stateMany) (As := [.ref b0]) (W0 := [(b0, .inr (9, [.int zThrown, .ref mWorld, .ref mImages, .ref mHasImage, .ref mTape, .int (nI zTaped), .ref mFive, .int (nI zSize), .int (nI zAt), .int (nI zFrom), .int zToken, .int zValue, .int zFaultKind, .int zFaultPlace, .ref mFresh, .ref mMergedBy, .int zLawNow, .int zLockedNow, .int zDroppedNow, .ref mIsValid, .ref mGoes, .ref mFarNow, .ref mFreeNow, .ref mIsPair, .ref mHitsBy, .int zBreakMany, .int zLeastOps, .int zLeastBase, .int zLeastFirst, .int zLeastSecond, .int zBestLocks, .int zInEach, .int zFitMany, .int zFitFirst, .ref mWorthBy, .long zOftenAll, .long zOftenSafe, .long zOftenValid, .ref mMany, .ref mWidth, .ref mNumbers, .ref mMoving])), (mWorld, .inl (cs 1, 76, .inl gWorld))]) (Qx := fun A => va_Qi (fun (r : Int32) (u : Nat) => ((r = nI u ∧ u = SM gWorld))) (mpost D A (fun (u : Nat) => [(b0, .inr (9, [.int zThrown, .ref mWorld, .ref mImages, .ref mHasImage, .ref mTape, .int (nI zTaped), .ref mFive, .int (nI zSize), .int (nI zAt), .int (nI zFrom), .int zToken, .int zValue, .int zFaultKind, .int zFaultPlace, .ref mFresh, .ref mMergedBy, .int zLawNow, .int zLockedNow, .int zDroppedNow, .ref mIsValid, .ref mGoes, .ref mFarNow, .ref mFreeNow, .ref mIsPair, .ref mHitsBy, .int zBreakMany, .int zLeastOps, .int zLeastBase, .int zLeastFirst, .int zLeastSecond, .int zBestLocks, .int zInEach, .int zFitMany, .int zFitFirst, .ref mWorthBy, .long zOftenAll, .long zOftenSafe, .long zOftenValid, .ref mMany, .ref mWidth, .ref mNumbers, .ref mMoving])), (mWorld, .inl (cs 1, 76, .inl gWorld))])) A) (maxL := 3) (ret := (some .int)) (by decide) rfl (Nat.le_of_ble_eq_true rfl) ?_
  intro p e s m below meth c A ls hx hb hr hml hlk hown hts hin hK hE hP hD hA hS hl
  have hl : lv_has ls 3 [(0, .ref b0)] := hl
  generalize hHe : s.heap = H at hP
  have hS : va_S A s.heap H [] := hHe ▸ hS
  generalize hLe : ([] : List Loc) = locs at hS ⊢
  have htw : ∀ w ∈ O_X9_stateMany, w.before ([.ref b0] : List Value).toArray s = true := fun w h => hts w (List.mem_cons_of_mem _ (List.mem_append_left _ h))
  have hFix := (⟨hx, hb, hml, hown, hts⟩ : CallFix p m c _ _ s _ _ _)
  have hH := wok_h hwok
  have hR := wok_r hwok
  have hb0 := hok_b0 hH
  have hb2 := hok_b2 hH
  have hb3 := hok_b3 hH
  have hb4 := hok_b4 hH
  have hb5 := hok_b5 hH
  have hb6 := hok_b6 hH
  have hsm1 := sm_1 (f := gWorld)
  have hsm2 := sm_64 hH
  have hsp2 := sp_64 hH
  have hsm3 := sm_sp hH
  refine lv_iconst (v := 1) hx hb dX9_stateMany_0 (by decide) ?_
  refine lv_istore_n (lv' := [(1, .int 1), (0, .ref b0)]) hx hb dX9_stateMany_1 rfl hl (by decide) rfl (fun ls hl => ?_)
  refine lv_iconst (v := 0) hx hb dX9_stateMany_2 (by decide) ?_
  refine lv_istore_n (lv' := [(2, .int 0), (1, .int 1), (0, .ref b0)]) hx hb dX9_stateMany_3 rfl hl (by decide) rfl (fun ls hl => ?_)
  have lp_2 : ∀ (nfu : Nat) (i_1 : Nat) (v1_1 : Nat) (H : Heap) (locs : List Loc) (ls : Array Slot) (hi_1 : i_1 ≤ wN gWorld 3) (hv0_1 : v1_1 = (wN gWorld 0 + 1) ^ i_1), wN gWorld 3 - i_1 < nfu → va_P D vwCl [(b0, .inr (9, [.int zThrown, .ref mWorld, .ref mImages, .ref mHasImage, .ref mTape, .int (nI zTaped), .ref mFive, .int (nI zSize), .int (nI zAt), .int (nI zFrom), .int zToken, .int zValue, .int zFaultKind, .int zFaultPlace, .ref mFresh, .ref mMergedBy, .int zLawNow, .int zLockedNow, .int zDroppedNow, .ref mIsValid, .ref mGoes, .ref mFarNow, .ref mFreeNow, .ref mIsPair, .ref mHitsBy, .int zBreakMany, .int zLeastOps, .int zLeastBase, .int zLeastFirst, .int zLeastSecond, .int zBestLocks, .int zInEach, .int zFitMany, .int zFitFirst, .ref mWorthBy, .long zOftenAll, .long zOftenSafe, .long zOftenValid, .ref mMany, .ref mWidth, .ref mNumbers, .ref mMoving])), (mWorld, .inl (cs 1, 76, .inl gWorld))] H → va_D A [(b0, .inr (9, [.int zThrown, .ref mWorld, .ref mImages, .ref mHasImage, .ref mTape, .int (nI zTaped), .ref mFive, .int (nI zSize), .int (nI zAt), .int (nI zFrom), .int zToken, .int zValue, .int zFaultKind, .int zFaultPlace, .ref mFresh, .ref mMergedBy, .int zLawNow, .int zLockedNow, .int zDroppedNow, .ref mIsValid, .ref mGoes, .ref mFarNow, .ref mFreeNow, .ref mIsPair, .ref mHitsBy, .int zBreakMany, .int zLeastOps, .int zLeastBase, .int zLeastFirst, .int zLeastSecond, .int zBestLocks, .int zInEach, .int zFitMany, .int zFitFirst, .ref mWorthBy, .long zOftenAll, .long zOftenSafe, .long zOftenValid, .ref mMany, .ref mWidth, .ref mNumbers, .ref mMoving])), (mWorld, .inl (cs 1, 76, .inl gWorld))] → va_S A s.heap H locs → lv_has ls 3 [(2, .int (nI i_1)), (1, .int (nI v1_1)), (0, .ref b0)] → W p l e (mRm 1 0 0 20) s m ([.ref b0] : List Value).toArray below meth c H locs 0 0 (MQ below (va_Qi (fun (r : Int32) (u : Nat) => ((r = nI u ∧ u = SM gWorld))) (mpost D A (fun (u : Nat) => [(b0, .inr (9, [.int zThrown, .ref mWorld, .ref mImages, .ref mHasImage, .ref mTape, .int (nI zTaped), .ref mFive, .int (nI zSize), .int (nI zAt), .int (nI zFrom), .int zToken, .int zValue, .int zFaultKind, .int zFaultPlace, .ref mFresh, .ref mMergedBy, .int zLawNow, .int zLockedNow, .int zDroppedNow, .ref mIsValid, .ref mGoes, .ref mFarNow, .ref mFreeNow, .ref mIsPair, .ref mHitsBy, .int zBreakMany, .int zLeastOps, .int zLeastBase, .int zLeastFirst, .int zLeastSecond, .int zBestLocks, .int zInEach, .int zFitMany, .int zFitFirst, .ref mWorthBy, .long zOftenAll, .long zOftenSafe, .long zOftenValid, .ref mMany, .ref mWidth, .ref mNumbers, .ref mMoving])), (mWorld, .inl (cs 1, 76, .inl gWorld))])) A) ([.ref b0] : List Value).toArray s 0 0 A) (F0 m 4 ls []) := by
    intro nfu
    induction nfu with
    | zero => intro i_1 v1_1 H locs ls hi_1 hv0_1 hmu; exact absurd hmu (Nat.not_lt_zero _)
    | succ nfu ih =>
      intro i_1 v1_1 H locs ls hi_1 hv0_1 hmu hP hD hS hl
      have ih_lp_2 := @ih
      refine lv_iload_n hx hb dX9_stateMany_4 rfl (lv_at hl 0 rfl) ?_
      refine lv_aload_n hx hb dX9_stateMany_5 rfl (lv_at hl 2 rfl) ?_
      refine aft_i (wr := []) hP hD hS hA [0, 1] [] rfl rfl (by decide) (by decide) (run_v (As := []) (rest := [.int (nI i_1)]) hFix hK hE hP hD [0, 1] (k_X9_cells l D cs _ b0 zThrown mWorld mImages mHasImage mTape mFive zToken zValue zFaultKind zFaultPlace mFresh mMergedBy zLawNow zLockedNow zDroppedNow mIsValid mGoes mFarNow mFreeNow mIsPair mHitsBy zBreakMany zLeastOps zLeastBase zLeastFirst zLeastSecond zBestLocks zInEach zFitMany zFitFirst mWorthBy zOftenAll zOftenSafe zOftenValid mMany mWidth mNumbers mMoving gWorld zTaped zSize zAt zFrom (by first | assumption | decide | omega) (by first | assumption | decide | omega) (by first | assumption | decide | omega)) (cwV 0 hts gc_X9_stateMany_87_X9_cells rfl rfl rfl (by decide +kernel) ⟨Nat.le_of_ble_eq_true rfl, Nat.le_of_ble_eq_true rfl⟩) rfl (by decide) rfl rfl rfl hl.1 rfl (Nat.le_of_ble_eq_true rfl) dX9_stateMany_6 ⟨Nat.le_of_ble_eq_true rfl, Nat.le_of_ble_eq_true rfl⟩) (fun r_3 u_3 H locs hq_3 hP hD hS => ?_)
      obtain ⟨j_3, rfl⟩ : ∃ z, z = u_3 := ⟨_, rfl⟩
      have hP : va_P D vwCl [(b0, .inr (9, [.int zThrown, .ref mWorld, .ref mImages, .ref mHasImage, .ref mTape, .int (nI zTaped), .ref mFive, .int (nI zSize), .int (nI zAt), .int (nI zFrom), .int zToken, .int zValue, .int zFaultKind, .int zFaultPlace, .ref mFresh, .ref mMergedBy, .int zLawNow, .int zLockedNow, .int zDroppedNow, .ref mIsValid, .ref mGoes, .ref mFarNow, .ref mFreeNow, .ref mIsPair, .ref mHitsBy, .int zBreakMany, .int zLeastOps, .int zLeastBase, .int zLeastFirst, .int zLeastSecond, .int zBestLocks, .int zInEach, .int zFitMany, .int zFitFirst, .ref mWorthBy, .long zOftenAll, .long zOftenSafe, .long zOftenValid, .ref mMany, .ref mWidth, .ref mNumbers, .ref mMoving])), (mWorld, .inl (cs 1, 76, .inl gWorld))] H := hP
      have hD : va_D A [(b0, .inr (9, [.int zThrown, .ref mWorld, .ref mImages, .ref mHasImage, .ref mTape, .int (nI zTaped), .ref mFive, .int (nI zSize), .int (nI zAt), .int (nI zFrom), .int zToken, .int zValue, .int zFaultKind, .int zFaultPlace, .ref mFresh, .ref mMergedBy, .int zLawNow, .int zLockedNow, .int zDroppedNow, .ref mIsValid, .ref mGoes, .ref mFarNow, .ref mFreeNow, .ref mIsPair, .ref mHitsBy, .int zBreakMany, .int zLeastOps, .int zLeastBase, .int zLeastFirst, .int zLeastSecond, .int zBestLocks, .int zInEach, .int zFitMany, .int zFitFirst, .ref mWorthBy, .long zOftenAll, .long zOftenSafe, .long zOftenValid, .ref mMany, .ref mWidth, .ref mNumbers, .ref mMoving])), (mWorld, .inl (cs 1, 76, .inl gWorld))] := hD
      replace hq_3 : ((r_3 = nI j_3 ∧ j_3 = wN gWorld 3)) := hq_3
      obtain ⟨rfl, hq_3⟩ := hq_3
      ·
        refine lv_icmp_ge (tgt := 29) hx hb dX9_stateMany_9 (by decide) (fun c_4 => ?_) (fun c_4 => ?_)
        ·
          have hn_4 := bge_t (a := i_1) (b := j_3) c_4 (by omega) (by omega)
          refine lv_iload_n hx hb dX9_stateMany_29 rfl (lv_at hl 1 rfl) ?_
          exact ret_i hx hb hr hlk hS (Nat.le_of_ble_eq_true rfl) (Nat.le_of_ble_eq_true rfl) (v1_1) (⟨rfl, (by rw [hv0_1, show i_1 = wN gWorld 3 by omega]; rfl)⟩) (hP.sub [0, 1] rfl) (hD.sub [0, 1] (by decide) rfl) dX9_stateMany_30
        ·
          have hn_4 := bge_f (a := i_1) (b := j_3) c_4 (by omega) (by omega)
          refine lv_iload_n hx hb dX9_stateMany_12 rfl (lv_at hl 1 rfl) ?_
          refine lv_aload_n hx hb dX9_stateMany_13 rfl (lv_at hl 2 rfl) ?_
          refine va_get (D := D) (ci := 9) (v := .ref mWorld) (C := RX9) (T := TX9) (N := 42) hx hb hts iuX9_stateMany_X9 hown hK hP 0 rfl rfl 1 (by decide) (htw (.fieldLink RX9 9 "MergeJudgeModel" "world" "[I") (List.mem_of_getElem? (i := 4) rfl)) (fun _ h9 => h9) rfl dX9_stateMany_14 ?_
          refine lv_iconst (v := 0) hx hb dX9_stateMany_17 (by decide) ?_
          refine va_iald hx hb hK hP 1 1 rfl rfl (vp_c (by decide)) dX9_stateMany_18 ?_
          refine cf_v (.int (gWorld 0)) rfl ?_
          refine cf_i (nI (wN gWorld 0)) (hok_0 (by assumption)) ?_
          refine lv_iconst (v := 1) hx hb dX9_stateMany_19 (by decide) ?_
          refine lv_iadd hx hb dX9_stateMany_20 ?_
          refine cf_i (nI (wN gWorld 0 + 1)) (nI_add (wN gWorld 0) 1) ?_
          refine lv_imul hx hb dX9_stateMany_21 ?_
          refine cf_i (nI (v1_1 * (wN gWorld 0 + 1))) (pk_mul v1_1 (wN gWorld 0 + 1)) ?_
          refine lv_istore_n (lv' := [(1, .int (nI (v1_1 * (wN gWorld 0 + 1)))), (2, .int (nI i_1)), (0, .ref b0)]) hx hb dX9_stateMany_22 rfl hl (by decide) rfl (fun ls hl => ?_)
          refine lv_iinc (v := (nI (i_1 + 1))) (lv' := [(2, .int (nI (i_1 + 1))), (1, .int (nI (v1_1 * (wN gWorld 0 + 1)))), (0, .ref b0)]) hx hb dX9_stateMany_23 hl (k := 1) rfl (nI_1 _) (by decide) rfl (fun ls hl => ?_)
          refine lv_goto (tgt := 4) hx hb dX9_stateMany_26 (by decide) ?_
          exact ih_lp_2 (i_1 + 1) (v1_1 * (wN gWorld 0 + 1)) H locs ls (by omega) (pw_s hv0_1) (by omega) (hP.sub [0, 1] rfl) (hD.sub [0, 1] (by decide) rfl) hS (lv_sub hl [0, 1, 2] rfl)
  exact lp_2 _ 0 1 H locs ls (by omega) (Nat.pow_zero _).symm (Nat.lt_succ_self _) (hP.sub [0, 1] rfl) (hD.sub [0, 1] (by decide) rfl) hS (lv_sub hl [0, 1, 2] rfl)

set_option maxHeartbeats 4000000 in
set_option maxRecDepth 100000 in
theorem k_X9_isState (l : Launch) (D : va_G) (cs : Nat → ClassId) (sz : Nat) (b0 : Nat) (v1 : Int64) (zThrown : Int32) (mWorld : Nat) (mImages : Nat) (mHasImage : Nat) (mTape : Nat) (mFive : Nat) (zToken : Int32) (zValue : Int32) (zFaultKind : Int32) (zFaultPlace : Int32) (mFresh : Nat) (mMergedBy : Nat) (zLawNow : Int32) (zLockedNow : Int32) (zDroppedNow : Int32) (mIsValid : Nat) (mGoes : Nat) (mFarNow : Nat) (mFreeNow : Nat) (mIsPair : Nat) (mHitsBy : Nat) (zBreakMany : Int32) (zLeastOps : Int32) (zLeastBase : Int32) (zLeastFirst : Int32) (zLeastSecond : Int32) (zBestLocks : Int32) (zInEach : Int32) (zFitMany : Int32) (zFitFirst : Int32) (mWorthBy : Nat) (zOftenAll : Int64) (zOftenSafe : Int64) (zOftenValid : Int64) (mMany : Nat) (mWidth : Nat) (mNumbers : Nat) (mMoving : Nat) (gWorld : Nat → Int32) (zTaped : Nat) (zSize : Nat) (zAt : Nat) (zFrom : Nat) (hzt : zTaped ≤ 400) (hzs : zSize ≤ 400) (hwok : WOK gWorld) : Mi l D cs yX9_isState W_X9_isState 2 42 0 0 [.ref b0, .long v1] [(b0, .inr (9, [.int zThrown, .ref mWorld, .ref mImages, .ref mHasImage, .ref mTape, .int (nI zTaped), .ref mFive, .int (nI zSize), .int (nI zAt), .int (nI zFrom), .int zToken, .int zValue, .int zFaultKind, .int zFaultPlace, .ref mFresh, .ref mMergedBy, .int zLawNow, .int zLockedNow, .int zDroppedNow, .ref mIsValid, .ref mGoes, .ref mFarNow, .ref mFreeNow, .ref mIsPair, .ref mHitsBy, .int zBreakMany, .int zLeastOps, .int zLeastBase, .int zLeastFirst, .int zLeastSecond, .int zBestLocks, .int zInEach, .int zFitMany, .int zFitFirst, .ref mWorthBy, .long zOftenAll, .long zOftenSafe, .long zOftenValid, .ref mMany, .ref mWidth, .ref mNumbers, .ref mMoving])), (mWorld, .inl (cs 1, 76, .inl gWorld))] sz (fun (r : Int32) (u : Unit) => ((r = 1 ∧ ∃ j9, j9 < SM gWorld ∧ v1 = (nI j9).toInt64) ∨ (r = 0 ∧ True))) (fun (u : Unit) => [(b0, .inr (9, [.int zThrown, .ref mWorld, .ref mImages, .ref mHasImage, .ref mTape, .int (nI zTaped), .ref mFive, .int (nI zSize), .int (nI zAt), .int (nI zFrom), .int zToken, .int zValue, .int zFaultKind, .int zFaultPlace, .ref mFresh, .ref mMergedBy, .int zLawNow, .int zLockedNow, .int zDroppedNow, .ref mIsValid, .ref mGoes, .ref mFarNow, .ref mFreeNow, .ref mIsPair, .ref mHitsBy, .int zBreakMany, .int zLeastOps, .int zLeastBase, .int zLeastFirst, .int zLeastSecond, .int zBestLocks, .int zInEach, .int zFitMany, .int zFitFirst, .ref mWorthBy, .long zOftenAll, .long zOftenSafe, .long zOftenValid, .ref mMany, .ref mWidth, .ref mNumbers, .ref mMoving])), (mWorld, .inl (cs 1, 76, .inl gWorld))]) := by
  refine ent (D := D) (cs := cs) (y := yX9_isState) (ws := W_X9_isState) (As := [.ref b0, .long v1]) (W0 := [(b0, .inr (9, [.int zThrown, .ref mWorld, .ref mImages, .ref mHasImage, .ref mTape, .int (nI zTaped), .ref mFive, .int (nI zSize), .int (nI zAt), .int (nI zFrom), .int zToken, .int zValue, .int zFaultKind, .int zFaultPlace, .ref mFresh, .ref mMergedBy, .int zLawNow, .int zLockedNow, .int zDroppedNow, .ref mIsValid, .ref mGoes, .ref mFarNow, .ref mFreeNow, .ref mIsPair, .ref mHitsBy, .int zBreakMany, .int zLeastOps, .int zLeastBase, .int zLeastFirst, .int zLeastSecond, .int zBestLocks, .int zInEach, .int zFitMany, .int zFitFirst, .ref mWorthBy, .long zOftenAll, .long zOftenSafe, .long zOftenValid, .ref mMany, .ref mWidth, .ref mNumbers, .ref mMoving])), (mWorld, .inl (cs 1, 76, .inl gWorld))]) (Qx := fun A => va_Qi (fun (r : Int32) (u : Unit) => ((r = 1 ∧ ∃ j9, j9 < SM gWorld ∧ v1 = (nI j9).toInt64) ∨ (r = 0 ∧ True))) (mpost D A (fun (u : Unit) => [(b0, .inr (9, [.int zThrown, .ref mWorld, .ref mImages, .ref mHasImage, .ref mTape, .int (nI zTaped), .ref mFive, .int (nI zSize), .int (nI zAt), .int (nI zFrom), .int zToken, .int zValue, .int zFaultKind, .int zFaultPlace, .ref mFresh, .ref mMergedBy, .int zLawNow, .int zLockedNow, .int zDroppedNow, .ref mIsValid, .ref mGoes, .ref mFarNow, .ref mFreeNow, .ref mIsPair, .ref mHitsBy, .int zBreakMany, .int zLeastOps, .int zLeastBase, .int zLeastFirst, .int zLeastSecond, .int zBestLocks, .int zInEach, .int zFitMany, .int zFitFirst, .ref mWorthBy, .long zOftenAll, .long zOftenSafe, .long zOftenValid, .ref mMany, .ref mWidth, .ref mNumbers, .ref mMoving])), (mWorld, .inl (cs 1, 76, .inl gWorld))])) A) (maxL := 3) (ret := (some .boolean)) (by decide) rfl (Nat.le_of_ble_eq_true rfl) ?_
  intro p e s m below meth c A ls hx hb hr hml hlk hown hts hin hK hE hP hD hA hS hl
  have hl : lv_has ls 3 [(0, .ref b0), (1, .long v1)] := hl
  generalize hHe : s.heap = H at hP
  have hS : va_S A s.heap H [] := hHe ▸ hS
  generalize hLe : ([] : List Loc) = locs at hS ⊢
  have htw : ∀ w ∈ O_X9_isState, w.before ([.ref b0, .long v1] : List Value).toArray s = true := fun w h => hts w (List.mem_cons_of_mem _ (List.mem_append_left _ h))
  have hFix := (⟨hx, hb, hml, hown, hts⟩ : CallFix p m c _ _ s _ _ _)
  have hH := wok_h hwok
  have hR := wok_r hwok
  have hb0 := hok_b0 hH
  have hb2 := hok_b2 hH
  have hb3 := hok_b3 hH
  have hb4 := hok_b4 hH
  have hb5 := hok_b5 hH
  have hb6 := hok_b6 hH
  have hsm1 := sm_1 (f := gWorld)
  have hsm2 := sm_64 hH
  have hsp2 := sp_64 hH
  have hsm3 := sm_sp hH
  refine lv_aload_n hx hb dX9_isState_0 rfl (lv_at hl 0 rfl) ?_
  refine aft_i (wr := []) hP hD hS hA [0, 1] [] rfl rfl (by decide) (by decide) (run_v (As := []) (rest := []) hFix hK hE hP hD [0, 1] (k_X9_isBase l D cs _ b0 zThrown mWorld mImages mHasImage mTape mFive zToken zValue zFaultKind zFaultPlace mFresh mMergedBy zLawNow zLockedNow zDroppedNow mIsValid mGoes mFarNow mFreeNow mIsPair mHitsBy zBreakMany zLeastOps zLeastBase zLeastFirst zLeastSecond zBestLocks zInEach zFitMany zFitFirst mWorthBy zOftenAll zOftenSafe zOftenValid mMany mWidth mNumbers mMoving gWorld zTaped zSize zAt zFrom (by first | assumption | decide | omega) (by first | assumption | decide | omega) (by first | assumption | decide | omega)) (cwV 0 hts gc_X9_isState_92_X9_isBase rfl rfl rfl (by decide +kernel) ⟨Nat.le_of_ble_eq_true rfl, Nat.le_of_ble_eq_true rfl⟩) rfl (by decide) rfl rfl rfl hl.1 rfl (Nat.le_of_ble_eq_true rfl) dX9_isState_1 ⟨Nat.le_of_ble_eq_true rfl, Nat.le_of_ble_eq_true rfl⟩) (fun r_1 u_1 H locs hq_1 hP hD hS => ?_)
  have hP : va_P D vwCl [(b0, .inr (9, [.int zThrown, .ref mWorld, .ref mImages, .ref mHasImage, .ref mTape, .int (nI zTaped), .ref mFive, .int (nI zSize), .int (nI zAt), .int (nI zFrom), .int zToken, .int zValue, .int zFaultKind, .int zFaultPlace, .ref mFresh, .ref mMergedBy, .int zLawNow, .int zLockedNow, .int zDroppedNow, .ref mIsValid, .ref mGoes, .ref mFarNow, .ref mFreeNow, .ref mIsPair, .ref mHitsBy, .int zBreakMany, .int zLeastOps, .int zLeastBase, .int zLeastFirst, .int zLeastSecond, .int zBestLocks, .int zInEach, .int zFitMany, .int zFitFirst, .ref mWorthBy, .long zOftenAll, .long zOftenSafe, .long zOftenValid, .ref mMany, .ref mWidth, .ref mNumbers, .ref mMoving])), (mWorld, .inl (cs 1, 76, .inl gWorld))] H := hP
  have hD : va_D A [(b0, .inr (9, [.int zThrown, .ref mWorld, .ref mImages, .ref mHasImage, .ref mTape, .int (nI zTaped), .ref mFive, .int (nI zSize), .int (nI zAt), .int (nI zFrom), .int zToken, .int zValue, .int zFaultKind, .int zFaultPlace, .ref mFresh, .ref mMergedBy, .int zLawNow, .int zLockedNow, .int zDroppedNow, .ref mIsValid, .ref mGoes, .ref mFarNow, .ref mFreeNow, .ref mIsPair, .ref mHitsBy, .int zBreakMany, .int zLeastOps, .int zLeastBase, .int zLeastFirst, .int zLeastSecond, .int zBestLocks, .int zInEach, .int zFitMany, .int zFitFirst, .ref mWorthBy, .long zOftenAll, .long zOftenSafe, .long zOftenValid, .ref mMany, .ref mWidth, .ref mNumbers, .ref mMoving])), (mWorld, .inl (cs 1, 76, .inl gWorld))] := hD
  replace hq_1 : ((r_1 = 1 ∧ True) ∨ (r_1 = 0 ∧ True)) := hq_1
  rcases hq_1 with ⟨rfl, hq_1⟩ | ⟨rfl, hq_1⟩
  ·
    refine lv_if_eq (tgt := 26) hx hb dX9_isState_4 (by decide) (fun h9 => absurd h9 (by decide)) (fun _ => ?_)
    refine lv_lload_n hx hb dX9_isState_7 rfl (lv_at hl 1 rfl) ?_
    refine lv_lconst (v := 0) hx hb dX9_isState_8 (by decide) ?_
    refine lv_aload_n hx hb dX9_isState_9 rfl (lv_at hl 0 rfl) ?_
    refine aft_i (wr := []) hP hD hS hA [0, 1] [] rfl rfl (by decide) (by decide) (run_v (As := []) (rest := [.long 0, .long v1]) hFix hK hE hP hD [0, 1] (k_X9_stateMany l D cs _ b0 zThrown mWorld mImages mHasImage mTape mFive zToken zValue zFaultKind zFaultPlace mFresh mMergedBy zLawNow zLockedNow zDroppedNow mIsValid mGoes mFarNow mFreeNow mIsPair mHitsBy zBreakMany zLeastOps zLeastBase zLeastFirst zLeastSecond zBestLocks zInEach zFitMany zFitFirst mWorthBy zOftenAll zOftenSafe zOftenValid mMany mWidth mNumbers mMoving gWorld zTaped zSize zAt zFrom (by first | assumption | decide | omega) (by first | assumption | decide | omega) (by first | assumption | decide | omega)) (cwV 0 hts gc_X9_isState_96_X9_stateMany rfl rfl rfl (by decide +kernel) ⟨Nat.le_of_ble_eq_true rfl, Nat.le_of_ble_eq_true rfl⟩) rfl (by decide) rfl rfl rfl hl.1 rfl (Nat.le_of_ble_eq_true rfl) dX9_isState_10 ⟨Nat.le_of_ble_eq_true rfl, Nat.le_of_ble_eq_true rfl⟩) (fun r_2 u_2 H locs hq_2 hP hD hS => ?_)
    obtain ⟨j_2, rfl⟩ : ∃ z, z = u_2 := ⟨_, rfl⟩
    have hP : va_P D vwCl [(b0, .inr (9, [.int zThrown, .ref mWorld, .ref mImages, .ref mHasImage, .ref mTape, .int (nI zTaped), .ref mFive, .int (nI zSize), .int (nI zAt), .int (nI zFrom), .int zToken, .int zValue, .int zFaultKind, .int zFaultPlace, .ref mFresh, .ref mMergedBy, .int zLawNow, .int zLockedNow, .int zDroppedNow, .ref mIsValid, .ref mGoes, .ref mFarNow, .ref mFreeNow, .ref mIsPair, .ref mHitsBy, .int zBreakMany, .int zLeastOps, .int zLeastBase, .int zLeastFirst, .int zLeastSecond, .int zBestLocks, .int zInEach, .int zFitMany, .int zFitFirst, .ref mWorthBy, .long zOftenAll, .long zOftenSafe, .long zOftenValid, .ref mMany, .ref mWidth, .ref mNumbers, .ref mMoving])), (mWorld, .inl (cs 1, 76, .inl gWorld))] H := hP
    have hD : va_D A [(b0, .inr (9, [.int zThrown, .ref mWorld, .ref mImages, .ref mHasImage, .ref mTape, .int (nI zTaped), .ref mFive, .int (nI zSize), .int (nI zAt), .int (nI zFrom), .int zToken, .int zValue, .int zFaultKind, .int zFaultPlace, .ref mFresh, .ref mMergedBy, .int zLawNow, .int zLockedNow, .int zDroppedNow, .ref mIsValid, .ref mGoes, .ref mFarNow, .ref mFreeNow, .ref mIsPair, .ref mHitsBy, .int zBreakMany, .int zLeastOps, .int zLeastBase, .int zLeastFirst, .int zLeastSecond, .int zBestLocks, .int zInEach, .int zFitMany, .int zFitFirst, .ref mWorthBy, .long zOftenAll, .long zOftenSafe, .long zOftenValid, .ref mMany, .ref mWidth, .ref mNumbers, .ref mMoving])), (mWorld, .inl (cs 1, 76, .inl gWorld))] := hD
    replace hq_2 : ((r_2 = nI j_2 ∧ j_2 = SM gWorld)) := hq_2
    obtain ⟨rfl, hq_2⟩ := hq_2
    ·
      refine lv_iconst (v := 1) hx hb dX9_isState_13 (by decide) ?_
      refine lv_isub hx hb dX9_isState_14 ?_
      refine lv_i2l (v := (((nI j_2) - (1 : Int32)).toInt64)) hx hb dX9_isState_15 rfl ?_
      refine aft_i (wr := [(b0, .inr (9, [.int zThrown, .ref mWorld, .ref mImages, .ref mHasImage, .ref mTape, .int (nI zTaped), .ref mFive, .int (nI zSize), .int (nI zAt), .int (nI zFrom), .int zToken, .int zValue, .int zFaultKind, .int zFaultPlace, .ref mFresh, .ref mMergedBy, .int zLawNow, .int zLockedNow, .int zDroppedNow, .ref mIsValid, .ref mGoes, .ref mFarNow, .ref mFreeNow, .ref mIsPair, .ref mHitsBy, .int zBreakMany, .int zLeastOps, .int zLeastBase, .int zLeastFirst, .int zLeastSecond, .int zBestLocks, .int zInEach, .int zFitMany, .int zFitFirst, .ref mWorthBy, .long zOftenAll, .long zOftenSafe, .long zOftenValid, .ref mMany, .ref mWidth, .ref mNumbers, .ref mMoving])), (mWorld, .inl (cs 1, 76, .inl gWorld))]) hP hD hS hA [] [0, 1] rfl rfl (by decide) (by decide) (run_s (As := [.long v1, .long 0, .long (((nI j_2) - (1 : Int32)).toInt64)]) (rest := []) hFix hK hE hP hD [] (k_X9_in l D cs _ v1 0 (((nI j_2) - (1 : Int32)).toInt64)) (va_cwS 3 hts gc_X9_isState_76_X9_in rfl rfl rfl (by decide +kernel) ⟨Nat.le_of_ble_eq_true rfl, Nat.le_of_ble_eq_true rfl⟩) rfl (by decide) rfl hl.1 rfl (Nat.le_of_ble_eq_true rfl) dX9_isState_16 ⟨Nat.le_of_ble_eq_true rfl, Nat.le_of_ble_eq_true rfl⟩) (fun r_3 u_3 H locs hq_3 hP hD hS => ?_)
      have hP : va_P D vwCl [(b0, .inr (9, [.int zThrown, .ref mWorld, .ref mImages, .ref mHasImage, .ref mTape, .int (nI zTaped), .ref mFive, .int (nI zSize), .int (nI zAt), .int (nI zFrom), .int zToken, .int zValue, .int zFaultKind, .int zFaultPlace, .ref mFresh, .ref mMergedBy, .int zLawNow, .int zLockedNow, .int zDroppedNow, .ref mIsValid, .ref mGoes, .ref mFarNow, .ref mFreeNow, .ref mIsPair, .ref mHitsBy, .int zBreakMany, .int zLeastOps, .int zLeastBase, .int zLeastFirst, .int zLeastSecond, .int zBestLocks, .int zInEach, .int zFitMany, .int zFitFirst, .ref mWorthBy, .long zOftenAll, .long zOftenSafe, .long zOftenValid, .ref mMany, .ref mWidth, .ref mNumbers, .ref mMoving])), (mWorld, .inl (cs 1, 76, .inl gWorld))] H := hP
      have hD : va_D A [(b0, .inr (9, [.int zThrown, .ref mWorld, .ref mImages, .ref mHasImage, .ref mTape, .int (nI zTaped), .ref mFive, .int (nI zSize), .int (nI zAt), .int (nI zFrom), .int zToken, .int zValue, .int zFaultKind, .int zFaultPlace, .ref mFresh, .ref mMergedBy, .int zLawNow, .int zLockedNow, .int zDroppedNow, .ref mIsValid, .ref mGoes, .ref mFarNow, .ref mFreeNow, .ref mIsPair, .ref mHitsBy, .int zBreakMany, .int zLeastOps, .int zLeastBase, .int zLeastFirst, .int zLeastSecond, .int zBestLocks, .int zInEach, .int zFitMany, .int zFitFirst, .ref mWorthBy, .long zOftenAll, .long zOftenSafe, .long zOftenValid, .ref mMany, .ref mWidth, .ref mNumbers, .ref mMoving])), (mWorld, .inl (cs 1, 76, .inl gWorld))] := hD
      replace hq_3 : ((r_3 = 1 ∧ 0 ≤ v1 ∧ v1 ≤ (((nI j_2) - (1 : Int32)).toInt64)) ∨ (r_3 = 0 ∧ ¬ (0 ≤ v1 ∧ v1 ≤ (((nI j_2) - (1 : Int32)).toInt64)))) := hq_3
      rcases hq_3 with ⟨rfl, hq_3⟩ | ⟨rfl, hq_3⟩
      ·
        refine lv_if_eq (tgt := 26) hx hb dX9_isState_19 (by decide) (fun h9 => absurd h9 (by decide)) (fun _ => ?_)
        refine lv_iconst (v := 1) hx hb dX9_isState_22 (by decide) ?_
        refine lv_goto (tgt := 27) hx hb dX9_isState_23 (by decide) ?_
        exact ret_z hx hb hr hlk hS (Nat.le_of_ble_eq_true rfl) (Nat.le_of_ble_eq_true rfl) (by decide) () (Or.inl ⟨rfl, (by obtain ⟨j9, h9, e9⟩ := in_state (by omega) hq_3; exact ⟨j9, by omega, e9⟩)⟩) (hP.sub [0, 1] rfl) (hD.sub [0, 1] (by decide) rfl) dX9_isState_27
      ·
        refine lv_if_eq (tgt := 26) hx hb dX9_isState_19 (by decide) (fun _ => ?_) (fun h9 => absurd h9 (by decide))
        refine lv_iconst (v := 0) hx hb dX9_isState_26 (by decide) ?_
        exact ret_z hx hb hr hlk hS (Nat.le_of_ble_eq_true rfl) (Nat.le_of_ble_eq_true rfl) (by decide) () (Or.inr (⟨rfl, trivial⟩)) (hP.sub [0, 1] rfl) (hD.sub [0, 1] (by decide) rfl) dX9_isState_27
  ·
    refine lv_if_eq (tgt := 26) hx hb dX9_isState_4 (by decide) (fun _ => ?_) (fun h9 => absurd h9 (by decide))
    refine lv_iconst (v := 0) hx hb dX9_isState_26 (by decide) ?_
    exact ret_z hx hb hr hlk hS (Nat.le_of_ble_eq_true rfl) (Nat.le_of_ble_eq_true rfl) (by decide) () (Or.inr (⟨rfl, trivial⟩)) (hP.sub [0, 1] rfl) (hD.sub [0, 1] (by decide) rfl) dX9_isState_27

set_option maxHeartbeats 4000000 in
set_option maxRecDepth 100000 in
theorem k_X9_ruleOf (l : Launch) (D : va_G) (cs : Nat → ClassId) (sz : Nat) (b0 : Nat) (r1 : Nat) (wh : Nat) (zThrown : Int32) (mWorld : Nat) (mImages : Nat) (mHasImage : Nat) (mTape : Nat) (mFive : Nat) (zToken : Int32) (zValue : Int32) (zFaultKind : Int32) (zFaultPlace : Int32) (mFresh : Nat) (mMergedBy : Nat) (zLawNow : Int32) (zLockedNow : Int32) (zDroppedNow : Int32) (mIsValid : Nat) (mGoes : Nat) (mFarNow : Nat) (mFreeNow : Nat) (mIsPair : Nat) (mHitsBy : Nat) (zBreakMany : Int32) (zLeastOps : Int32) (zLeastBase : Int32) (zLeastFirst : Int32) (zLeastSecond : Int32) (zBestLocks : Int32) (zInEach : Int32) (zFitMany : Int32) (zFitFirst : Int32) (mWorthBy : Nat) (zOftenAll : Int64) (zOftenSafe : Int64) (zOftenValid : Int64) (mMany : Nat) (mWidth : Nat) (mNumbers : Nat) (mMoving : Nat) (gWorld : Nat → Int32) (zTaped : Nat) (zSize : Nat) (zAt : Nat) (zFrom : Nat) (hzt : zTaped ≤ 400) (hzs : zSize ≤ 400) (hwok : WOK gWorld) (ha_r1 : r1 < 5) (ha_wh : wh < 5) : Mi l D cs yX9_ruleOf W_X9_ruleOf 0 0 0 0 [.ref b0, .int (nI r1), .int (nI wh)] [(b0, .inr (9, [.int zThrown, .ref mWorld, .ref mImages, .ref mHasImage, .ref mTape, .int (nI zTaped), .ref mFive, .int (nI zSize), .int (nI zAt), .int (nI zFrom), .int zToken, .int zValue, .int zFaultKind, .int zFaultPlace, .ref mFresh, .ref mMergedBy, .int zLawNow, .int zLockedNow, .int zDroppedNow, .ref mIsValid, .ref mGoes, .ref mFarNow, .ref mFreeNow, .ref mIsPair, .ref mHitsBy, .int zBreakMany, .int zLeastOps, .int zLeastBase, .int zLeastFirst, .int zLeastSecond, .int zBestLocks, .int zInEach, .int zFitMany, .int zFitFirst, .ref mWorthBy, .long zOftenAll, .long zOftenSafe, .long zOftenValid, .ref mMany, .ref mWidth, .ref mNumbers, .ref mMoving])), (mWorld, .inl (cs 1, 76, .inl gWorld))] sz (fun (r : Int32) (u : Unit) => r = gWorld (11 + (5 * r1) + wh)) (fun (u : Unit) => [(b0, .inr (9, [.int zThrown, .ref mWorld, .ref mImages, .ref mHasImage, .ref mTape, .int (nI zTaped), .ref mFive, .int (nI zSize), .int (nI zAt), .int (nI zFrom), .int zToken, .int zValue, .int zFaultKind, .int zFaultPlace, .ref mFresh, .ref mMergedBy, .int zLawNow, .int zLockedNow, .int zDroppedNow, .ref mIsValid, .ref mGoes, .ref mFarNow, .ref mFreeNow, .ref mIsPair, .ref mHitsBy, .int zBreakMany, .int zLeastOps, .int zLeastBase, .int zLeastFirst, .int zLeastSecond, .int zBestLocks, .int zInEach, .int zFitMany, .int zFitFirst, .ref mWorthBy, .long zOftenAll, .long zOftenSafe, .long zOftenValid, .ref mMany, .ref mWidth, .ref mNumbers, .ref mMoving])), (mWorld, .inl (cs 1, 76, .inl gWorld))]) := by
  refine ent (D := D) (cs := cs) (y := yX9_ruleOf) (ws := W_X9_ruleOf) (As := [.ref b0, .int (nI r1), .int (nI wh)]) (W0 := [(b0, .inr (9, [.int zThrown, .ref mWorld, .ref mImages, .ref mHasImage, .ref mTape, .int (nI zTaped), .ref mFive, .int (nI zSize), .int (nI zAt), .int (nI zFrom), .int zToken, .int zValue, .int zFaultKind, .int zFaultPlace, .ref mFresh, .ref mMergedBy, .int zLawNow, .int zLockedNow, .int zDroppedNow, .ref mIsValid, .ref mGoes, .ref mFarNow, .ref mFreeNow, .ref mIsPair, .ref mHitsBy, .int zBreakMany, .int zLeastOps, .int zLeastBase, .int zLeastFirst, .int zLeastSecond, .int zBestLocks, .int zInEach, .int zFitMany, .int zFitFirst, .ref mWorthBy, .long zOftenAll, .long zOftenSafe, .long zOftenValid, .ref mMany, .ref mWidth, .ref mNumbers, .ref mMoving])), (mWorld, .inl (cs 1, 76, .inl gWorld))]) (Qx := fun A => va_Qi (fun (r : Int32) (u : Unit) => r = gWorld (11 + (5 * r1) + wh)) (mpost D A (fun (u : Unit) => [(b0, .inr (9, [.int zThrown, .ref mWorld, .ref mImages, .ref mHasImage, .ref mTape, .int (nI zTaped), .ref mFive, .int (nI zSize), .int (nI zAt), .int (nI zFrom), .int zToken, .int zValue, .int zFaultKind, .int zFaultPlace, .ref mFresh, .ref mMergedBy, .int zLawNow, .int zLockedNow, .int zDroppedNow, .ref mIsValid, .ref mGoes, .ref mFarNow, .ref mFreeNow, .ref mIsPair, .ref mHitsBy, .int zBreakMany, .int zLeastOps, .int zLeastBase, .int zLeastFirst, .int zLeastSecond, .int zBestLocks, .int zInEach, .int zFitMany, .int zFitFirst, .ref mWorthBy, .long zOftenAll, .long zOftenSafe, .long zOftenValid, .ref mMany, .ref mWidth, .ref mNumbers, .ref mMoving])), (mWorld, .inl (cs 1, 76, .inl gWorld))])) A) (maxL := 3) (ret := (some .int)) (by decide) rfl (Nat.le_of_ble_eq_true rfl) ?_
  intro p e s m below meth c A ls hx hb hr hml hlk hown hts hin hK hE hP hD hA hS hl
  have hl : lv_has ls 3 [(0, .ref b0), (1, .int (nI r1)), (2, .int (nI wh))] := hl
  generalize hHe : s.heap = H at hP
  have hS : va_S A s.heap H [] := hHe ▸ hS
  generalize hLe : ([] : List Loc) = locs at hS ⊢
  have htw : ∀ w ∈ O_X9_ruleOf, w.before ([.ref b0, .int (nI r1), .int (nI wh)] : List Value).toArray s = true := fun w h => hts w (List.mem_cons_of_mem _ (List.mem_append_left _ h))
  have hFix := (⟨hx, hb, hml, hown, hts⟩ : CallFix p m c _ _ s _ _ _)
  have hH := wok_h hwok
  have hR := wok_r hwok
  have hb0 := hok_b0 hH
  have hb2 := hok_b2 hH
  have hb3 := hok_b3 hH
  have hb4 := hok_b4 hH
  have hb5 := hok_b5 hH
  have hb6 := hok_b6 hH
  have hsm1 := sm_1 (f := gWorld)
  have hsm2 := sm_64 hH
  have hsp2 := sp_64 hH
  have hsm3 := sm_sp hH
  refine lv_aload_n hx hb dX9_ruleOf_0 rfl (lv_at hl 0 rfl) ?_
  refine va_get (D := D) (ci := 9) (v := .ref mWorld) (C := RX9) (T := TX9) (N := 42) hx hb hts iuX9_ruleOf_X9 hown hK hP 0 rfl rfl 1 (by decide) (htw (.fieldLink RX9 9 "MergeJudgeModel" "world" "[I") (List.mem_of_getElem? (i := 0) rfl)) (fun _ h9 => h9) rfl dX9_ruleOf_1 ?_
  refine lv_bipush (v := 11) hx hb dX9_ruleOf_4 (by decide) ?_
  refine lv_iconst (v := 5) hx hb dX9_ruleOf_6 (by decide) ?_
  refine lv_iload_n hx hb dX9_ruleOf_7 rfl (lv_at hl 1 rfl) ?_
  refine lv_imul hx hb dX9_ruleOf_8 ?_
  refine cf_i (nI (5 * r1)) (pk_mul 5 r1) ?_
  refine lv_iadd hx hb dX9_ruleOf_9 ?_
  refine cf_i (nI (11 + (5 * r1))) (nI_add 11 (5 * r1)) ?_
  refine lv_iload_n hx hb dX9_ruleOf_10 rfl (lv_at hl 2 rfl) ?_
  refine lv_iadd hx hb dX9_ruleOf_11 ?_
  refine cf_i (nI ((11 + (5 * r1)) + wh)) (nI_add (11 + (5 * r1)) wh) ?_
  refine va_iald hx hb hK hP 1 1 rfl rfl (vp_in_nI (by omega) (by omega)) dX9_ruleOf_12 ?_
  rw [nI_clamp (by omega)]
  exact ret_i hx hb hr hlk hS (Nat.le_of_ble_eq_true rfl) (Nat.le_of_ble_eq_true rfl) () (rfl) (hP.sub [0, 1] rfl) (hD.sub [0, 1] (by decide) rfl) dX9_ruleOf_13

set_option maxHeartbeats 4000000 in
set_option maxRecDepth 100000 in
theorem k_X9_opOf (l : Launch) (D : va_G) (cs : Nat → ClassId) (sz : Nat) (b0 : Nat) (o1 : Nat) (wh : Nat) (zThrown : Int32) (mWorld : Nat) (mImages : Nat) (mHasImage : Nat) (mTape : Nat) (mFive : Nat) (zToken : Int32) (zValue : Int32) (zFaultKind : Int32) (zFaultPlace : Int32) (mFresh : Nat) (mMergedBy : Nat) (zLawNow : Int32) (zLockedNow : Int32) (zDroppedNow : Int32) (mIsValid : Nat) (mGoes : Nat) (mFarNow : Nat) (mFreeNow : Nat) (mIsPair : Nat) (mHitsBy : Nat) (zBreakMany : Int32) (zLeastOps : Int32) (zLeastBase : Int32) (zLeastFirst : Int32) (zLeastSecond : Int32) (zBestLocks : Int32) (zInEach : Int32) (zFitMany : Int32) (zFitFirst : Int32) (mWorthBy : Nat) (zOftenAll : Int64) (zOftenSafe : Int64) (zOftenValid : Int64) (mMany : Nat) (mWidth : Nat) (mNumbers : Nat) (mMoving : Nat) (gWorld : Nat → Int32) (zTaped : Nat) (zSize : Nat) (zAt : Nat) (zFrom : Nat) (hzt : zTaped ≤ 400) (hzs : zSize ≤ 400) (hwok : WOK gWorld) (ha_o1 : o1 < 5) (ha_wh : wh < 4) : Mi l D cs yX9_opOf W_X9_opOf 0 0 0 0 [.ref b0, .int (nI o1), .int (nI wh)] [(b0, .inr (9, [.int zThrown, .ref mWorld, .ref mImages, .ref mHasImage, .ref mTape, .int (nI zTaped), .ref mFive, .int (nI zSize), .int (nI zAt), .int (nI zFrom), .int zToken, .int zValue, .int zFaultKind, .int zFaultPlace, .ref mFresh, .ref mMergedBy, .int zLawNow, .int zLockedNow, .int zDroppedNow, .ref mIsValid, .ref mGoes, .ref mFarNow, .ref mFreeNow, .ref mIsPair, .ref mHitsBy, .int zBreakMany, .int zLeastOps, .int zLeastBase, .int zLeastFirst, .int zLeastSecond, .int zBestLocks, .int zInEach, .int zFitMany, .int zFitFirst, .ref mWorthBy, .long zOftenAll, .long zOftenSafe, .long zOftenValid, .ref mMany, .ref mWidth, .ref mNumbers, .ref mMoving])), (mWorld, .inl (cs 1, 76, .inl gWorld))] sz (fun (r : Int32) (u : Unit) => r = gWorld (36 + (4 * o1) + wh)) (fun (u : Unit) => [(b0, .inr (9, [.int zThrown, .ref mWorld, .ref mImages, .ref mHasImage, .ref mTape, .int (nI zTaped), .ref mFive, .int (nI zSize), .int (nI zAt), .int (nI zFrom), .int zToken, .int zValue, .int zFaultKind, .int zFaultPlace, .ref mFresh, .ref mMergedBy, .int zLawNow, .int zLockedNow, .int zDroppedNow, .ref mIsValid, .ref mGoes, .ref mFarNow, .ref mFreeNow, .ref mIsPair, .ref mHitsBy, .int zBreakMany, .int zLeastOps, .int zLeastBase, .int zLeastFirst, .int zLeastSecond, .int zBestLocks, .int zInEach, .int zFitMany, .int zFitFirst, .ref mWorthBy, .long zOftenAll, .long zOftenSafe, .long zOftenValid, .ref mMany, .ref mWidth, .ref mNumbers, .ref mMoving])), (mWorld, .inl (cs 1, 76, .inl gWorld))]) := by
  refine ent (D := D) (cs := cs) (y := yX9_opOf) (ws := W_X9_opOf) (As := [.ref b0, .int (nI o1), .int (nI wh)]) (W0 := [(b0, .inr (9, [.int zThrown, .ref mWorld, .ref mImages, .ref mHasImage, .ref mTape, .int (nI zTaped), .ref mFive, .int (nI zSize), .int (nI zAt), .int (nI zFrom), .int zToken, .int zValue, .int zFaultKind, .int zFaultPlace, .ref mFresh, .ref mMergedBy, .int zLawNow, .int zLockedNow, .int zDroppedNow, .ref mIsValid, .ref mGoes, .ref mFarNow, .ref mFreeNow, .ref mIsPair, .ref mHitsBy, .int zBreakMany, .int zLeastOps, .int zLeastBase, .int zLeastFirst, .int zLeastSecond, .int zBestLocks, .int zInEach, .int zFitMany, .int zFitFirst, .ref mWorthBy, .long zOftenAll, .long zOftenSafe, .long zOftenValid, .ref mMany, .ref mWidth, .ref mNumbers, .ref mMoving])), (mWorld, .inl (cs 1, 76, .inl gWorld))]) (Qx := fun A => va_Qi (fun (r : Int32) (u : Unit) => r = gWorld (36 + (4 * o1) + wh)) (mpost D A (fun (u : Unit) => [(b0, .inr (9, [.int zThrown, .ref mWorld, .ref mImages, .ref mHasImage, .ref mTape, .int (nI zTaped), .ref mFive, .int (nI zSize), .int (nI zAt), .int (nI zFrom), .int zToken, .int zValue, .int zFaultKind, .int zFaultPlace, .ref mFresh, .ref mMergedBy, .int zLawNow, .int zLockedNow, .int zDroppedNow, .ref mIsValid, .ref mGoes, .ref mFarNow, .ref mFreeNow, .ref mIsPair, .ref mHitsBy, .int zBreakMany, .int zLeastOps, .int zLeastBase, .int zLeastFirst, .int zLeastSecond, .int zBestLocks, .int zInEach, .int zFitMany, .int zFitFirst, .ref mWorthBy, .long zOftenAll, .long zOftenSafe, .long zOftenValid, .ref mMany, .ref mWidth, .ref mNumbers, .ref mMoving])), (mWorld, .inl (cs 1, 76, .inl gWorld))])) A) (maxL := 3) (ret := (some .int)) (by decide) rfl (Nat.le_of_ble_eq_true rfl) ?_
  intro p e s m below meth c A ls hx hb hr hml hlk hown hts hin hK hE hP hD hA hS hl
  have hl : lv_has ls 3 [(0, .ref b0), (1, .int (nI o1)), (2, .int (nI wh))] := hl
  generalize hHe : s.heap = H at hP
  have hS : va_S A s.heap H [] := hHe ▸ hS
  generalize hLe : ([] : List Loc) = locs at hS ⊢
  have htw : ∀ w ∈ O_X9_opOf, w.before ([.ref b0, .int (nI o1), .int (nI wh)] : List Value).toArray s = true := fun w h => hts w (List.mem_cons_of_mem _ (List.mem_append_left _ h))
  have hFix := (⟨hx, hb, hml, hown, hts⟩ : CallFix p m c _ _ s _ _ _)
  have hH := wok_h hwok
  have hR := wok_r hwok
  have hb0 := hok_b0 hH
  have hb2 := hok_b2 hH
  have hb3 := hok_b3 hH
  have hb4 := hok_b4 hH
  have hb5 := hok_b5 hH
  have hb6 := hok_b6 hH
  have hsm1 := sm_1 (f := gWorld)
  have hsm2 := sm_64 hH
  have hsp2 := sp_64 hH
  have hsm3 := sm_sp hH
  refine lv_aload_n hx hb dX9_opOf_0 rfl (lv_at hl 0 rfl) ?_
  refine va_get (D := D) (ci := 9) (v := .ref mWorld) (C := RX9) (T := TX9) (N := 42) hx hb hts iuX9_opOf_X9 hown hK hP 0 rfl rfl 1 (by decide) (htw (.fieldLink RX9 9 "MergeJudgeModel" "world" "[I") (List.mem_of_getElem? (i := 0) rfl)) (fun _ h9 => h9) rfl dX9_opOf_1 ?_
  refine lv_bipush (v := 36) hx hb dX9_opOf_4 (by decide) ?_
  refine lv_iconst (v := 4) hx hb dX9_opOf_6 (by decide) ?_
  refine lv_iload_n hx hb dX9_opOf_7 rfl (lv_at hl 1 rfl) ?_
  refine lv_imul hx hb dX9_opOf_8 ?_
  refine cf_i (nI (4 * o1)) (pk_mul 4 o1) ?_
  refine lv_iadd hx hb dX9_opOf_9 ?_
  refine cf_i (nI (36 + (4 * o1))) (nI_add 36 (4 * o1)) ?_
  refine lv_iload_n hx hb dX9_opOf_10 rfl (lv_at hl 2 rfl) ?_
  refine lv_iadd hx hb dX9_opOf_11 ?_
  refine cf_i (nI ((36 + (4 * o1)) + wh)) (nI_add (36 + (4 * o1)) wh) ?_
  refine va_iald hx hb hK hP 1 1 rfl rfl (vp_in_nI (by omega) (by omega)) dX9_opOf_12 ?_
  rw [nI_clamp (by omega)]
  exact ret_i hx hb hr hlk hS (Nat.le_of_ble_eq_true rfl) (Nat.le_of_ble_eq_true rfl) () (rfl) (hP.sub [0, 1] rfl) (hD.sub [0, 1] (by decide) rfl) dX9_opOf_13

set_option maxHeartbeats 4000000 in
set_option maxRecDepth 100000 in
theorem k_X9_ruleNumbers (l : Launch) (D : va_G) (cs : Nat → ClassId) (sz : Nat) (x1 : Int32)  : Mi l D cs yX9_ruleNumbers W_X9_ruleNumbers 0 0 0 0 [.int x1] [] sz (fun (r : Int32) (u : Unit) => True) (fun (u : Unit) => []) := by
  refine ent (D := D) (cs := cs) (y := yX9_ruleNumbers) (ws := W_X9_ruleNumbers) (As := [.int x1]) (W0 := []) (Qx := fun A => va_Qi (fun (r : Int32) (u : Unit) => True) (mpost D A (fun (u : Unit) => [])) A) (maxL := 1) (ret := (some .int)) (by decide) rfl (Nat.le_of_ble_eq_true rfl) ?_
  intro p e s m below meth c A ls hx hb hr hml hlk hown hts hin hK hE hP hD hA hS hl
  have hl : lv_has ls 1 [(0, .int x1)] := hl
  generalize hHe : s.heap = H at hP
  have hS : va_S A s.heap H [] := hHe ▸ hS
  generalize hLe : ([] : List Loc) = locs at hS ⊢
  have htw : ∀ w ∈ O_X9_ruleNumbers, w.before ([.int x1] : List Value).toArray s = true := fun w h => hts w (List.mem_cons_of_mem _ h)
  have hFix := (⟨hx, hb, hml, hown, hts⟩ : CallFix p m c _ _ s _ _ _)
  refine lv_iload_n hx hb dX9_ruleNumbers_0 rfl (lv_at hl 0 rfl) ?_
  refine lv_iconst (v := 3) hx hb dX9_ruleNumbers_1 (by decide) ?_
  refine lv_icmp_ne (tgt := 9) hx hb dX9_ruleNumbers_2 (by decide) (fun c_1 => ?_) (fun c_1 => ?_)
  ·
    refine lv_iload_n hx hb dX9_ruleNumbers_9 rfl (lv_at hl 0 rfl) ?_
    refine lv_iconst (v := 5) hx hb dX9_ruleNumbers_10 (by decide) ?_
    refine lv_icmp_ne (tgt := 18) hx hb dX9_ruleNumbers_11 (by decide) (fun c_2 => ?_) (fun c_2 => ?_)
    ·
      refine lv_iconst (v := 2) hx hb dX9_ruleNumbers_18 (by decide) ?_
      exact ret_i hx hb hr hlk hS (Nat.le_of_ble_eq_true rfl) (Nat.le_of_ble_eq_true rfl) () (trivial) (hP.sub [] rfl) (hD.sub [] (by decide) rfl) dX9_ruleNumbers_19
    ·
      refine lv_iconst (v := 4) hx hb dX9_ruleNumbers_14 (by decide) ?_
      refine lv_goto (tgt := 19) hx hb dX9_ruleNumbers_15 (by decide) ?_
      exact ret_i hx hb hr hlk hS (Nat.le_of_ble_eq_true rfl) (Nat.le_of_ble_eq_true rfl) () (trivial) (hP.sub [] rfl) (hD.sub [] (by decide) rfl) dX9_ruleNumbers_19
  ·
    refine lv_iconst (v := 3) hx hb dX9_ruleNumbers_5 (by decide) ?_
    refine lv_goto (tgt := 19) hx hb dX9_ruleNumbers_6 (by decide) ?_
    exact ret_i hx hb hr hlk hS (Nat.le_of_ble_eq_true rfl) (Nat.le_of_ble_eq_true rfl) () (trivial) (hP.sub [] rfl) (hD.sub [] (by decide) rfl) dX9_ruleNumbers_19

set_option maxHeartbeats 4000000 in
set_option maxRecDepth 100000 in
theorem k_X9_opNumbers (l : Launch) (D : va_G) (cs : Nat → ClassId) (sz : Nat) (x1 : Int32)  : Mi l D cs yX9_opNumbers W_X9_opNumbers 0 0 0 0 [.int x1] [] sz (fun (r : Int32) (u : Unit) => True) (fun (u : Unit) => []) := by
  refine ent (D := D) (cs := cs) (y := yX9_opNumbers) (ws := W_X9_opNumbers) (As := [.int x1]) (W0 := []) (Qx := fun A => va_Qi (fun (r : Int32) (u : Unit) => True) (mpost D A (fun (u : Unit) => [])) A) (maxL := 1) (ret := (some .int)) (by decide) rfl (Nat.le_of_ble_eq_true rfl) ?_
  intro p e s m below meth c A ls hx hb hr hml hlk hown hts hin hK hE hP hD hA hS hl
  have hl : lv_has ls 1 [(0, .int x1)] := hl
  generalize hHe : s.heap = H at hP
  have hS : va_S A s.heap H [] := hHe ▸ hS
  generalize hLe : ([] : List Loc) = locs at hS ⊢
  have htw : ∀ w ∈ O_X9_opNumbers, w.before ([.int x1] : List Value).toArray s = true := fun w h => hts w (List.mem_cons_of_mem _ h)
  have hFix := (⟨hx, hb, hml, hown, hts⟩ : CallFix p m c _ _ s _ _ _)
  refine lv_iload_n hx hb dX9_opNumbers_0 rfl (lv_at hl 0 rfl) ?_
  refine lv_iconst (v := 3) hx hb dX9_opNumbers_1 (by decide) ?_
  refine lv_icmp_ne (tgt := 9) hx hb dX9_opNumbers_2 (by decide) (fun c_1 => ?_) (fun c_1 => ?_)
  ·
    refine lv_iconst (v := 2) hx hb dX9_opNumbers_9 (by decide) ?_
    exact ret_i hx hb hr hlk hS (Nat.le_of_ble_eq_true rfl) (Nat.le_of_ble_eq_true rfl) () (trivial) (hP.sub [] rfl) (hD.sub [] (by decide) rfl) dX9_opNumbers_10
  ·
    refine lv_iconst (v := 3) hx hb dX9_opNumbers_5 (by decide) ?_
    refine lv_goto (tgt := 10) hx hb dX9_opNumbers_6 (by decide) ?_
    exact ret_i hx hb hr hlk hS (Nat.le_of_ble_eq_true rfl) (Nat.le_of_ble_eq_true rfl) () (trivial) (hP.sub [] rfl) (hD.sub [] (by decide) rfl) dX9_opNumbers_10

set_option maxHeartbeats 4000000 in
set_option maxRecDepth 100000 in
theorem k_X9_valueOf_n (l : Launch) (D : va_G) (cs : Nat → ClassId) (sz : Nat) (b0 : Nat) (s1 : Nat) (c1 : Nat) (zThrown : Int32) (mWorld : Nat) (mImages : Nat) (mHasImage : Nat) (mTape : Nat) (mFive : Nat) (zToken : Int32) (zValue : Int32) (zFaultKind : Int32) (zFaultPlace : Int32) (mFresh : Nat) (mMergedBy : Nat) (zLawNow : Int32) (zLockedNow : Int32) (zDroppedNow : Int32) (mIsValid : Nat) (mGoes : Nat) (mFarNow : Nat) (mFreeNow : Nat) (mIsPair : Nat) (mHitsBy : Nat) (zBreakMany : Int32) (zLeastOps : Int32) (zLeastBase : Int32) (zLeastFirst : Int32) (zLeastSecond : Int32) (zBestLocks : Int32) (zInEach : Int32) (zFitMany : Int32) (zFitFirst : Int32) (mWorthBy : Nat) (zOftenAll : Int64) (zOftenSafe : Int64) (zOftenValid : Int64) (mMany : Nat) (mWidth : Nat) (mNumbers : Nat) (mMoving : Nat) (gWorld : Nat → Int32) (zTaped : Nat) (zSize : Nat) (zAt : Nat) (zFrom : Nat) (hzt : zTaped ≤ 400) (hzs : zSize ≤ 400) (hwok : WOK gWorld) (ha_s1 : s1 < 1000) (ha_c1 : c1 < 4) : Mi l D cs yX9_valueOf W_X9_valueOf 0 0 0 0 [.ref b0, .int (nI s1), .int (nI c1)] [(b0, .inr (9, [.int zThrown, .ref mWorld, .ref mImages, .ref mHasImage, .ref mTape, .int (nI zTaped), .ref mFive, .int (nI zSize), .int (nI zAt), .int (nI zFrom), .int zToken, .int zValue, .int zFaultKind, .int zFaultPlace, .ref mFresh, .ref mMergedBy, .int zLawNow, .int zLockedNow, .int zDroppedNow, .ref mIsValid, .ref mGoes, .ref mFarNow, .ref mFreeNow, .ref mIsPair, .ref mHitsBy, .int zBreakMany, .int zLeastOps, .int zLeastBase, .int zLeastFirst, .int zLeastSecond, .int zBestLocks, .int zInEach, .int zFitMany, .int zFitFirst, .ref mWorthBy, .long zOftenAll, .long zOftenSafe, .long zOftenValid, .ref mMany, .ref mWidth, .ref mNumbers, .ref mMoving])), (mWorld, .inl (cs 1, 76, .inl gWorld))] sz (fun (r : Int32) (u : Nat) => ((r = nI u ∧ u = dgt (wN gWorld 0 + 1) c1 s1 ∧ u ≤ wN gWorld 0))) (fun (u : Nat) => [(b0, .inr (9, [.int zThrown, .ref mWorld, .ref mImages, .ref mHasImage, .ref mTape, .int (nI zTaped), .ref mFive, .int (nI zSize), .int (nI zAt), .int (nI zFrom), .int zToken, .int zValue, .int zFaultKind, .int zFaultPlace, .ref mFresh, .ref mMergedBy, .int zLawNow, .int zLockedNow, .int zDroppedNow, .ref mIsValid, .ref mGoes, .ref mFarNow, .ref mFreeNow, .ref mIsPair, .ref mHitsBy, .int zBreakMany, .int zLeastOps, .int zLeastBase, .int zLeastFirst, .int zLeastSecond, .int zBestLocks, .int zInEach, .int zFitMany, .int zFitFirst, .ref mWorthBy, .long zOftenAll, .long zOftenSafe, .long zOftenValid, .ref mMany, .ref mWidth, .ref mNumbers, .ref mMoving])), (mWorld, .inl (cs 1, 76, .inl gWorld))]) := by
  refine ent (D := D) (cs := cs) (y := yX9_valueOf) (ws := W_X9_valueOf) (As := [.ref b0, .int (nI s1), .int (nI c1)]) (W0 := [(b0, .inr (9, [.int zThrown, .ref mWorld, .ref mImages, .ref mHasImage, .ref mTape, .int (nI zTaped), .ref mFive, .int (nI zSize), .int (nI zAt), .int (nI zFrom), .int zToken, .int zValue, .int zFaultKind, .int zFaultPlace, .ref mFresh, .ref mMergedBy, .int zLawNow, .int zLockedNow, .int zDroppedNow, .ref mIsValid, .ref mGoes, .ref mFarNow, .ref mFreeNow, .ref mIsPair, .ref mHitsBy, .int zBreakMany, .int zLeastOps, .int zLeastBase, .int zLeastFirst, .int zLeastSecond, .int zBestLocks, .int zInEach, .int zFitMany, .int zFitFirst, .ref mWorthBy, .long zOftenAll, .long zOftenSafe, .long zOftenValid, .ref mMany, .ref mWidth, .ref mNumbers, .ref mMoving])), (mWorld, .inl (cs 1, 76, .inl gWorld))]) (Qx := fun A => va_Qi (fun (r : Int32) (u : Nat) => ((r = nI u ∧ u = dgt (wN gWorld 0 + 1) c1 s1 ∧ u ≤ wN gWorld 0))) (mpost D A (fun (u : Nat) => [(b0, .inr (9, [.int zThrown, .ref mWorld, .ref mImages, .ref mHasImage, .ref mTape, .int (nI zTaped), .ref mFive, .int (nI zSize), .int (nI zAt), .int (nI zFrom), .int zToken, .int zValue, .int zFaultKind, .int zFaultPlace, .ref mFresh, .ref mMergedBy, .int zLawNow, .int zLockedNow, .int zDroppedNow, .ref mIsValid, .ref mGoes, .ref mFarNow, .ref mFreeNow, .ref mIsPair, .ref mHitsBy, .int zBreakMany, .int zLeastOps, .int zLeastBase, .int zLeastFirst, .int zLeastSecond, .int zBestLocks, .int zInEach, .int zFitMany, .int zFitFirst, .ref mWorthBy, .long zOftenAll, .long zOftenSafe, .long zOftenValid, .ref mMany, .ref mWidth, .ref mNumbers, .ref mMoving])), (mWorld, .inl (cs 1, 76, .inl gWorld))])) A) (maxL := 5) (ret := (some .int)) (by decide) rfl (Nat.le_of_ble_eq_true rfl) ?_
  intro p e s m below meth c A ls hx hb hr hml hlk hown hts hin hK hE hP hD hA hS hl
  have hl : lv_has ls 5 [(0, .ref b0), (1, .int (nI s1)), (2, .int (nI c1))] := hl
  generalize hHe : s.heap = H at hP
  have hS : va_S A s.heap H [] := hHe ▸ hS
  generalize hLe : ([] : List Loc) = locs at hS ⊢
  have htw : ∀ w ∈ O_X9_valueOf, w.before ([.ref b0, .int (nI s1), .int (nI c1)] : List Value).toArray s = true := fun w h => hts w (List.mem_cons_of_mem _ (List.mem_append_left _ h))
  have hFix := (⟨hx, hb, hml, hown, hts⟩ : CallFix p m c _ _ s _ _ _)
  have hH := wok_h hwok
  have hR := wok_r hwok
  have hb0 := hok_b0 hH
  have hb2 := hok_b2 hH
  have hb3 := hok_b3 hH
  have hb4 := hok_b4 hH
  have hb5 := hok_b5 hH
  have hb6 := hok_b6 hH
  have hsm1 := sm_1 (f := gWorld)
  have hsm2 := sm_64 hH
  have hsp2 := sp_64 hH
  have hsm3 := sm_sp hH
  refine lv_iload_n hx hb dX9_valueOf_0 rfl (lv_at hl 1 rfl) ?_
  refine lv_istore_n (lv' := [(3, .int (nI s1)), (0, .ref b0), (1, .int (nI s1)), (2, .int (nI c1))]) hx hb dX9_valueOf_1 rfl hl (by decide) rfl (fun ls hl => ?_)
  refine lv_iconst (v := 0) hx hb dX9_valueOf_2 (by decide) ?_
  refine lv_istore (lv' := [(4, .int 0), (3, .int (nI s1)), (0, .ref b0), (1, .int (nI s1)), (2, .int (nI c1))]) hx hb dX9_valueOf_3 hl (by decide) rfl (fun ls hl => ?_)
  have lp_2 : ∀ (nfu : Nat) (i_1 : Nat) (v3_1 : Nat) (H : Heap) (locs : List Loc) (ls : Array Slot) (hi_1 : i_1 ≤ c1) (hv0_1 : v3_1 = s1 / (wN gWorld 0 + 1) ^ i_1) (hv1_1 : v3_1 ≤ s1), c1 - i_1 < nfu → va_P D vwCl [(b0, .inr (9, [.int zThrown, .ref mWorld, .ref mImages, .ref mHasImage, .ref mTape, .int (nI zTaped), .ref mFive, .int (nI zSize), .int (nI zAt), .int (nI zFrom), .int zToken, .int zValue, .int zFaultKind, .int zFaultPlace, .ref mFresh, .ref mMergedBy, .int zLawNow, .int zLockedNow, .int zDroppedNow, .ref mIsValid, .ref mGoes, .ref mFarNow, .ref mFreeNow, .ref mIsPair, .ref mHitsBy, .int zBreakMany, .int zLeastOps, .int zLeastBase, .int zLeastFirst, .int zLeastSecond, .int zBestLocks, .int zInEach, .int zFitMany, .int zFitFirst, .ref mWorthBy, .long zOftenAll, .long zOftenSafe, .long zOftenValid, .ref mMany, .ref mWidth, .ref mNumbers, .ref mMoving])), (mWorld, .inl (cs 1, 76, .inl gWorld))] H → va_D A [(b0, .inr (9, [.int zThrown, .ref mWorld, .ref mImages, .ref mHasImage, .ref mTape, .int (nI zTaped), .ref mFive, .int (nI zSize), .int (nI zAt), .int (nI zFrom), .int zToken, .int zValue, .int zFaultKind, .int zFaultPlace, .ref mFresh, .ref mMergedBy, .int zLawNow, .int zLockedNow, .int zDroppedNow, .ref mIsValid, .ref mGoes, .ref mFarNow, .ref mFreeNow, .ref mIsPair, .ref mHitsBy, .int zBreakMany, .int zLeastOps, .int zLeastBase, .int zLeastFirst, .int zLeastSecond, .int zBestLocks, .int zInEach, .int zFitMany, .int zFitFirst, .ref mWorthBy, .long zOftenAll, .long zOftenSafe, .long zOftenValid, .ref mMany, .ref mWidth, .ref mNumbers, .ref mMoving])), (mWorld, .inl (cs 1, 76, .inl gWorld))] → va_S A s.heap H locs → lv_has ls 5 [(4, .int (nI i_1)), (3, .int (nI v3_1)), (0, .ref b0), (1, .int (nI s1)), (2, .int (nI c1))] → W p l e (mRm 0 0 0 0) s m ([.ref b0, .int (nI s1), .int (nI c1)] : List Value).toArray below meth c H locs 0 0 (MQ below (va_Qi (fun (r : Int32) (u : Nat) => ((r = nI u ∧ u = dgt (wN gWorld 0 + 1) c1 s1 ∧ u ≤ wN gWorld 0))) (mpost D A (fun (u : Nat) => [(b0, .inr (9, [.int zThrown, .ref mWorld, .ref mImages, .ref mHasImage, .ref mTape, .int (nI zTaped), .ref mFive, .int (nI zSize), .int (nI zAt), .int (nI zFrom), .int zToken, .int zValue, .int zFaultKind, .int zFaultPlace, .ref mFresh, .ref mMergedBy, .int zLawNow, .int zLockedNow, .int zDroppedNow, .ref mIsValid, .ref mGoes, .ref mFarNow, .ref mFreeNow, .ref mIsPair, .ref mHitsBy, .int zBreakMany, .int zLeastOps, .int zLeastBase, .int zLeastFirst, .int zLeastSecond, .int zBestLocks, .int zInEach, .int zFitMany, .int zFitFirst, .ref mWorthBy, .long zOftenAll, .long zOftenSafe, .long zOftenValid, .ref mMany, .ref mWidth, .ref mNumbers, .ref mMoving])), (mWorld, .inl (cs 1, 76, .inl gWorld))])) A) ([.ref b0, .int (nI s1), .int (nI c1)] : List Value).toArray s 0 0 A) (F0 m 5 ls []) := by
    intro nfu
    induction nfu with
    | zero => intro i_1 v3_1 H locs ls hi_1 hv0_1 hv1_1 hmu; exact absurd hmu (Nat.not_lt_zero _)
    | succ nfu ih =>
      intro i_1 v3_1 H locs ls hi_1 hv0_1 hv1_1 hmu hP hD hS hl
      have ih_lp_2 := @ih
      refine lv_iload hx hb dX9_valueOf_5 (lv_at hl 0 rfl) ?_
      refine lv_iload_n hx hb dX9_valueOf_7 rfl (lv_at hl 4 rfl) ?_
      refine lv_icmp_ge (tgt := 28) hx hb dX9_valueOf_8 (by decide) (fun c_3 => ?_) (fun c_3 => ?_)
      ·
        have hn_3 := bge_t (a := i_1) (b := c1) c_3 (by omega) (by omega)
        refine lv_iload_n hx hb dX9_valueOf_28 rfl (lv_at hl 1 rfl) ?_
        refine lv_aload_n hx hb dX9_valueOf_29 rfl (lv_at hl 2 rfl) ?_
        refine va_get (D := D) (ci := 9) (v := .ref mWorld) (C := RX9) (T := TX9) (N := 42) hx hb hts iuX9_valueOf_X9 hown hK hP 0 rfl rfl 1 (by decide) (htw (.fieldLink RX9 9 "MergeJudgeModel" "world" "[I") (List.mem_of_getElem? (i := 0) rfl)) (fun _ h9 => h9) rfl dX9_valueOf_30 ?_
        refine lv_iconst (v := 0) hx hb dX9_valueOf_33 (by decide) ?_
        refine va_iald hx hb hK hP 1 1 rfl rfl (vp_c (by decide)) dX9_valueOf_34 ?_
        refine cf_v (.int (gWorld 0)) rfl ?_
        refine cf_i (nI (wN gWorld 0)) (hok_0 (by assumption)) ?_
        refine lv_iconst (v := 1) hx hb dX9_valueOf_35 (by decide) ?_
        refine lv_iadd hx hb dX9_valueOf_36 ?_
        refine cf_i (nI (wN gWorld 0 + 1)) (nI_add (wN gWorld 0) 1) ?_
        refine lv_irem hx hb dX9_valueOf_37 (ne0_nI (by omega) (by omega)) ?_
        refine cf_i (nI (v3_1 % (wN gWorld 0 + 1))) (rem_nI (a := v3_1) (d := wN gWorld 0 + 1) (by omega) (by omega) (by omega)) ?_
        exact ret_i hx hb hr hlk hS (Nat.le_of_ble_eq_true rfl) (Nat.le_of_ble_eq_true rfl) (v3_1 % (wN gWorld 0 + 1)) (⟨rfl, ⟨(by rw [hv0_1, show i_1 = c1 by omega]; rfl), Nat.le_of_lt_succ (Nat.mod_lt _ (by omega))⟩⟩) (hP.sub [0, 1] rfl) (hD.sub [0, 1] (by decide) rfl) dX9_valueOf_38
      ·
        have hn_3 := bge_f (a := i_1) (b := c1) c_3 (by omega) (by omega)
        refine lv_iload_n hx hb dX9_valueOf_11 rfl (lv_at hl 1 rfl) ?_
        refine lv_aload_n hx hb dX9_valueOf_12 rfl (lv_at hl 2 rfl) ?_
        refine va_get (D := D) (ci := 9) (v := .ref mWorld) (C := RX9) (T := TX9) (N := 42) hx hb hts iuX9_valueOf_X9 hown hK hP 0 rfl rfl 1 (by decide) (htw (.fieldLink RX9 9 "MergeJudgeModel" "world" "[I") (List.mem_of_getElem? (i := 0) rfl)) (fun _ h9 => h9) rfl dX9_valueOf_13 ?_
        refine lv_iconst (v := 0) hx hb dX9_valueOf_16 (by decide) ?_
        refine va_iald hx hb hK hP 1 1 rfl rfl (vp_c (by decide)) dX9_valueOf_17 ?_
        refine cf_v (.int (gWorld 0)) rfl ?_
        refine cf_i (nI (wN gWorld 0)) (hok_0 (by assumption)) ?_
        refine lv_iconst (v := 1) hx hb dX9_valueOf_18 (by decide) ?_
        refine lv_iadd hx hb dX9_valueOf_19 ?_
        refine cf_i (nI (wN gWorld 0 + 1)) (nI_add (wN gWorld 0) 1) ?_
        refine lv_idiv hx hb dX9_valueOf_20 (ne0_nI (by omega) (by omega)) ?_
        refine cf_i (nI (v3_1 / (wN gWorld 0 + 1))) (pk_div (a := v3_1) (d := wN gWorld 0 + 1) (by omega) (by omega) (by omega)) ?_
        refine lv_istore_n (lv' := [(3, .int (nI (v3_1 / (wN gWorld 0 + 1)))), (4, .int (nI i_1)), (0, .ref b0), (1, .int (nI s1)), (2, .int (nI c1))]) hx hb dX9_valueOf_21 rfl hl (by decide) rfl (fun ls hl => ?_)
        refine lv_iinc (v := (nI (i_1 + 1))) (lv' := [(4, .int (nI (i_1 + 1))), (3, .int (nI (v3_1 / (wN gWorld 0 + 1)))), (0, .ref b0), (1, .int (nI s1)), (2, .int (nI c1))]) hx hb dX9_valueOf_22 hl (k := 1) rfl (nI_1 _) (by decide) rfl (fun ls hl => ?_)
        refine lv_goto (tgt := 5) hx hb dX9_valueOf_25 (by decide) ?_
        exact ih_lp_2 (i_1 + 1) (v3_1 / (wN gWorld 0 + 1)) H locs ls (by omega) (dv_s hv0_1) (Nat.le_trans (Nat.div_le_self _ _) (by assumption)) (by omega) (hP.sub [0, 1] rfl) (hD.sub [0, 1] (by decide) rfl) hS (lv_sub hl [0, 1, 2, 3, 4] rfl)
  exact lp_2 _ 0 s1 H locs ls (by omega) (by rw [Nat.pow_zero, Nat.div_one]) (Nat.le_refl _) (Nat.lt_succ_self _) (hP.sub [0, 1] rfl) (hD.sub [0, 1] (by decide) rfl) hS (lv_sub hl [0, 1, 2, 3, 4] rfl)

set_option maxHeartbeats 4000000 in
set_option maxRecDepth 100000 in
theorem k_X9_valueOf (l : Launch) (D : va_G) (cs : Nat → ClassId) (sz : Nat) (b0 : Nat) (x1 : Int32) (x2 : Int32) (zThrown : Int32) (mWorld : Nat) (mImages : Nat) (mHasImage : Nat) (mTape : Nat) (mFive : Nat) (zToken : Int32) (zValue : Int32) (zFaultKind : Int32) (zFaultPlace : Int32) (mFresh : Nat) (mMergedBy : Nat) (zLawNow : Int32) (zLockedNow : Int32) (zDroppedNow : Int32) (mIsValid : Nat) (mGoes : Nat) (mFarNow : Nat) (mFreeNow : Nat) (mIsPair : Nat) (mHitsBy : Nat) (zBreakMany : Int32) (zLeastOps : Int32) (zLeastBase : Int32) (zLeastFirst : Int32) (zLeastSecond : Int32) (zBestLocks : Int32) (zInEach : Int32) (zFitMany : Int32) (zFitFirst : Int32) (mWorthBy : Nat) (zOftenAll : Int64) (zOftenSafe : Int64) (zOftenValid : Int64) (mMany : Nat) (mWidth : Nat) (mNumbers : Nat) (mMoving : Nat) (gWorld : Nat → Int32) (zTaped : Nat) (zSize : Nat) (zAt : Nat) (zFrom : Nat) (hzt : zTaped ≤ 400) (hzs : zSize ≤ 400) (hwok : WOK gWorld) : Mi l D cs yX9_valueOf W_X9_valueOf 0 0 0 0 [.ref b0, .int x1, .int x2] [(b0, .inr (9, [.int zThrown, .ref mWorld, .ref mImages, .ref mHasImage, .ref mTape, .int (nI zTaped), .ref mFive, .int (nI zSize), .int (nI zAt), .int (nI zFrom), .int zToken, .int zValue, .int zFaultKind, .int zFaultPlace, .ref mFresh, .ref mMergedBy, .int zLawNow, .int zLockedNow, .int zDroppedNow, .ref mIsValid, .ref mGoes, .ref mFarNow, .ref mFreeNow, .ref mIsPair, .ref mHitsBy, .int zBreakMany, .int zLeastOps, .int zLeastBase, .int zLeastFirst, .int zLeastSecond, .int zBestLocks, .int zInEach, .int zFitMany, .int zFitFirst, .ref mWorthBy, .long zOftenAll, .long zOftenSafe, .long zOftenValid, .ref mMany, .ref mWidth, .ref mNumbers, .ref mMoving])), (mWorld, .inl (cs 1, 76, .inl gWorld))] sz (fun (r : Int32) (u : Unit) => True) (fun (u : Unit) => [(b0, .inr (9, [.int zThrown, .ref mWorld, .ref mImages, .ref mHasImage, .ref mTape, .int (nI zTaped), .ref mFive, .int (nI zSize), .int (nI zAt), .int (nI zFrom), .int zToken, .int zValue, .int zFaultKind, .int zFaultPlace, .ref mFresh, .ref mMergedBy, .int zLawNow, .int zLockedNow, .int zDroppedNow, .ref mIsValid, .ref mGoes, .ref mFarNow, .ref mFreeNow, .ref mIsPair, .ref mHitsBy, .int zBreakMany, .int zLeastOps, .int zLeastBase, .int zLeastFirst, .int zLeastSecond, .int zBestLocks, .int zInEach, .int zFitMany, .int zFitFirst, .ref mWorthBy, .long zOftenAll, .long zOftenSafe, .long zOftenValid, .ref mMany, .ref mWidth, .ref mNumbers, .ref mMoving])), (mWorld, .inl (cs 1, 76, .inl gWorld))]) := by
  refine ent (D := D) (cs := cs) (y := yX9_valueOf) (ws := W_X9_valueOf) (As := [.ref b0, .int x1, .int x2]) (W0 := [(b0, .inr (9, [.int zThrown, .ref mWorld, .ref mImages, .ref mHasImage, .ref mTape, .int (nI zTaped), .ref mFive, .int (nI zSize), .int (nI zAt), .int (nI zFrom), .int zToken, .int zValue, .int zFaultKind, .int zFaultPlace, .ref mFresh, .ref mMergedBy, .int zLawNow, .int zLockedNow, .int zDroppedNow, .ref mIsValid, .ref mGoes, .ref mFarNow, .ref mFreeNow, .ref mIsPair, .ref mHitsBy, .int zBreakMany, .int zLeastOps, .int zLeastBase, .int zLeastFirst, .int zLeastSecond, .int zBestLocks, .int zInEach, .int zFitMany, .int zFitFirst, .ref mWorthBy, .long zOftenAll, .long zOftenSafe, .long zOftenValid, .ref mMany, .ref mWidth, .ref mNumbers, .ref mMoving])), (mWorld, .inl (cs 1, 76, .inl gWorld))]) (Qx := fun A => va_Qi (fun (r : Int32) (u : Unit) => True) (mpost D A (fun (u : Unit) => [(b0, .inr (9, [.int zThrown, .ref mWorld, .ref mImages, .ref mHasImage, .ref mTape, .int (nI zTaped), .ref mFive, .int (nI zSize), .int (nI zAt), .int (nI zFrom), .int zToken, .int zValue, .int zFaultKind, .int zFaultPlace, .ref mFresh, .ref mMergedBy, .int zLawNow, .int zLockedNow, .int zDroppedNow, .ref mIsValid, .ref mGoes, .ref mFarNow, .ref mFreeNow, .ref mIsPair, .ref mHitsBy, .int zBreakMany, .int zLeastOps, .int zLeastBase, .int zLeastFirst, .int zLeastSecond, .int zBestLocks, .int zInEach, .int zFitMany, .int zFitFirst, .ref mWorthBy, .long zOftenAll, .long zOftenSafe, .long zOftenValid, .ref mMany, .ref mWidth, .ref mNumbers, .ref mMoving])), (mWorld, .inl (cs 1, 76, .inl gWorld))])) A) (maxL := 5) (ret := (some .int)) (by decide) rfl (Nat.le_of_ble_eq_true rfl) ?_
  intro p e s m below meth c A ls hx hb hr hml hlk hown hts hin hK hE hP hD hA hS hl
  have hl : lv_has ls 5 [(0, .ref b0), (1, .int x1), (2, .int x2)] := hl
  generalize hHe : s.heap = H at hP
  have hS : va_S A s.heap H [] := hHe ▸ hS
  generalize hLe : ([] : List Loc) = locs at hS ⊢
  have htw : ∀ w ∈ O_X9_valueOf, w.before ([.ref b0, .int x1, .int x2] : List Value).toArray s = true := fun w h => hts w (List.mem_cons_of_mem _ (List.mem_append_left _ h))
  have hFix := (⟨hx, hb, hml, hown, hts⟩ : CallFix p m c _ _ s _ _ _)
  have hH := wok_h hwok
  have hR := wok_r hwok
  have hb0 := hok_b0 hH
  have hb2 := hok_b2 hH
  have hb3 := hok_b3 hH
  have hb4 := hok_b4 hH
  have hb5 := hok_b5 hH
  have hb6 := hok_b6 hH
  have hsm1 := sm_1 (f := gWorld)
  have hsm2 := sm_64 hH
  have hsp2 := sp_64 hH
  have hsm3 := sm_sp hH
  refine lv_iload_n hx hb dX9_valueOf_0 rfl (lv_at hl 1 rfl) ?_
  refine lv_istore_n (lv' := [(3, .int x1), (0, .ref b0), (1, .int x1), (2, .int x2)]) hx hb dX9_valueOf_1 rfl hl (by decide) rfl (fun ls hl => ?_)
  refine lv_iconst (v := 0) hx hb dX9_valueOf_2 (by decide) ?_
  refine lv_istore (lv' := [(4, .int 0), (3, .int x1), (0, .ref b0), (1, .int x1), (2, .int x2)]) hx hb dX9_valueOf_3 hl (by decide) rfl (fun ls hl => ?_)
  have htn_1 := tn_lt x2
  have lp_2 : ∀ (nfu : Nat) (i_1 : Nat) (v3_1 : Int32) (H : Heap) (locs : List Loc) (ls : Array Slot) (hi_1 : i_1 ≤ x2.toInt.toNat), x2.toInt.toNat - i_1 < nfu → va_P D vwCl [(b0, .inr (9, [.int zThrown, .ref mWorld, .ref mImages, .ref mHasImage, .ref mTape, .int (nI zTaped), .ref mFive, .int (nI zSize), .int (nI zAt), .int (nI zFrom), .int zToken, .int zValue, .int zFaultKind, .int zFaultPlace, .ref mFresh, .ref mMergedBy, .int zLawNow, .int zLockedNow, .int zDroppedNow, .ref mIsValid, .ref mGoes, .ref mFarNow, .ref mFreeNow, .ref mIsPair, .ref mHitsBy, .int zBreakMany, .int zLeastOps, .int zLeastBase, .int zLeastFirst, .int zLeastSecond, .int zBestLocks, .int zInEach, .int zFitMany, .int zFitFirst, .ref mWorthBy, .long zOftenAll, .long zOftenSafe, .long zOftenValid, .ref mMany, .ref mWidth, .ref mNumbers, .ref mMoving])), (mWorld, .inl (cs 1, 76, .inl gWorld))] H → va_D A [(b0, .inr (9, [.int zThrown, .ref mWorld, .ref mImages, .ref mHasImage, .ref mTape, .int (nI zTaped), .ref mFive, .int (nI zSize), .int (nI zAt), .int (nI zFrom), .int zToken, .int zValue, .int zFaultKind, .int zFaultPlace, .ref mFresh, .ref mMergedBy, .int zLawNow, .int zLockedNow, .int zDroppedNow, .ref mIsValid, .ref mGoes, .ref mFarNow, .ref mFreeNow, .ref mIsPair, .ref mHitsBy, .int zBreakMany, .int zLeastOps, .int zLeastBase, .int zLeastFirst, .int zLeastSecond, .int zBestLocks, .int zInEach, .int zFitMany, .int zFitFirst, .ref mWorthBy, .long zOftenAll, .long zOftenSafe, .long zOftenValid, .ref mMany, .ref mWidth, .ref mNumbers, .ref mMoving])), (mWorld, .inl (cs 1, 76, .inl gWorld))] → va_S A s.heap H locs → lv_has ls 5 [(4, .int (nI i_1)), (3, .int v3_1), (0, .ref b0), (1, .int x1), (2, .int x2)] → W p l e (mRm 0 0 0 0) s m ([.ref b0, .int x1, .int x2] : List Value).toArray below meth c H locs 0 0 (MQ below (va_Qi (fun (r : Int32) (u : Unit) => True) (mpost D A (fun (u : Unit) => [(b0, .inr (9, [.int zThrown, .ref mWorld, .ref mImages, .ref mHasImage, .ref mTape, .int (nI zTaped), .ref mFive, .int (nI zSize), .int (nI zAt), .int (nI zFrom), .int zToken, .int zValue, .int zFaultKind, .int zFaultPlace, .ref mFresh, .ref mMergedBy, .int zLawNow, .int zLockedNow, .int zDroppedNow, .ref mIsValid, .ref mGoes, .ref mFarNow, .ref mFreeNow, .ref mIsPair, .ref mHitsBy, .int zBreakMany, .int zLeastOps, .int zLeastBase, .int zLeastFirst, .int zLeastSecond, .int zBestLocks, .int zInEach, .int zFitMany, .int zFitFirst, .ref mWorthBy, .long zOftenAll, .long zOftenSafe, .long zOftenValid, .ref mMany, .ref mWidth, .ref mNumbers, .ref mMoving])), (mWorld, .inl (cs 1, 76, .inl gWorld))])) A) ([.ref b0, .int x1, .int x2] : List Value).toArray s 0 0 A) (F0 m 5 ls []) := by
    intro nfu
    induction nfu with
    | zero => intro i_1 v3_1 H locs ls hi_1 hmu; exact absurd hmu (Nat.not_lt_zero _)
    | succ nfu ih =>
      intro i_1 v3_1 H locs ls hi_1 hmu hP hD hS hl
      have ih_lp_2 := @ih
      refine lv_iload hx hb dX9_valueOf_5 (lv_at hl 0 rfl) ?_
      refine lv_iload_n hx hb dX9_valueOf_7 rfl (lv_at hl 4 rfl) ?_
      refine lv_icmp_ge (tgt := 28) hx hb dX9_valueOf_8 (by decide) (fun c_3 => ?_) (fun c_3 => ?_)
      ·
        refine lv_iload_n hx hb dX9_valueOf_28 rfl (lv_at hl 1 rfl) ?_
        refine lv_aload_n hx hb dX9_valueOf_29 rfl (lv_at hl 2 rfl) ?_
        refine va_get (D := D) (ci := 9) (v := .ref mWorld) (C := RX9) (T := TX9) (N := 42) hx hb hts iuX9_valueOf_X9 hown hK hP 0 rfl rfl 1 (by decide) (htw (.fieldLink RX9 9 "MergeJudgeModel" "world" "[I") (List.mem_of_getElem? (i := 0) rfl)) (fun _ h9 => h9) rfl dX9_valueOf_30 ?_
        refine lv_iconst (v := 0) hx hb dX9_valueOf_33 (by decide) ?_
        refine va_iald hx hb hK hP 1 1 rfl rfl (vp_c (by decide)) dX9_valueOf_34 ?_
        refine cf_v (.int (gWorld 0)) rfl ?_
        refine cf_i (nI (wN gWorld 0)) (hok_0 (by assumption)) ?_
        refine lv_iconst (v := 1) hx hb dX9_valueOf_35 (by decide) ?_
        refine lv_iadd hx hb dX9_valueOf_36 ?_
        refine cf_i (nI (wN gWorld 0 + 1)) (nI_add (wN gWorld 0) 1) ?_
        refine lv_irem hx hb dX9_valueOf_37 (ne0_nI (by omega) (by omega)) ?_
        exact ret_i hx hb hr hlk hS (Nat.le_of_ble_eq_true rfl) (Nat.le_of_ble_eq_true rfl) () (trivial) (hP.sub [0, 1] rfl) (hD.sub [0, 1] (by decide) rfl) dX9_valueOf_38
      ·
        have hn_3 := biv_f (i := i_1) (t := x2) c_3 (by omega)
        refine lv_iload_n hx hb dX9_valueOf_11 rfl (lv_at hl 1 rfl) ?_
        refine lv_aload_n hx hb dX9_valueOf_12 rfl (lv_at hl 2 rfl) ?_
        refine va_get (D := D) (ci := 9) (v := .ref mWorld) (C := RX9) (T := TX9) (N := 42) hx hb hts iuX9_valueOf_X9 hown hK hP 0 rfl rfl 1 (by decide) (htw (.fieldLink RX9 9 "MergeJudgeModel" "world" "[I") (List.mem_of_getElem? (i := 0) rfl)) (fun _ h9 => h9) rfl dX9_valueOf_13 ?_
        refine lv_iconst (v := 0) hx hb dX9_valueOf_16 (by decide) ?_
        refine va_iald hx hb hK hP 1 1 rfl rfl (vp_c (by decide)) dX9_valueOf_17 ?_
        refine cf_v (.int (gWorld 0)) rfl ?_
        refine cf_i (nI (wN gWorld 0)) (hok_0 (by assumption)) ?_
        refine lv_iconst (v := 1) hx hb dX9_valueOf_18 (by decide) ?_
        refine lv_iadd hx hb dX9_valueOf_19 ?_
        refine cf_i (nI (wN gWorld 0 + 1)) (nI_add (wN gWorld 0) 1) ?_
        refine lv_idiv hx hb dX9_valueOf_20 (ne0_nI (by omega) (by omega)) ?_
        refine lv_istore_n (lv' := [(3, .int (v3_1 / (nI (wN gWorld 0 + 1)))), (4, .int (nI i_1)), (0, .ref b0), (1, .int x1), (2, .int x2)]) hx hb dX9_valueOf_21 rfl hl (by decide) rfl (fun ls hl => ?_)
        refine lv_iinc (v := (nI (i_1 + 1))) (lv' := [(4, .int (nI (i_1 + 1))), (3, .int (v3_1 / (nI (wN gWorld 0 + 1)))), (0, .ref b0), (1, .int x1), (2, .int x2)]) hx hb dX9_valueOf_22 hl (k := 1) rfl (nI_1 _) (by decide) rfl (fun ls hl => ?_)
        refine lv_goto (tgt := 5) hx hb dX9_valueOf_25 (by decide) ?_
        exact ih_lp_2 (i_1 + 1) (v3_1 / (nI (wN gWorld 0 + 1))) H locs ls (by omega) (by omega) (hP.sub [0, 1] rfl) (hD.sub [0, 1] (by decide) rfl) hS (lv_sub hl [0, 1, 2, 3, 4] rfl)
  exact lp_2 _ 0 x1 H locs ls (by omega) (Nat.lt_succ_self _) (hP.sub [0, 1] rfl) (hD.sub [0, 1] (by decide) rfl) hS (lv_sub hl [0, 1, 2, 3, 4] rfl)

set_option maxHeartbeats 4000000 in
set_option maxRecDepth 100000 in
theorem k_X9_withValue_n (l : Launch) (D : va_G) (cs : Nat → ClassId) (sz : Nat) (b0 : Nat) (s1 : Nat) (c1 : Nat) (w1 : Nat) (zThrown : Int32) (mWorld : Nat) (mImages : Nat) (mHasImage : Nat) (mTape : Nat) (mFive : Nat) (zToken : Int32) (zValue : Int32) (zFaultKind : Int32) (zFaultPlace : Int32) (mFresh : Nat) (mMergedBy : Nat) (zLawNow : Int32) (zLockedNow : Int32) (zDroppedNow : Int32) (mIsValid : Nat) (mGoes : Nat) (mFarNow : Nat) (mFreeNow : Nat) (mIsPair : Nat) (mHitsBy : Nat) (zBreakMany : Int32) (zLeastOps : Int32) (zLeastBase : Int32) (zLeastFirst : Int32) (zLeastSecond : Int32) (zBestLocks : Int32) (zInEach : Int32) (zFitMany : Int32) (zFitFirst : Int32) (mWorthBy : Nat) (zOftenAll : Int64) (zOftenSafe : Int64) (zOftenValid : Int64) (mMany : Nat) (mWidth : Nat) (mNumbers : Nat) (mMoving : Nat) (gWorld : Nat → Int32) (zTaped : Nat) (zSize : Nat) (zAt : Nat) (zFrom : Nat) (hzt : zTaped ≤ 400) (hzs : zSize ≤ 400) (hwok : WOK gWorld) (ha_s1 : s1 < 1000) (ha_c1 : c1 < 4) (ha_w1 : w1 < 4) : Mi l D cs yX9_withValue W_X9_withValue 1 24 0 0 [.ref b0, .int (nI s1), .int (nI c1), .int (nI w1)] [(b0, .inr (9, [.int zThrown, .ref mWorld, .ref mImages, .ref mHasImage, .ref mTape, .int (nI zTaped), .ref mFive, .int (nI zSize), .int (nI zAt), .int (nI zFrom), .int zToken, .int zValue, .int zFaultKind, .int zFaultPlace, .ref mFresh, .ref mMergedBy, .int zLawNow, .int zLockedNow, .int zDroppedNow, .ref mIsValid, .ref mGoes, .ref mFarNow, .ref mFreeNow, .ref mIsPair, .ref mHitsBy, .int zBreakMany, .int zLeastOps, .int zLeastBase, .int zLeastFirst, .int zLeastSecond, .int zBestLocks, .int zInEach, .int zFitMany, .int zFitFirst, .ref mWorthBy, .long zOftenAll, .long zOftenSafe, .long zOftenValid, .ref mMany, .ref mWidth, .ref mNumbers, .ref mMoving])), (mWorld, .inl (cs 1, 76, .inl gWorld))] sz (fun (r : Int32) (u : Nat) => ((r = nI u ∧ u = s1 - dgt (wN gWorld 0 + 1) c1 s1 * (wN gWorld 0 + 1) ^ c1 + w1 * (wN gWorld 0 + 1) ^ c1))) (fun (u : Nat) => [(b0, .inr (9, [.int zThrown, .ref mWorld, .ref mImages, .ref mHasImage, .ref mTape, .int (nI zTaped), .ref mFive, .int (nI zSize), .int (nI zAt), .int (nI zFrom), .int zToken, .int zValue, .int zFaultKind, .int zFaultPlace, .ref mFresh, .ref mMergedBy, .int zLawNow, .int zLockedNow, .int zDroppedNow, .ref mIsValid, .ref mGoes, .ref mFarNow, .ref mFreeNow, .ref mIsPair, .ref mHitsBy, .int zBreakMany, .int zLeastOps, .int zLeastBase, .int zLeastFirst, .int zLeastSecond, .int zBestLocks, .int zInEach, .int zFitMany, .int zFitFirst, .ref mWorthBy, .long zOftenAll, .long zOftenSafe, .long zOftenValid, .ref mMany, .ref mWidth, .ref mNumbers, .ref mMoving])), (mWorld, .inl (cs 1, 76, .inl gWorld))]) := by
  refine ent (D := D) (cs := cs) (y := yX9_withValue) (ws := W_X9_withValue) (As := [.ref b0, .int (nI s1), .int (nI c1), .int (nI w1)]) (W0 := [(b0, .inr (9, [.int zThrown, .ref mWorld, .ref mImages, .ref mHasImage, .ref mTape, .int (nI zTaped), .ref mFive, .int (nI zSize), .int (nI zAt), .int (nI zFrom), .int zToken, .int zValue, .int zFaultKind, .int zFaultPlace, .ref mFresh, .ref mMergedBy, .int zLawNow, .int zLockedNow, .int zDroppedNow, .ref mIsValid, .ref mGoes, .ref mFarNow, .ref mFreeNow, .ref mIsPair, .ref mHitsBy, .int zBreakMany, .int zLeastOps, .int zLeastBase, .int zLeastFirst, .int zLeastSecond, .int zBestLocks, .int zInEach, .int zFitMany, .int zFitFirst, .ref mWorthBy, .long zOftenAll, .long zOftenSafe, .long zOftenValid, .ref mMany, .ref mWidth, .ref mNumbers, .ref mMoving])), (mWorld, .inl (cs 1, 76, .inl gWorld))]) (Qx := fun A => va_Qi (fun (r : Int32) (u : Nat) => ((r = nI u ∧ u = s1 - dgt (wN gWorld 0 + 1) c1 s1 * (wN gWorld 0 + 1) ^ c1 + w1 * (wN gWorld 0 + 1) ^ c1))) (mpost D A (fun (u : Nat) => [(b0, .inr (9, [.int zThrown, .ref mWorld, .ref mImages, .ref mHasImage, .ref mTape, .int (nI zTaped), .ref mFive, .int (nI zSize), .int (nI zAt), .int (nI zFrom), .int zToken, .int zValue, .int zFaultKind, .int zFaultPlace, .ref mFresh, .ref mMergedBy, .int zLawNow, .int zLockedNow, .int zDroppedNow, .ref mIsValid, .ref mGoes, .ref mFarNow, .ref mFreeNow, .ref mIsPair, .ref mHitsBy, .int zBreakMany, .int zLeastOps, .int zLeastBase, .int zLeastFirst, .int zLeastSecond, .int zBestLocks, .int zInEach, .int zFitMany, .int zFitFirst, .ref mWorthBy, .long zOftenAll, .long zOftenSafe, .long zOftenValid, .ref mMany, .ref mWidth, .ref mNumbers, .ref mMoving])), (mWorld, .inl (cs 1, 76, .inl gWorld))])) A) (maxL := 6) (ret := (some .int)) (by decide) rfl (Nat.le_of_ble_eq_true rfl) ?_
  intro p e s m below meth c A ls hx hb hr hml hlk hown hts hin hK hE hP hD hA hS hl
  have hl : lv_has ls 6 [(0, .ref b0), (1, .int (nI s1)), (2, .int (nI c1)), (3, .int (nI w1))] := hl
  generalize hHe : s.heap = H at hP
  have hS : va_S A s.heap H [] := hHe ▸ hS
  generalize hLe : ([] : List Loc) = locs at hS ⊢
  have htw : ∀ w ∈ O_X9_withValue, w.before ([.ref b0, .int (nI s1), .int (nI c1), .int (nI w1)] : List Value).toArray s = true := fun w h => hts w (List.mem_cons_of_mem _ (List.mem_append_left _ h))
  have hFix := (⟨hx, hb, hml, hown, hts⟩ : CallFix p m c _ _ s _ _ _)
  have hH := wok_h hwok
  have hR := wok_r hwok
  have hb0 := hok_b0 hH
  have hb2 := hok_b2 hH
  have hb3 := hok_b3 hH
  have hb4 := hok_b4 hH
  have hb5 := hok_b5 hH
  have hb6 := hok_b6 hH
  have hsm1 := sm_1 (f := gWorld)
  have hsm2 := sm_64 hH
  have hsp2 := sp_64 hH
  have hsm3 := sm_sp hH
  refine lv_iconst (v := 1) hx hb dX9_withValue_0 (by decide) ?_
  refine lv_istore (lv' := [(4, .int 1), (0, .ref b0), (1, .int (nI s1)), (2, .int (nI c1)), (3, .int (nI w1))]) hx hb dX9_withValue_1 hl (by decide) rfl (fun ls hl => ?_)
  refine lv_iconst (v := 0) hx hb dX9_withValue_3 (by decide) ?_
  refine lv_istore (lv' := [(5, .int 0), (4, .int 1), (0, .ref b0), (1, .int (nI s1)), (2, .int (nI c1)), (3, .int (nI w1))]) hx hb dX9_withValue_4 hl (by decide) rfl (fun ls hl => ?_)
  have lp_2 : ∀ (nfu : Nat) (i_1 : Nat) (v4_1 : Nat) (H : Heap) (locs : List Loc) (ls : Array Slot) (hi_1 : i_1 ≤ c1) (hv0_1 : v4_1 = (wN gWorld 0 + 1) ^ i_1), c1 - i_1 < nfu → va_P D vwCl [(b0, .inr (9, [.int zThrown, .ref mWorld, .ref mImages, .ref mHasImage, .ref mTape, .int (nI zTaped), .ref mFive, .int (nI zSize), .int (nI zAt), .int (nI zFrom), .int zToken, .int zValue, .int zFaultKind, .int zFaultPlace, .ref mFresh, .ref mMergedBy, .int zLawNow, .int zLockedNow, .int zDroppedNow, .ref mIsValid, .ref mGoes, .ref mFarNow, .ref mFreeNow, .ref mIsPair, .ref mHitsBy, .int zBreakMany, .int zLeastOps, .int zLeastBase, .int zLeastFirst, .int zLeastSecond, .int zBestLocks, .int zInEach, .int zFitMany, .int zFitFirst, .ref mWorthBy, .long zOftenAll, .long zOftenSafe, .long zOftenValid, .ref mMany, .ref mWidth, .ref mNumbers, .ref mMoving])), (mWorld, .inl (cs 1, 76, .inl gWorld))] H → va_D A [(b0, .inr (9, [.int zThrown, .ref mWorld, .ref mImages, .ref mHasImage, .ref mTape, .int (nI zTaped), .ref mFive, .int (nI zSize), .int (nI zAt), .int (nI zFrom), .int zToken, .int zValue, .int zFaultKind, .int zFaultPlace, .ref mFresh, .ref mMergedBy, .int zLawNow, .int zLockedNow, .int zDroppedNow, .ref mIsValid, .ref mGoes, .ref mFarNow, .ref mFreeNow, .ref mIsPair, .ref mHitsBy, .int zBreakMany, .int zLeastOps, .int zLeastBase, .int zLeastFirst, .int zLeastSecond, .int zBestLocks, .int zInEach, .int zFitMany, .int zFitFirst, .ref mWorthBy, .long zOftenAll, .long zOftenSafe, .long zOftenValid, .ref mMany, .ref mWidth, .ref mNumbers, .ref mMoving])), (mWorld, .inl (cs 1, 76, .inl gWorld))] → va_S A s.heap H locs → lv_has ls 6 [(5, .int (nI i_1)), (4, .int (nI v4_1)), (0, .ref b0), (1, .int (nI s1)), (2, .int (nI c1)), (3, .int (nI w1))] → W p l e (mRm 1 0 0 24) s m ([.ref b0, .int (nI s1), .int (nI c1), .int (nI w1)] : List Value).toArray below meth c H locs 0 0 (MQ below (va_Qi (fun (r : Int32) (u : Nat) => ((r = nI u ∧ u = s1 - dgt (wN gWorld 0 + 1) c1 s1 * (wN gWorld 0 + 1) ^ c1 + w1 * (wN gWorld 0 + 1) ^ c1))) (mpost D A (fun (u : Nat) => [(b0, .inr (9, [.int zThrown, .ref mWorld, .ref mImages, .ref mHasImage, .ref mTape, .int (nI zTaped), .ref mFive, .int (nI zSize), .int (nI zAt), .int (nI zFrom), .int zToken, .int zValue, .int zFaultKind, .int zFaultPlace, .ref mFresh, .ref mMergedBy, .int zLawNow, .int zLockedNow, .int zDroppedNow, .ref mIsValid, .ref mGoes, .ref mFarNow, .ref mFreeNow, .ref mIsPair, .ref mHitsBy, .int zBreakMany, .int zLeastOps, .int zLeastBase, .int zLeastFirst, .int zLeastSecond, .int zBestLocks, .int zInEach, .int zFitMany, .int zFitFirst, .ref mWorthBy, .long zOftenAll, .long zOftenSafe, .long zOftenValid, .ref mMany, .ref mWidth, .ref mNumbers, .ref mMoving])), (mWorld, .inl (cs 1, 76, .inl gWorld))])) A) ([.ref b0, .int (nI s1), .int (nI c1), .int (nI w1)] : List Value).toArray s 0 0 A) (F0 m 6 ls []) := by
    intro nfu
    induction nfu with
    | zero => intro i_1 v4_1 H locs ls hi_1 hv0_1 hmu; exact absurd hmu (Nat.not_lt_zero _)
    | succ nfu ih =>
      intro i_1 v4_1 H locs ls hi_1 hv0_1 hmu hP hD hS hl
      have ih_lp_2 := @ih
      refine lv_iload hx hb dX9_withValue_6 (lv_at hl 0 rfl) ?_
      refine lv_iload_n hx hb dX9_withValue_8 rfl (lv_at hl 4 rfl) ?_
      refine lv_icmp_ge (tgt := 31) hx hb dX9_withValue_9 (by decide) (fun c_3 => ?_) (fun c_3 => ?_)
      ·
        have hn_3 := bge_t (a := i_1) (b := c1) c_3 (by omega) (by omega)
        refine lv_iload_n hx hb dX9_withValue_31 rfl (lv_at hl 3 rfl) ?_
        refine lv_iload hx hb dX9_withValue_32 (lv_at hl 1 rfl) ?_
        refine lv_iload_n hx hb dX9_withValue_34 rfl (lv_at hl 5 rfl) ?_
        refine lv_aload_n hx hb dX9_withValue_35 rfl (lv_at hl 2 rfl) ?_
        refine lv_iload_n hx hb dX9_withValue_36 rfl (lv_at hl 3 rfl) ?_
        refine lv_iload_n hx hb dX9_withValue_37 rfl (lv_at hl 4 rfl) ?_
        refine aft_i (wr := []) hP hD hS hA [0, 1] [] rfl rfl (by decide) (by decide) (run_v (As := [.int (nI s1), .int (nI c1)]) (rest := [.int (nI w1), .int (nI v4_1), .int (nI s1)]) hFix hK hE hP hD [0, 1] (k_X9_valueOf_n l D cs _ b0 s1 c1 zThrown mWorld mImages mHasImage mTape mFive zToken zValue zFaultKind zFaultPlace mFresh mMergedBy zLawNow zLockedNow zDroppedNow mIsValid mGoes mFarNow mFreeNow mIsPair mHitsBy zBreakMany zLeastOps zLeastBase zLeastFirst zLeastSecond zBestLocks zInEach zFitMany zFitFirst mWorthBy zOftenAll zOftenSafe zOftenValid mMany mWidth mNumbers mMoving gWorld zTaped zSize zAt zFrom (by first | assumption | decide | omega) (by first | assumption | decide | omega) (by first | assumption | decide | omega) (by first | assumption | decide | omega) (by first | assumption | decide | omega)) (cwV 2 hts gc_X9_withValue_285_X9_valueOf rfl rfl rfl (by decide +kernel) ⟨Nat.le_of_ble_eq_true rfl, Nat.le_of_ble_eq_true rfl⟩) rfl (by decide) rfl rfl rfl hl.1 rfl (Nat.le_of_ble_eq_true rfl) dX9_withValue_38 ⟨Nat.le_of_ble_eq_true rfl, Nat.le_of_ble_eq_true rfl⟩) (fun r_4 u_4 H locs hq_4 hP hD hS => ?_)
        obtain ⟨j_4, rfl⟩ : ∃ z, z = u_4 := ⟨_, rfl⟩
        have hP : va_P D vwCl [(b0, .inr (9, [.int zThrown, .ref mWorld, .ref mImages, .ref mHasImage, .ref mTape, .int (nI zTaped), .ref mFive, .int (nI zSize), .int (nI zAt), .int (nI zFrom), .int zToken, .int zValue, .int zFaultKind, .int zFaultPlace, .ref mFresh, .ref mMergedBy, .int zLawNow, .int zLockedNow, .int zDroppedNow, .ref mIsValid, .ref mGoes, .ref mFarNow, .ref mFreeNow, .ref mIsPair, .ref mHitsBy, .int zBreakMany, .int zLeastOps, .int zLeastBase, .int zLeastFirst, .int zLeastSecond, .int zBestLocks, .int zInEach, .int zFitMany, .int zFitFirst, .ref mWorthBy, .long zOftenAll, .long zOftenSafe, .long zOftenValid, .ref mMany, .ref mWidth, .ref mNumbers, .ref mMoving])), (mWorld, .inl (cs 1, 76, .inl gWorld))] H := hP
        have hD : va_D A [(b0, .inr (9, [.int zThrown, .ref mWorld, .ref mImages, .ref mHasImage, .ref mTape, .int (nI zTaped), .ref mFive, .int (nI zSize), .int (nI zAt), .int (nI zFrom), .int zToken, .int zValue, .int zFaultKind, .int zFaultPlace, .ref mFresh, .ref mMergedBy, .int zLawNow, .int zLockedNow, .int zDroppedNow, .ref mIsValid, .ref mGoes, .ref mFarNow, .ref mFreeNow, .ref mIsPair, .ref mHitsBy, .int zBreakMany, .int zLeastOps, .int zLeastBase, .int zLeastFirst, .int zLeastSecond, .int zBestLocks, .int zInEach, .int zFitMany, .int zFitFirst, .ref mWorthBy, .long zOftenAll, .long zOftenSafe, .long zOftenValid, .ref mMany, .ref mWidth, .ref mNumbers, .ref mMoving])), (mWorld, .inl (cs 1, 76, .inl gWorld))] := hD
        replace hq_4 : ((r_4 = nI j_4 ∧ j_4 = dgt (wN gWorld 0 + 1) c1 s1 ∧ j_4 ≤ wN gWorld 0)) := hq_4
        obtain ⟨rfl, hq_4⟩ := hq_4
        ·
          refine lv_isub hx hb dX9_withValue_41 ?_
          refine lv_imul hx hb dX9_withValue_42 ?_
          refine lv_iadd hx hb dX9_withValue_43 ?_
          have hu_9 : v4_1 = (wN gWorld 0 + 1) ^ c1 := by rw [hv0_1, show i_1 = c1 by omega]
          refine cf_i (nI (s1 - dgt (wN gWorld 0 + 1) c1 s1 * (wN gWorld 0 + 1) ^ c1 + w1 * (wN gWorld 0 + 1) ^ c1)) (by rw [hq_4.1, hu_9]; exact wv_eq (dgt_mul_le _ _ _)) ?_
          exact ret_i hx hb hr hlk hS (Nat.le_of_ble_eq_true rfl) (Nat.le_of_ble_eq_true rfl) (s1 - dgt (wN gWorld 0 + 1) c1 s1 * (wN gWorld 0 + 1) ^ c1 + w1 * (wN gWorld 0 + 1) ^ c1) (⟨rfl, rfl⟩) (hP.sub [0, 1] rfl) (hD.sub [0, 1] (by decide) rfl) dX9_withValue_44
      ·
        have hn_3 := bge_f (a := i_1) (b := c1) c_3 (by omega) (by omega)
        refine lv_iload hx hb dX9_withValue_12 (lv_at hl 1 rfl) ?_
        refine lv_aload_n hx hb dX9_withValue_14 rfl (lv_at hl 2 rfl) ?_
        refine va_get (D := D) (ci := 9) (v := .ref mWorld) (C := RX9) (T := TX9) (N := 42) hx hb hts iuX9_withValue_X9 hown hK hP 0 rfl rfl 1 (by decide) (htw (.fieldLink RX9 9 "MergeJudgeModel" "world" "[I") (List.mem_of_getElem? (i := 0) rfl)) (fun _ h9 => h9) rfl dX9_withValue_15 ?_
        refine lv_iconst (v := 0) hx hb dX9_withValue_18 (by decide) ?_
        refine va_iald hx hb hK hP 1 1 rfl rfl (vp_c (by decide)) dX9_withValue_19 ?_
        refine cf_v (.int (gWorld 0)) rfl ?_
        refine cf_i (nI (wN gWorld 0)) (hok_0 (by assumption)) ?_
        refine lv_iconst (v := 1) hx hb dX9_withValue_20 (by decide) ?_
        refine lv_iadd hx hb dX9_withValue_21 ?_
        refine cf_i (nI (wN gWorld 0 + 1)) (nI_add (wN gWorld 0) 1) ?_
        refine lv_imul hx hb dX9_withValue_22 ?_
        refine cf_i (nI (v4_1 * (wN gWorld 0 + 1))) (pk_mul v4_1 (wN gWorld 0 + 1)) ?_
        refine lv_istore (lv' := [(4, .int (nI (v4_1 * (wN gWorld 0 + 1)))), (5, .int (nI i_1)), (0, .ref b0), (1, .int (nI s1)), (2, .int (nI c1)), (3, .int (nI w1))]) hx hb dX9_withValue_23 hl (by decide) rfl (fun ls hl => ?_)
        refine lv_iinc (v := (nI (i_1 + 1))) (lv' := [(5, .int (nI (i_1 + 1))), (4, .int (nI (v4_1 * (wN gWorld 0 + 1)))), (0, .ref b0), (1, .int (nI s1)), (2, .int (nI c1)), (3, .int (nI w1))]) hx hb dX9_withValue_25 hl (k := 1) rfl (nI_1 _) (by decide) rfl (fun ls hl => ?_)
        refine lv_goto (tgt := 6) hx hb dX9_withValue_28 (by decide) ?_
        exact ih_lp_2 (i_1 + 1) (v4_1 * (wN gWorld 0 + 1)) H locs ls (by omega) (pw_s hv0_1) (by omega) (hP.sub [0, 1] rfl) (hD.sub [0, 1] (by decide) rfl) hS (lv_sub hl [0, 1, 2, 3, 4, 5] rfl)
  exact lp_2 _ 0 1 H locs ls (by omega) (Nat.pow_zero _).symm (Nat.lt_succ_self _) (hP.sub [0, 1] rfl) (hD.sub [0, 1] (by decide) rfl) hS (lv_sub hl [0, 1, 2, 3, 4, 5] rfl)

set_option maxHeartbeats 4000000 in
set_option maxRecDepth 100000 in
theorem k_X9_withValue (l : Launch) (D : va_G) (cs : Nat → ClassId) (sz : Nat) (b0 : Nat) (x1 : Int32) (x2 : Int32) (x3 : Int32) (zThrown : Int32) (mWorld : Nat) (mImages : Nat) (mHasImage : Nat) (mTape : Nat) (mFive : Nat) (zToken : Int32) (zValue : Int32) (zFaultKind : Int32) (zFaultPlace : Int32) (mFresh : Nat) (mMergedBy : Nat) (zLawNow : Int32) (zLockedNow : Int32) (zDroppedNow : Int32) (mIsValid : Nat) (mGoes : Nat) (mFarNow : Nat) (mFreeNow : Nat) (mIsPair : Nat) (mHitsBy : Nat) (zBreakMany : Int32) (zLeastOps : Int32) (zLeastBase : Int32) (zLeastFirst : Int32) (zLeastSecond : Int32) (zBestLocks : Int32) (zInEach : Int32) (zFitMany : Int32) (zFitFirst : Int32) (mWorthBy : Nat) (zOftenAll : Int64) (zOftenSafe : Int64) (zOftenValid : Int64) (mMany : Nat) (mWidth : Nat) (mNumbers : Nat) (mMoving : Nat) (gWorld : Nat → Int32) (zTaped : Nat) (zSize : Nat) (zAt : Nat) (zFrom : Nat) (hzt : zTaped ≤ 400) (hzs : zSize ≤ 400) (hwok : WOK gWorld) : Mi l D cs yX9_withValue W_X9_withValue 1 24 0 0 [.ref b0, .int x1, .int x2, .int x3] [(b0, .inr (9, [.int zThrown, .ref mWorld, .ref mImages, .ref mHasImage, .ref mTape, .int (nI zTaped), .ref mFive, .int (nI zSize), .int (nI zAt), .int (nI zFrom), .int zToken, .int zValue, .int zFaultKind, .int zFaultPlace, .ref mFresh, .ref mMergedBy, .int zLawNow, .int zLockedNow, .int zDroppedNow, .ref mIsValid, .ref mGoes, .ref mFarNow, .ref mFreeNow, .ref mIsPair, .ref mHitsBy, .int zBreakMany, .int zLeastOps, .int zLeastBase, .int zLeastFirst, .int zLeastSecond, .int zBestLocks, .int zInEach, .int zFitMany, .int zFitFirst, .ref mWorthBy, .long zOftenAll, .long zOftenSafe, .long zOftenValid, .ref mMany, .ref mWidth, .ref mNumbers, .ref mMoving])), (mWorld, .inl (cs 1, 76, .inl gWorld))] sz (fun (r : Int32) (u : Unit) => True) (fun (u : Unit) => [(b0, .inr (9, [.int zThrown, .ref mWorld, .ref mImages, .ref mHasImage, .ref mTape, .int (nI zTaped), .ref mFive, .int (nI zSize), .int (nI zAt), .int (nI zFrom), .int zToken, .int zValue, .int zFaultKind, .int zFaultPlace, .ref mFresh, .ref mMergedBy, .int zLawNow, .int zLockedNow, .int zDroppedNow, .ref mIsValid, .ref mGoes, .ref mFarNow, .ref mFreeNow, .ref mIsPair, .ref mHitsBy, .int zBreakMany, .int zLeastOps, .int zLeastBase, .int zLeastFirst, .int zLeastSecond, .int zBestLocks, .int zInEach, .int zFitMany, .int zFitFirst, .ref mWorthBy, .long zOftenAll, .long zOftenSafe, .long zOftenValid, .ref mMany, .ref mWidth, .ref mNumbers, .ref mMoving])), (mWorld, .inl (cs 1, 76, .inl gWorld))]) := by
  refine ent (D := D) (cs := cs) (y := yX9_withValue) (ws := W_X9_withValue) (As := [.ref b0, .int x1, .int x2, .int x3]) (W0 := [(b0, .inr (9, [.int zThrown, .ref mWorld, .ref mImages, .ref mHasImage, .ref mTape, .int (nI zTaped), .ref mFive, .int (nI zSize), .int (nI zAt), .int (nI zFrom), .int zToken, .int zValue, .int zFaultKind, .int zFaultPlace, .ref mFresh, .ref mMergedBy, .int zLawNow, .int zLockedNow, .int zDroppedNow, .ref mIsValid, .ref mGoes, .ref mFarNow, .ref mFreeNow, .ref mIsPair, .ref mHitsBy, .int zBreakMany, .int zLeastOps, .int zLeastBase, .int zLeastFirst, .int zLeastSecond, .int zBestLocks, .int zInEach, .int zFitMany, .int zFitFirst, .ref mWorthBy, .long zOftenAll, .long zOftenSafe, .long zOftenValid, .ref mMany, .ref mWidth, .ref mNumbers, .ref mMoving])), (mWorld, .inl (cs 1, 76, .inl gWorld))]) (Qx := fun A => va_Qi (fun (r : Int32) (u : Unit) => True) (mpost D A (fun (u : Unit) => [(b0, .inr (9, [.int zThrown, .ref mWorld, .ref mImages, .ref mHasImage, .ref mTape, .int (nI zTaped), .ref mFive, .int (nI zSize), .int (nI zAt), .int (nI zFrom), .int zToken, .int zValue, .int zFaultKind, .int zFaultPlace, .ref mFresh, .ref mMergedBy, .int zLawNow, .int zLockedNow, .int zDroppedNow, .ref mIsValid, .ref mGoes, .ref mFarNow, .ref mFreeNow, .ref mIsPair, .ref mHitsBy, .int zBreakMany, .int zLeastOps, .int zLeastBase, .int zLeastFirst, .int zLeastSecond, .int zBestLocks, .int zInEach, .int zFitMany, .int zFitFirst, .ref mWorthBy, .long zOftenAll, .long zOftenSafe, .long zOftenValid, .ref mMany, .ref mWidth, .ref mNumbers, .ref mMoving])), (mWorld, .inl (cs 1, 76, .inl gWorld))])) A) (maxL := 6) (ret := (some .int)) (by decide) rfl (Nat.le_of_ble_eq_true rfl) ?_
  intro p e s m below meth c A ls hx hb hr hml hlk hown hts hin hK hE hP hD hA hS hl
  have hl : lv_has ls 6 [(0, .ref b0), (1, .int x1), (2, .int x2), (3, .int x3)] := hl
  generalize hHe : s.heap = H at hP
  have hS : va_S A s.heap H [] := hHe ▸ hS
  generalize hLe : ([] : List Loc) = locs at hS ⊢
  have htw : ∀ w ∈ O_X9_withValue, w.before ([.ref b0, .int x1, .int x2, .int x3] : List Value).toArray s = true := fun w h => hts w (List.mem_cons_of_mem _ (List.mem_append_left _ h))
  have hFix := (⟨hx, hb, hml, hown, hts⟩ : CallFix p m c _ _ s _ _ _)
  have hH := wok_h hwok
  have hR := wok_r hwok
  have hb0 := hok_b0 hH
  have hb2 := hok_b2 hH
  have hb3 := hok_b3 hH
  have hb4 := hok_b4 hH
  have hb5 := hok_b5 hH
  have hb6 := hok_b6 hH
  have hsm1 := sm_1 (f := gWorld)
  have hsm2 := sm_64 hH
  have hsp2 := sp_64 hH
  have hsm3 := sm_sp hH
  refine lv_iconst (v := 1) hx hb dX9_withValue_0 (by decide) ?_
  refine lv_istore (lv' := [(4, .int 1), (0, .ref b0), (1, .int x1), (2, .int x2), (3, .int x3)]) hx hb dX9_withValue_1 hl (by decide) rfl (fun ls hl => ?_)
  refine lv_iconst (v := 0) hx hb dX9_withValue_3 (by decide) ?_
  refine lv_istore (lv' := [(5, .int 0), (4, .int 1), (0, .ref b0), (1, .int x1), (2, .int x2), (3, .int x3)]) hx hb dX9_withValue_4 hl (by decide) rfl (fun ls hl => ?_)
  have htn_1 := tn_lt x2
  have lp_2 : ∀ (nfu : Nat) (i_1 : Nat) (v4_1 : Int32) (H : Heap) (locs : List Loc) (ls : Array Slot) (hi_1 : i_1 ≤ x2.toInt.toNat), x2.toInt.toNat - i_1 < nfu → va_P D vwCl [(b0, .inr (9, [.int zThrown, .ref mWorld, .ref mImages, .ref mHasImage, .ref mTape, .int (nI zTaped), .ref mFive, .int (nI zSize), .int (nI zAt), .int (nI zFrom), .int zToken, .int zValue, .int zFaultKind, .int zFaultPlace, .ref mFresh, .ref mMergedBy, .int zLawNow, .int zLockedNow, .int zDroppedNow, .ref mIsValid, .ref mGoes, .ref mFarNow, .ref mFreeNow, .ref mIsPair, .ref mHitsBy, .int zBreakMany, .int zLeastOps, .int zLeastBase, .int zLeastFirst, .int zLeastSecond, .int zBestLocks, .int zInEach, .int zFitMany, .int zFitFirst, .ref mWorthBy, .long zOftenAll, .long zOftenSafe, .long zOftenValid, .ref mMany, .ref mWidth, .ref mNumbers, .ref mMoving])), (mWorld, .inl (cs 1, 76, .inl gWorld))] H → va_D A [(b0, .inr (9, [.int zThrown, .ref mWorld, .ref mImages, .ref mHasImage, .ref mTape, .int (nI zTaped), .ref mFive, .int (nI zSize), .int (nI zAt), .int (nI zFrom), .int zToken, .int zValue, .int zFaultKind, .int zFaultPlace, .ref mFresh, .ref mMergedBy, .int zLawNow, .int zLockedNow, .int zDroppedNow, .ref mIsValid, .ref mGoes, .ref mFarNow, .ref mFreeNow, .ref mIsPair, .ref mHitsBy, .int zBreakMany, .int zLeastOps, .int zLeastBase, .int zLeastFirst, .int zLeastSecond, .int zBestLocks, .int zInEach, .int zFitMany, .int zFitFirst, .ref mWorthBy, .long zOftenAll, .long zOftenSafe, .long zOftenValid, .ref mMany, .ref mWidth, .ref mNumbers, .ref mMoving])), (mWorld, .inl (cs 1, 76, .inl gWorld))] → va_S A s.heap H locs → lv_has ls 6 [(5, .int (nI i_1)), (4, .int v4_1), (0, .ref b0), (1, .int x1), (2, .int x2), (3, .int x3)] → W p l e (mRm 1 0 0 24) s m ([.ref b0, .int x1, .int x2, .int x3] : List Value).toArray below meth c H locs 0 0 (MQ below (va_Qi (fun (r : Int32) (u : Unit) => True) (mpost D A (fun (u : Unit) => [(b0, .inr (9, [.int zThrown, .ref mWorld, .ref mImages, .ref mHasImage, .ref mTape, .int (nI zTaped), .ref mFive, .int (nI zSize), .int (nI zAt), .int (nI zFrom), .int zToken, .int zValue, .int zFaultKind, .int zFaultPlace, .ref mFresh, .ref mMergedBy, .int zLawNow, .int zLockedNow, .int zDroppedNow, .ref mIsValid, .ref mGoes, .ref mFarNow, .ref mFreeNow, .ref mIsPair, .ref mHitsBy, .int zBreakMany, .int zLeastOps, .int zLeastBase, .int zLeastFirst, .int zLeastSecond, .int zBestLocks, .int zInEach, .int zFitMany, .int zFitFirst, .ref mWorthBy, .long zOftenAll, .long zOftenSafe, .long zOftenValid, .ref mMany, .ref mWidth, .ref mNumbers, .ref mMoving])), (mWorld, .inl (cs 1, 76, .inl gWorld))])) A) ([.ref b0, .int x1, .int x2, .int x3] : List Value).toArray s 0 0 A) (F0 m 6 ls []) := by
    intro nfu
    induction nfu with
    | zero => intro i_1 v4_1 H locs ls hi_1 hmu; exact absurd hmu (Nat.not_lt_zero _)
    | succ nfu ih =>
      intro i_1 v4_1 H locs ls hi_1 hmu hP hD hS hl
      have ih_lp_2 := @ih
      refine lv_iload hx hb dX9_withValue_6 (lv_at hl 0 rfl) ?_
      refine lv_iload_n hx hb dX9_withValue_8 rfl (lv_at hl 4 rfl) ?_
      refine lv_icmp_ge (tgt := 31) hx hb dX9_withValue_9 (by decide) (fun c_3 => ?_) (fun c_3 => ?_)
      ·
        refine lv_iload_n hx hb dX9_withValue_31 rfl (lv_at hl 3 rfl) ?_
        refine lv_iload hx hb dX9_withValue_32 (lv_at hl 1 rfl) ?_
        refine lv_iload_n hx hb dX9_withValue_34 rfl (lv_at hl 5 rfl) ?_
        refine lv_aload_n hx hb dX9_withValue_35 rfl (lv_at hl 2 rfl) ?_
        refine lv_iload_n hx hb dX9_withValue_36 rfl (lv_at hl 3 rfl) ?_
        refine lv_iload_n hx hb dX9_withValue_37 rfl (lv_at hl 4 rfl) ?_
        refine aft_i (wr := []) hP hD hS hA [0, 1] [] rfl rfl (by decide) (by decide) (run_v (As := [.int x1, .int x2]) (rest := [.int x3, .int v4_1, .int x1]) hFix hK hE hP hD [0, 1] (k_X9_valueOf l D cs _ b0 x1 x2 zThrown mWorld mImages mHasImage mTape mFive zToken zValue zFaultKind zFaultPlace mFresh mMergedBy zLawNow zLockedNow zDroppedNow mIsValid mGoes mFarNow mFreeNow mIsPair mHitsBy zBreakMany zLeastOps zLeastBase zLeastFirst zLeastSecond zBestLocks zInEach zFitMany zFitFirst mWorthBy zOftenAll zOftenSafe zOftenValid mMany mWidth mNumbers mMoving gWorld zTaped zSize zAt zFrom (by first | assumption | decide | omega) (by first | assumption | decide | omega) (by first | assumption | decide | omega)) (cwV 2 hts gc_X9_withValue_285_X9_valueOf rfl rfl rfl (by decide +kernel) ⟨Nat.le_of_ble_eq_true rfl, Nat.le_of_ble_eq_true rfl⟩) rfl (by decide) rfl rfl rfl hl.1 rfl (Nat.le_of_ble_eq_true rfl) dX9_withValue_38 ⟨Nat.le_of_ble_eq_true rfl, Nat.le_of_ble_eq_true rfl⟩) (fun r_4 u_4 H locs hq_4 hP hD hS => ?_)
        have hP : va_P D vwCl [(b0, .inr (9, [.int zThrown, .ref mWorld, .ref mImages, .ref mHasImage, .ref mTape, .int (nI zTaped), .ref mFive, .int (nI zSize), .int (nI zAt), .int (nI zFrom), .int zToken, .int zValue, .int zFaultKind, .int zFaultPlace, .ref mFresh, .ref mMergedBy, .int zLawNow, .int zLockedNow, .int zDroppedNow, .ref mIsValid, .ref mGoes, .ref mFarNow, .ref mFreeNow, .ref mIsPair, .ref mHitsBy, .int zBreakMany, .int zLeastOps, .int zLeastBase, .int zLeastFirst, .int zLeastSecond, .int zBestLocks, .int zInEach, .int zFitMany, .int zFitFirst, .ref mWorthBy, .long zOftenAll, .long zOftenSafe, .long zOftenValid, .ref mMany, .ref mWidth, .ref mNumbers, .ref mMoving])), (mWorld, .inl (cs 1, 76, .inl gWorld))] H := hP
        have hD : va_D A [(b0, .inr (9, [.int zThrown, .ref mWorld, .ref mImages, .ref mHasImage, .ref mTape, .int (nI zTaped), .ref mFive, .int (nI zSize), .int (nI zAt), .int (nI zFrom), .int zToken, .int zValue, .int zFaultKind, .int zFaultPlace, .ref mFresh, .ref mMergedBy, .int zLawNow, .int zLockedNow, .int zDroppedNow, .ref mIsValid, .ref mGoes, .ref mFarNow, .ref mFreeNow, .ref mIsPair, .ref mHitsBy, .int zBreakMany, .int zLeastOps, .int zLeastBase, .int zLeastFirst, .int zLeastSecond, .int zBestLocks, .int zInEach, .int zFitMany, .int zFitFirst, .ref mWorthBy, .long zOftenAll, .long zOftenSafe, .long zOftenValid, .ref mMany, .ref mWidth, .ref mNumbers, .ref mMoving])), (mWorld, .inl (cs 1, 76, .inl gWorld))] := hD
        refine lv_isub hx hb dX9_withValue_41 ?_
        refine lv_imul hx hb dX9_withValue_42 ?_
        refine lv_iadd hx hb dX9_withValue_43 ?_
        exact ret_i hx hb hr hlk hS (Nat.le_of_ble_eq_true rfl) (Nat.le_of_ble_eq_true rfl) () (trivial) (hP.sub [0, 1] rfl) (hD.sub [0, 1] (by decide) rfl) dX9_withValue_44
      ·
        have hn_3 := biv_f (i := i_1) (t := x2) c_3 (by omega)
        refine lv_iload hx hb dX9_withValue_12 (lv_at hl 1 rfl) ?_
        refine lv_aload_n hx hb dX9_withValue_14 rfl (lv_at hl 2 rfl) ?_
        refine va_get (D := D) (ci := 9) (v := .ref mWorld) (C := RX9) (T := TX9) (N := 42) hx hb hts iuX9_withValue_X9 hown hK hP 0 rfl rfl 1 (by decide) (htw (.fieldLink RX9 9 "MergeJudgeModel" "world" "[I") (List.mem_of_getElem? (i := 0) rfl)) (fun _ h9 => h9) rfl dX9_withValue_15 ?_
        refine lv_iconst (v := 0) hx hb dX9_withValue_18 (by decide) ?_
        refine va_iald hx hb hK hP 1 1 rfl rfl (vp_c (by decide)) dX9_withValue_19 ?_
        refine cf_v (.int (gWorld 0)) rfl ?_
        refine cf_i (nI (wN gWorld 0)) (hok_0 (by assumption)) ?_
        refine lv_iconst (v := 1) hx hb dX9_withValue_20 (by decide) ?_
        refine lv_iadd hx hb dX9_withValue_21 ?_
        refine cf_i (nI (wN gWorld 0 + 1)) (nI_add (wN gWorld 0) 1) ?_
        refine lv_imul hx hb dX9_withValue_22 ?_
        refine lv_istore (lv' := [(4, .int (v4_1 * (nI (wN gWorld 0 + 1)))), (5, .int (nI i_1)), (0, .ref b0), (1, .int x1), (2, .int x2), (3, .int x3)]) hx hb dX9_withValue_23 hl (by decide) rfl (fun ls hl => ?_)
        refine lv_iinc (v := (nI (i_1 + 1))) (lv' := [(5, .int (nI (i_1 + 1))), (4, .int (v4_1 * (nI (wN gWorld 0 + 1)))), (0, .ref b0), (1, .int x1), (2, .int x2), (3, .int x3)]) hx hb dX9_withValue_25 hl (k := 1) rfl (nI_1 _) (by decide) rfl (fun ls hl => ?_)
        refine lv_goto (tgt := 6) hx hb dX9_withValue_28 (by decide) ?_
        exact ih_lp_2 (i_1 + 1) (v4_1 * (nI (wN gWorld 0 + 1))) H locs ls (by omega) (by omega) (hP.sub [0, 1] rfl) (hD.sub [0, 1] (by decide) rfl) hS (lv_sub hl [0, 1, 2, 3, 4, 5] rfl)
  exact lp_2 _ 0 1 H locs ls (by omega) (Nat.lt_succ_self _) (hP.sub [0, 1] rfl) (hD.sub [0, 1] (by decide) rfl) hS (lv_sub hl [0, 1, 2, 3, 4, 5] rfl)

set_option maxHeartbeats 4000000 in
set_option maxRecDepth 100000 in
theorem k_X9_added (l : Launch) (D : va_G) (cs : Nat → ClassId) (sz : Nat) (b0 : Nat) (x3 : Int32) (s1 : Nat) (c1 : Nat) (zThrown : Int32) (mWorld : Nat) (mImages : Nat) (mHasImage : Nat) (mTape : Nat) (mFive : Nat) (zToken : Int32) (zValue : Int32) (zFaultKind : Int32) (zFaultPlace : Int32) (mFresh : Nat) (mMergedBy : Nat) (zLawNow : Int32) (zLockedNow : Int32) (zDroppedNow : Int32) (mIsValid : Nat) (mGoes : Nat) (mFarNow : Nat) (mFreeNow : Nat) (mIsPair : Nat) (mHitsBy : Nat) (zBreakMany : Int32) (zLeastOps : Int32) (zLeastBase : Int32) (zLeastFirst : Int32) (zLeastSecond : Int32) (zBestLocks : Int32) (zInEach : Int32) (zFitMany : Int32) (zFitFirst : Int32) (mWorthBy : Nat) (zOftenAll : Int64) (zOftenSafe : Int64) (zOftenValid : Int64) (mMany : Nat) (mWidth : Nat) (mNumbers : Nat) (mMoving : Nat) (gWorld : Nat → Int32) (zTaped : Nat) (zSize : Nat) (zAt : Nat) (zFrom : Nat) (hzt : zTaped ≤ 400) (hzs : zSize ≤ 400) (hwok : WOK gWorld) (ha_s1 : s1 < SP gWorld) (ha_c1 : c1 < 3) : Mi l D cs yX9_added W_X9_added 2 49 0 0 [.ref b0, .int (nI s1), .int (nI c1), .int x3] [(b0, .inr (9, [.int zThrown, .ref mWorld, .ref mImages, .ref mHasImage, .ref mTape, .int (nI zTaped), .ref mFive, .int (nI zSize), .int (nI zAt), .int (nI zFrom), .int zToken, .int zValue, .int zFaultKind, .int zFaultPlace, .ref mFresh, .ref mMergedBy, .int zLawNow, .int zLockedNow, .int zDroppedNow, .ref mIsValid, .ref mGoes, .ref mFarNow, .ref mFreeNow, .ref mIsPair, .ref mHitsBy, .int zBreakMany, .int zLeastOps, .int zLeastBase, .int zLeastFirst, .int zLeastSecond, .int zBestLocks, .int zInEach, .int zFitMany, .int zFitFirst, .ref mWorthBy, .long zOftenAll, .long zOftenSafe, .long zOftenValid, .ref mMany, .ref mWidth, .ref mNumbers, .ref mMoving])), (mWorld, .inl (cs 1, 76, .inl gWorld))] sz (fun (r : Int32) (u : Nat) => ((r = (-1) ∧ True) ∨ (r = nI u ∧ u < SP gWorld))) (fun (u : Nat) => [(b0, .inr (9, [.int zThrown, .ref mWorld, .ref mImages, .ref mHasImage, .ref mTape, .int (nI zTaped), .ref mFive, .int (nI zSize), .int (nI zAt), .int (nI zFrom), .int zToken, .int zValue, .int zFaultKind, .int zFaultPlace, .ref mFresh, .ref mMergedBy, .int zLawNow, .int zLockedNow, .int zDroppedNow, .ref mIsValid, .ref mGoes, .ref mFarNow, .ref mFreeNow, .ref mIsPair, .ref mHitsBy, .int zBreakMany, .int zLeastOps, .int zLeastBase, .int zLeastFirst, .int zLeastSecond, .int zBestLocks, .int zInEach, .int zFitMany, .int zFitFirst, .ref mWorthBy, .long zOftenAll, .long zOftenSafe, .long zOftenValid, .ref mMany, .ref mWidth, .ref mNumbers, .ref mMoving])), (mWorld, .inl (cs 1, 76, .inl gWorld))]) := by
  refine ent (D := D) (cs := cs) (y := yX9_added) (ws := W_X9_added) (As := [.ref b0, .int (nI s1), .int (nI c1), .int x3]) (W0 := [(b0, .inr (9, [.int zThrown, .ref mWorld, .ref mImages, .ref mHasImage, .ref mTape, .int (nI zTaped), .ref mFive, .int (nI zSize), .int (nI zAt), .int (nI zFrom), .int zToken, .int zValue, .int zFaultKind, .int zFaultPlace, .ref mFresh, .ref mMergedBy, .int zLawNow, .int zLockedNow, .int zDroppedNow, .ref mIsValid, .ref mGoes, .ref mFarNow, .ref mFreeNow, .ref mIsPair, .ref mHitsBy, .int zBreakMany, .int zLeastOps, .int zLeastBase, .int zLeastFirst, .int zLeastSecond, .int zBestLocks, .int zInEach, .int zFitMany, .int zFitFirst, .ref mWorthBy, .long zOftenAll, .long zOftenSafe, .long zOftenValid, .ref mMany, .ref mWidth, .ref mNumbers, .ref mMoving])), (mWorld, .inl (cs 1, 76, .inl gWorld))]) (Qx := fun A => va_Qi (fun (r : Int32) (u : Nat) => ((r = (-1) ∧ True) ∨ (r = nI u ∧ u < SP gWorld))) (mpost D A (fun (u : Nat) => [(b0, .inr (9, [.int zThrown, .ref mWorld, .ref mImages, .ref mHasImage, .ref mTape, .int (nI zTaped), .ref mFive, .int (nI zSize), .int (nI zAt), .int (nI zFrom), .int zToken, .int zValue, .int zFaultKind, .int zFaultPlace, .ref mFresh, .ref mMergedBy, .int zLawNow, .int zLockedNow, .int zDroppedNow, .ref mIsValid, .ref mGoes, .ref mFarNow, .ref mFreeNow, .ref mIsPair, .ref mHitsBy, .int zBreakMany, .int zLeastOps, .int zLeastBase, .int zLeastFirst, .int zLeastSecond, .int zBestLocks, .int zInEach, .int zFitMany, .int zFitFirst, .ref mWorthBy, .long zOftenAll, .long zOftenSafe, .long zOftenValid, .ref mMany, .ref mWidth, .ref mNumbers, .ref mMoving])), (mWorld, .inl (cs 1, 76, .inl gWorld))])) A) (maxL := 5) (ret := (some .int)) (by decide) rfl (Nat.le_of_ble_eq_true rfl) ?_
  intro p e s m below meth c A ls hx hb hr hml hlk hown hts hin hK hE hP hD hA hS hl
  have hl : lv_has ls 5 [(0, .ref b0), (1, .int (nI s1)), (2, .int (nI c1)), (3, .int x3)] := hl
  generalize hHe : s.heap = H at hP
  have hS : va_S A s.heap H [] := hHe ▸ hS
  generalize hLe : ([] : List Loc) = locs at hS ⊢
  have htw : ∀ w ∈ O_X9_added, w.before ([.ref b0, .int (nI s1), .int (nI c1), .int x3] : List Value).toArray s = true := fun w h => hts w (List.mem_cons_of_mem _ (List.mem_append_left _ h))
  have hFix := (⟨hx, hb, hml, hown, hts⟩ : CallFix p m c _ _ s _ _ _)
  have hH := wok_h hwok
  have hR := wok_r hwok
  have hb0 := hok_b0 hH
  have hb2 := hok_b2 hH
  have hb3 := hok_b3 hH
  have hb4 := hok_b4 hH
  have hb5 := hok_b5 hH
  have hb6 := hok_b6 hH
  have hsm1 := sm_1 (f := gWorld)
  have hsm2 := sm_64 hH
  have hsp2 := sp_64 hH
  have hsm3 := sm_sp hH
  refine lv_aload_n hx hb dX9_added_0 rfl (lv_at hl 0 rfl) ?_
  refine lv_iload_n hx hb dX9_added_1 rfl (lv_at hl 1 rfl) ?_
  refine lv_iload_n hx hb dX9_added_2 rfl (lv_at hl 2 rfl) ?_
  refine aft_i (wr := []) hP hD hS hA [0, 1] [] rfl rfl (by decide) (by decide) (run_v (As := [.int (nI s1), .int (nI c1)]) (rest := []) hFix hK hE hP hD [0, 1] (k_X9_valueOf_n l D cs _ b0 s1 c1 zThrown mWorld mImages mHasImage mTape mFive zToken zValue zFaultKind zFaultPlace mFresh mMergedBy zLawNow zLockedNow zDroppedNow mIsValid mGoes mFarNow mFreeNow mIsPair mHitsBy zBreakMany zLeastOps zLeastBase zLeastFirst zLeastSecond zBestLocks zInEach zFitMany zFitFirst mWorthBy zOftenAll zOftenSafe zOftenValid mMany mWidth mNumbers mMoving gWorld zTaped zSize zAt zFrom (by first | assumption | decide | omega) (by first | assumption | decide | omega) (by first | assumption | decide | omega) (by first | assumption | decide | omega) (by first | assumption | decide | omega)) (cwV 2 hts gc_X9_added_285_X9_valueOf rfl rfl rfl (by decide +kernel) ⟨Nat.le_of_ble_eq_true rfl, Nat.le_of_ble_eq_true rfl⟩) rfl (by decide) rfl rfl rfl hl.1 rfl (Nat.le_of_ble_eq_true rfl) dX9_added_3 ⟨Nat.le_of_ble_eq_true rfl, Nat.le_of_ble_eq_true rfl⟩) (fun r_1 u_1 H locs hq_1 hP hD hS => ?_)
  obtain ⟨j_1, rfl⟩ : ∃ z, z = u_1 := ⟨_, rfl⟩
  have hP : va_P D vwCl [(b0, .inr (9, [.int zThrown, .ref mWorld, .ref mImages, .ref mHasImage, .ref mTape, .int (nI zTaped), .ref mFive, .int (nI zSize), .int (nI zAt), .int (nI zFrom), .int zToken, .int zValue, .int zFaultKind, .int zFaultPlace, .ref mFresh, .ref mMergedBy, .int zLawNow, .int zLockedNow, .int zDroppedNow, .ref mIsValid, .ref mGoes, .ref mFarNow, .ref mFreeNow, .ref mIsPair, .ref mHitsBy, .int zBreakMany, .int zLeastOps, .int zLeastBase, .int zLeastFirst, .int zLeastSecond, .int zBestLocks, .int zInEach, .int zFitMany, .int zFitFirst, .ref mWorthBy, .long zOftenAll, .long zOftenSafe, .long zOftenValid, .ref mMany, .ref mWidth, .ref mNumbers, .ref mMoving])), (mWorld, .inl (cs 1, 76, .inl gWorld))] H := hP
  have hD : va_D A [(b0, .inr (9, [.int zThrown, .ref mWorld, .ref mImages, .ref mHasImage, .ref mTape, .int (nI zTaped), .ref mFive, .int (nI zSize), .int (nI zAt), .int (nI zFrom), .int zToken, .int zValue, .int zFaultKind, .int zFaultPlace, .ref mFresh, .ref mMergedBy, .int zLawNow, .int zLockedNow, .int zDroppedNow, .ref mIsValid, .ref mGoes, .ref mFarNow, .ref mFreeNow, .ref mIsPair, .ref mHitsBy, .int zBreakMany, .int zLeastOps, .int zLeastBase, .int zLeastFirst, .int zLeastSecond, .int zBestLocks, .int zInEach, .int zFitMany, .int zFitFirst, .ref mWorthBy, .long zOftenAll, .long zOftenSafe, .long zOftenValid, .ref mMany, .ref mWidth, .ref mNumbers, .ref mMoving])), (mWorld, .inl (cs 1, 76, .inl gWorld))] := hD
  replace hq_1 : ((r_1 = nI j_1 ∧ j_1 = dgt (wN gWorld 0 + 1) c1 s1 ∧ j_1 ≤ wN gWorld 0)) := hq_1
  obtain ⟨rfl, hq_1⟩ := hq_1
  ·
    refine lv_iload_n hx hb dX9_added_6 rfl (lv_at hl 3 rfl) ?_
    refine lv_iadd hx hb dX9_added_7 ?_
    refine lv_istore (lv' := [(4, .int ((nI j_1) + x3)), (0, .ref b0), (1, .int (nI s1)), (2, .int (nI c1)), (3, .int x3)]) hx hb dX9_added_8 hl (by decide) rfl (fun ls hl => ?_)
    refine lv_iload hx hb dX9_added_10 (lv_at hl 0 rfl) ?_
    refine lv_i2l (v := (((nI j_1) + x3).toInt64)) hx hb dX9_added_12 rfl ?_
    refine lv_lconst (v := 0) hx hb dX9_added_13 (by decide) ?_
    refine lv_aload_n hx hb dX9_added_14 rfl (lv_at hl 1 rfl) ?_
    refine va_get (D := D) (ci := 9) (v := .ref mWorld) (C := RX9) (T := TX9) (N := 42) hx hb hts iuX9_added_X9 hown hK hP 0 rfl rfl 1 (by decide) (htw (.fieldLink RX9 9 "MergeJudgeModel" "world" "[I") (List.mem_of_getElem? (i := 4) rfl)) (fun _ h9 => h9) rfl dX9_added_15 ?_
    refine lv_iconst (v := 0) hx hb dX9_added_18 (by decide) ?_
    refine va_iald hx hb hK hP 1 1 rfl rfl (vp_c (by decide)) dX9_added_19 ?_
    refine cf_v (.int (gWorld 0)) rfl ?_
    refine cf_i (nI (wN gWorld 0)) (hok_0 (by assumption)) ?_
    refine lv_i2l (v := ((nI (wN gWorld 0)).toInt64)) hx hb dX9_added_20 rfl ?_
    refine aft_i (wr := [(b0, .inr (9, [.int zThrown, .ref mWorld, .ref mImages, .ref mHasImage, .ref mTape, .int (nI zTaped), .ref mFive, .int (nI zSize), .int (nI zAt), .int (nI zFrom), .int zToken, .int zValue, .int zFaultKind, .int zFaultPlace, .ref mFresh, .ref mMergedBy, .int zLawNow, .int zLockedNow, .int zDroppedNow, .ref mIsValid, .ref mGoes, .ref mFarNow, .ref mFreeNow, .ref mIsPair, .ref mHitsBy, .int zBreakMany, .int zLeastOps, .int zLeastBase, .int zLeastFirst, .int zLeastSecond, .int zBestLocks, .int zInEach, .int zFitMany, .int zFitFirst, .ref mWorthBy, .long zOftenAll, .long zOftenSafe, .long zOftenValid, .ref mMany, .ref mWidth, .ref mNumbers, .ref mMoving])), (mWorld, .inl (cs 1, 76, .inl gWorld))]) hP hD hS hA [] [0, 1] rfl rfl (by decide) (by decide) (run_s (As := [.long (((nI j_1) + x3).toInt64), .long 0, .long ((nI (wN gWorld 0)).toInt64)]) (rest := []) hFix hK hE hP hD [] (k_X9_in l D cs _ (((nI j_1) + x3).toInt64) 0 ((nI (wN gWorld 0)).toInt64)) (va_cwS 3 hts gc_X9_added_76_X9_in rfl rfl rfl (by decide +kernel) ⟨Nat.le_of_ble_eq_true rfl, Nat.le_of_ble_eq_true rfl⟩) rfl (by decide) rfl hl.1 rfl (Nat.le_of_ble_eq_true rfl) dX9_added_21 ⟨Nat.le_of_ble_eq_true rfl, Nat.le_of_ble_eq_true rfl⟩) (fun r_2 u_2 H locs hq_2 hP hD hS => ?_)
    have hP : va_P D vwCl [(b0, .inr (9, [.int zThrown, .ref mWorld, .ref mImages, .ref mHasImage, .ref mTape, .int (nI zTaped), .ref mFive, .int (nI zSize), .int (nI zAt), .int (nI zFrom), .int zToken, .int zValue, .int zFaultKind, .int zFaultPlace, .ref mFresh, .ref mMergedBy, .int zLawNow, .int zLockedNow, .int zDroppedNow, .ref mIsValid, .ref mGoes, .ref mFarNow, .ref mFreeNow, .ref mIsPair, .ref mHitsBy, .int zBreakMany, .int zLeastOps, .int zLeastBase, .int zLeastFirst, .int zLeastSecond, .int zBestLocks, .int zInEach, .int zFitMany, .int zFitFirst, .ref mWorthBy, .long zOftenAll, .long zOftenSafe, .long zOftenValid, .ref mMany, .ref mWidth, .ref mNumbers, .ref mMoving])), (mWorld, .inl (cs 1, 76, .inl gWorld))] H := hP
    have hD : va_D A [(b0, .inr (9, [.int zThrown, .ref mWorld, .ref mImages, .ref mHasImage, .ref mTape, .int (nI zTaped), .ref mFive, .int (nI zSize), .int (nI zAt), .int (nI zFrom), .int zToken, .int zValue, .int zFaultKind, .int zFaultPlace, .ref mFresh, .ref mMergedBy, .int zLawNow, .int zLockedNow, .int zDroppedNow, .ref mIsValid, .ref mGoes, .ref mFarNow, .ref mFreeNow, .ref mIsPair, .ref mHitsBy, .int zBreakMany, .int zLeastOps, .int zLeastBase, .int zLeastFirst, .int zLeastSecond, .int zBestLocks, .int zInEach, .int zFitMany, .int zFitFirst, .ref mWorthBy, .long zOftenAll, .long zOftenSafe, .long zOftenValid, .ref mMany, .ref mWidth, .ref mNumbers, .ref mMoving])), (mWorld, .inl (cs 1, 76, .inl gWorld))] := hD
    replace hq_2 : ((r_2 = 1 ∧ 0 ≤ (((nI j_1) + x3).toInt64) ∧ (((nI j_1) + x3).toInt64) ≤ ((nI (wN gWorld 0)).toInt64)) ∨ (r_2 = 0 ∧ ¬ (0 ≤ (((nI j_1) + x3).toInt64) ∧ (((nI j_1) + x3).toInt64) ≤ ((nI (wN gWorld 0)).toInt64)))) := hq_2
    rcases hq_2 with ⟨rfl, hq_2⟩ | ⟨rfl, hq_2⟩
    ·
      obtain ⟨j_3, hj_3, ej_3⟩ := in_top (by omega) hq_2
      rw [ej_3] at hl
      have hl : lv_has ls 5 [(4, .int (nI j_3)), (0, .ref b0), (1, .int (nI s1)), (2, .int (nI c1)), (3, .int x3)] := hl
      refine lv_if_eq (tgt := 38) hx hb dX9_added_24 (by decide) (fun h9 => absurd h9 (by decide)) (fun _ => ?_)
      refine lv_aload_n hx hb dX9_added_27 rfl (lv_at hl 1 rfl) ?_
      refine lv_iload_n hx hb dX9_added_28 rfl (lv_at hl 2 rfl) ?_
      refine lv_iload_n hx hb dX9_added_29 rfl (lv_at hl 3 rfl) ?_
      refine lv_iload hx hb dX9_added_30 (lv_at hl 0 rfl) ?_
      refine aft_i (wr := []) hP hD hS hA [0, 1] [] rfl rfl (by decide) (by decide) (run_v (As := [.int (nI s1), .int (nI c1), .int (nI j_3)]) (rest := []) hFix hK hE hP hD [0, 1] (k_X9_withValue_n l D cs _ b0 s1 c1 j_3 zThrown mWorld mImages mHasImage mTape mFive zToken zValue zFaultKind zFaultPlace mFresh mMergedBy zLawNow zLockedNow zDroppedNow mIsValid mGoes mFarNow mFreeNow mIsPair mHitsBy zBreakMany zLeastOps zLeastBase zLeastFirst zLeastSecond zBestLocks zInEach zFitMany zFitFirst mWorthBy zOftenAll zOftenSafe zOftenValid mMany mWidth mNumbers mMoving gWorld zTaped zSize zAt zFrom (by first | assumption | decide | omega) (by first | assumption | decide | omega) (by first | assumption | decide | omega) (by first | assumption | decide | omega) (by first | assumption | decide | omega) (by first | assumption | decide | omega)) (cwV 3 hts gc_X9_added_295_X9_withValue rfl rfl rfl (by decide +kernel) ⟨Nat.le_of_ble_eq_true rfl, Nat.le_of_ble_eq_true rfl⟩) rfl (by decide) rfl rfl rfl hl.1 rfl (Nat.le_of_ble_eq_true rfl) dX9_added_32 ⟨Nat.le_of_ble_eq_true rfl, Nat.le_of_ble_eq_true rfl⟩) (fun r_4 u_4 H locs hq_4 hP hD hS => ?_)
      obtain ⟨j_4, rfl⟩ : ∃ z, z = u_4 := ⟨_, rfl⟩
      have hP : va_P D vwCl [(b0, .inr (9, [.int zThrown, .ref mWorld, .ref mImages, .ref mHasImage, .ref mTape, .int (nI zTaped), .ref mFive, .int (nI zSize), .int (nI zAt), .int (nI zFrom), .int zToken, .int zValue, .int zFaultKind, .int zFaultPlace, .ref mFresh, .ref mMergedBy, .int zLawNow, .int zLockedNow, .int zDroppedNow, .ref mIsValid, .ref mGoes, .ref mFarNow, .ref mFreeNow, .ref mIsPair, .ref mHitsBy, .int zBreakMany, .int zLeastOps, .int zLeastBase, .int zLeastFirst, .int zLeastSecond, .int zBestLocks, .int zInEach, .int zFitMany, .int zFitFirst, .ref mWorthBy, .long zOftenAll, .long zOftenSafe, .long zOftenValid, .ref mMany, .ref mWidth, .ref mNumbers, .ref mMoving])), (mWorld, .inl (cs 1, 76, .inl gWorld))] H := hP
      have hD : va_D A [(b0, .inr (9, [.int zThrown, .ref mWorld, .ref mImages, .ref mHasImage, .ref mTape, .int (nI zTaped), .ref mFive, .int (nI zSize), .int (nI zAt), .int (nI zFrom), .int zToken, .int zValue, .int zFaultKind, .int zFaultPlace, .ref mFresh, .ref mMergedBy, .int zLawNow, .int zLockedNow, .int zDroppedNow, .ref mIsValid, .ref mGoes, .ref mFarNow, .ref mFreeNow, .ref mIsPair, .ref mHitsBy, .int zBreakMany, .int zLeastOps, .int zLeastBase, .int zLeastFirst, .int zLeastSecond, .int zBestLocks, .int zInEach, .int zFitMany, .int zFitFirst, .ref mWorthBy, .long zOftenAll, .long zOftenSafe, .long zOftenValid, .ref mMany, .ref mWidth, .ref mNumbers, .ref mMoving])), (mWorld, .inl (cs 1, 76, .inl gWorld))] := hD
      replace hq_4 : ((r_4 = nI j_4 ∧ j_4 = s1 - dgt (wN gWorld 0 + 1) c1 s1 * (wN gWorld 0 + 1) ^ c1 + j_3 * (wN gWorld 0 + 1) ^ c1)) := hq_4
      obtain ⟨rfl, hq_4⟩ := hq_4
      ·
        refine lv_goto (tgt := 39) hx hb dX9_added_35 (by decide) ?_
        exact ret_i hx hb hr hlk hS (Nat.le_of_ble_eq_true rfl) (Nat.le_of_ble_eq_true rfl) (j_4) (Or.inr (⟨rfl, (by rw [hq_4]; exact wv_lt hb0 (by omega) ha_s1 (by omega))⟩)) (hP.sub [0, 1] rfl) (hD.sub [0, 1] (by decide) rfl) dX9_added_39
    ·
      refine lv_if_eq (tgt := 38) hx hb dX9_added_24 (by decide) (fun _ => ?_) (fun h9 => absurd h9 (by decide))
      refine lv_iconst (v := (-1)) hx hb dX9_added_38 (by decide) ?_
      exact ret_i hx hb hr hlk hS (Nat.le_of_ble_eq_true rfl) (Nat.le_of_ble_eq_true rfl) (0) (Or.inl ⟨rfl, trivial⟩) (hP.sub [0, 1] rfl) (hD.sub [0, 1] (by decide) rfl) dX9_added_39
