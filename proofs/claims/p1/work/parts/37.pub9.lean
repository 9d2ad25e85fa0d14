set_option maxHeartbeats 4000000 in
set_option maxRecDepth 100000 in
theorem k_X9_feed (l : Launch) (D : va_G) (cs : Nat → ClassId) (sz : Nat) (b0 : Nat) (k : Int32) (k2 : Int32) (k3 : Int32) (k4 : Int32) (k5 : Int32) (mWorld : Nat) (mImages : Nat) (mHasImage : Nat) (mTape : Nat) (mFive : Nat) (mFresh : Nat) (mMergedBy : Nat) (mIsValid : Nat) (mGoes : Nat) (mFarNow : Nat) (mFreeNow : Nat) (mIsPair : Nat) (mHitsBy : Nat) (mWorthBy : Nat) (mMany : Nat) (mWidth : Nat) (mNumbers : Nat) (mMoving : Nat)  : Mi l D cs yX9_feed W_X9_feed 0 0 0 0 [.ref b0, .int k, .int k2, .int k3, .int k4, .int k5] [(b0, .inr (9, [.int 0, .ref mWorld, .ref mImages, .ref mHasImage, .ref mTape, .int 0, .ref mFive, .int 0, .int 0, .int 0, .int 0, .int 0, .int 0, .int (-1), .ref mFresh, .ref mMergedBy, .int 0, .int 0, .int 0, .ref mIsValid, .ref mGoes, .ref mFarNow, .ref mFreeNow, .ref mIsPair, .ref mHitsBy, .int 0, .int 0, .int 0, .int 0, .int 0, .int 0, .int 0, .int 0, .int 0, .ref mWorthBy, .long 0, .long 0, .long 0, .ref mMany, .ref mWidth, .ref mNumbers, .ref mMoving])), (mTape, .inl (cs 0, 400, .inl (fun _ => 0))), (mFive, .inl (cs 1, 5, .inl (fun _ => 0)))] sz (fun (r : Int32) (u : Unit) => r = 20) (fun (u : Unit) => []) := by
  refine ent (D := D) (cs := cs) (y := yX9_feed) (ws := W_X9_feed) (As := [.ref b0, .int k, .int k2, .int k3, .int k4, .int k5]) (W0 := [(b0, .inr (9, [.int 0, .ref mWorld, .ref mImages, .ref mHasImage, .ref mTape, .int 0, .ref mFive, .int 0, .int 0, .int 0, .int 0, .int 0, .int 0, .int (-1), .ref mFresh, .ref mMergedBy, .int 0, .int 0, .int 0, .ref mIsValid, .ref mGoes, .ref mFarNow, .ref mFreeNow, .ref mIsPair, .ref mHitsBy, .int 0, .int 0, .int 0, .int 0, .int 0, .int 0, .int 0, .int 0, .int 0, .ref mWorthBy, .long 0, .long 0, .long 0, .ref mMany, .ref mWidth, .ref mNumbers, .ref mMoving])), (mTape, .inl (cs 0, 400, .inl (fun _ => 0))), (mFive, .inl (cs 1, 5, .inl (fun _ => 0)))]) (Qx := fun A => va_Qi (fun (r : Int32) (u : Unit) => r = 20) (mpost D A (fun (u : Unit) => [])) A) (maxL := 7) (ret := (some .int)) (by decide) rfl (Nat.le_of_ble_eq_true rfl) ?_
  intro p e s m below meth c A ls hx hb hr hml hlk hown hts hin hK hE hP hD hA hS hl
  have hl : lv_has ls 7 [(0, .ref b0), (1, .int k), (2, .int k2), (3, .int k3), (4, .int k4), (5, .int k5)] := hl
  generalize hHe : s.heap = H at hP
  have hS : va_S A s.heap H [] := hHe ▸ hS
  have htw : ∀ w ∈ O_X9_feed, w.before ([.ref b0, .int k, .int k2, .int k3, .int k4, .int k5] : List Value).toArray s = true := fun w h => hts w (List.mem_cons_of_mem _ (List.mem_append_left _ h))
  have hFix := (⟨hx, hb, hml, hown, hts⟩ : CallFix p m c _ _ s _ _ _)
  refine lv_aload_n hx hb dX9_feed_0 rfl (lv_at hl 0 rfl) ?_
  refine va_get (D := D) (ci := 9) (v := .int 0) (C := RX9) (T := TX9) (N := 42) hx hb hts iuX9_feed_X9 hown hK hP 0 rfl rfl 5 (by decide) (htw (.fieldLink RX9 99 "MergeJudgeModel" "taped" "I") (List.mem_of_getElem? (i := 0) rfl)) (fun _ h9 => h9) rfl dX9_feed_1 ?_
  refine lv_bipush (v := 20) hx hb dX9_feed_4 (by decide) ?_
  refine lv_iadd hx hb dX9_feed_6 ?_
  refine cf_i 20 (by decide) ?_
  refine lv_sipush (v := 400) hx hb dX9_feed_7 (by decide) ?_
  refine lv_icmp_le (tgt := 15) hx hb dX9_feed_10 (by decide) (fun _ => ?_) (fun h9 => absurd h9 (by decide))
  refine lv_aload_n hx hb dX9_feed_15 rfl (lv_at hl 0 rfl) ?_
  refine va_get (D := D) (ci := 9) (v := .ref mFive) (C := RX9) (T := TX9) (N := 42) hx hb hts iuX9_feed_X9 hown hK hP 0 rfl rfl 6 (by decide) (htw (.fieldLink RX9 24 "MergeJudgeModel" "five" "[I") (List.mem_of_getElem? (i := 1) rfl)) (fun _ h9 => h9) rfl dX9_feed_16 ?_
  refine lv_iconst (v := 0) hx hb dX9_feed_19 (by decide) ?_
  refine lv_iload_n hx hb dX9_feed_20 rfl (lv_at hl 1 rfl) ?_
  refine va_iast hx hb hK hP hD hS 2 1 rfl rfl (vp_c (by decide)) dX9_feed_21 (fun H locs hP hD hS => ?_)
  have hP : va_P D vwCl [(b0, .inr (9, [.int 0, .ref mWorld, .ref mImages, .ref mHasImage, .ref mTape, .int 0, .ref mFive, .int 0, .int 0, .int 0, .int 0, .int 0, .int 0, .int (-1), .ref mFresh, .ref mMergedBy, .int 0, .int 0, .int 0, .ref mIsValid, .ref mGoes, .ref mFarNow, .ref mFreeNow, .ref mIsPair, .ref mHitsBy, .int 0, .int 0, .int 0, .int 0, .int 0, .int 0, .int 0, .int 0, .int 0, .ref mWorthBy, .long 0, .long 0, .long 0, .ref mMany, .ref mWidth, .ref mNumbers, .ref mMoving])), (mTape, .inl (cs 0, 400, .inl (fun _ => 0))), (mFive, .inl (cs 1, 5, .inl (upd (fun _ => 0) 0 k)))] H := hP
  have hD : va_D A [(b0, .inr (9, [.int 0, .ref mWorld, .ref mImages, .ref mHasImage, .ref mTape, .int 0, .ref mFive, .int 0, .int 0, .int 0, .int 0, .int 0, .int 0, .int (-1), .ref mFresh, .ref mMergedBy, .int 0, .int 0, .int 0, .ref mIsValid, .ref mGoes, .ref mFarNow, .ref mFreeNow, .ref mIsPair, .ref mHitsBy, .int 0, .int 0, .int 0, .int 0, .int 0, .int 0, .int 0, .int 0, .int 0, .ref mWorthBy, .long 0, .long 0, .long 0, .ref mMany, .ref mWidth, .ref mNumbers, .ref mMoving])), (mTape, .inl (cs 0, 400, .inl (fun _ => 0))), (mFive, .inl (cs 1, 5, .inl (upd (fun _ => 0) 0 k)))] := hD
  refine lv_aload_n hx hb dX9_feed_22 rfl (lv_at hl 0 rfl) ?_
  refine va_get (D := D) (ci := 9) (v := .ref mFive) (C := RX9) (T := TX9) (N := 42) hx hb hts iuX9_feed_X9 hown hK hP 0 rfl rfl 6 (by decide) (htw (.fieldLink RX9 24 "MergeJudgeModel" "five" "[I") (List.mem_of_getElem? (i := 1) rfl)) (fun _ h9 => h9) rfl dX9_feed_23 ?_
  refine lv_iconst (v := 1) hx hb dX9_feed_26 (by decide) ?_
  refine lv_iload_n hx hb dX9_feed_27 rfl (lv_at hl 2 rfl) ?_
  refine va_iast hx hb hK hP hD hS 2 1 rfl rfl (vp_c (by decide)) dX9_feed_28 (fun H locs hP hD hS => ?_)
  have hP : va_P D vwCl [(b0, .inr (9, [.int 0, .ref mWorld, .ref mImages, .ref mHasImage, .ref mTape, .int 0, .ref mFive, .int 0, .int 0, .int 0, .int 0, .int 0, .int 0, .int (-1), .ref mFresh, .ref mMergedBy, .int 0, .int 0, .int 0, .ref mIsValid, .ref mGoes, .ref mFarNow, .ref mFreeNow, .ref mIsPair, .ref mHitsBy, .int 0, .int 0, .int 0, .int 0, .int 0, .int 0, .int 0, .int 0, .int 0, .ref mWorthBy, .long 0, .long 0, .long 0, .ref mMany, .ref mWidth, .ref mNumbers, .ref mMoving])), (mTape, .inl (cs 0, 400, .inl (fun _ => 0))), (mFive, .inl (cs 1, 5, .inl (upd (upd (fun _ => 0) 0 k) 1 k2)))] H := hP
  have hD : va_D A [(b0, .inr (9, [.int 0, .ref mWorld, .ref mImages, .ref mHasImage, .ref mTape, .int 0, .ref mFive, .int 0, .int 0, .int 0, .int 0, .int 0, .int 0, .int (-1), .ref mFresh, .ref mMergedBy, .int 0, .int 0, .int 0, .ref mIsValid, .ref mGoes, .ref mFarNow, .ref mFreeNow, .ref mIsPair, .ref mHitsBy, .int 0, .int 0, .int 0, .int 0, .int 0, .int 0, .int 0, .int 0, .int 0, .ref mWorthBy, .long 0, .long 0, .long 0, .ref mMany, .ref mWidth, .ref mNumbers, .ref mMoving])), (mTape, .inl (cs 0, 400, .inl (fun _ => 0))), (mFive, .inl (cs 1, 5, .inl (upd (upd (fun _ => 0) 0 k) 1 k2)))] := hD
  refine lv_aload_n hx hb dX9_feed_29 rfl (lv_at hl 0 rfl) ?_
  refine va_get (D := D) (ci := 9) (v := .ref mFive) (C := RX9) (T := TX9) (N := 42) hx hb hts iuX9_feed_X9 hown hK hP 0 rfl rfl 6 (by decide) (htw (.fieldLink RX9 24 "MergeJudgeModel" "five" "[I") (List.mem_of_getElem? (i := 1) rfl)) (fun _ h9 => h9) rfl dX9_feed_30 ?_
  refine lv_iconst (v := 2) hx hb dX9_feed_33 (by decide) ?_
  refine lv_iload_n hx hb dX9_feed_34 rfl (lv_at hl 3 rfl) ?_
  refine va_iast hx hb hK hP hD hS 2 1 rfl rfl (vp_c (by decide)) dX9_feed_35 (fun H locs hP hD hS => ?_)
  have hP : va_P D vwCl [(b0, .inr (9, [.int 0, .ref mWorld, .ref mImages, .ref mHasImage, .ref mTape, .int 0, .ref mFive, .int 0, .int 0, .int 0, .int 0, .int 0, .int 0, .int (-1), .ref mFresh, .ref mMergedBy, .int 0, .int 0, .int 0, .ref mIsValid, .ref mGoes, .ref mFarNow, .ref mFreeNow, .ref mIsPair, .ref mHitsBy, .int 0, .int 0, .int 0, .int 0, .int 0, .int 0, .int 0, .int 0, .int 0, .ref mWorthBy, .long 0, .long 0, .long 0, .ref mMany, .ref mWidth, .ref mNumbers, .ref mMoving])), (mTape, .inl (cs 0, 400, .inl (fun _ => 0))), (mFive, .inl (cs 1, 5, .inl (upd (upd (upd (fun _ => 0) 0 k) 1 k2) 2 k3)))] H := hP
  have hD : va_D A [(b0, .inr (9, [.int 0, .ref mWorld, .ref mImages, .ref mHasImage, .ref mTape, .int 0, .ref mFive, .int 0, .int 0, .int 0, .int 0, .int 0, .int 0, .int (-1), .ref mFresh, .ref mMergedBy, .int 0, .int 0, .int 0, .ref mIsValid, .ref mGoes, .ref mFarNow, .ref mFreeNow, .ref mIsPair, .ref mHitsBy, .int 0, .int 0, .int 0, .int 0, .int 0, .int 0, .int 0, .int 0, .int 0, .ref mWorthBy, .long 0, .long 0, .long 0, .ref mMany, .ref mWidth, .ref mNumbers, .ref mMoving])), (mTape, .inl (cs 0, 400, .inl (fun _ => 0))), (mFive, .inl (cs 1, 5, .inl (upd (upd (upd (fun _ => 0) 0 k) 1 k2) 2 k3)))] := hD
  refine lv_aload_n hx hb dX9_feed_36 rfl (lv_at hl 0 rfl) ?_
  refine va_get (D := D) (ci := 9) (v := .ref mFive) (C := RX9) (T := TX9) (N := 42) hx hb hts iuX9_feed_X9 hown hK hP 0 rfl rfl 6 (by decide) (htw (.fieldLink RX9 24 "MergeJudgeModel" "five" "[I") (List.mem_of_getElem? (i := 1) rfl)) (fun _ h9 => h9) rfl dX9_feed_37 ?_
  refine lv_iconst (v := 3) hx hb dX9_feed_40 (by decide) ?_
  refine lv_iload hx hb dX9_feed_41 (lv_at hl 4 rfl) ?_
  refine va_iast hx hb hK hP hD hS 2 1 rfl rfl (vp_c (by decide)) dX9_feed_43 (fun H locs hP hD hS => ?_)
  have hP : va_P D vwCl [(b0, .inr (9, [.int 0, .ref mWorld, .ref mImages, .ref mHasImage, .ref mTape, .int 0, .ref mFive, .int 0, .int 0, .int 0, .int 0, .int 0, .int 0, .int (-1), .ref mFresh, .ref mMergedBy, .int 0, .int 0, .int 0, .ref mIsValid, .ref mGoes, .ref mFarNow, .ref mFreeNow, .ref mIsPair, .ref mHitsBy, .int 0, .int 0, .int 0, .int 0, .int 0, .int 0, .int 0, .int 0, .int 0, .ref mWorthBy, .long 0, .long 0, .long 0, .ref mMany, .ref mWidth, .ref mNumbers, .ref mMoving])), (mTape, .inl (cs 0, 400, .inl (fun _ => 0))), (mFive, .inl (cs 1, 5, .inl (upd (upd (upd (upd (fun _ => 0) 0 k) 1 k2) 2 k3) 3 k4)))] H := hP
  have hD : va_D A [(b0, .inr (9, [.int 0, .ref mWorld, .ref mImages, .ref mHasImage, .ref mTape, .int 0, .ref mFive, .int 0, .int 0, .int 0, .int 0, .int 0, .int 0, .int (-1), .ref mFresh, .ref mMergedBy, .int 0, .int 0, .int 0, .ref mIsValid, .ref mGoes, .ref mFarNow, .ref mFreeNow, .ref mIsPair, .ref mHitsBy, .int 0, .int 0, .int 0, .int 0, .int 0, .int 0, .int 0, .int 0, .int 0, .ref mWorthBy, .long 0, .long 0, .long 0, .ref mMany, .ref mWidth, .ref mNumbers, .ref mMoving])), (mTape, .inl (cs 0, 400, .inl (fun _ => 0))), (mFive, .inl (cs 1, 5, .inl (upd (upd (upd (upd (fun _ => 0) 0 k) 1 k2) 2 k3) 3 k4)))] := hD
  refine lv_aload_n hx hb dX9_feed_44 rfl (lv_at hl 0 rfl) ?_
  refine va_get (D := D) (ci := 9) (v := .ref mFive) (C := RX9) (T := TX9) (N := 42) hx hb hts iuX9_feed_X9 hown hK hP 0 rfl rfl 6 (by decide) (htw (.fieldLink RX9 24 "MergeJudgeModel" "five" "[I") (List.mem_of_getElem? (i := 1) rfl)) (fun _ h9 => h9) rfl dX9_feed_45 ?_
  refine lv_iconst (v := 4) hx hb dX9_feed_48 (by decide) ?_
  refine lv_iload hx hb dX9_feed_49 (lv_at hl 5 rfl) ?_
  refine va_iast hx hb hK hP hD hS 2 1 rfl rfl (vp_c (by decide)) dX9_feed_51 (fun H locs hP hD hS => ?_)
  have hP : va_P D vwCl [(b0, .inr (9, [.int 0, .ref mWorld, .ref mImages, .ref mHasImage, .ref mTape, .int 0, .ref mFive, .int 0, .int 0, .int 0, .int 0, .int 0, .int 0, .int (-1), .ref mFresh, .ref mMergedBy, .int 0, .int 0, .int 0, .ref mIsValid, .ref mGoes, .ref mFarNow, .ref mFreeNow, .ref mIsPair, .ref mHitsBy, .int 0, .int 0, .int 0, .int 0, .int 0, .int 0, .int 0, .int 0, .int 0, .ref mWorthBy, .long 0, .long 0, .long 0, .ref mMany, .ref mWidth, .ref mNumbers, .ref mMoving])), (mTape, .inl (cs 0, 400, .inl (fun _ => 0))), (mFive, .inl (cs 1, 5, .inl (upd (upd (upd (upd (upd (fun _ => 0) 0 k) 1 k2) 2 k3) 3 k4) 4 k5)))] H := hP
  have hD : va_D A [(b0, .inr (9, [.int 0, .ref mWorld, .ref mImages, .ref mHasImage, .ref mTape, .int 0, .ref mFive, .int 0, .int 0, .int 0, .int 0, .int 0, .int 0, .int (-1), .ref mFresh, .ref mMergedBy, .int 0, .int 0, .int 0, .ref mIsValid, .ref mGoes, .ref mFarNow, .ref mFreeNow, .ref mIsPair, .ref mHitsBy, .int 0, .int 0, .int 0, .int 0, .int 0, .int 0, .int 0, .int 0, .int 0, .ref mWorthBy, .long 0, .long 0, .long 0, .ref mMany, .ref mWidth, .ref mNumbers, .ref mMoving])), (mTape, .inl (cs 0, 400, .inl (fun _ => 0))), (mFive, .inl (cs 1, 5, .inl (upd (upd (upd (upd (upd (fun _ => 0) 0 k) 1 k2) 2 k3) 3 k4) 4 k5)))] := hD
  refine lv_iconst (v := 0) hx hb dX9_feed_52 (by decide) ?_
  refine lv_istore (lv' := [(6, .int 0), (0, .ref b0), (1, .int k), (2, .int k2), (3, .int k3), (4, .int k4), (5, .int k5)]) hx hb dX9_feed_53 hl (by decide) rfl (fun ls hl => ?_)
  refine lv_iload hx hb dX9_feed_55 (lv_at hl 0 rfl) ?_
  refine lv_bipush (v := 20) hx hb dX9_feed_57 (by decide) ?_
  refine lv_icmp_ge (tgt := 101) hx hb dX9_feed_59 (by decide) (fun h9 => absurd h9 (by decide)) (fun _ => ?_)
  refine lv_aload_n hx hb dX9_feed_62 rfl (lv_at hl 1 rfl) ?_
  refine va_get (D := D) (ci := 9) (v := .ref mTape) (C := RX9) (T := TX9) (N := 42) hx hb hts iuX9_feed_X9 hown hK hP 0 rfl rfl 4 (by decide) (htw (.fieldLink RX9 20 "MergeJudgeModel" "tape" "[B") (List.mem_of_getElem? (i := 2) rfl)) (fun _ h9 => h9) rfl dX9_feed_63 ?_
  refine lv_aload_n hx hb dX9_feed_66 rfl (lv_at hl 1 rfl) ?_
  refine va_get (D := D) (ci := 9) (v := .int 0) (C := RX9) (T := TX9) (N := 42) hx hb hts iuX9_feed_X9 hown hK hP 0 rfl rfl 5 (by decide) (htw (.fieldLink RX9 99 "MergeJudgeModel" "taped" "I") (List.mem_of_getElem? (i := 0) rfl)) (fun _ h9 => h9) rfl dX9_feed_67 ?_
  refine lv_iload hx hb dX9_feed_70 (lv_at hl 0 rfl) ?_
  refine lv_iadd hx hb dX9_feed_72 ?_
  refine cf_i 0 (by decide) ?_
  refine lv_aload_n hx hb dX9_feed_73 rfl (lv_at hl 1 rfl) ?_
  refine va_get (D := D) (ci := 9) (v := .ref mFive) (C := RX9) (T := TX9) (N := 42) hx hb hts iuX9_feed_X9 hown hK hP 0 rfl rfl 6 (by decide) (htw (.fieldLink RX9 24 "MergeJudgeModel" "five" "[I") (List.mem_of_getElem? (i := 1) rfl)) (fun _ h9 => h9) rfl dX9_feed_74 ?_
  refine lv_iload hx hb dX9_feed_77 (lv_at hl 0 rfl) ?_
  refine lv_iconst (v := 4) hx hb dX9_feed_79 (by decide) ?_
  refine lv_idiv hx hb dX9_feed_80 (by decide) ?_
  refine cf_i 0 (by decide) ?_
  refine va_iald hx hb hK hP 2 1 rfl rfl (vp_c (by decide)) dX9_feed_81 ?_
  refine cf_v (.int k) rfl ?_
  refine lv_bipush (v := 24) hx hb dX9_feed_82 (by decide) ?_
  refine lv_bipush (v := 8) hx hb dX9_feed_84 (by decide) ?_
  refine lv_iload hx hb dX9_feed_86 (lv_at hl 0 rfl) ?_
  refine lv_iconst (v := 4) hx hb dX9_feed_88 (by decide) ?_
  refine lv_irem hx hb dX9_feed_89 (by decide) ?_
  refine cf_i 0 (by decide) ?_
  refine lv_imul hx hb dX9_feed_90 ?_
  refine cf_i 0 (by decide) ?_
  refine lv_isub hx hb dX9_feed_91 ?_
  refine cf_i 24 (by decide) ?_
  refine lv_ishr hx hb dX9_feed_92 ?_
  refine lv_i2b (v := ((k >>> (24 &&& 31)).toInt8.toInt32)) hx hb dX9_feed_93 rfl ?_
  refine va_bast hx hb hK hP hD hS 1 0 rfl rfl (vp_c (by decide)) dX9_feed_94 (fun H locs hP hD hS => ?_)
  have hP : va_P D vwCl [(b0, .inr (9, [.int 0, .ref mWorld, .ref mImages, .ref mHasImage, .ref mTape, .int 0, .ref mFive, .int 0, .int 0, .int 0, .int 0, .int 0, .int 0, .int (-1), .ref mFresh, .ref mMergedBy, .int 0, .int 0, .int 0, .ref mIsValid, .ref mGoes, .ref mFarNow, .ref mFreeNow, .ref mIsPair, .ref mHitsBy, .int 0, .int 0, .int 0, .int 0, .int 0, .int 0, .int 0, .int 0, .int 0, .ref mWorthBy, .long 0, .long 0, .long 0, .ref mMany, .ref mWidth, .ref mNumbers, .ref mMoving])), (mTape, .inl (cs 0, 400, .inl (upd (fun _ => 0) 0 (vp_nar .byte ((k >>> (24 &&& 31)).toInt8.toInt32))))), (mFive, .inl (cs 1, 5, .inl (upd (upd (upd (upd (upd (fun _ => 0) 0 k) 1 k2) 2 k3) 3 k4) 4 k5)))] H := hP
  have hD : va_D A [(b0, .inr (9, [.int 0, .ref mWorld, .ref mImages, .ref mHasImage, .ref mTape, .int 0, .ref mFive, .int 0, .int 0, .int 0, .int 0, .int 0, .int 0, .int (-1), .ref mFresh, .ref mMergedBy, .int 0, .int 0, .int 0, .ref mIsValid, .ref mGoes, .ref mFarNow, .ref mFreeNow, .ref mIsPair, .ref mHitsBy, .int 0, .int 0, .int 0, .int 0, .int 0, .int 0, .int 0, .int 0, .int 0, .ref mWorthBy, .long 0, .long 0, .long 0, .ref mMany, .ref mWidth, .ref mNumbers, .ref mMoving])), (mTape, .inl (cs 0, 400, .inl (upd (fun _ => 0) 0 (vp_nar .byte ((k >>> (24 &&& 31)).toInt8.toInt32))))), (mFive, .inl (cs 1, 5, .inl (upd (upd (upd (upd (upd (fun _ => 0) 0 k) 1 k2) 2 k3) 3 k4) 4 k5)))] := hD
  refine lv_iinc (v := 1) (lv' := [(6, .int 1), (0, .ref b0), (1, .int k), (2, .int k2), (3, .int k3), (4, .int k4), (5, .int k5)]) hx hb dX9_feed_95 hl (k := 0) rfl (by decide) (by decide) rfl (fun ls hl => ?_)
  refine lv_goto (tgt := 55) hx hb dX9_feed_98 (by decide) ?_
  refine lv_iload hx hb dX9_feed_55 (lv_at hl 0 rfl) ?_
  refine lv_bipush (v := 20) hx hb dX9_feed_57 (by decide) ?_
  refine lv_icmp_ge (tgt := 101) hx hb dX9_feed_59 (by decide) (fun h9 => absurd h9 (by decide)) (fun _ => ?_)
  refine lv_aload_n hx hb dX9_feed_62 rfl (lv_at hl 1 rfl) ?_
  refine va_get (D := D) (ci := 9) (v := .ref mTape) (C := RX9) (T := TX9) (N := 42) hx hb hts iuX9_feed_X9 hown hK hP 0 rfl rfl 4 (by decide) (htw (.fieldLink RX9 20 "MergeJudgeModel" "tape" "[B") (List.mem_of_getElem? (i := 2) rfl)) (fun _ h9 => h9) rfl dX9_feed_63 ?_
  refine lv_aload_n hx hb dX9_feed_66 rfl (lv_at hl 1 rfl) ?_
  refine va_get (D := D) (ci := 9) (v := .int 0) (C := RX9) (T := TX9) (N := 42) hx hb hts iuX9_feed_X9 hown hK hP 0 rfl rfl 5 (by decide) (htw (.fieldLink RX9 99 "MergeJudgeModel" "taped" "I") (List.mem_of_getElem? (i := 0) rfl)) (fun _ h9 => h9) rfl dX9_feed_67 ?_
  refine lv_iload hx hb dX9_feed_70 (lv_at hl 0 rfl) ?_
  refine lv_iadd hx hb dX9_feed_72 ?_
  refine cf_i 1 (by decide) ?_
  refine lv_aload_n hx hb dX9_feed_73 rfl (lv_at hl 1 rfl) ?_
  refine va_get (D := D) (ci := 9) (v := .ref mFive) (C := RX9) (T := TX9) (N := 42) hx hb hts iuX9_feed_X9 hown hK hP 0 rfl rfl 6 (by decide) (htw (.fieldLink RX9 24 "MergeJudgeModel" "five" "[I") (List.mem_of_getElem? (i := 1) rfl)) (fun _ h9 => h9) rfl dX9_feed_74 ?_
  refine lv_iload hx hb dX9_feed_77 (lv_at hl 0 rfl) ?_
  refine lv_iconst (v := 4) hx hb dX9_feed_79 (by decide) ?_
  refine lv_idiv hx hb dX9_feed_80 (by decide) ?_
  refine cf_i 0 (by decide) ?_
  refine va_iald hx hb hK hP 2 1 rfl rfl (vp_c (by decide)) dX9_feed_81 ?_
  refine cf_v (.int k) rfl ?_
  refine lv_bipush (v := 24) hx hb dX9_feed_82 (by decide) ?_
  refine lv_bipush (v := 8) hx hb dX9_feed_84 (by decide) ?_
  refine lv_iload hx hb dX9_feed_86 (lv_at hl 0 rfl) ?_
  refine lv_iconst (v := 4) hx hb dX9_feed_88 (by decide) ?_
  refine lv_irem hx hb dX9_feed_89 (by decide) ?_
  refine cf_i 1 (by decide) ?_
  refine lv_imul hx hb dX9_feed_90 ?_
  refine cf_i 8 (by decide) ?_
  refine lv_isub hx hb dX9_feed_91 ?_
  refine cf_i 16 (by decide) ?_
  refine lv_ishr hx hb dX9_feed_92 ?_
  refine lv_i2b (v := ((k >>> (16 &&& 31)).toInt8.toInt32)) hx hb dX9_feed_93 rfl ?_
  refine va_bast hx hb hK hP hD hS 1 0 rfl rfl (vp_c (by decide)) dX9_feed_94 (fun H locs hP hD hS => ?_)
  have hP : va_P D vwCl [(b0, .inr (9, [.int 0, .ref mWorld, .ref mImages, .ref mHasImage, .ref mTape, .int 0, .ref mFive, .int 0, .int 0, .int 0, .int 0, .int 0, .int 0, .int (-1), .ref mFresh, .ref mMergedBy, .int 0, .int 0, .int 0, .ref mIsValid, .ref mGoes, .ref mFarNow, .ref mFreeNow, .ref mIsPair, .ref mHitsBy, .int 0, .int 0, .int 0, .int 0, .int 0, .int 0, .int 0, .int 0, .int 0, .ref mWorthBy, .long 0, .long 0, .long 0, .ref mMany, .ref mWidth, .ref mNumbers, .ref mMoving])), (mTape, .inl (cs 0, 400, .inl (upd (upd (fun _ => 0) 0 (vp_nar .byte ((k >>> (24 &&& 31)).toInt8.toInt32))) 1 (vp_nar .byte ((k >>> (16 &&& 31)).toInt8.toInt32))))), (mFive, .inl (cs 1, 5, .inl (upd (upd (upd (upd (upd (fun _ => 0) 0 k) 1 k2) 2 k3) 3 k4) 4 k5)))] H := hP
  have hD : va_D A [(b0, .inr (9, [.int 0, .ref mWorld, .ref mImages, .ref mHasImage, .ref mTape, .int 0, .ref mFive, .int 0, .int 0, .int 0, .int 0, .int 0, .int 0, .int (-1), .ref mFresh, .ref mMergedBy, .int 0, .int 0, .int 0, .ref mIsValid, .ref mGoes, .ref mFarNow, .ref mFreeNow, .ref mIsPair, .ref mHitsBy, .int 0, .int 0, .int 0, .int 0, .int 0, .int 0, .int 0, .int 0, .int 0, .ref mWorthBy, .long 0, .long 0, .long 0, .ref mMany, .ref mWidth, .ref mNumbers, .ref mMoving])), (mTape, .inl (cs 0, 400, .inl (upd (upd (fun _ => 0) 0 (vp_nar .byte ((k >>> (24 &&& 31)).toInt8.toInt32))) 1 (vp_nar .byte ((k >>> (16 &&& 31)).toInt8.toInt32))))), (mFive, .inl (cs 1, 5, .inl (upd (upd (upd (upd (upd (fun _ => 0) 0 k) 1 k2) 2 k3) 3 k4) 4 k5)))] := hD
  refine lv_iinc (v := 2) (lv' := [(6, .int 2), (0, .ref b0), (1, .int k), (2, .int k2), (3, .int k3), (4, .int k4), (5, .int k5)]) hx hb dX9_feed_95 hl (k := 0) rfl (by decide) (by decide) rfl (fun ls hl => ?_)
  refine lv_goto (tgt := 55) hx hb dX9_feed_98 (by decide) ?_
  refine lv_iload hx hb dX9_feed_55 (lv_at hl 0 rfl) ?_
  refine lv_bipush (v := 20) hx hb dX9_feed_57 (by decide) ?_
  refine lv_icmp_ge (tgt := 101) hx hb dX9_feed_59 (by decide) (fun h9 => absurd h9 (by decide)) (fun _ => ?_)
  refine lv_aload_n hx hb dX9_feed_62 rfl (lv_at hl 1 rfl) ?_
  refine va_get (D := D) (ci := 9) (v := .ref mTape) (C := RX9) (T := TX9) (N := 42) hx hb hts iuX9_feed_X9 hown hK hP 0 rfl rfl 4 (by decide) (htw (.fieldLink RX9 20 "MergeJudgeModel" "tape" "[B") (List.mem_of_getElem? (i := 2) rfl)) (fun _ h9 => h9) rfl dX9_feed_63 ?_
  refine lv_aload_n hx hb dX9_feed_66 rfl (lv_at hl 1 rfl) ?_
  refine va_get (D := D) (ci := 9) (v := .int 0) (C := RX9) (T := TX9) (N := 42) hx hb hts iuX9_feed_X9 hown hK hP 0 rfl rfl 5 (by decide) (htw (.fieldLink RX9 99 "MergeJudgeModel" "taped" "I") (List.mem_of_getElem? (i := 0) rfl)) (fun _ h9 => h9) rfl dX9_feed_67 ?_
  refine lv_iload hx hb dX9_feed_70 (lv_at hl 0 rfl) ?_
  refine lv_iadd hx hb dX9_feed_72 ?_
  refine cf_i 2 (by decide) ?_
  refine lv_aload_n hx hb dX9_feed_73 rfl (lv_at hl 1 rfl) ?_
  refine va_get (D := D) (ci := 9) (v := .ref mFive) (C := RX9) (T := TX9) (N := 42) hx hb hts iuX9_feed_X9 hown hK hP 0 rfl rfl 6 (by decide) (htw (.fieldLink RX9 24 "MergeJudgeModel" "five" "[I") (List.mem_of_getElem? (i := 1) rfl)) (fun _ h9 => h9) rfl dX9_feed_74 ?_
  refine lv_iload hx hb dX9_feed_77 (lv_at hl 0 rfl) ?_
  refine lv_iconst (v := 4) hx hb dX9_feed_79 (by decide) ?_
  refine lv_idiv hx hb dX9_feed_80 (by decide) ?_
  refine cf_i 0 (by decide) ?_
  refine va_iald hx hb hK hP 2 1 rfl rfl (vp_c (by decide)) dX9_feed_81 ?_
  refine cf_v (.int k) rfl ?_
  refine lv_bipush (v := 24) hx hb dX9_feed_82 (by decide) ?_
  refine lv_bipush (v := 8) hx hb dX9_feed_84 (by decide) ?_
  refine lv_iload hx hb dX9_feed_86 (lv_at hl 0 rfl) ?_
  refine lv_iconst (v := 4) hx hb dX9_feed_88 (by decide) ?_
  refine lv_irem hx hb dX9_feed_89 (by decide) ?_
  refine cf_i 2 (by decide) ?_
  refine lv_imul hx hb dX9_feed_90 ?_
  refine cf_i 16 (by decide) ?_
  refine lv_isub hx hb dX9_feed_91 ?_
  refine cf_i 8 (by decide) ?_
  refine lv_ishr hx hb dX9_feed_92 ?_
  refine lv_i2b (v := ((k >>> (8 &&& 31)).toInt8.toInt32)) hx hb dX9_feed_93 rfl ?_
  refine va_bast hx hb hK hP hD hS 1 0 rfl rfl (vp_c (by decide)) dX9_feed_94 (fun H locs hP hD hS => ?_)
  have hP : va_P D vwCl [(b0, .inr (9, [.int 0, .ref mWorld, .ref mImages, .ref mHasImage, .ref mTape, .int 0, .ref mFive, .int 0, .int 0, .int 0, .int 0, .int 0, .int 0, .int (-1), .ref mFresh, .ref mMergedBy, .int 0, .int 0, .int 0, .ref mIsValid, .ref mGoes, .ref mFarNow, .ref mFreeNow, .ref mIsPair, .ref mHitsBy, .int 0, .int 0, .int 0, .int 0, .int 0, .int 0, .int 0, .int 0, .int 0, .ref mWorthBy, .long 0, .long 0, .long 0, .ref mMany, .ref mWidth, .ref mNumbers, .ref mMoving])), (mTape, .inl (cs 0, 400, .inl (upd (upd (upd (fun _ => 0) 0 (vp_nar .byte ((k >>> (24 &&& 31)).toInt8.toInt32))) 1 (vp_nar .byte ((k >>> (16 &&& 31)).toInt8.toInt32))) 2 (vp_nar .byte ((k >>> (8 &&& 31)).toInt8.toInt32))))), (mFive, .inl (cs 1, 5, .inl (upd (upd (upd (upd (upd (fun _ => 0) 0 k) 1 k2) 2 k3) 3 k4) 4 k5)))] H := hP
  have hD : va_D A [(b0, .inr (9, [.int 0, .ref mWorld, .ref mImages, .ref mHasImage, .ref mTape, .int 0, .ref mFive, .int 0, .int 0, .int 0, .int 0, .int 0, .int 0, .int (-1), .ref mFresh, .ref mMergedBy, .int 0, .int 0, .int 0, .ref mIsValid, .ref mGoes, .ref mFarNow, .ref mFreeNow, .ref mIsPair, .ref mHitsBy, .int 0, .int 0, .int 0, .int 0, .int 0, .int 0, .int 0, .int 0, .int 0, .ref mWorthBy, .long 0, .long 0, .long 0, .ref mMany, .ref mWidth, .ref mNumbers, .ref mMoving])), (mTape, .inl (cs 0, 400, .inl (upd (upd (upd (fun _ => 0) 0 (vp_nar .byte ((k >>> (24 &&& 31)).toInt8.toInt32))) 1 (vp_nar .byte ((k >>> (16 &&& 31)).toInt8.toInt32))) 2 (vp_nar .byte ((k >>> (8 &&& 31)).toInt8.toInt32))))), (mFive, .inl (cs 1, 5, .inl (upd (upd (upd (upd (upd (fun _ => 0) 0 k) 1 k2) 2 k3) 3 k4) 4 k5)))] := hD
  refine lv_iinc (v := 3) (lv' := [(6, .int 3), (0, .ref b0), (1, .int k), (2, .int k2), (3, .int k3), (4, .int k4), (5, .int k5)]) hx hb dX9_feed_95 hl (k := 0) rfl (by decide) (by decide) rfl (fun ls hl => ?_)
  refine lv_goto (tgt := 55) hx hb dX9_feed_98 (by decide) ?_
  refine lv_iload hx hb dX9_feed_55 (lv_at hl 0 rfl) ?_
  refine lv_bipush (v := 20) hx hb dX9_feed_57 (by decide) ?_
  refine lv_icmp_ge (tgt := 101) hx hb dX9_feed_59 (by decide) (fun h9 => absurd h9 (by decide)) (fun _ => ?_)
  refine lv_aload_n hx hb dX9_feed_62 rfl (lv_at hl 1 rfl) ?_
  refine va_get (D := D) (ci := 9) (v := .ref mTape) (C := RX9) (T := TX9) (N := 42) hx hb hts iuX9_feed_X9 hown hK hP 0 rfl rfl 4 (by decide) (htw (.fieldLink RX9 20 "MergeJudgeModel" "tape" "[B") (List.mem_of_getElem? (i := 2) rfl)) (fun _ h9 => h9) rfl dX9_feed_63 ?_
  refine lv_aload_n hx hb dX9_feed_66 rfl (lv_at hl 1 rfl) ?_
  refine va_get (D := D) (ci := 9) (v := .int 0) (C := RX9) (T := TX9) (N := 42) hx hb hts iuX9_feed_X9 hown hK hP 0 rfl rfl 5 (by decide) (htw (.fieldLink RX9 99 "MergeJudgeModel" "taped" "I") (List.mem_of_getElem? (i := 0) rfl)) (fun _ h9 => h9) rfl dX9_feed_67 ?_
  refine lv_iload hx hb dX9_feed_70 (lv_at hl 0 rfl) ?_
  refine lv_iadd hx hb dX9_feed_72 ?_
  refine cf_i 3 (by decide) ?_
  refine lv_aload_n hx hb dX9_feed_73 rfl (lv_at hl 1 rfl) ?_
  refine va_get (D := D) (ci := 9) (v := .ref mFive) (C := RX9) (T := TX9) (N := 42) hx hb hts iuX9_feed_X9 hown hK hP 0 rfl rfl 6 (by decide) (htw (.fieldLink RX9 24 "MergeJudgeModel" "five" "[I") (List.mem_of_getElem? (i := 1) rfl)) (fun _ h9 => h9) rfl dX9_feed_74 ?_
  refine lv_iload hx hb dX9_feed_77 (lv_at hl 0 rfl) ?_
  refine lv_iconst (v := 4) hx hb dX9_feed_79 (by decide) ?_
  refine lv_idiv hx hb dX9_feed_80 (by decide) ?_
  refine cf_i 0 (by decide) ?_
  refine va_iald hx hb hK hP 2 1 rfl rfl (vp_c (by decide)) dX9_feed_81 ?_
  refine cf_v (.int k) rfl ?_
  refine lv_bipush (v := 24) hx hb dX9_feed_82 (by decide) ?_
  refine lv_bipush (v := 8) hx hb dX9_feed_84 (by decide) ?_
  refine lv_iload hx hb dX9_feed_86 (lv_at hl 0 rfl) ?_
  refine lv_iconst (v := 4) hx hb dX9_feed_88 (by decide) ?_
  refine lv_irem hx hb dX9_feed_89 (by decide) ?_
  refine cf_i 3 (by decide) ?_
  refine lv_imul hx hb dX9_feed_90 ?_
  refine cf_i 24 (by decide) ?_
  refine lv_isub hx hb dX9_feed_91 ?_
  refine cf_i 0 (by decide) ?_
  refine lv_ishr hx hb dX9_feed_92 ?_
  refine lv_i2b (v := ((k >>> (0 &&& 31)).toInt8.toInt32)) hx hb dX9_feed_93 rfl ?_
  refine va_bast hx hb hK hP hD hS 1 0 rfl rfl (vp_c (by decide)) dX9_feed_94 (fun H locs hP hD hS => ?_)
  have hP : va_P D vwCl [(b0, .inr (9, [.int 0, .ref mWorld, .ref mImages, .ref mHasImage, .ref mTape, .int 0, .ref mFive, .int 0, .int 0, .int 0, .int 0, .int 0, .int 0, .int (-1), .ref mFresh, .ref mMergedBy, .int 0, .int 0, .int 0, .ref mIsValid, .ref mGoes, .ref mFarNow, .ref mFreeNow, .ref mIsPair, .ref mHitsBy, .int 0, .int 0, .int 0, .int 0, .int 0, .int 0, .int 0, .int 0, .int 0, .ref mWorthBy, .long 0, .long 0, .long 0, .ref mMany, .ref mWidth, .ref mNumbers, .ref mMoving])), (mTape, .inl (cs 0, 400, .inl (upd (upd (upd (upd (fun _ => 0) 0 (vp_nar .byte ((k >>> (24 &&& 31)).toInt8.toInt32))) 1 (vp_nar .byte ((k >>> (16 &&& 31)).toInt8.toInt32))) 2 (vp_nar .byte ((k >>> (8 &&& 31)).toInt8.toInt32))) 3 (vp_nar .byte ((k >>> (0 &&& 31)).toInt8.toInt32))))), (mFive, .inl (cs 1, 5, .inl (upd (upd (upd (upd (upd (fun _ => 0) 0 k) 1 k2) 2 k3) 3 k4) 4 k5)))] H := hP
  have hD : va_D A [(b0, .inr (9, [.int 0, .ref mWorld, .ref mImages, .ref mHasImage, .ref mTape, .int 0, .ref mFive, .int 0, .int 0, .int 0, .int 0, .int 0, .int 0, .int (-1), .ref mFresh, .ref mMergedBy, .int 0, .int 0, .int 0, .ref mIsValid, .ref mGoes, .ref mFarNow, .ref mFreeNow, .ref mIsPair, .ref mHitsBy, .int 0, .int 0, .int 0, .int 0, .int 0, .int 0, .int 0, .int 0, .int 0, .ref mWorthBy, .long 0, .long 0, .long 0, .ref mMany, .ref mWidth, .ref mNumbers, .ref mMoving])), (mTape, .inl (cs 0, 400, .inl (upd (upd (upd (upd (fun _ => 0) 0 (vp_nar .byte ((k >>> (24 &&& 31)).toInt8.toInt32))) 1 (vp_nar .byte ((k >>> (16 &&& 31)).toInt8.toInt32))) 2 (vp_nar .byte ((k >>> (8 &&& 31)).toInt8.toInt32))) 3 (vp_nar .byte ((k >>> (0 &&& 31)).toInt8.toInt32))))), (mFive, .inl (cs 1, 5, .inl (upd (upd (upd (upd (upd (fun _ => 0) 0 k) 1 k2) 2 k3) 3 k4) 4 k5)))] := hD
  refine lv_iinc (v := 4) (lv' := [(6, .int 4), (0, .ref b0), (1, .int k), (2, .int k2), (3, .int k3), (4, .int k4), (5, .int k5)]) hx hb dX9_feed_95 hl (k := 0) rfl (by decide) (by decide) rfl (fun ls hl => ?_)
  refine lv_goto (tgt := 55) hx hb dX9_feed_98 (by decide) ?_
  refine lv_iload hx hb dX9_feed_55 (lv_at hl 0 rfl) ?_
  refine lv_bipush (v := 20) hx hb dX9_feed_57 (by decide) ?_
  refine lv_icmp_ge (tgt := 101) hx hb dX9_feed_59 (by decide) (fun h9 => absurd h9 (by decide)) (fun _ => ?_)
  refine lv_aload_n hx hb dX9_feed_62 rfl (lv_at hl 1 rfl) ?_
  refine va_get (D := D) (ci := 9) (v := .ref mTape) (C := RX9) (T := TX9) (N := 42) hx hb hts iuX9_feed_X9 hown hK hP 0 rfl rfl 4 (by decide) (htw (.fieldLink RX9 20 "MergeJudgeModel" "tape" "[B") (List.mem_of_getElem? (i := 2) rfl)) (fun _ h9 => h9) rfl dX9_feed_63 ?_
  refine lv_aload_n hx hb dX9_feed_66 rfl (lv_at hl 1 rfl) ?_
  refine va_get (D := D) (ci := 9) (v := .int 0) (C := RX9) (T := TX9) (N := 42) hx hb hts iuX9_feed_X9 hown hK hP 0 rfl rfl 5 (by decide) (htw (.fieldLink RX9 99 "MergeJudgeModel" "taped" "I") (List.mem_of_getElem? (i := 0) rfl)) (fun _ h9 => h9) rfl dX9_feed_67 ?_
  refine lv_iload hx hb dX9_feed_70 (lv_at hl 0 rfl) ?_
  refine lv_iadd hx hb dX9_feed_72 ?_
  refine cf_i 4 (by decide) ?_
  refine lv_aload_n hx hb dX9_feed_73 rfl (lv_at hl 1 rfl) ?_
  refine va_get (D := D) (ci := 9) (v := .ref mFive) (C := RX9) (T := TX9) (N := 42) hx hb hts iuX9_feed_X9 hown hK hP 0 rfl rfl 6 (by decide) (htw (.fieldLink RX9 24 "MergeJudgeModel" "five" "[I") (List.mem_of_getElem? (i := 1) rfl)) (fun _ h9 => h9) rfl dX9_feed_74 ?_
  refine lv_iload hx hb dX9_feed_77 (lv_at hl 0 rfl) ?_
  refine lv_iconst (v := 4) hx hb dX9_feed_79 (by decide) ?_
  refine lv_idiv hx hb dX9_feed_80 (by decide) ?_
  refine cf_i 1 (by decide) ?_
  refine va_iald hx hb hK hP 2 1 rfl rfl (vp_c (by decide)) dX9_feed_81 ?_
  refine cf_v (.int k2) rfl ?_
  refine lv_bipush (v := 24) hx hb dX9_feed_82 (by decide) ?_
  refine lv_bipush (v := 8) hx hb dX9_feed_84 (by decide) ?_
  refine lv_iload hx hb dX9_feed_86 (lv_at hl 0 rfl) ?_
  refine lv_iconst (v := 4) hx hb dX9_feed_88 (by decide) ?_
  refine lv_irem hx hb dX9_feed_89 (by decide) ?_
  refine cf_i 0 (by decide) ?_
  refine lv_imul hx hb dX9_feed_90 ?_
  refine cf_i 0 (by decide) ?_
  refine lv_isub hx hb dX9_feed_91 ?_
  refine cf_i 24 (by decide) ?_
  refine lv_ishr hx hb dX9_feed_92 ?_
  refine lv_i2b (v := ((k2 >>> (24 &&& 31)).toInt8.toInt32)) hx hb dX9_feed_93 rfl ?_
  refine va_bast hx hb hK hP hD hS 1 0 rfl rfl (vp_c (by decide)) dX9_feed_94 (fun H locs hP hD hS => ?_)
  have hP : va_P D vwCl [(b0, .inr (9, [.int 0, .ref mWorld, .ref mImages, .ref mHasImage, .ref mTape, .int 0, .ref mFive, .int 0, .int 0, .int 0, .int 0, .int 0, .int 0, .int (-1), .ref mFresh, .ref mMergedBy, .int 0, .int 0, .int 0, .ref mIsValid, .ref mGoes, .ref mFarNow, .ref mFreeNow, .ref mIsPair, .ref mHitsBy, .int 0, .int 0, .int 0, .int 0, .int 0, .int 0, .int 0, .int 0, .int 0, .ref mWorthBy, .long 0, .long 0, .long 0, .ref mMany, .ref mWidth, .ref mNumbers, .ref mMoving])), (mTape, .inl (cs 0, 400, .inl (upd (upd (upd (upd (upd (fun _ => 0) 0 (vp_nar .byte ((k >>> (24 &&& 31)).toInt8.toInt32))) 1 (vp_nar .byte ((k >>> (16 &&& 31)).toInt8.toInt32))) 2 (vp_nar .byte ((k >>> (8 &&& 31)).toInt8.toInt32))) 3 (vp_nar .byte ((k >>> (0 &&& 31)).toInt8.toInt32))) 4 (vp_nar .byte ((k2 >>> (24 &&& 31)).toInt8.toInt32))))), (mFive, .inl (cs 1, 5, .inl (upd (upd (upd (upd (upd (fun _ => 0) 0 k) 1 k2) 2 k3) 3 k4) 4 k5)))] H := hP
  have hD : va_D A [(b0, .inr (9, [.int 0, .ref mWorld, .ref mImages, .ref mHasImage, .ref mTape, .int 0, .ref mFive, .int 0, .int 0, .int 0, .int 0, .int 0, .int 0, .int (-1), .ref mFresh, .ref mMergedBy, .int 0, .int 0, .int 0, .ref mIsValid, .ref mGoes, .ref mFarNow, .ref mFreeNow, .ref mIsPair, .ref mHitsBy, .int 0, .int 0, .int 0, .int 0, .int 0, .int 0, .int 0, .int 0, .int 0, .ref mWorthBy, .long 0, .long 0, .long 0, .ref mMany, .ref mWidth, .ref mNumbers, .ref mMoving])), (mTape, .inl (cs 0, 400, .inl (upd (upd (upd (upd (upd (fun _ => 0) 0 (vp_nar .byte ((k >>> (24 &&& 31)).toInt8.toInt32))) 1 (vp_nar .byte ((k >>> (16 &&& 31)).toInt8.toInt32))) 2 (vp_nar .byte ((k >>> (8 &&& 31)).toInt8.toInt32))) 3 (vp_nar .byte ((k >>> (0 &&& 31)).toInt8.toInt32))) 4 (vp_nar .byte ((k2 >>> (24 &&& 31)).toInt8.toInt32))))), (mFive, .inl (cs 1, 5, .inl (upd (upd (upd (upd (upd (fun _ => 0) 0 k) 1 k2) 2 k3) 3 k4) 4 k5)))] := hD
  refine lv_iinc (v := 5) (lv' := [(6, .int 5), (0, .ref b0), (1, .int k), (2, .int k2), (3, .int k3), (4, .int k4), (5, .int k5)]) hx hb dX9_feed_95 hl (k := 0) rfl (by decide) (by decide) rfl (fun ls hl => ?_)
  refine lv_goto (tgt := 55) hx hb dX9_feed_98 (by decide) ?_
  refine lv_iload hx hb dX9_feed_55 (lv_at hl 0 rfl) ?_
  refine lv_bipush (v := 20) hx hb dX9_feed_57 (by decide) ?_
  refine lv_icmp_ge (tgt := 101) hx hb dX9_feed_59 (by decide) (fun h9 => absurd h9 (by decide)) (fun _ => ?_)
  refine lv_aload_n hx hb dX9_feed_62 rfl (lv_at hl 1 rfl) ?_
  refine va_get (D := D) (ci := 9) (v := .ref mTape) (C := RX9) (T := TX9) (N := 42) hx hb hts iuX9_feed_X9 hown hK hP 0 rfl rfl 4 (by decide) (htw (.fieldLink RX9 20 "MergeJudgeModel" "tape" "[B") (List.mem_of_getElem? (i := 2) rfl)) (fun _ h9 => h9) rfl dX9_feed_63 ?_
  refine lv_aload_n hx hb dX9_feed_66 rfl (lv_at hl 1 rfl) ?_
  refine va_get (D := D) (ci := 9) (v := .int 0) (C := RX9) (T := TX9) (N := 42) hx hb hts iuX9_feed_X9 hown hK hP 0 rfl rfl 5 (by decide) (htw (.fieldLink RX9 99 "MergeJudgeModel" "taped" "I") (List.mem_of_getElem? (i := 0) rfl)) (fun _ h9 => h9) rfl dX9_feed_67 ?_
  refine lv_iload hx hb dX9_feed_70 (lv_at hl 0 rfl) ?_
  refine lv_iadd hx hb dX9_feed_72 ?_
  refine cf_i 5 (by decide) ?_
  refine lv_aload_n hx hb dX9_feed_73 rfl (lv_at hl 1 rfl) ?_
  refine va_get (D := D) (ci := 9) (v := .ref mFive) (C := RX9) (T := TX9) (N := 42) hx hb hts iuX9_feed_X9 hown hK hP 0 rfl rfl 6 (by decide) (htw (.fieldLink RX9 24 "MergeJudgeModel" "five" "[I") (List.mem_of_getElem? (i := 1) rfl)) (fun _ h9 => h9) rfl dX9_feed_74 ?_
  refine lv_iload hx hb dX9_feed_77 (lv_at hl 0 rfl) ?_
  refine lv_iconst (v := 4) hx hb dX9_feed_79 (by decide) ?_
  refine lv_idiv hx hb dX9_feed_80 (by decide) ?_
  refine cf_i 1 (by decide) ?_
  refine va_iald hx hb hK hP 2 1 rfl rfl (vp_c (by decide)) dX9_feed_81 ?_
  refine cf_v (.int k2) rfl ?_
  refine lv_bipush (v := 24) hx hb dX9_feed_82 (by decide) ?_
  refine lv_bipush (v := 8) hx hb dX9_feed_84 (by decide) ?_
  refine lv_iload hx hb dX9_feed_86 (lv_at hl 0 rfl) ?_
  refine lv_iconst (v := 4) hx hb dX9_feed_88 (by decide) ?_
  refine lv_irem hx hb dX9_feed_89 (by decide) ?_
  refine cf_i 1 (by decide) ?_
  refine lv_imul hx hb dX9_feed_90 ?_
  refine cf_i 8 (by decide) ?_
  refine lv_isub hx hb dX9_feed_91 ?_
  refine cf_i 16 (by decide) ?_
  refine lv_ishr hx hb dX9_feed_92 ?_
  refine lv_i2b (v := ((k2 >>> (16 &&& 31)).toInt8.toInt32)) hx hb dX9_feed_93 rfl ?_
  refine va_bast hx hb hK hP hD hS 1 0 rfl rfl (vp_c (by decide)) dX9_feed_94 (fun H locs hP hD hS => ?_)
  have hP : va_P D vwCl [(b0, .inr (9, [.int 0, .ref mWorld, .ref mImages, .ref mHasImage, .ref mTape, .int 0, .ref mFive, .int 0, .int 0, .int 0, .int 0, .int 0, .int 0, .int (-1), .ref mFresh, .ref mMergedBy, .int 0, .int 0, .int 0, .ref mIsValid, .ref mGoes, .ref mFarNow, .ref mFreeNow, .ref mIsPair, .ref mHitsBy, .int 0, .int 0, .int 0, .int 0, .int 0, .int 0, .int 0, .int 0, .int 0, .ref mWorthBy, .long 0, .long 0, .long 0, .ref mMany, .ref mWidth, .ref mNumbers, .ref mMoving])), (mTape, .inl (cs 0, 400, .inl (upd (upd (upd (upd (upd (upd (fun _ => 0) 0 (vp_nar .byte ((k >>> (24 &&& 31)).toInt8.toInt32))) 1 (vp_nar .byte ((k >>> (16 &&& 31)).toInt8.toInt32))) 2 (vp_nar .byte ((k >>> (8 &&& 31)).toInt8.toInt32))) 3 (vp_nar .byte ((k >>> (0 &&& 31)).toInt8.toInt32))) 4 (vp_nar .byte ((k2 >>> (24 &&& 31)).toInt8.toInt32))) 5 (vp_nar .byte ((k2 >>> (16 &&& 31)).toInt8.toInt32))))), (mFive, .inl (cs 1, 5, .inl (upd (upd (upd (upd (upd (fun _ => 0) 0 k) 1 k2) 2 k3) 3 k4) 4 k5)))] H := hP
  have hD : va_D A [(b0, .inr (9, [.int 0, .ref mWorld, .ref mImages, .ref mHasImage, .ref mTape, .int 0, .ref mFive, .int 0, .int 0, .int 0, .int 0, .int 0, .int 0, .int (-1), .ref mFresh, .ref mMergedBy, .int 0, .int 0, .int 0, .ref mIsValid, .ref mGoes, .ref mFarNow, .ref mFreeNow, .ref mIsPair, .ref mHitsBy, .int 0, .int 0, .int 0, .int 0, .int 0, .int 0, .int 0, .int 0, .int 0, .ref mWorthBy, .long 0, .long 0, .long 0, .ref mMany, .ref mWidth, .ref mNumbers, .ref mMoving])), (mTape, .inl (cs 0, 400, .inl (upd (upd (upd (upd (upd (upd (fun _ => 0) 0 (vp_nar .byte ((k >>> (24 &&& 31)).toInt8.toInt32))) 1 (vp_nar .byte ((k >>> (16 &&& 31)).toInt8.toInt32))) 2 (vp_nar .byte ((k >>> (8 &&& 31)).toInt8.toInt32))) 3 (vp_nar .byte ((k >>> (0 &&& 31)).toInt8.toInt32))) 4 (vp_nar .byte ((k2 >>> (24 &&& 31)).toInt8.toInt32))) 5 (vp_nar .byte ((k2 >>> (16 &&& 31)).toInt8.toInt32))))), (mFive, .inl (cs 1, 5, .inl (upd (upd (upd (upd (upd (fun _ => 0) 0 k) 1 k2) 2 k3) 3 k4) 4 k5)))] := hD
  refine lv_iinc (v := 6) (lv' := [(6, .int 6), (0, .ref b0), (1, .int k), (2, .int k2), (3, .int k3), (4, .int k4), (5, .int k5)]) hx hb dX9_feed_95 hl (k := 0) rfl (by decide) (by decide) rfl (fun ls hl => ?_)
  refine lv_goto (tgt := 55) hx hb dX9_feed_98 (by decide) ?_
  refine lv_iload hx hb dX9_feed_55 (lv_at hl 0 rfl) ?_
  refine lv_bipush (v := 20) hx hb dX9_feed_57 (by decide) ?_
  refine lv_icmp_ge (tgt := 101) hx hb dX9_feed_59 (by decide) (fun h9 => absurd h9 (by decide)) (fun _ => ?_)
  refine lv_aload_n hx hb dX9_feed_62 rfl (lv_at hl 1 rfl) ?_
  refine va_get (D := D) (ci := 9) (v := .ref mTape) (C := RX9) (T := TX9) (N := 42) hx hb hts iuX9_feed_X9 hown hK hP 0 rfl rfl 4 (by decide) (htw (.fieldLink RX9 20 "MergeJudgeModel" "tape" "[B") (List.mem_of_getElem? (i := 2) rfl)) (fun _ h9 => h9) rfl dX9_feed_63 ?_
  refine lv_aload_n hx hb dX9_feed_66 rfl (lv_at hl 1 rfl) ?_
  refine va_get (D := D) (ci := 9) (v := .int 0) (C := RX9) (T := TX9) (N := 42) hx hb hts iuX9_feed_X9 hown hK hP 0 rfl rfl 5 (by decide) (htw (.fieldLink RX9 99 "MergeJudgeModel" "taped" "I") (List.mem_of_getElem? (i := 0) rfl)) (fun _ h9 => h9) rfl dX9_feed_67 ?_
  refine lv_iload hx hb dX9_feed_70 (lv_at hl 0 rfl) ?_
  refine lv_iadd hx hb dX9_feed_72 ?_
  refine cf_i 6 (by decide) ?_
  refine lv_aload_n hx hb dX9_feed_73 rfl (lv_at hl 1 rfl) ?_
  refine va_get (D := D) (ci := 9) (v := .ref mFive) (C := RX9) (T := TX9) (N := 42) hx hb hts iuX9_feed_X9 hown hK hP 0 rfl rfl 6 (by decide) (htw (.fieldLink RX9 24 "MergeJudgeModel" "five" "[I") (List.mem_of_getElem? (i := 1) rfl)) (fun _ h9 => h9) rfl dX9_feed_74 ?_
  refine lv_iload hx hb dX9_feed_77 (lv_at hl 0 rfl) ?_
  refine lv_iconst (v := 4) hx hb dX9_feed_79 (by decide) ?_
  refine lv_idiv hx hb dX9_feed_80 (by decide) ?_
  refine cf_i 1 (by decide) ?_
  refine va_iald hx hb hK hP 2 1 rfl rfl (vp_c (by decide)) dX9_feed_81 ?_
  refine cf_v (.int k2) rfl ?_
  refine lv_bipush (v := 24) hx hb dX9_feed_82 (by decide) ?_
  refine lv_bipush (v := 8) hx hb dX9_feed_84 (by decide) ?_
  refine lv_iload hx hb dX9_feed_86 (lv_at hl 0 rfl) ?_
  refine lv_iconst (v := 4) hx hb dX9_feed_88 (by decide) ?_
  refine lv_irem hx hb dX9_feed_89 (by decide) ?_
  refine cf_i 2 (by decide) ?_
  refine lv_imul hx hb dX9_feed_90 ?_
  refine cf_i 16 (by decide) ?_
  refine lv_isub hx hb dX9_feed_91 ?_
  refine cf_i 8 (by decide) ?_
  refine lv_ishr hx hb dX9_feed_92 ?_
  refine lv_i2b (v := ((k2 >>> (8 &&& 31)).toInt8.toInt32)) hx hb dX9_feed_93 rfl ?_
  refine va_bast hx hb hK hP hD hS 1 0 rfl rfl (vp_c (by decide)) dX9_feed_94 (fun H locs hP hD hS => ?_)
  have hP : va_P D vwCl [(b0, .inr (9, [.int 0, .ref mWorld, .ref mImages, .ref mHasImage, .ref mTape, .int 0, .ref mFive, .int 0, .int 0, .int 0, .int 0, .int 0, .int 0, .int (-1), .ref mFresh, .ref mMergedBy, .int 0, .int 0, .int 0, .ref mIsValid, .ref mGoes, .ref mFarNow, .ref mFreeNow, .ref mIsPair, .ref mHitsBy, .int 0, .int 0, .int 0, .int 0, .int 0, .int 0, .int 0, .int 0, .int 0, .ref mWorthBy, .long 0, .long 0, .long 0, .ref mMany, .ref mWidth, .ref mNumbers, .ref mMoving])), (mTape, .inl (cs 0, 400, .inl (upd (upd (upd (upd (upd (upd (upd (fun _ => 0) 0 (vp_nar .byte ((k >>> (24 &&& 31)).toInt8.toInt32))) 1 (vp_nar .byte ((k >>> (16 &&& 31)).toInt8.toInt32))) 2 (vp_nar .byte ((k >>> (8 &&& 31)).toInt8.toInt32))) 3 (vp_nar .byte ((k >>> (0 &&& 31)).toInt8.toInt32))) 4 (vp_nar .byte ((k2 >>> (24 &&& 31)).toInt8.toInt32))) 5 (vp_nar .byte ((k2 >>> (16 &&& 31)).toInt8.toInt32))) 6 (vp_nar .byte ((k2 >>> (8 &&& 31)).toInt8.toInt32))))), (mFive, .inl (cs 1, 5, .inl (upd (upd (upd (upd (upd (fun _ => 0) 0 k) 1 k2) 2 k3) 3 k4) 4 k5)))] H := hP
  have hD : va_D A [(b0, .inr (9, [.int 0, .ref mWorld, .ref mImages, .ref mHasImage, .ref mTape, .int 0, .ref mFive, .int 0, .int 0, .int 0, .int 0, .int 0, .int 0, .int (-1), .ref mFresh, .ref mMergedBy, .int 0, .int 0, .int 0, .ref mIsValid, .ref mGoes, .ref mFarNow, .ref mFreeNow, .ref mIsPair, .ref mHitsBy, .int 0, .int 0, .int 0, .int 0, .int 0, .int 0, .int 0, .int 0, .int 0, .ref mWorthBy, .long 0, .long 0, .long 0, .ref mMany, .ref mWidth, .ref mNumbers, .ref mMoving])), (mTape, .inl (cs 0, 400, .inl (upd (upd (upd (upd (upd (upd (upd (fun _ => 0) 0 (vp_nar .byte ((k >>> (24 &&& 31)).toInt8.toInt32))) 1 (vp_nar .byte ((k >>> (16 &&& 31)).toInt8.toInt32))) 2 (vp_nar .byte ((k >>> (8 &&& 31)).toInt8.toInt32))) 3 (vp_nar .byte ((k >>> (0 &&& 31)).toInt8.toInt32))) 4 (vp_nar .byte ((k2 >>> (24 &&& 31)).toInt8.toInt32))) 5 (vp_nar .byte ((k2 >>> (16 &&& 31)).toInt8.toInt32))) 6 (vp_nar .byte ((k2 >>> (8 &&& 31)).toInt8.toInt32))))), (mFive, .inl (cs 1, 5, .inl (upd (upd (upd (upd (upd (fun _ => 0) 0 k) 1 k2) 2 k3) 3 k4) 4 k5)))] := hD
  refine lv_iinc (v := 7) (lv' := [(6, .int 7), (0, .ref b0), (1, .int k), (2, .int k2), (3, .int k3), (4, .int k4), (5, .int k5)]) hx hb dX9_feed_95 hl (k := 0) rfl (by decide) (by decide) rfl (fun ls hl => ?_)
  refine lv_goto (tgt := 55) hx hb dX9_feed_98 (by decide) ?_
  refine lv_iload hx hb dX9_feed_55 (lv_at hl 0 rfl) ?_
  refine lv_bipush (v := 20) hx hb dX9_feed_57 (by decide) ?_
  refine lv_icmp_ge (tgt := 101) hx hb dX9_feed_59 (by decide) (fun h9 => absurd h9 (by decide)) (fun _ => ?_)
  refine lv_aload_n hx hb dX9_feed_62 rfl (lv_at hl 1 rfl) ?_
  refine va_get (D := D) (ci := 9) (v := .ref mTape) (C := RX9) (T := TX9) (N := 42) hx hb hts iuX9_feed_X9 hown hK hP 0 rfl rfl 4 (by decide) (htw (.fieldLink RX9 20 "MergeJudgeModel" "tape" "[B") (List.mem_of_getElem? (i := 2) rfl)) (fun _ h9 => h9) rfl dX9_feed_63 ?_
  refine lv_aload_n hx hb dX9_feed_66 rfl (lv_at hl 1 rfl) ?_
  refine va_get (D := D) (ci := 9) (v := .int 0) (C := RX9) (T := TX9) (N := 42) hx hb hts iuX9_feed_X9 hown hK hP 0 rfl rfl 5 (by decide) (htw (.fieldLink RX9 99 "MergeJudgeModel" "taped" "I") (List.mem_of_getElem? (i := 0) rfl)) (fun _ h9 => h9) rfl dX9_feed_67 ?_
  refine lv_iload hx hb dX9_feed_70 (lv_at hl 0 rfl) ?_
  refine lv_iadd hx hb dX9_feed_72 ?_
  refine cf_i 7 (by decide) ?_
  refine lv_aload_n hx hb dX9_feed_73 rfl (lv_at hl 1 rfl) ?_
  refine va_get (D := D) (ci := 9) (v := .ref mFive) (C := RX9) (T := TX9) (N := 42) hx hb hts iuX9_feed_X9 hown hK hP 0 rfl rfl 6 (by decide) (htw (.fieldLink RX9 24 "MergeJudgeModel" "five" "[I") (List.mem_of_getElem? (i := 1) rfl)) (fun _ h9 => h9) rfl dX9_feed_74 ?_
  refine lv_iload hx hb dX9_feed_77 (lv_at hl 0 rfl) ?_
  refine lv_iconst (v := 4) hx hb dX9_feed_79 (by decide) ?_
  refine lv_idiv hx hb dX9_feed_80 (by decide) ?_
  refine cf_i 1 (by decide) ?_
  refine va_iald hx hb hK hP 2 1 rfl rfl (vp_c (by decide)) dX9_feed_81 ?_
  refine cf_v (.int k2) rfl ?_
  refine lv_bipush (v := 24) hx hb dX9_feed_82 (by decide) ?_
  refine lv_bipush (v := 8) hx hb dX9_feed_84 (by decide) ?_
  refine lv_iload hx hb dX9_feed_86 (lv_at hl 0 rfl) ?_
  refine lv_iconst (v := 4) hx hb dX9_feed_88 (by decide) ?_
  refine lv_irem hx hb dX9_feed_89 (by decide) ?_
  refine cf_i 3 (by decide) ?_
  refine lv_imul hx hb dX9_feed_90 ?_
  refine cf_i 24 (by decide) ?_
  refine lv_isub hx hb dX9_feed_91 ?_
  refine cf_i 0 (by decide) ?_
  refine lv_ishr hx hb dX9_feed_92 ?_
  refine lv_i2b (v := ((k2 >>> (0 &&& 31)).toInt8.toInt32)) hx hb dX9_feed_93 rfl ?_
  refine va_bast hx hb hK hP hD hS 1 0 rfl rfl (vp_c (by decide)) dX9_feed_94 (fun H locs hP hD hS => ?_)
  have hP : va_P D vwCl [(b0, .inr (9, [.int 0, .ref mWorld, .ref mImages, .ref mHasImage, .ref mTape, .int 0, .ref mFive, .int 0, .int 0, .int 0, .int 0, .int 0, .int 0, .int (-1), .ref mFresh, .ref mMergedBy, .int 0, .int 0, .int 0, .ref mIsValid, .ref mGoes, .ref mFarNow, .ref mFreeNow, .ref mIsPair, .ref mHitsBy, .int 0, .int 0, .int 0, .int 0, .int 0, .int 0, .int 0, .int 0, .int 0, .ref mWorthBy, .long 0, .long 0, .long 0, .ref mMany, .ref mWidth, .ref mNumbers, .ref mMoving])), (mTape, .inl (cs 0, 400, .inl (upd (upd (upd (upd (upd (upd (upd (upd (fun _ => 0) 0 (vp_nar .byte ((k >>> (24 &&& 31)).toInt8.toInt32))) 1 (vp_nar .byte ((k >>> (16 &&& 31)).toInt8.toInt32))) 2 (vp_nar .byte ((k >>> (8 &&& 31)).toInt8.toInt32))) 3 (vp_nar .byte ((k >>> (0 &&& 31)).toInt8.toInt32))) 4 (vp_nar .byte ((k2 >>> (24 &&& 31)).toInt8.toInt32))) 5 (vp_nar .byte ((k2 >>> (16 &&& 31)).toInt8.toInt32))) 6 (vp_nar .byte ((k2 >>> (8 &&& 31)).toInt8.toInt32))) 7 (vp_nar .byte ((k2 >>> (0 &&& 31)).toInt8.toInt32))))), (mFive, .inl (cs 1, 5, .inl (upd (upd (upd (upd (upd (fun _ => 0) 0 k) 1 k2) 2 k3) 3 k4) 4 k5)))] H := hP
  have hD : va_D A [(b0, .inr (9, [.int 0, .ref mWorld, .ref mImages, .ref mHasImage, .ref mTape, .int 0, .ref mFive, .int 0, .int 0, .int 0, .int 0, .int 0, .int 0, .int (-1), .ref mFresh, .ref mMergedBy, .int 0, .int 0, .int 0, .ref mIsValid, .ref mGoes, .ref mFarNow, .ref mFreeNow, .ref mIsPair, .ref mHitsBy, .int 0, .int 0, .int 0, .int 0, .int 0, .int 0, .int 0, .int 0, .int 0, .ref mWorthBy, .long 0, .long 0, .long 0, .ref mMany, .ref mWidth, .ref mNumbers, .ref mMoving])), (mTape, .inl (cs 0, 400, .inl (upd (upd (upd (upd (upd (upd (upd (upd (fun _ => 0) 0 (vp_nar .byte ((k >>> (24 &&& 31)).toInt8.toInt32))) 1 (vp_nar .byte ((k >>> (16 &&& 31)).toInt8.toInt32))) 2 (vp_nar .byte ((k >>> (8 &&& 31)).toInt8.toInt32))) 3 (vp_nar .byte ((k >>> (0 &&& 31)).toInt8.toInt32))) 4 (vp_nar .byte ((k2 >>> (24 &&& 31)).toInt8.toInt32))) 5 (vp_nar .byte ((k2 >>> (16 &&& 31)).toInt8.toInt32))) 6 (vp_nar .byte ((k2 >>> (8 &&& 31)).toInt8.toInt32))) 7 (vp_nar .byte ((k2 >>> (0 &&& 31)).toInt8.toInt32))))), (mFive, .inl (cs 1, 5, .inl (upd (upd (upd (upd (upd (fun _ => 0) 0 k) 1 k2) 2 k3) 3 k4) 4 k5)))] := hD
  refine lv_iinc (v := 8) (lv' := [(6, .int 8), (0, .ref b0), (1, .int k), (2, .int k2), (3, .int k3), (4, .int k4), (5, .int k5)]) hx hb dX9_feed_95 hl (k := 0) rfl (by decide) (by decide) rfl (fun ls hl => ?_)
  refine lv_goto (tgt := 55) hx hb dX9_feed_98 (by decide) ?_
  refine lv_iload hx hb dX9_feed_55 (lv_at hl 0 rfl) ?_
  refine lv_bipush (v := 20) hx hb dX9_feed_57 (by decide) ?_
  refine lv_icmp_ge (tgt := 101) hx hb dX9_feed_59 (by decide) (fun h9 => absurd h9 (by decide)) (fun _ => ?_)
  refine lv_aload_n hx hb dX9_feed_62 rfl (lv_at hl 1 rfl) ?_
  refine va_get (D := D) (ci := 9) (v := .ref mTape) (C := RX9) (T := TX9) (N := 42) hx hb hts iuX9_feed_X9 hown hK hP 0 rfl rfl 4 (by decide) (htw (.fieldLink RX9 20 "MergeJudgeModel" "tape" "[B") (List.mem_of_getElem? (i := 2) rfl)) (fun _ h9 => h9) rfl dX9_feed_63 ?_
  refine lv_aload_n hx hb dX9_feed_66 rfl (lv_at hl 1 rfl) ?_
  refine va_get (D := D) (ci := 9) (v := .int 0) (C := RX9) (T := TX9) (N := 42) hx hb hts iuX9_feed_X9 hown hK hP 0 rfl rfl 5 (by decide) (htw (.fieldLink RX9 99 "MergeJudgeModel" "taped" "I") (List.mem_of_getElem? (i := 0) rfl)) (fun _ h9 => h9) rfl dX9_feed_67 ?_
  refine lv_iload hx hb dX9_feed_70 (lv_at hl 0 rfl) ?_
  refine lv_iadd hx hb dX9_feed_72 ?_
  refine cf_i 8 (by decide) ?_
  refine lv_aload_n hx hb dX9_feed_73 rfl (lv_at hl 1 rfl) ?_
  refine va_get (D := D) (ci := 9) (v := .ref mFive) (C := RX9) (T := TX9) (N := 42) hx hb hts iuX9_feed_X9 hown hK hP 0 rfl rfl 6 (by decide) (htw (.fieldLink RX9 24 "MergeJudgeModel" "five" "[I") (List.mem_of_getElem? (i := 1) rfl)) (fun _ h9 => h9) rfl dX9_feed_74 ?_
  refine lv_iload hx hb dX9_feed_77 (lv_at hl 0 rfl) ?_
  refine lv_iconst (v := 4) hx hb dX9_feed_79 (by decide) ?_
  refine lv_idiv hx hb dX9_feed_80 (by decide) ?_
  refine cf_i 2 (by decide) ?_
  refine va_iald hx hb hK hP 2 1 rfl rfl (vp_c (by decide)) dX9_feed_81 ?_
  refine cf_v (.int k3) rfl ?_
  refine lv_bipush (v := 24) hx hb dX9_feed_82 (by decide) ?_
  refine lv_bipush (v := 8) hx hb dX9_feed_84 (by decide) ?_
  refine lv_iload hx hb dX9_feed_86 (lv_at hl 0 rfl) ?_
  refine lv_iconst (v := 4) hx hb dX9_feed_88 (by decide) ?_
  refine lv_irem hx hb dX9_feed_89 (by decide) ?_
  refine cf_i 0 (by decide) ?_
  refine lv_imul hx hb dX9_feed_90 ?_
  refine cf_i 0 (by decide) ?_
  refine lv_isub hx hb dX9_feed_91 ?_
  refine cf_i 24 (by decide) ?_
  refine lv_ishr hx hb dX9_feed_92 ?_
  refine lv_i2b (v := ((k3 >>> (24 &&& 31)).toInt8.toInt32)) hx hb dX9_feed_93 rfl ?_
  refine va_bast hx hb hK hP hD hS 1 0 rfl rfl (vp_c (by decide)) dX9_feed_94 (fun H locs hP hD hS => ?_)
  have hP : va_P D vwCl [(b0, .inr (9, [.int 0, .ref mWorld, .ref mImages, .ref mHasImage, .ref mTape, .int 0, .ref mFive, .int 0, .int 0, .int 0, .int 0, .int 0, .int 0, .int (-1), .ref mFresh, .ref mMergedBy, .int 0, .int 0, .int 0, .ref mIsValid, .ref mGoes, .ref mFarNow, .ref mFreeNow, .ref mIsPair, .ref mHitsBy, .int 0, .int 0, .int 0, .int 0, .int 0, .int 0, .int 0, .int 0, .int 0, .ref mWorthBy, .long 0, .long 0, .long 0, .ref mMany, .ref mWidth, .ref mNumbers, .ref mMoving])), (mTape, .inl (cs 0, 400, .inl (upd (upd (upd (upd (upd (upd (upd (upd (upd (fun _ => 0) 0 (vp_nar .byte ((k >>> (24 &&& 31)).toInt8.toInt32))) 1 (vp_nar .byte ((k >>> (16 &&& 31)).toInt8.toInt32))) 2 (vp_nar .byte ((k >>> (8 &&& 31)).toInt8.toInt32))) 3 (vp_nar .byte ((k >>> (0 &&& 31)).toInt8.toInt32))) 4 (vp_nar .byte ((k2 >>> (24 &&& 31)).toInt8.toInt32))) 5 (vp_nar .byte ((k2 >>> (16 &&& 31)).toInt8.toInt32))) 6 (vp_nar .byte ((k2 >>> (8 &&& 31)).toInt8.toInt32))) 7 (vp_nar .byte ((k2 >>> (0 &&& 31)).toInt8.toInt32))) 8 (vp_nar .byte ((k3 >>> (24 &&& 31)).toInt8.toInt32))))), (mFive, .inl (cs 1, 5, .inl (upd (upd (upd (upd (upd (fun _ => 0) 0 k) 1 k2) 2 k3) 3 k4) 4 k5)))] H := hP
  have hD : va_D A [(b0, .inr (9, [.int 0, .ref mWorld, .ref mImages, .ref mHasImage, .ref mTape, .int 0, .ref mFive, .int 0, .int 0, .int 0, .int 0, .int 0, .int 0, .int (-1), .ref mFresh, .ref mMergedBy, .int 0, .int 0, .int 0, .ref mIsValid, .ref mGoes, .ref mFarNow, .ref mFreeNow, .ref mIsPair, .ref mHitsBy, .int 0, .int 0, .int 0, .int 0, .int 0, .int 0, .int 0, .int 0, .int 0, .ref mWorthBy, .long 0, .long 0, .long 0, .ref mMany, .ref mWidth, .ref mNumbers, .ref mMoving])), (mTape, .inl (cs 0, 400, .inl (upd (upd (upd (upd (upd (upd (upd (upd (upd (fun _ => 0) 0 (vp_nar .byte ((k >>> (24 &&& 31)).toInt8.toInt32))) 1 (vp_nar .byte ((k >>> (16 &&& 31)).toInt8.toInt32))) 2 (vp_nar .byte ((k >>> (8 &&& 31)).toInt8.toInt32))) 3 (vp_nar .byte ((k >>> (0 &&& 31)).toInt8.toInt32))) 4 (vp_nar .byte ((k2 >>> (24 &&& 31)).toInt8.toInt32))) 5 (vp_nar .byte ((k2 >>> (16 &&& 31)).toInt8.toInt32))) 6 (vp_nar .byte ((k2 >>> (8 &&& 31)).toInt8.toInt32))) 7 (vp_nar .byte ((k2 >>> (0 &&& 31)).toInt8.toInt32))) 8 (vp_nar .byte ((k3 >>> (24 &&& 31)).toInt8.toInt32))))), (mFive, .inl (cs 1, 5, .inl (upd (upd (upd (upd (upd (fun _ => 0) 0 k) 1 k2) 2 k3) 3 k4) 4 k5)))] := hD
  refine lv_iinc (v := 9) (lv' := [(6, .int 9), (0, .ref b0), (1, .int k), (2, .int k2), (3, .int k3), (4, .int k4), (5, .int k5)]) hx hb dX9_feed_95 hl (k := 0) rfl (by decide) (by decide) rfl (fun ls hl => ?_)
  refine lv_goto (tgt := 55) hx hb dX9_feed_98 (by decide) ?_
  refine lv_iload hx hb dX9_feed_55 (lv_at hl 0 rfl) ?_
  refine lv_bipush (v := 20) hx hb dX9_feed_57 (by decide) ?_
  refine lv_icmp_ge (tgt := 101) hx hb dX9_feed_59 (by decide) (fun h9 => absurd h9 (by decide)) (fun _ => ?_)
  refine lv_aload_n hx hb dX9_feed_62 rfl (lv_at hl 1 rfl) ?_
  refine va_get (D := D) (ci := 9) (v := .ref mTape) (C := RX9) (T := TX9) (N := 42) hx hb hts iuX9_feed_X9 hown hK hP 0 rfl rfl 4 (by decide) (htw (.fieldLink RX9 20 "MergeJudgeModel" "tape" "[B") (List.mem_of_getElem? (i := 2) rfl)) (fun _ h9 => h9) rfl dX9_feed_63 ?_
  refine lv_aload_n hx hb dX9_feed_66 rfl (lv_at hl 1 rfl) ?_
  refine va_get (D := D) (ci := 9) (v := .int 0) (C := RX9) (T := TX9) (N := 42) hx hb hts iuX9_feed_X9 hown hK hP 0 rfl rfl 5 (by decide) (htw (.fieldLink RX9 99 "MergeJudgeModel" "taped" "I") (List.mem_of_getElem? (i := 0) rfl)) (fun _ h9 => h9) rfl dX9_feed_67 ?_
  refine lv_iload hx hb dX9_feed_70 (lv_at hl 0 rfl) ?_
  refine lv_iadd hx hb dX9_feed_72 ?_
  refine cf_i 9 (by decide) ?_
  refine lv_aload_n hx hb dX9_feed_73 rfl (lv_at hl 1 rfl) ?_
  refine va_get (D := D) (ci := 9) (v := .ref mFive) (C := RX9) (T := TX9) (N := 42) hx hb hts iuX9_feed_X9 hown hK hP 0 rfl rfl 6 (by decide) (htw (.fieldLink RX9 24 "MergeJudgeModel" "five" "[I") (List.mem_of_getElem? (i := 1) rfl)) (fun _ h9 => h9) rfl dX9_feed_74 ?_
  refine lv_iload hx hb dX9_feed_77 (lv_at hl 0 rfl) ?_
  refine lv_iconst (v := 4) hx hb dX9_feed_79 (by decide) ?_
  refine lv_idiv hx hb dX9_feed_80 (by decide) ?_
  refine cf_i 2 (by decide) ?_
  refine va_iald hx hb hK hP 2 1 rfl rfl (vp_c (by decide)) dX9_feed_81 ?_
  refine cf_v (.int k3) rfl ?_
  refine lv_bipush (v := 24) hx hb dX9_feed_82 (by decide) ?_
  refine lv_bipush (v := 8) hx hb dX9_feed_84 (by decide) ?_
  refine lv_iload hx hb dX9_feed_86 (lv_at hl 0 rfl) ?_
  refine lv_iconst (v := 4) hx hb dX9_feed_88 (by decide) ?_
  refine lv_irem hx hb dX9_feed_89 (by decide) ?_
  refine cf_i 1 (by decide) ?_
  refine lv_imul hx hb dX9_feed_90 ?_
  refine cf_i 8 (by decide) ?_
  refine lv_isub hx hb dX9_feed_91 ?_
  refine cf_i 16 (by decide) ?_
  refine lv_ishr hx hb dX9_feed_92 ?_
  refine lv_i2b (v := ((k3 >>> (16 &&& 31)).toInt8.toInt32)) hx hb dX9_feed_93 rfl ?_
  refine va_bast hx hb hK hP hD hS 1 0 rfl rfl (vp_c (by decide)) dX9_feed_94 (fun H locs hP hD hS => ?_)
  have hP : va_P D vwCl [(b0, .inr (9, [.int 0, .ref mWorld, .ref mImages, .ref mHasImage, .ref mTape, .int 0, .ref mFive, .int 0, .int 0, .int 0, .int 0, .int 0, .int 0, .int (-1), .ref mFresh, .ref mMergedBy, .int 0, .int 0, .int 0, .ref mIsValid, .ref mGoes, .ref mFarNow, .ref mFreeNow, .ref mIsPair, .ref mHitsBy, .int 0, .int 0, .int 0, .int 0, .int 0, .int 0, .int 0, .int 0, .int 0, .ref mWorthBy, .long 0, .long 0, .long 0, .ref mMany, .ref mWidth, .ref mNumbers, .ref mMoving])), (mTape, .inl (cs 0, 400, .inl (upd (upd (upd (upd (upd (upd (upd (upd (upd (upd (fun _ => 0) 0 (vp_nar .byte ((k >>> (24 &&& 31)).toInt8.toInt32))) 1 (vp_nar .byte ((k >>> (16 &&& 31)).toInt8.toInt32))) 2 (vp_nar .byte ((k >>> (8 &&& 31)).toInt8.toInt32))) 3 (vp_nar .byte ((k >>> (0 &&& 31)).toInt8.toInt32))) 4 (vp_nar .byte ((k2 >>> (24 &&& 31)).toInt8.toInt32))) 5 (vp_nar .byte ((k2 >>> (16 &&& 31)).toInt8.toInt32))) 6 (vp_nar .byte ((k2 >>> (8 &&& 31)).toInt8.toInt32))) 7 (vp_nar .byte ((k2 >>> (0 &&& 31)).toInt8.toInt32))) 8 (vp_nar .byte ((k3 >>> (24 &&& 31)).toInt8.toInt32))) 9 (vp_nar .byte ((k3 >>> (16 &&& 31)).toInt8.toInt32))))), (mFive, .inl (cs 1, 5, .inl (upd (upd (upd (upd (upd (fun _ => 0) 0 k) 1 k2) 2 k3) 3 k4) 4 k5)))] H := hP
  have hD : va_D A [(b0, .inr (9, [.int 0, .ref mWorld, .ref mImages, .ref mHasImage, .ref mTape, .int 0, .ref mFive, .int 0, .int 0, .int 0, .int 0, .int 0, .int 0, .int (-1), .ref mFresh, .ref mMergedBy, .int 0, .int 0, .int 0, .ref mIsValid, .ref mGoes, .ref mFarNow, .ref mFreeNow, .ref mIsPair, .ref mHitsBy, .int 0, .int 0, .int 0, .int 0, .int 0, .int 0, .int 0, .int 0, .int 0, .ref mWorthBy, .long 0, .long 0, .long 0, .ref mMany, .ref mWidth, .ref mNumbers, .ref mMoving])), (mTape, .inl (cs 0, 400, .inl (upd (upd (upd (upd (upd (upd (upd (upd (upd (upd (fun _ => 0) 0 (vp_nar .byte ((k >>> (24 &&& 31)).toInt8.toInt32))) 1 (vp_nar .byte ((k >>> (16 &&& 31)).toInt8.toInt32))) 2 (vp_nar .byte ((k >>> (8 &&& 31)).toInt8.toInt32))) 3 (vp_nar .byte ((k >>> (0 &&& 31)).toInt8.toInt32))) 4 (vp_nar .byte ((k2 >>> (24 &&& 31)).toInt8.toInt32))) 5 (vp_nar .byte ((k2 >>> (16 &&& 31)).toInt8.toInt32))) 6 (vp_nar .byte ((k2 >>> (8 &&& 31)).toInt8.toInt32))) 7 (vp_nar .byte ((k2 >>> (0 &&& 31)).toInt8.toInt32))) 8 (vp_nar .byte ((k3 >>> (24 &&& 31)).toInt8.toInt32))) 9 (vp_nar .byte ((k3 >>> (16 &&& 31)).toInt8.toInt32))))), (mFive, .inl (cs 1, 5, .inl (upd (upd (upd (upd (upd (fun _ => 0) 0 k) 1 k2) 2 k3) 3 k4) 4 k5)))] := hD
  refine lv_iinc (v := 10) (lv' := [(6, .int 10), (0, .ref b0), (1, .int k), (2, .int k2), (3, .int k3), (4, .int k4), (5, .int k5)]) hx hb dX9_feed_95 hl (k := 0) rfl (by decide) (by decide) rfl (fun ls hl => ?_)
  refine lv_goto (tgt := 55) hx hb dX9_feed_98 (by decide) ?_
  refine lv_iload hx hb dX9_feed_55 (lv_at hl 0 rfl) ?_
  refine lv_bipush (v := 20) hx hb dX9_feed_57 (by decide) ?_
  refine lv_icmp_ge (tgt := 101) hx hb dX9_feed_59 (by decide) (fun h9 => absurd h9 (by decide)) (fun _ => ?_)
  refine lv_aload_n hx hb dX9_feed_62 rfl (lv_at hl 1 rfl) ?_
  refine va_get (D := D) (ci := 9) (v := .ref mTape) (C := RX9) (T := TX9) (N := 42) hx hb hts iuX9_feed_X9 hown hK hP 0 rfl rfl 4 (by decide) (htw (.fieldLink RX9 20 "MergeJudgeModel" "tape" "[B") (List.mem_of_getElem? (i := 2) rfl)) (fun _ h9 => h9) rfl dX9_feed_63 ?_
  refine lv_aload_n hx hb dX9_feed_66 rfl (lv_at hl 1 rfl) ?_
  refine va_get (D := D) (ci := 9) (v := .int 0) (C := RX9) (T := TX9) (N := 42) hx hb hts iuX9_feed_X9 hown hK hP 0 rfl rfl 5 (by decide) (htw (.fieldLink RX9 99 "MergeJudgeModel" "taped" "I") (List.mem_of_getElem? (i := 0) rfl)) (fun _ h9 => h9) rfl dX9_feed_67 ?_
  refine lv_iload hx hb dX9_feed_70 (lv_at hl 0 rfl) ?_
  refine lv_iadd hx hb dX9_feed_72 ?_
  refine cf_i 10 (by decide) ?_
  refine lv_aload_n hx hb dX9_feed_73 rfl (lv_at hl 1 rfl) ?_
  refine va_get (D := D) (ci := 9) (v := .ref mFive) (C := RX9) (T := TX9) (N := 42) hx hb hts iuX9_feed_X9 hown hK hP 0 rfl rfl 6 (by decide) (htw (.fieldLink RX9 24 "MergeJudgeModel" "five" "[I") (List.mem_of_getElem? (i := 1) rfl)) (fun _ h9 => h9) rfl dX9_feed_74 ?_
  refine lv_iload hx hb dX9_feed_77 (lv_at hl 0 rfl) ?_
  refine lv_iconst (v := 4) hx hb dX9_feed_79 (by decide) ?_
  refine lv_idiv hx hb dX9_feed_80 (by decide) ?_
  refine cf_i 2 (by decide) ?_
  refine va_iald hx hb hK hP 2 1 rfl rfl (vp_c (by decide)) dX9_feed_81 ?_
  refine cf_v (.int k3) rfl ?_
  refine lv_bipush (v := 24) hx hb dX9_feed_82 (by decide) ?_
  refine lv_bipush (v := 8) hx hb dX9_feed_84 (by decide) ?_
  refine lv_iload hx hb dX9_feed_86 (lv_at hl 0 rfl) ?_
  refine lv_iconst (v := 4) hx hb dX9_feed_88 (by decide) ?_
  refine lv_irem hx hb dX9_feed_89 (by decide) ?_
  refine cf_i 2 (by decide) ?_
  refine lv_imul hx hb dX9_feed_90 ?_
  refine cf_i 16 (by decide) ?_
  refine lv_isub hx hb dX9_feed_91 ?_
  refine cf_i 8 (by decide) ?_
  refine lv_ishr hx hb dX9_feed_92 ?_
  refine lv_i2b (v := ((k3 >>> (8 &&& 31)).toInt8.toInt32)) hx hb dX9_feed_93 rfl ?_
  refine va_bast hx hb hK hP hD hS 1 0 rfl rfl (vp_c (by decide)) dX9_feed_94 (fun H locs hP hD hS => ?_)
  have hP : va_P D vwCl [(b0, .inr (9, [.int 0, .ref mWorld, .ref mImages, .ref mHasImage, .ref mTape, .int 0, .ref mFive, .int 0, .int 0, .int 0, .int 0, .int 0, .int 0, .int (-1), .ref mFresh, .ref mMergedBy, .int 0, .int 0, .int 0, .ref mIsValid, .ref mGoes, .ref mFarNow, .ref mFreeNow, .ref mIsPair, .ref mHitsBy, .int 0, .int 0, .int 0, .int 0, .int 0, .int 0, .int 0, .int 0, .int 0, .ref mWorthBy, .long 0, .long 0, .long 0, .ref mMany, .ref mWidth, .ref mNumbers, .ref mMoving])), (mTape, .inl (cs 0, 400, .inl (upd (upd (upd (upd (upd (upd (upd (upd (upd (upd (upd (fun _ => 0) 0 (vp_nar .byte ((k >>> (24 &&& 31)).toInt8.toInt32))) 1 (vp_nar .byte ((k >>> (16 &&& 31)).toInt8.toInt32))) 2 (vp_nar .byte ((k >>> (8 &&& 31)).toInt8.toInt32))) 3 (vp_nar .byte ((k >>> (0 &&& 31)).toInt8.toInt32))) 4 (vp_nar .byte ((k2 >>> (24 &&& 31)).toInt8.toInt32))) 5 (vp_nar .byte ((k2 >>> (16 &&& 31)).toInt8.toInt32))) 6 (vp_nar .byte ((k2 >>> (8 &&& 31)).toInt8.toInt32))) 7 (vp_nar .byte ((k2 >>> (0 &&& 31)).toInt8.toInt32))) 8 (vp_nar .byte ((k3 >>> (24 &&& 31)).toInt8.toInt32))) 9 (vp_nar .byte ((k3 >>> (16 &&& 31)).toInt8.toInt32))) 10 (vp_nar .byte ((k3 >>> (8 &&& 31)).toInt8.toInt32))))), (mFive, .inl (cs 1, 5, .inl (upd (upd (upd (upd (upd (fun _ => 0) 0 k) 1 k2) 2 k3) 3 k4) 4 k5)))] H := hP
  have hD : va_D A [(b0, .inr (9, [.int 0, .ref mWorld, .ref mImages, .ref mHasImage, .ref mTape, .int 0, .ref mFive, .int 0, .int 0, .int 0, .int 0, .int 0, .int 0, .int (-1), .ref mFresh, .ref mMergedBy, .int 0, .int 0, .int 0, .ref mIsValid, .ref mGoes, .ref mFarNow, .ref mFreeNow, .ref mIsPair, .ref mHitsBy, .int 0, .int 0, .int 0, .int 0, .int 0, .int 0, .int 0, .int 0, .int 0, .ref mWorthBy, .long 0, .long 0, .long 0, .ref mMany, .ref mWidth, .ref mNumbers, .ref mMoving])), (mTape, .inl (cs 0, 400, .inl (upd (upd (upd (upd (upd (upd (upd (upd (upd (upd (upd (fun _ => 0) 0 (vp_nar .byte ((k >>> (24 &&& 31)).toInt8.toInt32))) 1 (vp_nar .byte ((k >>> (16 &&& 31)).toInt8.toInt32))) 2 (vp_nar .byte ((k >>> (8 &&& 31)).toInt8.toInt32))) 3 (vp_nar .byte ((k >>> (0 &&& 31)).toInt8.toInt32))) 4 (vp_nar .byte ((k2 >>> (24 &&& 31)).toInt8.toInt32))) 5 (vp_nar .byte ((k2 >>> (16 &&& 31)).toInt8.toInt32))) 6 (vp_nar .byte ((k2 >>> (8 &&& 31)).toInt8.toInt32))) 7 (vp_nar .byte ((k2 >>> (0 &&& 31)).toInt8.toInt32))) 8 (vp_nar .byte ((k3 >>> (24 &&& 31)).toInt8.toInt32))) 9 (vp_nar .byte ((k3 >>> (16 &&& 31)).toInt8.toInt32))) 10 (vp_nar .byte ((k3 >>> (8 &&& 31)).toInt8.toInt32))))), (mFive, .inl (cs 1, 5, .inl (upd (upd (upd (upd (upd (fun _ => 0) 0 k) 1 k2) 2 k3) 3 k4) 4 k5)))] := hD
  refine lv_iinc (v := 11) (lv' := [(6, .int 11), (0, .ref b0), (1, .int k), (2, .int k2), (3, .int k3), (4, .int k4), (5, .int k5)]) hx hb dX9_feed_95 hl (k := 0) rfl (by decide) (by decide) rfl (fun ls hl => ?_)
  refine lv_goto (tgt := 55) hx hb dX9_feed_98 (by decide) ?_
  refine lv_iload hx hb dX9_feed_55 (lv_at hl 0 rfl) ?_
  refine lv_bipush (v := 20) hx hb dX9_feed_57 (by decide) ?_
  refine lv_icmp_ge (tgt := 101) hx hb dX9_feed_59 (by decide) (fun h9 => absurd h9 (by decide)) (fun _ => ?_)
  refine lv_aload_n hx hb dX9_feed_62 rfl (lv_at hl 1 rfl) ?_
  refine va_get (D := D) (ci := 9) (v := .ref mTape) (C := RX9) (T := TX9) (N := 42) hx hb hts iuX9_feed_X9 hown hK hP 0 rfl rfl 4 (by decide) (htw (.fieldLink RX9 20 "MergeJudgeModel" "tape" "[B") (List.mem_of_getElem? (i := 2) rfl)) (fun _ h9 => h9) rfl dX9_feed_63 ?_
  refine lv_aload_n hx hb dX9_feed_66 rfl (lv_at hl 1 rfl) ?_
  refine va_get (D := D) (ci := 9) (v := .int 0) (C := RX9) (T := TX9) (N := 42) hx hb hts iuX9_feed_X9 hown hK hP 0 rfl rfl 5 (by decide) (htw (.fieldLink RX9 99 "MergeJudgeModel" "taped" "I") (List.mem_of_getElem? (i := 0) rfl)) (fun _ h9 => h9) rfl dX9_feed_67 ?_
  refine lv_iload hx hb dX9_feed_70 (lv_at hl 0 rfl) ?_
  refine lv_iadd hx hb dX9_feed_72 ?_
  refine cf_i 11 (by decide) ?_
  refine lv_aload_n hx hb dX9_feed_73 rfl (lv_at hl 1 rfl) ?_
  refine va_get (D := D) (ci := 9) (v := .ref mFive) (C := RX9) (T := TX9) (N := 42) hx hb hts iuX9_feed_X9 hown hK hP 0 rfl rfl 6 (by decide) (htw (.fieldLink RX9 24 "MergeJudgeModel" "five" "[I") (List.mem_of_getElem? (i := 1) rfl)) (fun _ h9 => h9) rfl dX9_feed_74 ?_
  refine lv_iload hx hb dX9_feed_77 (lv_at hl 0 rfl) ?_
  refine lv_iconst (v := 4) hx hb dX9_feed_79 (by decide) ?_
  refine lv_idiv hx hb dX9_feed_80 (by decide) ?_
  refine cf_i 2 (by decide) ?_
  refine va_iald hx hb hK hP 2 1 rfl rfl (vp_c (by decide)) dX9_feed_81 ?_
  refine cf_v (.int k3) rfl ?_
  refine lv_bipush (v := 24) hx hb dX9_feed_82 (by decide) ?_
  refine lv_bipush (v := 8) hx hb dX9_feed_84 (by decide) ?_
  refine lv_iload hx hb dX9_feed_86 (lv_at hl 0 rfl) ?_
  refine lv_iconst (v := 4) hx hb dX9_feed_88 (by decide) ?_
  refine lv_irem hx hb dX9_feed_89 (by decide) ?_
  refine cf_i 3 (by decide) ?_
  refine lv_imul hx hb dX9_feed_90 ?_
  refine cf_i 24 (by decide) ?_
  refine lv_isub hx hb dX9_feed_91 ?_
  refine cf_i 0 (by decide) ?_
  refine lv_ishr hx hb dX9_feed_92 ?_
  refine lv_i2b (v := ((k3 >>> (0 &&& 31)).toInt8.toInt32)) hx hb dX9_feed_93 rfl ?_
  refine va_bast hx hb hK hP hD hS 1 0 rfl rfl (vp_c (by decide)) dX9_feed_94 (fun H locs hP hD hS => ?_)
  have hP : va_P D vwCl [(b0, .inr (9, [.int 0, .ref mWorld, .ref mImages, .ref mHasImage, .ref mTape, .int 0, .ref mFive, .int 0, .int 0, .int 0, .int 0, .int 0, .int 0, .int (-1), .ref mFresh, .ref mMergedBy, .int 0, .int 0, .int 0, .ref mIsValid, .ref mGoes, .ref mFarNow, .ref mFreeNow, .ref mIsPair, .ref mHitsBy, .int 0, .int 0, .int 0, .int 0, .int 0, .int 0, .int 0, .int 0, .int 0, .ref mWorthBy, .long 0, .long 0, .long 0, .ref mMany, .ref mWidth, .ref mNumbers, .ref mMoving])), (mTape, .inl (cs 0, 400, .inl (upd (upd (upd (upd (upd (upd (upd (upd (upd (upd (upd (upd (fun _ => 0) 0 (vp_nar .byte ((k >>> (24 &&& 31)).toInt8.toInt32))) 1 (vp_nar .byte ((k >>> (16 &&& 31)).toInt8.toInt32))) 2 (vp_nar .byte ((k >>> (8 &&& 31)).toInt8.toInt32))) 3 (vp_nar .byte ((k >>> (0 &&& 31)).toInt8.toInt32))) 4 (vp_nar .byte ((k2 >>> (24 &&& 31)).toInt8.toInt32))) 5 (vp_nar .byte ((k2 >>> (16 &&& 31)).toInt8.toInt32))) 6 (vp_nar .byte ((k2 >>> (8 &&& 31)).toInt8.toInt32))) 7 (vp_nar .byte ((k2 >>> (0 &&& 31)).toInt8.toInt32))) 8 (vp_nar .byte ((k3 >>> (24 &&& 31)).toInt8.toInt32))) 9 (vp_nar .byte ((k3 >>> (16 &&& 31)).toInt8.toInt32))) 10 (vp_nar .byte ((k3 >>> (8 &&& 31)).toInt8.toInt32))) 11 (vp_nar .byte ((k3 >>> (0 &&& 31)).toInt8.toInt32))))), (mFive, .inl (cs 1, 5, .inl (upd (upd (upd (upd (upd (fun _ => 0) 0 k) 1 k2) 2 k3) 3 k4) 4 k5)))] H := hP
  have hD : va_D A [(b0, .inr (9, [.int 0, .ref mWorld, .ref mImages, .ref mHasImage, .ref mTape, .int 0, .ref mFive, .int 0, .int 0, .int 0, .int 0, .int 0, .int 0, .int (-1), .ref mFresh, .ref mMergedBy, .int 0, .int 0, .int 0, .ref mIsValid, .ref mGoes, .ref mFarNow, .ref mFreeNow, .ref mIsPair, .ref mHitsBy, .int 0, .int 0, .int 0, .int 0, .int 0, .int 0, .int 0, .int 0, .int 0, .ref mWorthBy, .long 0, .long 0, .long 0, .ref mMany, .ref mWidth, .ref mNumbers, .ref mMoving])), (mTape, .inl (cs 0, 400, .inl (upd (upd (upd (upd (upd (upd (upd (upd (upd (upd (upd (upd (fun _ => 0) 0 (vp_nar .byte ((k >>> (24 &&& 31)).toInt8.toInt32))) 1 (vp_nar .byte ((k >>> (16 &&& 31)).toInt8.toInt32))) 2 (vp_nar .byte ((k >>> (8 &&& 31)).toInt8.toInt32))) 3 (vp_nar .byte ((k >>> (0 &&& 31)).toInt8.toInt32))) 4 (vp_nar .byte ((k2 >>> (24 &&& 31)).toInt8.toInt32))) 5 (vp_nar .byte ((k2 >>> (16 &&& 31)).toInt8.toInt32))) 6 (vp_nar .byte ((k2 >>> (8 &&& 31)).toInt8.toInt32))) 7 (vp_nar .byte ((k2 >>> (0 &&& 31)).toInt8.toInt32))) 8 (vp_nar .byte ((k3 >>> (24 &&& 31)).toInt8.toInt32))) 9 (vp_nar .byte ((k3 >>> (16 &&& 31)).toInt8.toInt32))) 10 (vp_nar .byte ((k3 >>> (8 &&& 31)).toInt8.toInt32))) 11 (vp_nar .byte ((k3 >>> (0 &&& 31)).toInt8.toInt32))))), (mFive, .inl (cs 1, 5, .inl (upd (upd (upd (upd (upd (fun _ => 0) 0 k) 1 k2) 2 k3) 3 k4) 4 k5)))] := hD
  refine lv_iinc (v := 12) (lv' := [(6, .int 12), (0, .ref b0), (1, .int k), (2, .int k2), (3, .int k3), (4, .int k4), (5, .int k5)]) hx hb dX9_feed_95 hl (k := 0) rfl (by decide) (by decide) rfl (fun ls hl => ?_)
  refine lv_goto (tgt := 55) hx hb dX9_feed_98 (by decide) ?_
  refine lv_iload hx hb dX9_feed_55 (lv_at hl 0 rfl) ?_
  refine lv_bipush (v := 20) hx hb dX9_feed_57 (by decide) ?_
  refine lv_icmp_ge (tgt := 101) hx hb dX9_feed_59 (by decide) (fun h9 => absurd h9 (by decide)) (fun _ => ?_)
  refine lv_aload_n hx hb dX9_feed_62 rfl (lv_at hl 1 rfl) ?_
  refine va_get (D := D) (ci := 9) (v := .ref mTape) (C := RX9) (T := TX9) (N := 42) hx hb hts iuX9_feed_X9 hown hK hP 0 rfl rfl 4 (by decide) (htw (.fieldLink RX9 20 "MergeJudgeModel" "tape" "[B") (List.mem_of_getElem? (i := 2) rfl)) (fun _ h9 => h9) rfl dX9_feed_63 ?_
  refine lv_aload_n hx hb dX9_feed_66 rfl (lv_at hl 1 rfl) ?_
  refine va_get (D := D) (ci := 9) (v := .int 0) (C := RX9) (T := TX9) (N := 42) hx hb hts iuX9_feed_X9 hown hK hP 0 rfl rfl 5 (by decide) (htw (.fieldLink RX9 99 "MergeJudgeModel" "taped" "I") (List.mem_of_getElem? (i := 0) rfl)) (fun _ h9 => h9) rfl dX9_feed_67 ?_
  refine lv_iload hx hb dX9_feed_70 (lv_at hl 0 rfl) ?_
  refine lv_iadd hx hb dX9_feed_72 ?_
  refine cf_i 12 (by decide) ?_
  refine lv_aload_n hx hb dX9_feed_73 rfl (lv_at hl 1 rfl) ?_
  refine va_get (D := D) (ci := 9) (v := .ref mFive) (C := RX9) (T := TX9) (N := 42) hx hb hts iuX9_feed_X9 hown hK hP 0 rfl rfl 6 (by decide) (htw (.fieldLink RX9 24 "MergeJudgeModel" "five" "[I") (List.mem_of_getElem? (i := 1) rfl)) (fun _ h9 => h9) rfl dX9_feed_74 ?_
  refine lv_iload hx hb dX9_feed_77 (lv_at hl 0 rfl) ?_
  refine lv_iconst (v := 4) hx hb dX9_feed_79 (by decide) ?_
  refine lv_idiv hx hb dX9_feed_80 (by decide) ?_
  refine cf_i 3 (by decide) ?_
  refine va_iald hx hb hK hP 2 1 rfl rfl (vp_c (by decide)) dX9_feed_81 ?_
  refine cf_v (.int k4) rfl ?_
  refine lv_bipush (v := 24) hx hb dX9_feed_82 (by decide) ?_
  refine lv_bipush (v := 8) hx hb dX9_feed_84 (by decide) ?_
  refine lv_iload hx hb dX9_feed_86 (lv_at hl 0 rfl) ?_
  refine lv_iconst (v := 4) hx hb dX9_feed_88 (by decide) ?_
  refine lv_irem hx hb dX9_feed_89 (by decide) ?_
  refine cf_i 0 (by decide) ?_
  refine lv_imul hx hb dX9_feed_90 ?_
  refine cf_i 0 (by decide) ?_
  refine lv_isub hx hb dX9_feed_91 ?_
  refine cf_i 24 (by decide) ?_
  refine lv_ishr hx hb dX9_feed_92 ?_
  refine lv_i2b (v := ((k4 >>> (24 &&& 31)).toInt8.toInt32)) hx hb dX9_feed_93 rfl ?_
  refine va_bast hx hb hK hP hD hS 1 0 rfl rfl (vp_c (by decide)) dX9_feed_94 (fun H locs hP hD hS => ?_)
  have hP : va_P D vwCl [(b0, .inr (9, [.int 0, .ref mWorld, .ref mImages, .ref mHasImage, .ref mTape, .int 0, .ref mFive, .int 0, .int 0, .int 0, .int 0, .int 0, .int 0, .int (-1), .ref mFresh, .ref mMergedBy, .int 0, .int 0, .int 0, .ref mIsValid, .ref mGoes, .ref mFarNow, .ref mFreeNow, .ref mIsPair, .ref mHitsBy, .int 0, .int 0, .int 0, .int 0, .int 0, .int 0, .int 0, .int 0, .int 0, .ref mWorthBy, .long 0, .long 0, .long 0, .ref mMany, .ref mWidth, .ref mNumbers, .ref mMoving])), (mTape, .inl (cs 0, 400, .inl (upd (upd (upd (upd (upd (upd (upd (upd (upd (upd (upd (upd (upd (fun _ => 0) 0 (vp_nar .byte ((k >>> (24 &&& 31)).toInt8.toInt32))) 1 (vp_nar .byte ((k >>> (16 &&& 31)).toInt8.toInt32))) 2 (vp_nar .byte ((k >>> (8 &&& 31)).toInt8.toInt32))) 3 (vp_nar .byte ((k >>> (0 &&& 31)).toInt8.toInt32))) 4 (vp_nar .byte ((k2 >>> (24 &&& 31)).toInt8.toInt32))) 5 (vp_nar .byte ((k2 >>> (16 &&& 31)).toInt8.toInt32))) 6 (vp_nar .byte ((k2 >>> (8 &&& 31)).toInt8.toInt32))) 7 (vp_nar .byte ((k2 >>> (0 &&& 31)).toInt8.toInt32))) 8 (vp_nar .byte ((k3 >>> (24 &&& 31)).toInt8.toInt32))) 9 (vp_nar .byte ((k3 >>> (16 &&& 31)).toInt8.toInt32))) 10 (vp_nar .byte ((k3 >>> (8 &&& 31)).toInt8.toInt32))) 11 (vp_nar .byte ((k3 >>> (0 &&& 31)).toInt8.toInt32))) 12 (vp_nar .byte ((k4 >>> (24 &&& 31)).toInt8.toInt32))))), (mFive, .inl (cs 1, 5, .inl (upd (upd (upd (upd (upd (fun _ => 0) 0 k) 1 k2) 2 k3) 3 k4) 4 k5)))] H := hP
  have hD : va_D A [(b0, .inr (9, [.int 0, .ref mWorld, .ref mImages, .ref mHasImage, .ref mTape, .int 0, .ref mFive, .int 0, .int 0, .int 0, .int 0, .int 0, .int 0, .int (-1), .ref mFresh, .ref mMergedBy, .int 0, .int 0, .int 0, .ref mIsValid, .ref mGoes, .ref mFarNow, .ref mFreeNow, .ref mIsPair, .ref mHitsBy, .int 0, .int 0, .int 0, .int 0, .int 0, .int 0, .int 0, .int 0, .int 0, .ref mWorthBy, .long 0, .long 0, .long 0, .ref mMany, .ref mWidth, .ref mNumbers, .ref mMoving])), (mTape, .inl (cs 0, 400, .inl (upd (upd (upd (upd (upd (upd (upd (upd (upd (upd (upd (upd (upd (fun _ => 0) 0 (vp_nar .byte ((k >>> (24 &&& 31)).toInt8.toInt32))) 1 (vp_nar .byte ((k >>> (16 &&& 31)).toInt8.toInt32))) 2 (vp_nar .byte ((k >>> (8 &&& 31)).toInt8.toInt32))) 3 (vp_nar .byte ((k >>> (0 &&& 31)).toInt8.toInt32))) 4 (vp_nar .byte ((k2 >>> (24 &&& 31)).toInt8.toInt32))) 5 (vp_nar .byte ((k2 >>> (16 &&& 31)).toInt8.toInt32))) 6 (vp_nar .byte ((k2 >>> (8 &&& 31)).toInt8.toInt32))) 7 (vp_nar .byte ((k2 >>> (0 &&& 31)).toInt8.toInt32))) 8 (vp_nar .byte ((k3 >>> (24 &&& 31)).toInt8.toInt32))) 9 (vp_nar .byte ((k3 >>> (16 &&& 31)).toInt8.toInt32))) 10 (vp_nar .byte ((k3 >>> (8 &&& 31)).toInt8.toInt32))) 11 (vp_nar .byte ((k3 >>> (0 &&& 31)).toInt8.toInt32))) 12 (vp_nar .byte ((k4 >>> (24 &&& 31)).toInt8.toInt32))))), (mFive, .inl (cs 1, 5, .inl (upd (upd (upd (upd (upd (fun _ => 0) 0 k) 1 k2) 2 k3) 3 k4) 4 k5)))] := hD
  refine lv_iinc (v := 13) (lv' := [(6, .int 13), (0, .ref b0), (1, .int k), (2, .int k2), (3, .int k3), (4, .int k4), (5, .int k5)]) hx hb dX9_feed_95 hl (k := 0) rfl (by decide) (by decide) rfl (fun ls hl => ?_)
  refine lv_goto (tgt := 55) hx hb dX9_feed_98 (by decide) ?_
  refine lv_iload hx hb dX9_feed_55 (lv_at hl 0 rfl) ?_
  refine lv_bipush (v := 20) hx hb dX9_feed_57 (by decide) ?_
  refine lv_icmp_ge (tgt := 101) hx hb dX9_feed_59 (by decide) (fun h9 => absurd h9 (by decide)) (fun _ => ?_)
  refine lv_aload_n hx hb dX9_feed_62 rfl (lv_at hl 1 rfl) ?_
  refine va_get (D := D) (ci := 9) (v := .ref mTape) (C := RX9) (T := TX9) (N := 42) hx hb hts iuX9_feed_X9 hown hK hP 0 rfl rfl 4 (by decide) (htw (.fieldLink RX9 20 "MergeJudgeModel" "tape" "[B") (List.mem_of_getElem? (i := 2) rfl)) (fun _ h9 => h9) rfl dX9_feed_63 ?_
  refine lv_aload_n hx hb dX9_feed_66 rfl (lv_at hl 1 rfl) ?_
  refine va_get (D := D) (ci := 9) (v := .int 0) (C := RX9) (T := TX9) (N := 42) hx hb hts iuX9_feed_X9 hown hK hP 0 rfl rfl 5 (by decide) (htw (.fieldLink RX9 99 "MergeJudgeModel" "taped" "I") (List.mem_of_getElem? (i := 0) rfl)) (fun _ h9 => h9) rfl dX9_feed_67 ?_
  refine lv_iload hx hb dX9_feed_70 (lv_at hl 0 rfl) ?_
  refine lv_iadd hx hb dX9_feed_72 ?_
  refine cf_i 13 (by decide) ?_
  refine lv_aload_n hx hb dX9_feed_73 rfl (lv_at hl 1 rfl) ?_
  refine va_get (D := D) (ci := 9) (v := .ref mFive) (C := RX9) (T := TX9) (N := 42) hx hb hts iuX9_feed_X9 hown hK hP 0 rfl rfl 6 (by decide) (htw (.fieldLink RX9 24 "MergeJudgeModel" "five" "[I") (List.mem_of_getElem? (i := 1) rfl)) (fun _ h9 => h9) rfl dX9_feed_74 ?_
  refine lv_iload hx hb dX9_feed_77 (lv_at hl 0 rfl) ?_
  refine lv_iconst (v := 4) hx hb dX9_feed_79 (by decide) ?_
  refine lv_idiv hx hb dX9_feed_80 (by decide) ?_
  refine cf_i 3 (by decide) ?_
  refine va_iald hx hb hK hP 2 1 rfl rfl (vp_c (by decide)) dX9_feed_81 ?_
  refine cf_v (.int k4) rfl ?_
  refine lv_bipush (v := 24) hx hb dX9_feed_82 (by decide) ?_
  refine lv_bipush (v := 8) hx hb dX9_feed_84 (by decide) ?_
  refine lv_iload hx hb dX9_feed_86 (lv_at hl 0 rfl) ?_
  refine lv_iconst (v := 4) hx hb dX9_feed_88 (by decide) ?_
  refine lv_irem hx hb dX9_feed_89 (by decide) ?_
  refine cf_i 1 (by decide) ?_
  refine lv_imul hx hb dX9_feed_90 ?_
  refine cf_i 8 (by decide) ?_
  refine lv_isub hx hb dX9_feed_91 ?_
  refine cf_i 16 (by decide) ?_
  refine lv_ishr hx hb dX9_feed_92 ?_
  refine lv_i2b (v := ((k4 >>> (16 &&& 31)).toInt8.toInt32)) hx hb dX9_feed_93 rfl ?_
  refine va_bast hx hb hK hP hD hS 1 0 rfl rfl (vp_c (by decide)) dX9_feed_94 (fun H locs hP hD hS => ?_)
  have hP : va_P D vwCl [(b0, .inr (9, [.int 0, .ref mWorld, .ref mImages, .ref mHasImage, .ref mTape, .int 0, .ref mFive, .int 0, .int 0, .int 0, .int 0, .int 0, .int 0, .int (-1), .ref mFresh, .ref mMergedBy, .int 0, .int 0, .int 0, .ref mIsValid, .ref mGoes, .ref mFarNow, .ref mFreeNow, .ref mIsPair, .ref mHitsBy, .int 0, .int 0, .int 0, .int 0, .int 0, .int 0, .int 0, .int 0, .int 0, .ref mWorthBy, .long 0, .long 0, .long 0, .ref mMany, .ref mWidth, .ref mNumbers, .ref mMoving])), (mTape, .inl (cs 0, 400, .inl (upd (upd (upd (upd (upd (upd (upd (upd (upd (upd (upd (upd (upd (upd (fun _ => 0) 0 (vp_nar .byte ((k >>> (24 &&& 31)).toInt8.toInt32))) 1 (vp_nar .byte ((k >>> (16 &&& 31)).toInt8.toInt32))) 2 (vp_nar .byte ((k >>> (8 &&& 31)).toInt8.toInt32))) 3 (vp_nar .byte ((k >>> (0 &&& 31)).toInt8.toInt32))) 4 (vp_nar .byte ((k2 >>> (24 &&& 31)).toInt8.toInt32))) 5 (vp_nar .byte ((k2 >>> (16 &&& 31)).toInt8.toInt32))) 6 (vp_nar .byte ((k2 >>> (8 &&& 31)).toInt8.toInt32))) 7 (vp_nar .byte ((k2 >>> (0 &&& 31)).toInt8.toInt32))) 8 (vp_nar .byte ((k3 >>> (24 &&& 31)).toInt8.toInt32))) 9 (vp_nar .byte ((k3 >>> (16 &&& 31)).toInt8.toInt32))) 10 (vp_nar .byte ((k3 >>> (8 &&& 31)).toInt8.toInt32))) 11 (vp_nar .byte ((k3 >>> (0 &&& 31)).toInt8.toInt32))) 12 (vp_nar .byte ((k4 >>> (24 &&& 31)).toInt8.toInt32))) 13 (vp_nar .byte ((k4 >>> (16 &&& 31)).toInt8.toInt32))))), (mFive, .inl (cs 1, 5, .inl (upd (upd (upd (upd (upd (fun _ => 0) 0 k) 1 k2) 2 k3) 3 k4) 4 k5)))] H := hP
  have hD : va_D A [(b0, .inr (9, [.int 0, .ref mWorld, .ref mImages, .ref mHasImage, .ref mTape, .int 0, .ref mFive, .int 0, .int 0, .int 0, .int 0, .int 0, .int 0, .int (-1), .ref mFresh, .ref mMergedBy, .int 0, .int 0, .int 0, .ref mIsValid, .ref mGoes, .ref mFarNow, .ref mFreeNow, .ref mIsPair, .ref mHitsBy, .int 0, .int 0, .int 0, .int 0, .int 0, .int 0, .int 0, .int 0, .int 0, .ref mWorthBy, .long 0, .long 0, .long 0, .ref mMany, .ref mWidth, .ref mNumbers, .ref mMoving])), (mTape, .inl (cs 0, 400, .inl (upd (upd (upd (upd (upd (upd (upd (upd (upd (upd (upd (upd (upd (upd (fun _ => 0) 0 (vp_nar .byte ((k >>> (24 &&& 31)).toInt8.toInt32))) 1 (vp_nar .byte ((k >>> (16 &&& 31)).toInt8.toInt32))) 2 (vp_nar .byte ((k >>> (8 &&& 31)).toInt8.toInt32))) 3 (vp_nar .byte ((k >>> (0 &&& 31)).toInt8.toInt32))) 4 (vp_nar .byte ((k2 >>> (24 &&& 31)).toInt8.toInt32))) 5 (vp_nar .byte ((k2 >>> (16 &&& 31)).toInt8.toInt32))) 6 (vp_nar .byte ((k2 >>> (8 &&& 31)).toInt8.toInt32))) 7 (vp_nar .byte ((k2 >>> (0 &&& 31)).toInt8.toInt32))) 8 (vp_nar .byte ((k3 >>> (24 &&& 31)).toInt8.toInt32))) 9 (vp_nar .byte ((k3 >>> (16 &&& 31)).toInt8.toInt32))) 10 (vp_nar .byte ((k3 >>> (8 &&& 31)).toInt8.toInt32))) 11 (vp_nar .byte ((k3 >>> (0 &&& 31)).toInt8.toInt32))) 12 (vp_nar .byte ((k4 >>> (24 &&& 31)).toInt8.toInt32))) 13 (vp_nar .byte ((k4 >>> (16 &&& 31)).toInt8.toInt32))))), (mFive, .inl (cs 1, 5, .inl (upd (upd (upd (upd (upd (fun _ => 0) 0 k) 1 k2) 2 k3) 3 k4) 4 k5)))] := hD
  refine lv_iinc (v := 14) (lv' := [(6, .int 14), (0, .ref b0), (1, .int k), (2, .int k2), (3, .int k3), (4, .int k4), (5, .int k5)]) hx hb dX9_feed_95 hl (k := 0) rfl (by decide) (by decide) rfl (fun ls hl => ?_)
  refine lv_goto (tgt := 55) hx hb dX9_feed_98 (by decide) ?_
  refine lv_iload hx hb dX9_feed_55 (lv_at hl 0 rfl) ?_
  refine lv_bipush (v := 20) hx hb dX9_feed_57 (by decide) ?_
  refine lv_icmp_ge (tgt := 101) hx hb dX9_feed_59 (by decide) (fun h9 => absurd h9 (by decide)) (fun _ => ?_)
  refine lv_aload_n hx hb dX9_feed_62 rfl (lv_at hl 1 rfl) ?_
  refine va_get (D := D) (ci := 9) (v := .ref mTape) (C := RX9) (T := TX9) (N := 42) hx hb hts iuX9_feed_X9 hown hK hP 0 rfl rfl 4 (by decide) (htw (.fieldLink RX9 20 "MergeJudgeModel" "tape" "[B") (List.mem_of_getElem? (i := 2) rfl)) (fun _ h9 => h9) rfl dX9_feed_63 ?_
  refine lv_aload_n hx hb dX9_feed_66 rfl (lv_at hl 1 rfl) ?_
  refine va_get (D := D) (ci := 9) (v := .int 0) (C := RX9) (T := TX9) (N := 42) hx hb hts iuX9_feed_X9 hown hK hP 0 rfl rfl 5 (by decide) (htw (.fieldLink RX9 99 "MergeJudgeModel" "taped" "I") (List.mem_of_getElem? (i := 0) rfl)) (fun _ h9 => h9) rfl dX9_feed_67 ?_
  refine lv_iload hx hb dX9_feed_70 (lv_at hl 0 rfl) ?_
  refine lv_iadd hx hb dX9_feed_72 ?_
  refine cf_i 14 (by decide) ?_
  refine lv_aload_n hx hb dX9_feed_73 rfl (lv_at hl 1 rfl) ?_
  refine va_get (D := D) (ci := 9) (v := .ref mFive) (C := RX9) (T := TX9) (N := 42) hx hb hts iuX9_feed_X9 hown hK hP 0 rfl rfl 6 (by decide) (htw (.fieldLink RX9 24 "MergeJudgeModel" "five" "[I") (List.mem_of_getElem? (i := 1) rfl)) (fun _ h9 => h9) rfl dX9_feed_74 ?_
  refine lv_iload hx hb dX9_feed_77 (lv_at hl 0 rfl) ?_
  refine lv_iconst (v := 4) hx hb dX9_feed_79 (by decide) ?_
  refine lv_idiv hx hb dX9_feed_80 (by decide) ?_
  refine cf_i 3 (by decide) ?_
  refine va_iald hx hb hK hP 2 1 rfl rfl (vp_c (by decide)) dX9_feed_81 ?_
  refine cf_v (.int k4) rfl ?_
  refine lv_bipush (v := 24) hx hb dX9_feed_82 (by decide) ?_
  refine lv_bipush (v := 8) hx hb dX9_feed_84 (by decide) ?_
  refine lv_iload hx hb dX9_feed_86 (lv_at hl 0 rfl) ?_
  refine lv_iconst (v := 4) hx hb dX9_feed_88 (by decide) ?_
  refine lv_irem hx hb dX9_feed_89 (by decide) ?_
  refine cf_i 2 (by decide) ?_
  refine lv_imul hx hb dX9_feed_90 ?_
  refine cf_i 16 (by decide) ?_
  refine lv_isub hx hb dX9_feed_91 ?_
  refine cf_i 8 (by decide) ?_
  refine lv_ishr hx hb dX9_feed_92 ?_
  refine lv_i2b (v := ((k4 >>> (8 &&& 31)).toInt8.toInt32)) hx hb dX9_feed_93 rfl ?_
  refine va_bast hx hb hK hP hD hS 1 0 rfl rfl (vp_c (by decide)) dX9_feed_94 (fun H locs hP hD hS => ?_)
  have hP : va_P D vwCl [(b0, .inr (9, [.int 0, .ref mWorld, .ref mImages, .ref mHasImage, .ref mTape, .int 0, .ref mFive, .int 0, .int 0, .int 0, .int 0, .int 0, .int 0, .int (-1), .ref mFresh, .ref mMergedBy, .int 0, .int 0, .int 0, .ref mIsValid, .ref mGoes, .ref mFarNow, .ref mFreeNow, .ref mIsPair, .ref mHitsBy, .int 0, .int 0, .int 0, .int 0, .int 0, .int 0, .int 0, .int 0, .int 0, .ref mWorthBy, .long 0, .long 0, .long 0, .ref mMany, .ref mWidth, .ref mNumbers, .ref mMoving])), (mTape, .inl (cs 0, 400, .inl (upd (upd (upd (upd (upd (upd (upd (upd (upd (upd (upd (upd (upd (upd (upd (fun _ => 0) 0 (vp_nar .byte ((k >>> (24 &&& 31)).toInt8.toInt32))) 1 (vp_nar .byte ((k >>> (16 &&& 31)).toInt8.toInt32))) 2 (vp_nar .byte ((k >>> (8 &&& 31)).toInt8.toInt32))) 3 (vp_nar .byte ((k >>> (0 &&& 31)).toInt8.toInt32))) 4 (vp_nar .byte ((k2 >>> (24 &&& 31)).toInt8.toInt32))) 5 (vp_nar .byte ((k2 >>> (16 &&& 31)).toInt8.toInt32))) 6 (vp_nar .byte ((k2 >>> (8 &&& 31)).toInt8.toInt32))) 7 (vp_nar .byte ((k2 >>> (0 &&& 31)).toInt8.toInt32))) 8 (vp_nar .byte ((k3 >>> (24 &&& 31)).toInt8.toInt32))) 9 (vp_nar .byte ((k3 >>> (16 &&& 31)).toInt8.toInt32))) 10 (vp_nar .byte ((k3 >>> (8 &&& 31)).toInt8.toInt32))) 11 (vp_nar .byte ((k3 >>> (0 &&& 31)).toInt8.toInt32))) 12 (vp_nar .byte ((k4 >>> (24 &&& 31)).toInt8.toInt32))) 13 (vp_nar .byte ((k4 >>> (16 &&& 31)).toInt8.toInt32))) 14 (vp_nar .byte ((k4 >>> (8 &&& 31)).toInt8.toInt32))))), (mFive, .inl (cs 1, 5, .inl (upd (upd (upd (upd (upd (fun _ => 0) 0 k) 1 k2) 2 k3) 3 k4) 4 k5)))] H := hP
  have hD : va_D A [(b0, .inr (9, [.int 0, .ref mWorld, .ref mImages, .ref mHasImage, .ref mTape, .int 0, .ref mFive, .int 0, .int 0, .int 0, .int 0, .int 0, .int 0, .int (-1), .ref mFresh, .ref mMergedBy, .int 0, .int 0, .int 0, .ref mIsValid, .ref mGoes, .ref mFarNow, .ref mFreeNow, .ref mIsPair, .ref mHitsBy, .int 0, .int 0, .int 0, .int 0, .int 0, .int 0, .int 0, .int 0, .int 0, .ref mWorthBy, .long 0, .long 0, .long 0, .ref mMany, .ref mWidth, .ref mNumbers, .ref mMoving])), (mTape, .inl (cs 0, 400, .inl (upd (upd (upd (upd (upd (upd (upd (upd (upd (upd (upd (upd (upd (upd (upd (fun _ => 0) 0 (vp_nar .byte ((k >>> (24 &&& 31)).toInt8.toInt32))) 1 (vp_nar .byte ((k >>> (16 &&& 31)).toInt8.toInt32))) 2 (vp_nar .byte ((k >>> (8 &&& 31)).toInt8.toInt32))) 3 (vp_nar .byte ((k >>> (0 &&& 31)).toInt8.toInt32))) 4 (vp_nar .byte ((k2 >>> (24 &&& 31)).toInt8.toInt32))) 5 (vp_nar .byte ((k2 >>> (16 &&& 31)).toInt8.toInt32))) 6 (vp_nar .byte ((k2 >>> (8 &&& 31)).toInt8.toInt32))) 7 (vp_nar .byte ((k2 >>> (0 &&& 31)).toInt8.toInt32))) 8 (vp_nar .byte ((k3 >>> (24 &&& 31)).toInt8.toInt32))) 9 (vp_nar .byte ((k3 >>> (16 &&& 31)).toInt8.toInt32))) 10 (vp_nar .byte ((k3 >>> (8 &&& 31)).toInt8.toInt32))) 11 (vp_nar .byte ((k3 >>> (0 &&& 31)).toInt8.toInt32))) 12 (vp_nar .byte ((k4 >>> (24 &&& 31)).toInt8.toInt32))) 13 (vp_nar .byte ((k4 >>> (16 &&& 31)).toInt8.toInt32))) 14 (vp_nar .byte ((k4 >>> (8 &&& 31)).toInt8.toInt32))))), (mFive, .inl (cs 1, 5, .inl (upd (upd (upd (upd (upd (fun _ => 0) 0 k) 1 k2) 2 k3) 3 k4) 4 k5)))] := hD
  refine lv_iinc (v := 15) (lv' := [(6, .int 15), (0, .ref b0), (1, .int k), (2, .int k2), (3, .int k3), (4, .int k4), (5, .int k5)]) hx hb dX9_feed_95 hl (k := 0) rfl (by decide) (by decide) rfl (fun ls hl => ?_)
  refine lv_goto (tgt := 55) hx hb dX9_feed_98 (by decide) ?_
  refine lv_iload hx hb dX9_feed_55 (lv_at hl 0 rfl) ?_
  refine lv_bipush (v := 20) hx hb dX9_feed_57 (by decide) ?_
  refine lv_icmp_ge (tgt := 101) hx hb dX9_feed_59 (by decide) (fun h9 => absurd h9 (by decide)) (fun _ => ?_)
  refine lv_aload_n hx hb dX9_feed_62 rfl (lv_at hl 1 rfl) ?_
  refine va_get (D := D) (ci := 9) (v := .ref mTape) (C := RX9) (T := TX9) (N := 42) hx hb hts iuX9_feed_X9 hown hK hP 0 rfl rfl 4 (by decide) (htw (.fieldLink RX9 20 "MergeJudgeModel" "tape" "[B") (List.mem_of_getElem? (i := 2) rfl)) (fun _ h9 => h9) rfl dX9_feed_63 ?_
  refine lv_aload_n hx hb dX9_feed_66 rfl (lv_at hl 1 rfl) ?_
  refine va_get (D := D) (ci := 9) (v := .int 0) (C := RX9) (T := TX9) (N := 42) hx hb hts iuX9_feed_X9 hown hK hP 0 rfl rfl 5 (by decide) (htw (.fieldLink RX9 99 "MergeJudgeModel" "taped" "I") (List.mem_of_getElem? (i := 0) rfl)) (fun _ h9 => h9) rfl dX9_feed_67 ?_
  refine lv_iload hx hb dX9_feed_70 (lv_at hl 0 rfl) ?_
  refine lv_iadd hx hb dX9_feed_72 ?_
  refine cf_i 15 (by decide) ?_
  refine lv_aload_n hx hb dX9_feed_73 rfl (lv_at hl 1 rfl) ?_
  refine va_get (D := D) (ci := 9) (v := .ref mFive) (C := RX9) (T := TX9) (N := 42) hx hb hts iuX9_feed_X9 hown hK hP 0 rfl rfl 6 (by decide) (htw (.fieldLink RX9 24 "MergeJudgeModel" "five" "[I") (List.mem_of_getElem? (i := 1) rfl)) (fun _ h9 => h9) rfl dX9_feed_74 ?_
  refine lv_iload hx hb dX9_feed_77 (lv_at hl 0 rfl) ?_
  refine lv_iconst (v := 4) hx hb dX9_feed_79 (by decide) ?_
  refine lv_idiv hx hb dX9_feed_80 (by decide) ?_
  refine cf_i 3 (by decide) ?_
  refine va_iald hx hb hK hP 2 1 rfl rfl (vp_c (by decide)) dX9_feed_81 ?_
  refine cf_v (.int k4) rfl ?_
  refine lv_bipush (v := 24) hx hb dX9_feed_82 (by decide) ?_
  refine lv_bipush (v := 8) hx hb dX9_feed_84 (by decide) ?_
  refine lv_iload hx hb dX9_feed_86 (lv_at hl 0 rfl) ?_
  refine lv_iconst (v := 4) hx hb dX9_feed_88 (by decide) ?_
  refine lv_irem hx hb dX9_feed_89 (by decide) ?_
  refine cf_i 3 (by decide) ?_
  refine lv_imul hx hb dX9_feed_90 ?_
  refine cf_i 24 (by decide) ?_
  refine lv_isub hx hb dX9_feed_91 ?_
  refine cf_i 0 (by decide) ?_
  refine lv_ishr hx hb dX9_feed_92 ?_
  refine lv_i2b (v := ((k4 >>> (0 &&& 31)).toInt8.toInt32)) hx hb dX9_feed_93 rfl ?_
  refine va_bast hx hb hK hP hD hS 1 0 rfl rfl (vp_c (by decide)) dX9_feed_94 (fun H locs hP hD hS => ?_)
  have hP : va_P D vwCl [(b0, .inr (9, [.int 0, .ref mWorld, .ref mImages, .ref mHasImage, .ref mTape, .int 0, .ref mFive, .int 0, .int 0, .int 0, .int 0, .int 0, .int 0, .int (-1), .ref mFresh, .ref mMergedBy, .int 0, .int 0, .int 0, .ref mIsValid, .ref mGoes, .ref mFarNow, .ref mFreeNow, .ref mIsPair, .ref mHitsBy, .int 0, .int 0, .int 0, .int 0, .int 0, .int 0, .int 0, .int 0, .int 0, .ref mWorthBy, .long 0, .long 0, .long 0, .ref mMany, .ref mWidth, .ref mNumbers, .ref mMoving])), (mTape, .inl (cs 0, 400, .inl (upd (upd (upd (upd (upd (upd (upd (upd (upd (upd (upd (upd (upd (upd (upd (upd (fun _ => 0) 0 (vp_nar .byte ((k >>> (24 &&& 31)).toInt8.toInt32))) 1 (vp_nar .byte ((k >>> (16 &&& 31)).toInt8.toInt32))) 2 (vp_nar .byte ((k >>> (8 &&& 31)).toInt8.toInt32))) 3 (vp_nar .byte ((k >>> (0 &&& 31)).toInt8.toInt32))) 4 (vp_nar .byte ((k2 >>> (24 &&& 31)).toInt8.toInt32))) 5 (vp_nar .byte ((k2 >>> (16 &&& 31)).toInt8.toInt32))) 6 (vp_nar .byte ((k2 >>> (8 &&& 31)).toInt8.toInt32))) 7 (vp_nar .byte ((k2 >>> (0 &&& 31)).toInt8.toInt32))) 8 (vp_nar .byte ((k3 >>> (24 &&& 31)).toInt8.toInt32))) 9 (vp_nar .byte ((k3 >>> (16 &&& 31)).toInt8.toInt32))) 10 (vp_nar .byte ((k3 >>> (8 &&& 31)).toInt8.toInt32))) 11 (vp_nar .byte ((k3 >>> (0 &&& 31)).toInt8.toInt32))) 12 (vp_nar .byte ((k4 >>> (24 &&& 31)).toInt8.toInt32))) 13 (vp_nar .byte ((k4 >>> (16 &&& 31)).toInt8.toInt32))) 14 (vp_nar .byte ((k4 >>> (8 &&& 31)).toInt8.toInt32))) 15 (vp_nar .byte ((k4 >>> (0 &&& 31)).toInt8.toInt32))))), (mFive, .inl (cs 1, 5, .inl (upd (upd (upd (upd (upd (fun _ => 0) 0 k) 1 k2) 2 k3) 3 k4) 4 k5)))] H := hP
  have hD : va_D A [(b0, .inr (9, [.int 0, .ref mWorld, .ref mImages, .ref mHasImage, .ref mTape, .int 0, .ref mFive, .int 0, .int 0, .int 0, .int 0, .int 0, .int 0, .int (-1), .ref mFresh, .ref mMergedBy, .int 0, .int 0, .int 0, .ref mIsValid, .ref mGoes, .ref mFarNow, .ref mFreeNow, .ref mIsPair, .ref mHitsBy, .int 0, .int 0, .int 0, .int 0, .int 0, .int 0, .int 0, .int 0, .int 0, .ref mWorthBy, .long 0, .long 0, .long 0, .ref mMany, .ref mWidth, .ref mNumbers, .ref mMoving])), (mTape, .inl (cs 0, 400, .inl (upd (upd (upd (upd (upd (upd (upd (upd (upd (upd (upd (upd (upd (upd (upd (upd (fun _ => 0) 0 (vp_nar .byte ((k >>> (24 &&& 31)).toInt8.toInt32))) 1 (vp_nar .byte ((k >>> (16 &&& 31)).toInt8.toInt32))) 2 (vp_nar .byte ((k >>> (8 &&& 31)).toInt8.toInt32))) 3 (vp_nar .byte ((k >>> (0 &&& 31)).toInt8.toInt32))) 4 (vp_nar .byte ((k2 >>> (24 &&& 31)).toInt8.toInt32))) 5 (vp_nar .byte ((k2 >>> (16 &&& 31)).toInt8.toInt32))) 6 (vp_nar .byte ((k2 >>> (8 &&& 31)).toInt8.toInt32))) 7 (vp_nar .byte ((k2 >>> (0 &&& 31)).toInt8.toInt32))) 8 (vp_nar .byte ((k3 >>> (24 &&& 31)).toInt8.toInt32))) 9 (vp_nar .byte ((k3 >>> (16 &&& 31)).toInt8.toInt32))) 10 (vp_nar .byte ((k3 >>> (8 &&& 31)).toInt8.toInt32))) 11 (vp_nar .byte ((k3 >>> (0 &&& 31)).toInt8.toInt32))) 12 (vp_nar .byte ((k4 >>> (24 &&& 31)).toInt8.toInt32))) 13 (vp_nar .byte ((k4 >>> (16 &&& 31)).toInt8.toInt32))) 14 (vp_nar .byte ((k4 >>> (8 &&& 31)).toInt8.toInt32))) 15 (vp_nar .byte ((k4 >>> (0 &&& 31)).toInt8.toInt32))))), (mFive, .inl (cs 1, 5, .inl (upd (upd (upd (upd (upd (fun _ => 0) 0 k) 1 k2) 2 k3) 3 k4) 4 k5)))] := hD
  refine lv_iinc (v := 16) (lv' := [(6, .int 16), (0, .ref b0), (1, .int k), (2, .int k2), (3, .int k3), (4, .int k4), (5, .int k5)]) hx hb dX9_feed_95 hl (k := 0) rfl (by decide) (by decide) rfl (fun ls hl => ?_)
  refine lv_goto (tgt := 55) hx hb dX9_feed_98 (by decide) ?_
  refine lv_iload hx hb dX9_feed_55 (lv_at hl 0 rfl) ?_
  refine lv_bipush (v := 20) hx hb dX9_feed_57 (by decide) ?_
  refine lv_icmp_ge (tgt := 101) hx hb dX9_feed_59 (by decide) (fun h9 => absurd h9 (by decide)) (fun _ => ?_)
  refine lv_aload_n hx hb dX9_feed_62 rfl (lv_at hl 1 rfl) ?_
  refine va_get (D := D) (ci := 9) (v := .ref mTape) (C := RX9) (T := TX9) (N := 42) hx hb hts iuX9_feed_X9 hown hK hP 0 rfl rfl 4 (by decide) (htw (.fieldLink RX9 20 "MergeJudgeModel" "tape" "[B") (List.mem_of_getElem? (i := 2) rfl)) (fun _ h9 => h9) rfl dX9_feed_63 ?_
  refine lv_aload_n hx hb dX9_feed_66 rfl (lv_at hl 1 rfl) ?_
  refine va_get (D := D) (ci := 9) (v := .int 0) (C := RX9) (T := TX9) (N := 42) hx hb hts iuX9_feed_X9 hown hK hP 0 rfl rfl 5 (by decide) (htw (.fieldLink RX9 99 "MergeJudgeModel" "taped" "I") (List.mem_of_getElem? (i := 0) rfl)) (fun _ h9 => h9) rfl dX9_feed_67 ?_
  refine lv_iload hx hb dX9_feed_70 (lv_at hl 0 rfl) ?_
  refine lv_iadd hx hb dX9_feed_72 ?_
  refine cf_i 16 (by decide) ?_
  refine lv_aload_n hx hb dX9_feed_73 rfl (lv_at hl 1 rfl) ?_
  refine va_get (D := D) (ci := 9) (v := .ref mFive) (C := RX9) (T := TX9) (N := 42) hx hb hts iuX9_feed_X9 hown hK hP 0 rfl rfl 6 (by decide) (htw (.fieldLink RX9 24 "MergeJudgeModel" "five" "[I") (List.mem_of_getElem? (i := 1) rfl)) (fun _ h9 => h9) rfl dX9_feed_74 ?_
  refine lv_iload hx hb dX9_feed_77 (lv_at hl 0 rfl) ?_
  refine lv_iconst (v := 4) hx hb dX9_feed_79 (by decide) ?_
  refine lv_idiv hx hb dX9_feed_80 (by decide) ?_
  refine cf_i 4 (by decide) ?_
  refine va_iald hx hb hK hP 2 1 rfl rfl (vp_c (by decide)) dX9_feed_81 ?_
  refine cf_v (.int k5) rfl ?_
  refine lv_bipush (v := 24) hx hb dX9_feed_82 (by decide) ?_
  refine lv_bipush (v := 8) hx hb dX9_feed_84 (by decide) ?_
  refine lv_iload hx hb dX9_feed_86 (lv_at hl 0 rfl) ?_
  refine lv_iconst (v := 4) hx hb dX9_feed_88 (by decide) ?_
  refine lv_irem hx hb dX9_feed_89 (by decide) ?_
  refine cf_i 0 (by decide) ?_
  refine lv_imul hx hb dX9_feed_90 ?_
  refine cf_i 0 (by decide) ?_
  refine lv_isub hx hb dX9_feed_91 ?_
  refine cf_i 24 (by decide) ?_
  refine lv_ishr hx hb dX9_feed_92 ?_
  refine lv_i2b (v := ((k5 >>> (24 &&& 31)).toInt8.toInt32)) hx hb dX9_feed_93 rfl ?_
  refine va_bast hx hb hK hP hD hS 1 0 rfl rfl (vp_c (by decide)) dX9_feed_94 (fun H locs hP hD hS => ?_)
  have hP : va_P D vwCl [(b0, .inr (9, [.int 0, .ref mWorld, .ref mImages, .ref mHasImage, .ref mTape, .int 0, .ref mFive, .int 0, .int 0, .int 0, .int 0, .int 0, .int 0, .int (-1), .ref mFresh, .ref mMergedBy, .int 0, .int 0, .int 0, .ref mIsValid, .ref mGoes, .ref mFarNow, .ref mFreeNow, .ref mIsPair, .ref mHitsBy, .int 0, .int 0, .int 0, .int 0, .int 0, .int 0, .int 0, .int 0, .int 0, .ref mWorthBy, .long 0, .long 0, .long 0, .ref mMany, .ref mWidth, .ref mNumbers, .ref mMoving])), (mTape, .inl (cs 0, 400, .inl (upd (upd (upd (upd (upd (upd (upd (upd (upd (upd (upd (upd (upd (upd (upd (upd (upd (fun _ => 0) 0 (vp_nar .byte ((k >>> (24 &&& 31)).toInt8.toInt32))) 1 (vp_nar .byte ((k >>> (16 &&& 31)).toInt8.toInt32))) 2 (vp_nar .byte ((k >>> (8 &&& 31)).toInt8.toInt32))) 3 (vp_nar .byte ((k >>> (0 &&& 31)).toInt8.toInt32))) 4 (vp_nar .byte ((k2 >>> (24 &&& 31)).toInt8.toInt32))) 5 (vp_nar .byte ((k2 >>> (16 &&& 31)).toInt8.toInt32))) 6 (vp_nar .byte ((k2 >>> (8 &&& 31)).toInt8.toInt32))) 7 (vp_nar .byte ((k2 >>> (0 &&& 31)).toInt8.toInt32))) 8 (vp_nar .byte ((k3 >>> (24 &&& 31)).toInt8.toInt32))) 9 (vp_nar .byte ((k3 >>> (16 &&& 31)).toInt8.toInt32))) 10 (vp_nar .byte ((k3 >>> (8 &&& 31)).toInt8.toInt32))) 11 (vp_nar .byte ((k3 >>> (0 &&& 31)).toInt8.toInt32))) 12 (vp_nar .byte ((k4 >>> (24 &&& 31)).toInt8.toInt32))) 13 (vp_nar .byte ((k4 >>> (16 &&& 31)).toInt8.toInt32))) 14 (vp_nar .byte ((k4 >>> (8 &&& 31)).toInt8.toInt32))) 15 (vp_nar .byte ((k4 >>> (0 &&& 31)).toInt8.toInt32))) 16 (vp_nar .byte ((k5 >>> (24 &&& 31)).toInt8.toInt32))))), (mFive, .inl (cs 1, 5, .inl (upd (upd (upd (upd (upd (fun _ => 0) 0 k) 1 k2) 2 k3) 3 k4) 4 k5)))] H := hP
  have hD : va_D A [(b0, .inr (9, [.int 0, .ref mWorld, .ref mImages, .ref mHasImage, .ref mTape, .int 0, .ref mFive, .int 0, .int 0, .int 0, .int 0, .int 0, .int 0, .int (-1), .ref mFresh, .ref mMergedBy, .int 0, .int 0, .int 0, .ref mIsValid, .ref mGoes, .ref mFarNow, .ref mFreeNow, .ref mIsPair, .ref mHitsBy, .int 0, .int 0, .int 0, .int 0, .int 0, .int 0, .int 0, .int 0, .int 0, .ref mWorthBy, .long 0, .long 0, .long 0, .ref mMany, .ref mWidth, .ref mNumbers, .ref mMoving])), (mTape, .inl (cs 0, 400, .inl (upd (upd (upd (upd (upd (upd (upd (upd (upd (upd (upd (upd (upd (upd (upd (upd (upd (fun _ => 0) 0 (vp_nar .byte ((k >>> (24 &&& 31)).toInt8.toInt32))) 1 (vp_nar .byte ((k >>> (16 &&& 31)).toInt8.toInt32))) 2 (vp_nar .byte ((k >>> (8 &&& 31)).toInt8.toInt32))) 3 (vp_nar .byte ((k >>> (0 &&& 31)).toInt8.toInt32))) 4 (vp_nar .byte ((k2 >>> (24 &&& 31)).toInt8.toInt32))) 5 (vp_nar .byte ((k2 >>> (16 &&& 31)).toInt8.toInt32))) 6 (vp_nar .byte ((k2 >>> (8 &&& 31)).toInt8.toInt32))) 7 (vp_nar .byte ((k2 >>> (0 &&& 31)).toInt8.toInt32))) 8 (vp_nar .byte ((k3 >>> (24 &&& 31)).toInt8.toInt32))) 9 (vp_nar .byte ((k3 >>> (16 &&& 31)).toInt8.toInt32))) 10 (vp_nar .byte ((k3 >>> (8 &&& 31)).toInt8.toInt32))) 11 (vp_nar .byte ((k3 >>> (0 &&& 31)).toInt8.toInt32))) 12 (vp_nar .byte ((k4 >>> (24 &&& 31)).toInt8.toInt32))) 13 (vp_nar .byte ((k4 >>> (16 &&& 31)).toInt8.toInt32))) 14 (vp_nar .byte ((k4 >>> (8 &&& 31)).toInt8.toInt32))) 15 (vp_nar .byte ((k4 >>> (0 &&& 31)).toInt8.toInt32))) 16 (vp_nar .byte ((k5 >>> (24 &&& 31)).toInt8.toInt32))))), (mFive, .inl (cs 1, 5, .inl (upd (upd (upd (upd (upd (fun _ => 0) 0 k) 1 k2) 2 k3) 3 k4) 4 k5)))] := hD
  refine lv_iinc (v := 17) (lv' := [(6, .int 17), (0, .ref b0), (1, .int k), (2, .int k2), (3, .int k3), (4, .int k4), (5, .int k5)]) hx hb dX9_feed_95 hl (k := 0) rfl (by decide) (by decide) rfl (fun ls hl => ?_)
  refine lv_goto (tgt := 55) hx hb dX9_feed_98 (by decide) ?_
  refine lv_iload hx hb dX9_feed_55 (lv_at hl 0 rfl) ?_
  refine lv_bipush (v := 20) hx hb dX9_feed_57 (by decide) ?_
  refine lv_icmp_ge (tgt := 101) hx hb dX9_feed_59 (by decide) (fun h9 => absurd h9 (by decide)) (fun _ => ?_)
  refine lv_aload_n hx hb dX9_feed_62 rfl (lv_at hl 1 rfl) ?_
  refine va_get (D := D) (ci := 9) (v := .ref mTape) (C := RX9) (T := TX9) (N := 42) hx hb hts iuX9_feed_X9 hown hK hP 0 rfl rfl 4 (by decide) (htw (.fieldLink RX9 20 "MergeJudgeModel" "tape" "[B") (List.mem_of_getElem? (i := 2) rfl)) (fun _ h9 => h9) rfl dX9_feed_63 ?_
  refine lv_aload_n hx hb dX9_feed_66 rfl (lv_at hl 1 rfl) ?_
  refine va_get (D := D) (ci := 9) (v := .int 0) (C := RX9) (T := TX9) (N := 42) hx hb hts iuX9_feed_X9 hown hK hP 0 rfl rfl 5 (by decide) (htw (.fieldLink RX9 99 "MergeJudgeModel" "taped" "I") (List.mem_of_getElem? (i := 0) rfl)) (fun _ h9 => h9) rfl dX9_feed_67 ?_
  refine lv_iload hx hb dX9_feed_70 (lv_at hl 0 rfl) ?_
  refine lv_iadd hx hb dX9_feed_72 ?_
  refine cf_i 17 (by decide) ?_
  refine lv_aload_n hx hb dX9_feed_73 rfl (lv_at hl 1 rfl) ?_
  refine va_get (D := D) (ci := 9) (v := .ref mFive) (C := RX9) (T := TX9) (N := 42) hx hb hts iuX9_feed_X9 hown hK hP 0 rfl rfl 6 (by decide) (htw (.fieldLink RX9 24 "MergeJudgeModel" "five" "[I") (List.mem_of_getElem? (i := 1) rfl)) (fun _ h9 => h9) rfl dX9_feed_74 ?_
  refine lv_iload hx hb dX9_feed_77 (lv_at hl 0 rfl) ?_
  refine lv_iconst (v := 4) hx hb dX9_feed_79 (by decide) ?_
  refine lv_idiv hx hb dX9_feed_80 (by decide) ?_
  refine cf_i 4 (by decide) ?_
  refine va_iald hx hb hK hP 2 1 rfl rfl (vp_c (by decide)) dX9_feed_81 ?_
  refine cf_v (.int k5) rfl ?_
  refine lv_bipush (v := 24) hx hb dX9_feed_82 (by decide) ?_
  refine lv_bipush (v := 8) hx hb dX9_feed_84 (by decide) ?_
  refine lv_iload hx hb dX9_feed_86 (lv_at hl 0 rfl) ?_
  refine lv_iconst (v := 4) hx hb dX9_feed_88 (by decide) ?_
  refine lv_irem hx hb dX9_feed_89 (by decide) ?_
  refine cf_i 1 (by decide) ?_
  refine lv_imul hx hb dX9_feed_90 ?_
  refine cf_i 8 (by decide) ?_
  refine lv_isub hx hb dX9_feed_91 ?_
  refine cf_i 16 (by decide) ?_
  refine lv_ishr hx hb dX9_feed_92 ?_
  refine lv_i2b (v := ((k5 >>> (16 &&& 31)).toInt8.toInt32)) hx hb dX9_feed_93 rfl ?_
  refine va_bast hx hb hK hP hD hS 1 0 rfl rfl (vp_c (by decide)) dX9_feed_94 (fun H locs hP hD hS => ?_)
  have hP : va_P D vwCl [(b0, .inr (9, [.int 0, .ref mWorld, .ref mImages, .ref mHasImage, .ref mTape, .int 0, .ref mFive, .int 0, .int 0, .int 0, .int 0, .int 0, .int 0, .int (-1), .ref mFresh, .ref mMergedBy, .int 0, .int 0, .int 0, .ref mIsValid, .ref mGoes, .ref mFarNow, .ref mFreeNow, .ref mIsPair, .ref mHitsBy, .int 0, .int 0, .int 0, .int 0, .int 0, .int 0, .int 0, .int 0, .int 0, .ref mWorthBy, .long 0, .long 0, .long 0, .ref mMany, .ref mWidth, .ref mNumbers, .ref mMoving])), (mTape, .inl (cs 0, 400, .inl (upd (upd (upd (upd (upd (upd (upd (upd (upd (upd (upd (upd (upd (upd (upd (upd (upd (upd (fun _ => 0) 0 (vp_nar .byte ((k >>> (24 &&& 31)).toInt8.toInt32))) 1 (vp_nar .byte ((k >>> (16 &&& 31)).toInt8.toInt32))) 2 (vp_nar .byte ((k >>> (8 &&& 31)).toInt8.toInt32))) 3 (vp_nar .byte ((k >>> (0 &&& 31)).toInt8.toInt32))) 4 (vp_nar .byte ((k2 >>> (24 &&& 31)).toInt8.toInt32))) 5 (vp_nar .byte ((k2 >>> (16 &&& 31)).toInt8.toInt32))) 6 (vp_nar .byte ((k2 >>> (8 &&& 31)).toInt8.toInt32))) 7 (vp_nar .byte ((k2 >>> (0 &&& 31)).toInt8.toInt32))) 8 (vp_nar .byte ((k3 >>> (24 &&& 31)).toInt8.toInt32))) 9 (vp_nar .byte ((k3 >>> (16 &&& 31)).toInt8.toInt32))) 10 (vp_nar .byte ((k3 >>> (8 &&& 31)).toInt8.toInt32))) 11 (vp_nar .byte ((k3 >>> (0 &&& 31)).toInt8.toInt32))) 12 (vp_nar .byte ((k4 >>> (24 &&& 31)).toInt8.toInt32))) 13 (vp_nar .byte ((k4 >>> (16 &&& 31)).toInt8.toInt32))) 14 (vp_nar .byte ((k4 >>> (8 &&& 31)).toInt8.toInt32))) 15 (vp_nar .byte ((k4 >>> (0 &&& 31)).toInt8.toInt32))) 16 (vp_nar .byte ((k5 >>> (24 &&& 31)).toInt8.toInt32))) 17 (vp_nar .byte ((k5 >>> (16 &&& 31)).toInt8.toInt32))))), (mFive, .inl (cs 1, 5, .inl (upd (upd (upd (upd (upd (fun _ => 0) 0 k) 1 k2) 2 k3) 3 k4) 4 k5)))] H := hP
  have hD : va_D A [(b0, .inr (9, [.int 0, .ref mWorld, .ref mImages, .ref mHasImage, .ref mTape, .int 0, .ref mFive, .int 0, .int 0, .int 0, .int 0, .int 0, .int 0, .int (-1), .ref mFresh, .ref mMergedBy, .int 0, .int 0, .int 0, .ref mIsValid, .ref mGoes, .ref mFarNow, .ref mFreeNow, .ref mIsPair, .ref mHitsBy, .int 0, .int 0, .int 0, .int 0, .int 0, .int 0, .int 0, .int 0, .int 0, .ref mWorthBy, .long 0, .long 0, .long 0, .ref mMany, .ref mWidth, .ref mNumbers, .ref mMoving])), (mTape, .inl (cs 0, 400, .inl (upd (upd (upd (upd (upd (upd (upd (upd (upd (upd (upd (upd (upd (upd (upd (upd (upd (upd (fun _ => 0) 0 (vp_nar .byte ((k >>> (24 &&& 31)).toInt8.toInt32))) 1 (vp_nar .byte ((k >>> (16 &&& 31)).toInt8.toInt32))) 2 (vp_nar .byte ((k >>> (8 &&& 31)).toInt8.toInt32))) 3 (vp_nar .byte ((k >>> (0 &&& 31)).toInt8.toInt32))) 4 (vp_nar .byte ((k2 >>> (24 &&& 31)).toInt8.toInt32))) 5 (vp_nar .byte ((k2 >>> (16 &&& 31)).toInt8.toInt32))) 6 (vp_nar .byte ((k2 >>> (8 &&& 31)).toInt8.toInt32))) 7 (vp_nar .byte ((k2 >>> (0 &&& 31)).toInt8.toInt32))) 8 (vp_nar .byte ((k3 >>> (24 &&& 31)).toInt8.toInt32))) 9 (vp_nar .byte ((k3 >>> (16 &&& 31)).toInt8.toInt32))) 10 (vp_nar .byte ((k3 >>> (8 &&& 31)).toInt8.toInt32))) 11 (vp_nar .byte ((k3 >>> (0 &&& 31)).toInt8.toInt32))) 12 (vp_nar .byte ((k4 >>> (24 &&& 31)).toInt8.toInt32))) 13 (vp_nar .byte ((k4 >>> (16 &&& 31)).toInt8.toInt32))) 14 (vp_nar .byte ((k4 >>> (8 &&& 31)).toInt8.toInt32))) 15 (vp_nar .byte ((k4 >>> (0 &&& 31)).toInt8.toInt32))) 16 (vp_nar .byte ((k5 >>> (24 &&& 31)).toInt8.toInt32))) 17 (vp_nar .byte ((k5 >>> (16 &&& 31)).toInt8.toInt32))))), (mFive, .inl (cs 1, 5, .inl (upd (upd (upd (upd (upd (fun _ => 0) 0 k) 1 k2) 2 k3) 3 k4) 4 k5)))] := hD
  refine lv_iinc (v := 18) (lv' := [(6, .int 18), (0, .ref b0), (1, .int k), (2, .int k2), (3, .int k3), (4, .int k4), (5, .int k5)]) hx hb dX9_feed_95 hl (k := 0) rfl (by decide) (by decide) rfl (fun ls hl => ?_)
  refine lv_goto (tgt := 55) hx hb dX9_feed_98 (by decide) ?_
  refine lv_iload hx hb dX9_feed_55 (lv_at hl 0 rfl) ?_
  refine lv_bipush (v := 20) hx hb dX9_feed_57 (by decide) ?_
  refine lv_icmp_ge (tgt := 101) hx hb dX9_feed_59 (by decide) (fun h9 => absurd h9 (by decide)) (fun _ => ?_)
  refine lv_aload_n hx hb dX9_feed_62 rfl (lv_at hl 1 rfl) ?_
  refine va_get (D := D) (ci := 9) (v := .ref mTape) (C := RX9) (T := TX9) (N := 42) hx hb hts iuX9_feed_X9 hown hK hP 0 rfl rfl 4 (by decide) (htw (.fieldLink RX9 20 "MergeJudgeModel" "tape" "[B") (List.mem_of_getElem? (i := 2) rfl)) (fun _ h9 => h9) rfl dX9_feed_63 ?_
  refine lv_aload_n hx hb dX9_feed_66 rfl (lv_at hl 1 rfl) ?_
  refine va_get (D := D) (ci := 9) (v := .int 0) (C := RX9) (T := TX9) (N := 42) hx hb hts iuX9_feed_X9 hown hK hP 0 rfl rfl 5 (by decide) (htw (.fieldLink RX9 99 "MergeJudgeModel" "taped" "I") (List.mem_of_getElem? (i := 0) rfl)) (fun _ h9 => h9) rfl dX9_feed_67 ?_
  refine lv_iload hx hb dX9_feed_70 (lv_at hl 0 rfl) ?_
  refine lv_iadd hx hb dX9_feed_72 ?_
  refine cf_i 18 (by decide) ?_
  refine lv_aload_n hx hb dX9_feed_73 rfl (lv_at hl 1 rfl) ?_
  refine va_get (D := D) (ci := 9) (v := .ref mFive) (C := RX9) (T := TX9) (N := 42) hx hb hts iuX9_feed_X9 hown hK hP 0 rfl rfl 6 (by decide) (htw (.fieldLink RX9 24 "MergeJudgeModel" "five" "[I") (List.mem_of_getElem? (i := 1) rfl)) (fun _ h9 => h9) rfl dX9_feed_74 ?_
  refine lv_iload hx hb dX9_feed_77 (lv_at hl 0 rfl) ?_
  refine lv_iconst (v := 4) hx hb dX9_feed_79 (by decide) ?_
  refine lv_idiv hx hb dX9_feed_80 (by decide) ?_
  refine cf_i 4 (by decide) ?_
  refine va_iald hx hb hK hP 2 1 rfl rfl (vp_c (by decide)) dX9_feed_81 ?_
  refine cf_v (.int k5) rfl ?_
  refine lv_bipush (v := 24) hx hb dX9_feed_82 (by decide) ?_
  refine lv_bipush (v := 8) hx hb dX9_feed_84 (by decide) ?_
  refine lv_iload hx hb dX9_feed_86 (lv_at hl 0 rfl) ?_
  refine lv_iconst (v := 4) hx hb dX9_feed_88 (by decide) ?_
  refine lv_irem hx hb dX9_feed_89 (by decide) ?_
  refine cf_i 2 (by decide) ?_
  refine lv_imul hx hb dX9_feed_90 ?_
  refine cf_i 16 (by decide) ?_
  refine lv_isub hx hb dX9_feed_91 ?_
  refine cf_i 8 (by decide) ?_
  refine lv_ishr hx hb dX9_feed_92 ?_
  refine lv_i2b (v := ((k5 >>> (8 &&& 31)).toInt8.toInt32)) hx hb dX9_feed_93 rfl ?_
  refine va_bast hx hb hK hP hD hS 1 0 rfl rfl (vp_c (by decide)) dX9_feed_94 (fun H locs hP hD hS => ?_)
  have hP : va_P D vwCl [(b0, .inr (9, [.int 0, .ref mWorld, .ref mImages, .ref mHasImage, .ref mTape, .int 0, .ref mFive, .int 0, .int 0, .int 0, .int 0, .int 0, .int 0, .int (-1), .ref mFresh, .ref mMergedBy, .int 0, .int 0, .int 0, .ref mIsValid, .ref mGoes, .ref mFarNow, .ref mFreeNow, .ref mIsPair, .ref mHitsBy, .int 0, .int 0, .int 0, .int 0, .int 0, .int 0, .int 0, .int 0, .int 0, .ref mWorthBy, .long 0, .long 0, .long 0, .ref mMany, .ref mWidth, .ref mNumbers, .ref mMoving])), (mTape, .inl (cs 0, 400, .inl (upd (upd (upd (upd (upd (upd (upd (upd (upd (upd (upd (upd (upd (upd (upd (upd (upd (upd (upd (fun _ => 0) 0 (vp_nar .byte ((k >>> (24 &&& 31)).toInt8.toInt32))) 1 (vp_nar .byte ((k >>> (16 &&& 31)).toInt8.toInt32))) 2 (vp_nar .byte ((k >>> (8 &&& 31)).toInt8.toInt32))) 3 (vp_nar .byte ((k >>> (0 &&& 31)).toInt8.toInt32))) 4 (vp_nar .byte ((k2 >>> (24 &&& 31)).toInt8.toInt32))) 5 (vp_nar .byte ((k2 >>> (16 &&& 31)).toInt8.toInt32))) 6 (vp_nar .byte ((k2 >>> (8 &&& 31)).toInt8.toInt32))) 7 (vp_nar .byte ((k2 >>> (0 &&& 31)).toInt8.toInt32))) 8 (vp_nar .byte ((k3 >>> (24 &&& 31)).toInt8.toInt32))) 9 (vp_nar .byte ((k3 >>> (16 &&& 31)).toInt8.toInt32))) 10 (vp_nar .byte ((k3 >>> (8 &&& 31)).toInt8.toInt32))) 11 (vp_nar .byte ((k3 >>> (0 &&& 31)).toInt8.toInt32))) 12 (vp_nar .byte ((k4 >>> (24 &&& 31)).toInt8.toInt32))) 13 (vp_nar .byte ((k4 >>> (16 &&& 31)).toInt8.toInt32))) 14 (vp_nar .byte ((k4 >>> (8 &&& 31)).toInt8.toInt32))) 15 (vp_nar .byte ((k4 >>> (0 &&& 31)).toInt8.toInt32))) 16 (vp_nar .byte ((k5 >>> (24 &&& 31)).toInt8.toInt32))) 17 (vp_nar .byte ((k5 >>> (16 &&& 31)).toInt8.toInt32))) 18 (vp_nar .byte ((k5 >>> (8 &&& 31)).toInt8.toInt32))))), (mFive, .inl (cs 1, 5, .inl (upd (upd (upd (upd (upd (fun _ => 0) 0 k) 1 k2) 2 k3) 3 k4) 4 k5)))] H := hP
  have hD : va_D A [(b0, .inr (9, [.int 0, .ref mWorld, .ref mImages, .ref mHasImage, .ref mTape, .int 0, .ref mFive, .int 0, .int 0, .int 0, .int 0, .int 0, .int 0, .int (-1), .ref mFresh, .ref mMergedBy, .int 0, .int 0, .int 0, .ref mIsValid, .ref mGoes, .ref mFarNow, .ref mFreeNow, .ref mIsPair, .ref mHitsBy, .int 0, .int 0, .int 0, .int 0, .int 0, .int 0, .int 0, .int 0, .int 0, .ref mWorthBy, .long 0, .long 0, .long 0, .ref mMany, .ref mWidth, .ref mNumbers, .ref mMoving])), (mTape, .inl (cs 0, 400, .inl (upd (upd (upd (upd (upd (upd (upd (upd (upd (upd (upd (upd (upd (upd (upd (upd (upd (upd (upd (fun _ => 0) 0 (vp_nar .byte ((k >>> (24 &&& 31)).toInt8.toInt32))) 1 (vp_nar .byte ((k >>> (16 &&& 31)).toInt8.toInt32))) 2 (vp_nar .byte ((k >>> (8 &&& 31)).toInt8.toInt32))) 3 (vp_nar .byte ((k >>> (0 &&& 31)).toInt8.toInt32))) 4 (vp_nar .byte ((k2 >>> (24 &&& 31)).toInt8.toInt32))) 5 (vp_nar .byte ((k2 >>> (16 &&& 31)).toInt8.toInt32))) 6 (vp_nar .byte ((k2 >>> (8 &&& 31)).toInt8.toInt32))) 7 (vp_nar .byte ((k2 >>> (0 &&& 31)).toInt8.toInt32))) 8 (vp_nar .byte ((k3 >>> (24 &&& 31)).toInt8.toInt32))) 9 (vp_nar .byte ((k3 >>> (16 &&& 31)).toInt8.toInt32))) 10 (vp_nar .byte ((k3 >>> (8 &&& 31)).toInt8.toInt32))) 11 (vp_nar .byte ((k3 >>> (0 &&& 31)).toInt8.toInt32))) 12 (vp_nar .byte ((k4 >>> (24 &&& 31)).toInt8.toInt32))) 13 (vp_nar .byte ((k4 >>> (16 &&& 31)).toInt8.toInt32))) 14 (vp_nar .byte ((k4 >>> (8 &&& 31)).toInt8.toInt32))) 15 (vp_nar .byte ((k4 >>> (0 &&& 31)).toInt8.toInt32))) 16 (vp_nar .byte ((k5 >>> (24 &&& 31)).toInt8.toInt32))) 17 (vp_nar .byte ((k5 >>> (16 &&& 31)).toInt8.toInt32))) 18 (vp_nar .byte ((k5 >>> (8 &&& 31)).toInt8.toInt32))))), (mFive, .inl (cs 1, 5, .inl (upd (upd (upd (upd (upd (fun _ => 0) 0 k) 1 k2) 2 k3) 3 k4) 4 k5)))] := hD
  refine lv_iinc (v := 19) (lv' := [(6, .int 19), (0, .ref b0), (1, .int k), (2, .int k2), (3, .int k3), (4, .int k4), (5, .int k5)]) hx hb dX9_feed_95 hl (k := 0) rfl (by decide) (by decide) rfl (fun ls hl => ?_)
  refine lv_goto (tgt := 55) hx hb dX9_feed_98 (by decide) ?_
  refine lv_iload hx hb dX9_feed_55 (lv_at hl 0 rfl) ?_
  refine lv_bipush (v := 20) hx hb dX9_feed_57 (by decide) ?_
  refine lv_icmp_ge (tgt := 101) hx hb dX9_feed_59 (by decide) (fun h9 => absurd h9 (by decide)) (fun _ => ?_)
  refine lv_aload_n hx hb dX9_feed_62 rfl (lv_at hl 1 rfl) ?_
  refine va_get (D := D) (ci := 9) (v := .ref mTape) (C := RX9) (T := TX9) (N := 42) hx hb hts iuX9_feed_X9 hown hK hP 0 rfl rfl 4 (by decide) (htw (.fieldLink RX9 20 "MergeJudgeModel" "tape" "[B") (List.mem_of_getElem? (i := 2) rfl)) (fun _ h9 => h9) rfl dX9_feed_63 ?_
  refine lv_aload_n hx hb dX9_feed_66 rfl (lv_at hl 1 rfl) ?_
  refine va_get (D := D) (ci := 9) (v := .int 0) (C := RX9) (T := TX9) (N := 42) hx hb hts iuX9_feed_X9 hown hK hP 0 rfl rfl 5 (by decide) (htw (.fieldLink RX9 99 "MergeJudgeModel" "taped" "I") (List.mem_of_getElem? (i := 0) rfl)) (fun _ h9 => h9) rfl dX9_feed_67 ?_
  refine lv_iload hx hb dX9_feed_70 (lv_at hl 0 rfl) ?_
  refine lv_iadd hx hb dX9_feed_72 ?_
  refine cf_i 19 (by decide) ?_
  refine lv_aload_n hx hb dX9_feed_73 rfl (lv_at hl 1 rfl) ?_
  refine va_get (D := D) (ci := 9) (v := .ref mFive) (C := RX9) (T := TX9) (N := 42) hx hb hts iuX9_feed_X9 hown hK hP 0 rfl rfl 6 (by decide) (htw (.fieldLink RX9 24 "MergeJudgeModel" "five" "[I") (List.mem_of_getElem? (i := 1) rfl)) (fun _ h9 => h9) rfl dX9_feed_74 ?_
  refine lv_iload hx hb dX9_feed_77 (lv_at hl 0 rfl) ?_
  refine lv_iconst (v := 4) hx hb dX9_feed_79 (by decide) ?_
  refine lv_idiv hx hb dX9_feed_80 (by decide) ?_
  refine cf_i 4 (by decide) ?_
  refine va_iald hx hb hK hP 2 1 rfl rfl (vp_c (by decide)) dX9_feed_81 ?_
  refine cf_v (.int k5) rfl ?_
  refine lv_bipush (v := 24) hx hb dX9_feed_82 (by decide) ?_
  refine lv_bipush (v := 8) hx hb dX9_feed_84 (by decide) ?_
  refine lv_iload hx hb dX9_feed_86 (lv_at hl 0 rfl) ?_
  refine lv_iconst (v := 4) hx hb dX9_feed_88 (by decide) ?_
  refine lv_irem hx hb dX9_feed_89 (by decide) ?_
  refine cf_i 3 (by decide) ?_
  refine lv_imul hx hb dX9_feed_90 ?_
  refine cf_i 24 (by decide) ?_
  refine lv_isub hx hb dX9_feed_91 ?_
  refine cf_i 0 (by decide) ?_
  refine lv_ishr hx hb dX9_feed_92 ?_
  refine lv_i2b (v := ((k5 >>> (0 &&& 31)).toInt8.toInt32)) hx hb dX9_feed_93 rfl ?_
  refine va_bast hx hb hK hP hD hS 1 0 rfl rfl (vp_c (by decide)) dX9_feed_94 (fun H locs hP hD hS => ?_)
  have hP : va_P D vwCl [(b0, .inr (9, [.int 0, .ref mWorld, .ref mImages, .ref mHasImage, .ref mTape, .int 0, .ref mFive, .int 0, .int 0, .int 0, .int 0, .int 0, .int 0, .int (-1), .ref mFresh, .ref mMergedBy, .int 0, .int 0, .int 0, .ref mIsValid, .ref mGoes, .ref mFarNow, .ref mFreeNow, .ref mIsPair, .ref mHitsBy, .int 0, .int 0, .int 0, .int 0, .int 0, .int 0, .int 0, .int 0, .int 0, .ref mWorthBy, .long 0, .long 0, .long 0, .ref mMany, .ref mWidth, .ref mNumbers, .ref mMoving])), (mTape, .inl (cs 0, 400, .inl (upd (upd (upd (upd (upd (upd (upd (upd (upd (upd (upd (upd (upd (upd (upd (upd (upd (upd (upd (upd (fun _ => 0) 0 (vp_nar .byte ((k >>> (24 &&& 31)).toInt8.toInt32))) 1 (vp_nar .byte ((k >>> (16 &&& 31)).toInt8.toInt32))) 2 (vp_nar .byte ((k >>> (8 &&& 31)).toInt8.toInt32))) 3 (vp_nar .byte ((k >>> (0 &&& 31)).toInt8.toInt32))) 4 (vp_nar .byte ((k2 >>> (24 &&& 31)).toInt8.toInt32))) 5 (vp_nar .byte ((k2 >>> (16 &&& 31)).toInt8.toInt32))) 6 (vp_nar .byte ((k2 >>> (8 &&& 31)).toInt8.toInt32))) 7 (vp_nar .byte ((k2 >>> (0 &&& 31)).toInt8.toInt32))) 8 (vp_nar .byte ((k3 >>> (24 &&& 31)).toInt8.toInt32))) 9 (vp_nar .byte ((k3 >>> (16 &&& 31)).toInt8.toInt32))) 10 (vp_nar .byte ((k3 >>> (8 &&& 31)).toInt8.toInt32))) 11 (vp_nar .byte ((k3 >>> (0 &&& 31)).toInt8.toInt32))) 12 (vp_nar .byte ((k4 >>> (24 &&& 31)).toInt8.toInt32))) 13 (vp_nar .byte ((k4 >>> (16 &&& 31)).toInt8.toInt32))) 14 (vp_nar .byte ((k4 >>> (8 &&& 31)).toInt8.toInt32))) 15 (vp_nar .byte ((k4 >>> (0 &&& 31)).toInt8.toInt32))) 16 (vp_nar .byte ((k5 >>> (24 &&& 31)).toInt8.toInt32))) 17 (vp_nar .byte ((k5 >>> (16 &&& 31)).toInt8.toInt32))) 18 (vp_nar .byte ((k5 >>> (8 &&& 31)).toInt8.toInt32))) 19 (vp_nar .byte ((k5 >>> (0 &&& 31)).toInt8.toInt32))))), (mFive, .inl (cs 1, 5, .inl (upd (upd (upd (upd (upd (fun _ => 0) 0 k) 1 k2) 2 k3) 3 k4) 4 k5)))] H := hP
  have hD : va_D A [(b0, .inr (9, [.int 0, .ref mWorld, .ref mImages, .ref mHasImage, .ref mTape, .int 0, .ref mFive, .int 0, .int 0, .int 0, .int 0, .int 0, .int 0, .int (-1), .ref mFresh, .ref mMergedBy, .int 0, .int 0, .int 0, .ref mIsValid, .ref mGoes, .ref mFarNow, .ref mFreeNow, .ref mIsPair, .ref mHitsBy, .int 0, .int 0, .int 0, .int 0, .int 0, .int 0, .int 0, .int 0, .int 0, .ref mWorthBy, .long 0, .long 0, .long 0, .ref mMany, .ref mWidth, .ref mNumbers, .ref mMoving])), (mTape, .inl (cs 0, 400, .inl (upd (upd (upd (upd (upd (upd (upd (upd (upd (upd (upd (upd (upd (upd (upd (upd (upd (upd (upd (upd (fun _ => 0) 0 (vp_nar .byte ((k >>> (24 &&& 31)).toInt8.toInt32))) 1 (vp_nar .byte ((k >>> (16 &&& 31)).toInt8.toInt32))) 2 (vp_nar .byte ((k >>> (8 &&& 31)).toInt8.toInt32))) 3 (vp_nar .byte ((k >>> (0 &&& 31)).toInt8.toInt32))) 4 (vp_nar .byte ((k2 >>> (24 &&& 31)).toInt8.toInt32))) 5 (vp_nar .byte ((k2 >>> (16 &&& 31)).toInt8.toInt32))) 6 (vp_nar .byte ((k2 >>> (8 &&& 31)).toInt8.toInt32))) 7 (vp_nar .byte ((k2 >>> (0 &&& 31)).toInt8.toInt32))) 8 (vp_nar .byte ((k3 >>> (24 &&& 31)).toInt8.toInt32))) 9 (vp_nar .byte ((k3 >>> (16 &&& 31)).toInt8.toInt32))) 10 (vp_nar .byte ((k3 >>> (8 &&& 31)).toInt8.toInt32))) 11 (vp_nar .byte ((k3 >>> (0 &&& 31)).toInt8.toInt32))) 12 (vp_nar .byte ((k4 >>> (24 &&& 31)).toInt8.toInt32))) 13 (vp_nar .byte ((k4 >>> (16 &&& 31)).toInt8.toInt32))) 14 (vp_nar .byte ((k4 >>> (8 &&& 31)).toInt8.toInt32))) 15 (vp_nar .byte ((k4 >>> (0 &&& 31)).toInt8.toInt32))) 16 (vp_nar .byte ((k5 >>> (24 &&& 31)).toInt8.toInt32))) 17 (vp_nar .byte ((k5 >>> (16 &&& 31)).toInt8.toInt32))) 18 (vp_nar .byte ((k5 >>> (8 &&& 31)).toInt8.toInt32))) 19 (vp_nar .byte ((k5 >>> (0 &&& 31)).toInt8.toInt32))))), (mFive, .inl (cs 1, 5, .inl (upd (upd (upd (upd (upd (fun _ => 0) 0 k) 1 k2) 2 k3) 3 k4) 4 k5)))] := hD
  refine lv_iinc (v := 20) (lv' := [(6, .int 20), (0, .ref b0), (1, .int k), (2, .int k2), (3, .int k3), (4, .int k4), (5, .int k5)]) hx hb dX9_feed_95 hl (k := 0) rfl (by decide) (by decide) rfl (fun ls hl => ?_)
  refine lv_goto (tgt := 55) hx hb dX9_feed_98 (by decide) ?_
  refine lv_iload hx hb dX9_feed_55 (lv_at hl 0 rfl) ?_
  refine lv_bipush (v := 20) hx hb dX9_feed_57 (by decide) ?_
  refine lv_icmp_ge (tgt := 101) hx hb dX9_feed_59 (by decide) (fun _ => ?_) (fun h9 => absurd h9 (by decide))
  refine lv_aload_n hx hb dX9_feed_101 rfl (lv_at hl 1 rfl) ?_
  refine lv_dup hx hb dX9_feed_102 rfl ?_
  refine va_get (D := D) (ci := 9) (v := .int 0) (C := RX9) (T := TX9) (N := 42) hx hb hts iuX9_feed_X9 hown hK hP 0 rfl rfl 5 (by decide) (htw (.fieldLink RX9 99 "MergeJudgeModel" "taped" "I") (List.mem_of_getElem? (i := 0) rfl)) (fun _ h9 => h9) rfl dX9_feed_103 ?_
  refine lv_bipush (v := 20) hx hb dX9_feed_106 (by decide) ?_
  refine lv_iadd hx hb dX9_feed_108 ?_
  refine cf_i 20 (by decide) ?_
  refine va_put (D := D) (ci := 9) (v := .int 20) (ty := .int) (C := RX9) (T := TX9) (N := 42) hx hb hts iuX9_feed_X9 tyX9 tyX9_ok nmX9 hown hK hP hD hS 0 rfl rfl 5 (by decide) (htw (.fieldLink RX9 99 "MergeJudgeModel" "taped" "I") (List.mem_of_getElem? (i := 0) rfl)) (fun _ h9 => h9) rfl (by decide +kernel) rfl rfl (Nat.le_of_ble_eq_true rfl) dX9_feed_109 (fun H locs hP hD hS => ?_)
  have hP : va_P D vwCl [(b0, .inr (9, [.int 0, .ref mWorld, .ref mImages, .ref mHasImage, .ref mTape, .int 20, .ref mFive, .int 0, .int 0, .int 0, .int 0, .int 0, .int 0, .int (-1), .ref mFresh, .ref mMergedBy, .int 0, .int 0, .int 0, .ref mIsValid, .ref mGoes, .ref mFarNow, .ref mFreeNow, .ref mIsPair, .ref mHitsBy, .int 0, .int 0, .int 0, .int 0, .int 0, .int 0, .int 0, .int 0, .int 0, .ref mWorthBy, .long 0, .long 0, .long 0, .ref mMany, .ref mWidth, .ref mNumbers, .ref mMoving])), (mTape, .inl (cs 0, 400, .inl (upd (upd (upd (upd (upd (upd (upd (upd (upd (upd (upd (upd (upd (upd (upd (upd (upd (upd (upd (upd (fun _ => 0) 0 (vp_nar .byte ((k >>> (24 &&& 31)).toInt8.toInt32))) 1 (vp_nar .byte ((k >>> (16 &&& 31)).toInt8.toInt32))) 2 (vp_nar .byte ((k >>> (8 &&& 31)).toInt8.toInt32))) 3 (vp_nar .byte ((k >>> (0 &&& 31)).toInt8.toInt32))) 4 (vp_nar .byte ((k2 >>> (24 &&& 31)).toInt8.toInt32))) 5 (vp_nar .byte ((k2 >>> (16 &&& 31)).toInt8.toInt32))) 6 (vp_nar .byte ((k2 >>> (8 &&& 31)).toInt8.toInt32))) 7 (vp_nar .byte ((k2 >>> (0 &&& 31)).toInt8.toInt32))) 8 (vp_nar .byte ((k3 >>> (24 &&& 31)).toInt8.toInt32))) 9 (vp_nar .byte ((k3 >>> (16 &&& 31)).toInt8.toInt32))) 10 (vp_nar .byte ((k3 >>> (8 &&& 31)).toInt8.toInt32))) 11 (vp_nar .byte ((k3 >>> (0 &&& 31)).toInt8.toInt32))) 12 (vp_nar .byte ((k4 >>> (24 &&& 31)).toInt8.toInt32))) 13 (vp_nar .byte ((k4 >>> (16 &&& 31)).toInt8.toInt32))) 14 (vp_nar .byte ((k4 >>> (8 &&& 31)).toInt8.toInt32))) 15 (vp_nar .byte ((k4 >>> (0 &&& 31)).toInt8.toInt32))) 16 (vp_nar .byte ((k5 >>> (24 &&& 31)).toInt8.toInt32))) 17 (vp_nar .byte ((k5 >>> (16 &&& 31)).toInt8.toInt32))) 18 (vp_nar .byte ((k5 >>> (8 &&& 31)).toInt8.toInt32))) 19 (vp_nar .byte ((k5 >>> (0 &&& 31)).toInt8.toInt32))))), (mFive, .inl (cs 1, 5, .inl (upd (upd (upd (upd (upd (fun _ => 0) 0 k) 1 k2) 2 k3) 3 k4) 4 k5)))] H := hP
  have hD : va_D A [(b0, .inr (9, [.int 0, .ref mWorld, .ref mImages, .ref mHasImage, .ref mTape, .int 20, .ref mFive, .int 0, .int 0, .int 0, .int 0, .int 0, .int 0, .int (-1), .ref mFresh, .ref mMergedBy, .int 0, .int 0, .int 0, .ref mIsValid, .ref mGoes, .ref mFarNow, .ref mFreeNow, .ref mIsPair, .ref mHitsBy, .int 0, .int 0, .int 0, .int 0, .int 0, .int 0, .int 0, .int 0, .int 0, .ref mWorthBy, .long 0, .long 0, .long 0, .ref mMany, .ref mWidth, .ref mNumbers, .ref mMoving])), (mTape, .inl (cs 0, 400, .inl (upd (upd (upd (upd (upd (upd (upd (upd (upd (upd (upd (upd (upd (upd (upd (upd (upd (upd (upd (upd (fun _ => 0) 0 (vp_nar .byte ((k >>> (24 &&& 31)).toInt8.toInt32))) 1 (vp_nar .byte ((k >>> (16 &&& 31)).toInt8.toInt32))) 2 (vp_nar .byte ((k >>> (8 &&& 31)).toInt8.toInt32))) 3 (vp_nar .byte ((k >>> (0 &&& 31)).toInt8.toInt32))) 4 (vp_nar .byte ((k2 >>> (24 &&& 31)).toInt8.toInt32))) 5 (vp_nar .byte ((k2 >>> (16 &&& 31)).toInt8.toInt32))) 6 (vp_nar .byte ((k2 >>> (8 &&& 31)).toInt8.toInt32))) 7 (vp_nar .byte ((k2 >>> (0 &&& 31)).toInt8.toInt32))) 8 (vp_nar .byte ((k3 >>> (24 &&& 31)).toInt8.toInt32))) 9 (vp_nar .byte ((k3 >>> (16 &&& 31)).toInt8.toInt32))) 10 (vp_nar .byte ((k3 >>> (8 &&& 31)).toInt8.toInt32))) 11 (vp_nar .byte ((k3 >>> (0 &&& 31)).toInt8.toInt32))) 12 (vp_nar .byte ((k4 >>> (24 &&& 31)).toInt8.toInt32))) 13 (vp_nar .byte ((k4 >>> (16 &&& 31)).toInt8.toInt32))) 14 (vp_nar .byte ((k4 >>> (8 &&& 31)).toInt8.toInt32))) 15 (vp_nar .byte ((k4 >>> (0 &&& 31)).toInt8.toInt32))) 16 (vp_nar .byte ((k5 >>> (24 &&& 31)).toInt8.toInt32))) 17 (vp_nar .byte ((k5 >>> (16 &&& 31)).toInt8.toInt32))) 18 (vp_nar .byte ((k5 >>> (8 &&& 31)).toInt8.toInt32))) 19 (vp_nar .byte ((k5 >>> (0 &&& 31)).toInt8.toInt32))))), (mFive, .inl (cs 1, 5, .inl (upd (upd (upd (upd (upd (fun _ => 0) 0 k) 1 k2) 2 k3) 3 k4) 4 k5)))] := hD
  refine lv_aload_n hx hb dX9_feed_112 rfl (lv_at hl 1 rfl) ?_
  refine va_get (D := D) (ci := 9) (v := .int 20) (C := RX9) (T := TX9) (N := 42) hx hb hts iuX9_feed_X9 hown hK hP 0 rfl rfl 5 (by decide) (htw (.fieldLink RX9 99 "MergeJudgeModel" "taped" "I") (List.mem_of_getElem? (i := 0) rfl)) (fun _ h9 => h9) rfl dX9_feed_113 ?_
  exact ret_i hx hb hr hlk hS (Nat.le_of_ble_eq_true rfl) (Nat.le_of_ble_eq_true rfl) () (rfl) (hP.sub [] rfl) (hD.sub [] (by decide) rfl) dX9_feed_116

set_option maxHeartbeats 4000000 in
set_option maxRecDepth 100000 in
theorem k_X9_end (l : Launch) (D : va_G) (cs : Nat → ClassId) (sz : Nat) (b0 : Nat) (k : Int32) (mWorld : Nat) (mImages : Nat) (mHasImage : Nat) (mTape : Nat) (mFive : Nat) (mFresh : Nat) (mMergedBy : Nat) (mIsValid : Nat) (mGoes : Nat) (mFarNow : Nat) (mFreeNow : Nat) (mIsPair : Nat) (mHitsBy : Nat) (mWorthBy : Nat) (mMany : Nat) (mWidth : Nat) (mNumbers : Nat) (mMoving : Nat)  : Mi l D cs yX9_end W_X9_end 1 25 0 0 [.ref b0, .int k] [(b0, .inr (9, [.int 0, .ref mWorld, .ref mImages, .ref mHasImage, .ref mTape, .int 0, .ref mFive, .int 0, .int 0, .int 0, .int 0, .int 0, .int 0, .int (-1), .ref mFresh, .ref mMergedBy, .int 0, .int 0, .int 0, .ref mIsValid, .ref mGoes, .ref mFarNow, .ref mFreeNow, .ref mIsPair, .ref mHitsBy, .int 0, .int 0, .int 0, .int 0, .int 0, .int 0, .int 0, .int 0, .int 0, .ref mWorthBy, .long 0, .long 0, .long 0, .ref mMany, .ref mWidth, .ref mNumbers, .ref mMoving]))] sz (fun (r : Int32) (u : Unit) => (r = 0 ∧ k = 0) ∨ (r = (-1) ∧ ¬ k = 0)) (fun (u : Unit) => []) := by
  refine ent (D := D) (cs := cs) (y := yX9_end) (ws := W_X9_end) (As := [.ref b0, .int k]) (W0 := [(b0, .inr (9, [.int 0, .ref mWorld, .ref mImages, .ref mHasImage, .ref mTape, .int 0, .ref mFive, .int 0, .int 0, .int 0, .int 0, .int 0, .int 0, .int (-1), .ref mFresh, .ref mMergedBy, .int 0, .int 0, .int 0, .ref mIsValid, .ref mGoes, .ref mFarNow, .ref mFreeNow, .ref mIsPair, .ref mHitsBy, .int 0, .int 0, .int 0, .int 0, .int 0, .int 0, .int 0, .int 0, .int 0, .ref mWorthBy, .long 0, .long 0, .long 0, .ref mMany, .ref mWidth, .ref mNumbers, .ref mMoving]))]) (Qx := fun A => va_Qi (fun (r : Int32) (u : Unit) => (r = 0 ∧ k = 0) ∨ (r = (-1) ∧ ¬ k = 0)) (mpost D A (fun (u : Unit) => [])) A) (maxL := 2) (ret := (some .int)) (by decide) rfl (Nat.le_of_ble_eq_true rfl) ?_
  intro p e s m below meth c A ls hx hb hr hml hlk hown hts hin hK hE hP hD hA hS hl
  have hl : lv_has ls 2 [(0, .ref b0), (1, .int k)] := hl
  generalize hHe : s.heap = H at hP
  have hS : va_S A s.heap H [] := hHe ▸ hS
  have htw : ∀ w ∈ O_X9_end, w.before ([.ref b0, .int k] : List Value).toArray s = true := fun w h => hts w (List.mem_cons_of_mem _ (List.mem_append_left _ h))
  have hFix := (⟨hx, hb, hml, hown, hts⟩ : CallFix p m c _ _ s _ _ _)
  refine lv_iload_n hx hb dX9_end_0 rfl (lv_at hl 1 rfl) ?_
  refine lv_i2l (v := k.toInt64) hx hb dX9_end_1 rfl ?_
  refine lv_lconst (v := 0) hx hb dX9_end_2 (by decide) ?_
  refine lv_aload_n hx hb dX9_end_3 rfl (lv_at hl 0 rfl) ?_
  refine va_get (D := D) (ci := 9) (v := .int 0) (C := RX9) (T := TX9) (N := 42) hx hb hts iuX9_end_X9 hown hK hP 0 rfl rfl 5 (by decide) (htw (.fieldLink RX9 99 "MergeJudgeModel" "taped" "I") (List.mem_of_getElem? (i := 0) rfl)) (fun _ h9 => h9) rfl dX9_end_4 ?_
  refine lv_i2l (v := 0) hx hb dX9_end_7 (by decide) ?_
  refine aft_i (wr := [(b0, .inr (9, [.int 0, .ref mWorld, .ref mImages, .ref mHasImage, .ref mTape, .int 0, .ref mFive, .int 0, .int 0, .int 0, .int 0, .int 0, .int 0, .int (-1), .ref mFresh, .ref mMergedBy, .int 0, .int 0, .int 0, .ref mIsValid, .ref mGoes, .ref mFarNow, .ref mFreeNow, .ref mIsPair, .ref mHitsBy, .int 0, .int 0, .int 0, .int 0, .int 0, .int 0, .int 0, .int 0, .int 0, .ref mWorthBy, .long 0, .long 0, .long 0, .ref mMany, .ref mWidth, .ref mNumbers, .ref mMoving]))]) hP hD hS hA [] [0] rfl rfl (by decide) (by decide) (run_s (As := [.long k.toInt64, .long 0, .long 0]) (rest := []) hFix hK hE hP hD [] (k_X9_in l D cs _ k.toInt64 0 0) (va_cwS 3 hts gc_X9_end_76_X9_in rfl rfl rfl (by decide +kernel) ⟨Nat.le_of_ble_eq_true rfl, Nat.le_of_ble_eq_true rfl⟩) rfl (by decide) rfl hl.1 rfl (Nat.le_of_ble_eq_true rfl) dX9_end_8 ⟨Nat.le_of_ble_eq_true rfl, Nat.le_of_ble_eq_true rfl⟩) (fun r_1 u_1 H locs hq_1 hP hD hS => ?_)
  have hP : va_P D vwCl [(b0, .inr (9, [.int 0, .ref mWorld, .ref mImages, .ref mHasImage, .ref mTape, .int 0, .ref mFive, .int 0, .int 0, .int 0, .int 0, .int 0, .int 0, .int (-1), .ref mFresh, .ref mMergedBy, .int 0, .int 0, .int 0, .ref mIsValid, .ref mGoes, .ref mFarNow, .ref mFreeNow, .ref mIsPair, .ref mHitsBy, .int 0, .int 0, .int 0, .int 0, .int 0, .int 0, .int 0, .int 0, .int 0, .ref mWorthBy, .long 0, .long 0, .long 0, .ref mMany, .ref mWidth, .ref mNumbers, .ref mMoving]))] H := hP
  have hD : va_D A [(b0, .inr (9, [.int 0, .ref mWorld, .ref mImages, .ref mHasImage, .ref mTape, .int 0, .ref mFive, .int 0, .int 0, .int 0, .int 0, .int 0, .int 0, .int (-1), .ref mFresh, .ref mMergedBy, .int 0, .int 0, .int 0, .ref mIsValid, .ref mGoes, .ref mFarNow, .ref mFreeNow, .ref mIsPair, .ref mHitsBy, .int 0, .int 0, .int 0, .int 0, .int 0, .int 0, .int 0, .int 0, .int 0, .ref mWorthBy, .long 0, .long 0, .long 0, .ref mMany, .ref mWidth, .ref mNumbers, .ref mMoving]))] := hD
  replace hq_1 : (r_1 = 1 ∧ 0 ≤ k.toInt64 ∧ k.toInt64 ≤ 0) ∨ (r_1 = 0 ∧ ¬ (0 ≤ k.toInt64 ∧ k.toInt64 ≤ 0)) := hq_1
  rcases hq_1 with ⟨rfl, hq_1⟩ | ⟨rfl, hq_1⟩
  ·
    refine lv_if_ne (tgt := 16) hx hb dX9_end_11 (by decide) (fun _ => ?_) (fun h9 => absurd h9 (by decide))
    refine lv_aload_n hx hb dX9_end_16 rfl (lv_at hl 0 rfl) ?_
    refine lv_iload_n hx hb dX9_end_17 rfl (lv_at hl 1 rfl) ?_
    refine va_put (D := D) (ci := 9) (v := .int k) (ty := .int) (C := RX9) (T := TX9) (N := 42) hx hb hts iuX9_end_X9 tyX9 tyX9_ok nmX9 hown hK hP hD hS 0 rfl rfl 5 (by decide) (htw (.fieldLink RX9 99 "MergeJudgeModel" "taped" "I") (List.mem_of_getElem? (i := 0) rfl)) (fun _ h9 => h9) rfl (by decide +kernel) rfl rfl (Nat.le_of_ble_eq_true rfl) dX9_end_18 (fun H locs hP hD hS => ?_)
    have hP : va_P D vwCl [(b0, .inr (9, [.int 0, .ref mWorld, .ref mImages, .ref mHasImage, .ref mTape, .int k, .ref mFive, .int 0, .int 0, .int 0, .int 0, .int 0, .int 0, .int (-1), .ref mFresh, .ref mMergedBy, .int 0, .int 0, .int 0, .ref mIsValid, .ref mGoes, .ref mFarNow, .ref mFreeNow, .ref mIsPair, .ref mHitsBy, .int 0, .int 0, .int 0, .int 0, .int 0, .int 0, .int 0, .int 0, .int 0, .ref mWorthBy, .long 0, .long 0, .long 0, .ref mMany, .ref mWidth, .ref mNumbers, .ref mMoving]))] H := hP
    have hD : va_D A [(b0, .inr (9, [.int 0, .ref mWorld, .ref mImages, .ref mHasImage, .ref mTape, .int k, .ref mFive, .int 0, .int 0, .int 0, .int 0, .int 0, .int 0, .int (-1), .ref mFresh, .ref mMergedBy, .int 0, .int 0, .int 0, .ref mIsValid, .ref mGoes, .ref mFarNow, .ref mFreeNow, .ref mIsPair, .ref mHitsBy, .int 0, .int 0, .int 0, .int 0, .int 0, .int 0, .int 0, .int 0, .int 0, .ref mWorthBy, .long 0, .long 0, .long 0, .ref mMany, .ref mWidth, .ref mNumbers, .ref mMoving]))] := hD
    refine lv_iload_n hx hb dX9_end_21 rfl (lv_at hl 1 rfl) ?_
    exact ret_i hx hb hr hlk hS (Nat.le_of_ble_eq_true rfl) (Nat.le_of_ble_eq_true rfl) () (Or.inl ⟨end_z (by have e0 := hq_1; (try simp only [ge_iff_le, gt_iff_lt, ne_eq, Int32.lt_iff_toInt_lt, Int32.le_iff_toInt_le, ← Int32.toInt_inj, Int64.lt_iff_toInt_lt, Int64.le_iff_toInt_le, Int32.toInt_toInt64, i0, i1, i2, i3, i4, i7, i8, i9, i60, j0, j1, j2, j3, j7] at e0); omega), end_z (by have e0 := hq_1; (try simp only [ge_iff_le, gt_iff_lt, ne_eq, Int32.lt_iff_toInt_lt, Int32.le_iff_toInt_le, ← Int32.toInt_inj, Int64.lt_iff_toInt_lt, Int64.le_iff_toInt_le, Int32.toInt_toInt64, i0, i1, i2, i3, i4, i7, i8, i9, i60, j0, j1, j2, j3, j7] at e0); omega)⟩) (hP.sub [] rfl) (hD.sub [] (by decide) rfl) dX9_end_22
  ·
    refine lv_if_ne (tgt := 16) hx hb dX9_end_11 (by decide) (fun h9 => absurd h9 (by decide)) (fun _ => ?_)
    refine lv_iconst (v := (-1)) hx hb dX9_end_14 (by decide) ?_
    exact ret_i hx hb hr hlk hS (Nat.le_of_ble_eq_true rfl) (Nat.le_of_ble_eq_true rfl) () (Or.inr ⟨rfl, end_n (by have e0 := hq_1; (try simp only [ge_iff_le, gt_iff_lt, ne_eq, Int32.lt_iff_toInt_lt, Int32.le_iff_toInt_le, ← Int32.toInt_inj, Int64.lt_iff_toInt_lt, Int64.le_iff_toInt_le, Int32.toInt_toInt64, i0, i1, i2, i3, i4, i7, i8, i9, i60, j0, j1, j2, j3, j7] at e0); omega)⟩) (hP.sub [] rfl) (hD.sub [] (by decide) rfl) dX9_end_15

set_option maxHeartbeats 4000000 in
set_option maxRecDepth 100000 in
theorem k_X9_fault (l : Launch) (D : va_G) (cs : Nat → ClassId) (sz : Nat) (b0 : Nat) (k : Int32) (mWorld : Nat) (mImages : Nat) (mHasImage : Nat) (mTape : Nat) (mFive : Nat) (mFresh : Nat) (mMergedBy : Nat) (mIsValid : Nat) (mGoes : Nat) (mFarNow : Nat) (mFreeNow : Nat) (mIsPair : Nat) (mHitsBy : Nat) (mWorthBy : Nat) (mMany : Nat) (mWidth : Nat) (mNumbers : Nat) (mMoving : Nat)  : Mi l D cs yX9_fault W_X9_fault 0 0 0 0 [.ref b0, .int k] [(b0, .inr (9, [.int 0, .ref mWorld, .ref mImages, .ref mHasImage, .ref mTape, .int 0, .ref mFive, .int 0, .int 0, .int 0, .int 0, .int 0, .int 0, .int (-1), .ref mFresh, .ref mMergedBy, .int 0, .int 0, .int 0, .ref mIsValid, .ref mGoes, .ref mFarNow, .ref mFreeNow, .ref mIsPair, .ref mHitsBy, .int 0, .int 0, .int 0, .int 0, .int 0, .int 0, .int 0, .int 0, .int 0, .ref mWorthBy, .long 0, .long 0, .long 0, .ref mMany, .ref mWidth, .ref mNumbers, .ref mMoving]))] sz (fun (r : Int32) (u : Unit) => (r = 0 ∧ k = 0) ∨ (r = (-1) ∧ ¬ k = 0)) (fun (u : Unit) => []) := by
  refine ent (D := D) (cs := cs) (y := yX9_fault) (ws := W_X9_fault) (As := [.ref b0, .int k]) (W0 := [(b0, .inr (9, [.int 0, .ref mWorld, .ref mImages, .ref mHasImage, .ref mTape, .int 0, .ref mFive, .int 0, .int 0, .int 0, .int 0, .int 0, .int 0, .int (-1), .ref mFresh, .ref mMergedBy, .int 0, .int 0, .int 0, .ref mIsValid, .ref mGoes, .ref mFarNow, .ref mFreeNow, .ref mIsPair, .ref mHitsBy, .int 0, .int 0, .int 0, .int 0, .int 0, .int 0, .int 0, .int 0, .int 0, .ref mWorthBy, .long 0, .long 0, .long 0, .ref mMany, .ref mWidth, .ref mNumbers, .ref mMoving]))]) (Qx := fun A => va_Qi (fun (r : Int32) (u : Unit) => (r = 0 ∧ k = 0) ∨ (r = (-1) ∧ ¬ k = 0)) (mpost D A (fun (u : Unit) => [])) A) (maxL := 2) (ret := (some .int)) (by decide) rfl (Nat.le_of_ble_eq_true rfl) ?_
  intro p e s m below meth c A ls hx hb hr hml hlk hown hts hin hK hE hP hD hA hS hl
  have hl : lv_has ls 2 [(0, .ref b0), (1, .int k)] := hl
  generalize hHe : s.heap = H at hP
  have hS : va_S A s.heap H [] := hHe ▸ hS
  have htw : ∀ w ∈ O_X9_fault, w.before ([.ref b0, .int k] : List Value).toArray s = true := fun w h => hts w (List.mem_cons_of_mem _ (List.mem_append_left _ h))
  have hFix := (⟨hx, hb, hml, hown, hts⟩ : CallFix p m c _ _ s _ _ _)
  refine lv_iload_n hx hb dX9_fault_0 rfl (lv_at hl 1 rfl) ?_
  refine lv_if_ne (tgt := 11) hx hb dX9_fault_1 (by decide) (fun c_1 => ?_) (fun c_1 => ?_)
  ·
    refine lv_iload_n hx hb dX9_fault_11 rfl (lv_at hl 1 rfl) ?_
    refine lv_iconst (v := 1) hx hb dX9_fault_12 (by decide) ?_
    refine lv_icmp_ne (tgt := 23) hx hb dX9_fault_13 (by decide) (fun c_2 => ?_) (fun c_2 => ?_)
    ·
      refine lv_iconst (v := (-1)) hx hb dX9_fault_23 (by decide) ?_
      exact ret_i hx hb hr hlk hS (Nat.le_of_ble_eq_true rfl) (Nat.le_of_ble_eq_true rfl) () (Or.inr (⟨rfl, c_1⟩)) (hP.sub [] rfl) (hD.sub [] (by decide) rfl) dX9_fault_24
    ·
      refine lv_aload_n hx hb dX9_fault_16 rfl (lv_at hl 0 rfl) ?_
      refine va_get (D := D) (ci := 9) (v := .int (-1)) (C := RX9) (T := TX9) (N := 42) hx hb hts iuX9_fault_X9 hown hK hP 0 rfl rfl 13 (by decide) (htw (.fieldLink RX9 27 "MergeJudgeModel" "faultPlace" "I") (List.mem_of_getElem? (i := 1) rfl)) (fun _ h9 => h9) rfl dX9_fault_17 ?_
      refine lv_goto (tgt := 24) hx hb dX9_fault_20 (by decide) ?_
      exact ret_i hx hb hr hlk hS (Nat.le_of_ble_eq_true rfl) (Nat.le_of_ble_eq_true rfl) () (Or.inr (⟨rfl, c_1⟩)) (hP.sub [] rfl) (hD.sub [] (by decide) rfl) dX9_fault_24
  ·
    refine lv_aload_n hx hb dX9_fault_4 rfl (lv_at hl 0 rfl) ?_
    refine va_get (D := D) (ci := 9) (v := .int 0) (C := RX9) (T := TX9) (N := 42) hx hb hts iuX9_fault_X9 hown hK hP 0 rfl rfl 12 (by decide) (htw (.fieldLink RX9 136 "MergeJudgeModel" "faultKind" "I") (List.mem_of_getElem? (i := 0) rfl)) (fun _ h9 => h9) rfl dX9_fault_5 ?_
    refine lv_goto (tgt := 24) hx hb dX9_fault_8 (by decide) ?_
    exact ret_i hx hb hr hlk hS (Nat.le_of_ble_eq_true rfl) (Nat.le_of_ble_eq_true rfl) () (Or.inl ⟨rfl, c_1⟩) (hP.sub [] rfl) (hD.sub [] (by decide) rfl) dX9_fault_24

set_option maxHeartbeats 4000000 in
set_option maxRecDepth 100000 in
theorem k_X9_count (l : Launch) (D : va_G) (cs : Nat → ClassId) (sz : Nat) (b0 : Nat) (k : Int32) (mWorld : Nat) (mImages : Nat) (mHasImage : Nat) (mTape : Nat) (mFive : Nat) (mFresh : Nat) (mMergedBy : Nat) (mIsValid : Nat) (mGoes : Nat) (mFarNow : Nat) (mFreeNow : Nat) (mIsPair : Nat) (mHitsBy : Nat) (mWorthBy : Nat) (mMany : Nat) (mWidth : Nat) (mNumbers : Nat) (mMoving : Nat)  : Mi l D cs yX9_count W_X9_count 1 25 0 0 [.ref b0, .int k] [(b0, .inr (9, [.int 0, .ref mWorld, .ref mImages, .ref mHasImage, .ref mTape, .int 0, .ref mFive, .int 0, .int 0, .int 0, .int 0, .int 0, .int 0, .int (-1), .ref mFresh, .ref mMergedBy, .int 0, .int 0, .int 0, .ref mIsValid, .ref mGoes, .ref mFarNow, .ref mFreeNow, .ref mIsPair, .ref mHitsBy, .int 0, .int 0, .int 0, .int 0, .int 0, .int 0, .int 0, .int 0, .int 0, .ref mWorthBy, .long 0, .long 0, .long 0, .ref mMany, .ref mWidth, .ref mNumbers, .ref mMoving])), (mWorld, .inl (cs 1, 76, .inl (fun _ => 0))), (mMany, .inl (cs 1, 4, .inl (upd (upd (upd (upd (fun _ => 0) 0 (-1)) 1 (-1)) 2 (-1)) 3 (-1))))] sz (fun (r : Int32) (u : Unit) => (r = 0 ∧ (0 ≤ k.toInt ∧ k.toInt ≤ 9)) ∨ (r = (-1) ∧ ¬ (0 ≤ k.toInt ∧ k.toInt ≤ 9))) (fun (u : Unit) => []) := by
  refine ent (D := D) (cs := cs) (y := yX9_count) (ws := W_X9_count) (As := [.ref b0, .int k]) (W0 := [(b0, .inr (9, [.int 0, .ref mWorld, .ref mImages, .ref mHasImage, .ref mTape, .int 0, .ref mFive, .int 0, .int 0, .int 0, .int 0, .int 0, .int 0, .int (-1), .ref mFresh, .ref mMergedBy, .int 0, .int 0, .int 0, .ref mIsValid, .ref mGoes, .ref mFarNow, .ref mFreeNow, .ref mIsPair, .ref mHitsBy, .int 0, .int 0, .int 0, .int 0, .int 0, .int 0, .int 0, .int 0, .int 0, .ref mWorthBy, .long 0, .long 0, .long 0, .ref mMany, .ref mWidth, .ref mNumbers, .ref mMoving])), (mWorld, .inl (cs 1, 76, .inl (fun _ => 0))), (mMany, .inl (cs 1, 4, .inl (upd (upd (upd (upd (fun _ => 0) 0 (-1)) 1 (-1)) 2 (-1)) 3 (-1))))]) (Qx := fun A => va_Qi (fun (r : Int32) (u : Unit) => (r = 0 ∧ (0 ≤ k.toInt ∧ k.toInt ≤ 9)) ∨ (r = (-1) ∧ ¬ (0 ≤ k.toInt ∧ k.toInt ≤ 9))) (mpost D A (fun (u : Unit) => [])) A) (maxL := 4) (ret := (some .int)) (by decide) rfl (Nat.le_of_ble_eq_true rfl) ?_
  intro p e s m below meth c A ls hx hb hr hml hlk hown hts hin hK hE hP hD hA hS hl
  have hl : lv_has ls 4 [(0, .ref b0), (1, .int k)] := hl
  generalize hHe : s.heap = H at hP
  have hS : va_S A s.heap H [] := hHe ▸ hS
  have htw : ∀ w ∈ O_X9_count, w.before ([.ref b0, .int k] : List Value).toArray s = true := fun w h => hts w (List.mem_cons_of_mem _ (List.mem_append_left _ h))
  have hFix := (⟨hx, hb, hml, hown, hts⟩ : CallFix p m c _ _ s _ _ _)
  refine lv_iload_n hx hb dX9_count_0 rfl (lv_at hl 1 rfl) ?_
  refine lv_i2l (v := k.toInt64) hx hb dX9_count_1 rfl ?_
  refine lv_lconst (v := 0) hx hb dX9_count_2 (by decide) ?_
  refine lv_ldc2 (v := 7) hx hb hown (htw (.constantLong RX9 523 (7)) (List.mem_of_getElem? (i := 0) rfl)) dX9_count_3 ?_
  refine aft_i (wr := [(b0, .inr (9, [.int 0, .ref mWorld, .ref mImages, .ref mHasImage, .ref mTape, .int 0, .ref mFive, .int 0, .int 0, .int 0, .int 0, .int 0, .int 0, .int (-1), .ref mFresh, .ref mMergedBy, .int 0, .int 0, .int 0, .ref mIsValid, .ref mGoes, .ref mFarNow, .ref mFreeNow, .ref mIsPair, .ref mHitsBy, .int 0, .int 0, .int 0, .int 0, .int 0, .int 0, .int 0, .int 0, .int 0, .ref mWorthBy, .long 0, .long 0, .long 0, .ref mMany, .ref mWidth, .ref mNumbers, .ref mMoving])), (mWorld, .inl (cs 1, 76, .inl (fun _ => 0))), (mMany, .inl (cs 1, 4, .inl (upd (upd (upd (upd (fun _ => 0) 0 (-1)) 1 (-1)) 2 (-1)) 3 (-1))))]) hP hD hS hA [] [0, 1, 2] rfl rfl (by decide) (by decide) (run_s (As := [.long k.toInt64, .long 0, .long 7]) (rest := []) hFix hK hE hP hD [] (k_X9_in l D cs _ k.toInt64 0 7) (va_cwS 3 hts gc_X9_count_76_X9_in rfl rfl rfl (by decide +kernel) ⟨Nat.le_of_ble_eq_true rfl, Nat.le_of_ble_eq_true rfl⟩) rfl (by decide) rfl hl.1 rfl (Nat.le_of_ble_eq_true rfl) dX9_count_6 ⟨Nat.le_of_ble_eq_true rfl, Nat.le_of_ble_eq_true rfl⟩) (fun r_1 u_1 H locs hq_1 hP hD hS => ?_)
  have hP : va_P D vwCl [(b0, .inr (9, [.int 0, .ref mWorld, .ref mImages, .ref mHasImage, .ref mTape, .int 0, .ref mFive, .int 0, .int 0, .int 0, .int 0, .int 0, .int 0, .int (-1), .ref mFresh, .ref mMergedBy, .int 0, .int 0, .int 0, .ref mIsValid, .ref mGoes, .ref mFarNow, .ref mFreeNow, .ref mIsPair, .ref mHitsBy, .int 0, .int 0, .int 0, .int 0, .int 0, .int 0, .int 0, .int 0, .int 0, .ref mWorthBy, .long 0, .long 0, .long 0, .ref mMany, .ref mWidth, .ref mNumbers, .ref mMoving])), (mWorld, .inl (cs 1, 76, .inl (fun _ => 0))), (mMany, .inl (cs 1, 4, .inl (upd (upd (upd (upd (fun _ => 0) 0 (-1)) 1 (-1)) 2 (-1)) 3 (-1))))] H := hP
  have hD : va_D A [(b0, .inr (9, [.int 0, .ref mWorld, .ref mImages, .ref mHasImage, .ref mTape, .int 0, .ref mFive, .int 0, .int 0, .int 0, .int 0, .int 0, .int 0, .int (-1), .ref mFresh, .ref mMergedBy, .int 0, .int 0, .int 0, .ref mIsValid, .ref mGoes, .ref mFarNow, .ref mFreeNow, .ref mIsPair, .ref mHitsBy, .int 0, .int 0, .int 0, .int 0, .int 0, .int 0, .int 0, .int 0, .int 0, .ref mWorthBy, .long 0, .long 0, .long 0, .ref mMany, .ref mWidth, .ref mNumbers, .ref mMoving])), (mWorld, .inl (cs 1, 76, .inl (fun _ => 0))), (mMany, .inl (cs 1, 4, .inl (upd (upd (upd (upd (fun _ => 0) 0 (-1)) 1 (-1)) 2 (-1)) 3 (-1))))] := hD
  replace hq_1 : (r_1 = 1 ∧ 0 ≤ k.toInt64 ∧ k.toInt64 ≤ 7) ∨ (r_1 = 0 ∧ ¬ (0 ≤ k.toInt64 ∧ k.toInt64 ≤ 7)) := hq_1
  rcases hq_1 with ⟨rfl, hq_1⟩ | ⟨rfl, hq_1⟩
  ·
    refine lv_if_eq (tgt := 19) hx hb dX9_count_9 (by decide) (fun h9 => absurd h9 (by decide)) (fun _ => ?_)
    refine lv_aload_n hx hb dX9_count_12 rfl (lv_at hl 0 rfl) ?_
    refine va_get (D := D) (ci := 9) (v := .ref mWorld) (C := RX9) (T := TX9) (N := 42) hx hb hts iuX9_count_X9 hown hK hP 0 rfl rfl 1 (by decide) (htw (.fieldLink RX9 9 "MergeJudgeModel" "world" "[I") (List.mem_of_getElem? (i := 4) rfl)) (fun _ h9 => h9) rfl dX9_count_13 ?_
    refine lv_iload_n hx hb dX9_count_16 rfl (lv_at hl 1 rfl) ?_
    refine va_iald hx hb hK hP 1 1 rfl rfl (vp_in_iff.mpr (by have e0 := hq_1; (try simp only [ge_iff_le, gt_iff_lt, ne_eq, Int32.lt_iff_toInt_lt, Int32.le_iff_toInt_le, ← Int32.toInt_inj, Int64.lt_iff_toInt_lt, Int64.le_iff_toInt_le, Int32.toInt_toInt64, i0, i1, i2, i3, i4, i7, i8, i9, i60, j0, j1, j2, j3, j7] at e0); omega)) dX9_count_17 ?_
    refine cf_v (.int 0) rfl ?_
    exact ret_i hx hb hr hlk hS (Nat.le_of_ble_eq_true rfl) (Nat.le_of_ble_eq_true rfl) () (Or.inl ⟨rfl, (by have e0 := hq_1; (try simp only [ge_iff_le, gt_iff_lt, ne_eq, Int32.lt_iff_toInt_lt, Int32.le_iff_toInt_le, ← Int32.toInt_inj, Int64.lt_iff_toInt_lt, Int64.le_iff_toInt_le, Int32.toInt_toInt64, i0, i1, i2, i3, i4, i7, i8, i9, i60, j0, j1, j2, j3, j7] at e0); omega)⟩) (hP.sub [] rfl) (hD.sub [] (by decide) rfl) dX9_count_18
  ·
    refine lv_if_eq (tgt := 19) hx hb dX9_count_9 (by decide) (fun _ => ?_) (fun h9 => absurd h9 (by decide))
    refine lv_iload_n hx hb dX9_count_19 rfl (lv_at hl 1 rfl) ?_
    refine lv_bipush (v := 8) hx hb dX9_count_20 (by decide) ?_
    refine lv_icmp_ne (tgt := 30) hx hb dX9_count_22 (by decide) (fun c_2 => ?_) (fun c_2 => ?_)
    ·
      refine lv_iload_n hx hb dX9_count_30 rfl (lv_at hl 1 rfl) ?_
      refine lv_bipush (v := 9) hx hb dX9_count_31 (by decide) ?_
      refine lv_icmp_eq (tgt := 38) hx hb dX9_count_33 (by decide) (fun c_3 => ?_) (fun c_3 => ?_)
      ·
        refine lv_iconst (v := 0) hx hb dX9_count_38 (by decide) ?_
        refine lv_istore_n (lv' := [(2, .int 0), (0, .ref b0), (1, .int k)]) hx hb dX9_count_39 rfl hl (by decide) rfl (fun ls hl => ?_)
        refine lv_iconst (v := 0) hx hb dX9_count_40 (by decide) ?_
        refine lv_istore_n (lv' := [(3, .int 0), (2, .int 0), (0, .ref b0), (1, .int k)]) hx hb dX9_count_41 rfl hl (by decide) rfl (fun ls hl => ?_)
        refine lv_iload_n hx hb dX9_count_42 rfl (lv_at hl 0 rfl) ?_
        refine lv_iconst (v := 4) hx hb dX9_count_43 (by decide) ?_
        refine lv_icmp_ge (tgt := 71) hx hb dX9_count_44 (by decide) (fun h9 => absurd h9 (by decide)) (fun _ => ?_)
        refine lv_iload_n hx hb dX9_count_47 rfl (lv_at hl 1 rfl) ?_
        refine lv_aload_n hx hb dX9_count_48 rfl (lv_at hl 2 rfl) ?_
        refine va_get (D := D) (ci := 9) (v := .ref mMany) (C := RX9) (T := TX9) (N := 42) hx hb hts iuX9_count_X9 hown hK hP 0 rfl rfl 38 (by decide) (htw (.fieldLink RX9 58 "MergeJudgeModel" "many" "[I") (List.mem_of_getElem? (i := 6) rfl)) (fun _ h9 => h9) rfl dX9_count_49 ?_
        refine lv_iload_n hx hb dX9_count_52 rfl (lv_at hl 0 rfl) ?_
        refine va_iald hx hb hK hP 2 1 rfl rfl (vp_c (by decide)) dX9_count_53 ?_
        refine cf_v (.int (-1)) rfl ?_
        refine lv_iconst (v := (-1)) hx hb dX9_count_54 (by decide) ?_
        refine lv_icmp_ne (tgt := 62) hx hb dX9_count_55 (by decide) (fun h9 => absurd h9 (by decide)) (fun _ => ?_)
        refine lv_iconst (v := 0) hx hb dX9_count_58 (by decide) ?_
        refine lv_goto (tgt := 63) hx hb dX9_count_59 (by decide) ?_
        refine lv_iadd hx hb dX9_count_63 ?_
        refine cf_i 0 (by decide) ?_
        refine lv_istore_n (lv' := [(2, .int 0), (3, .int 0), (0, .ref b0), (1, .int k)]) hx hb dX9_count_64 rfl hl (by decide) rfl (fun ls hl => ?_)
        refine lv_iinc (v := 1) (lv' := [(3, .int 1), (2, .int 0), (0, .ref b0), (1, .int k)]) hx hb dX9_count_65 hl (k := 1) rfl (by decide) (by decide) rfl (fun ls hl => ?_)
        refine lv_goto (tgt := 42) hx hb dX9_count_68 (by decide) ?_
        refine lv_iload_n hx hb dX9_count_42 rfl (lv_at hl 0 rfl) ?_
        refine lv_iconst (v := 4) hx hb dX9_count_43 (by decide) ?_
        refine lv_icmp_ge (tgt := 71) hx hb dX9_count_44 (by decide) (fun h9 => absurd h9 (by decide)) (fun _ => ?_)
        refine lv_iload_n hx hb dX9_count_47 rfl (lv_at hl 1 rfl) ?_
        refine lv_aload_n hx hb dX9_count_48 rfl (lv_at hl 2 rfl) ?_
        refine va_get (D := D) (ci := 9) (v := .ref mMany) (C := RX9) (T := TX9) (N := 42) hx hb hts iuX9_count_X9 hown hK hP 0 rfl rfl 38 (by decide) (htw (.fieldLink RX9 58 "MergeJudgeModel" "many" "[I") (List.mem_of_getElem? (i := 6) rfl)) (fun _ h9 => h9) rfl dX9_count_49 ?_
        refine lv_iload_n hx hb dX9_count_52 rfl (lv_at hl 0 rfl) ?_
        refine va_iald hx hb hK hP 2 1 rfl rfl (vp_c (by decide)) dX9_count_53 ?_
        refine cf_v (.int (-1)) rfl ?_
        refine lv_iconst (v := (-1)) hx hb dX9_count_54 (by decide) ?_
        refine lv_icmp_ne (tgt := 62) hx hb dX9_count_55 (by decide) (fun h9 => absurd h9 (by decide)) (fun _ => ?_)
        refine lv_iconst (v := 0) hx hb dX9_count_58 (by decide) ?_
        refine lv_goto (tgt := 63) hx hb dX9_count_59 (by decide) ?_
        refine lv_iadd hx hb dX9_count_63 ?_
        refine cf_i 0 (by decide) ?_
        refine lv_istore_n (lv' := [(2, .int 0), (3, .int 1), (0, .ref b0), (1, .int k)]) hx hb dX9_count_64 rfl hl (by decide) rfl (fun ls hl => ?_)
        refine lv_iinc (v := 2) (lv' := [(3, .int 2), (2, .int 0), (0, .ref b0), (1, .int k)]) hx hb dX9_count_65 hl (k := 1) rfl (by decide) (by decide) rfl (fun ls hl => ?_)
        refine lv_goto (tgt := 42) hx hb dX9_count_68 (by decide) ?_
        refine lv_iload_n hx hb dX9_count_42 rfl (lv_at hl 0 rfl) ?_
        refine lv_iconst (v := 4) hx hb dX9_count_43 (by decide) ?_
        refine lv_icmp_ge (tgt := 71) hx hb dX9_count_44 (by decide) (fun h9 => absurd h9 (by decide)) (fun _ => ?_)
        refine lv_iload_n hx hb dX9_count_47 rfl (lv_at hl 1 rfl) ?_
        refine lv_aload_n hx hb dX9_count_48 rfl (lv_at hl 2 rfl) ?_
        refine va_get (D := D) (ci := 9) (v := .ref mMany) (C := RX9) (T := TX9) (N := 42) hx hb hts iuX9_count_X9 hown hK hP 0 rfl rfl 38 (by decide) (htw (.fieldLink RX9 58 "MergeJudgeModel" "many" "[I") (List.mem_of_getElem? (i := 6) rfl)) (fun _ h9 => h9) rfl dX9_count_49 ?_
        refine lv_iload_n hx hb dX9_count_52 rfl (lv_at hl 0 rfl) ?_
        refine va_iald hx hb hK hP 2 1 rfl rfl (vp_c (by decide)) dX9_count_53 ?_
        refine cf_v (.int (-1)) rfl ?_
        refine lv_iconst (v := (-1)) hx hb dX9_count_54 (by decide) ?_
        refine lv_icmp_ne (tgt := 62) hx hb dX9_count_55 (by decide) (fun h9 => absurd h9 (by decide)) (fun _ => ?_)
        refine lv_iconst (v := 0) hx hb dX9_count_58 (by decide) ?_
        refine lv_goto (tgt := 63) hx hb dX9_count_59 (by decide) ?_
        refine lv_iadd hx hb dX9_count_63 ?_
        refine cf_i 0 (by decide) ?_
        refine lv_istore_n (lv' := [(2, .int 0), (3, .int 2), (0, .ref b0), (1, .int k)]) hx hb dX9_count_64 rfl hl (by decide) rfl (fun ls hl => ?_)
        refine lv_iinc (v := 3) (lv' := [(3, .int 3), (2, .int 0), (0, .ref b0), (1, .int k)]) hx hb dX9_count_65 hl (k := 1) rfl (by decide) (by decide) rfl (fun ls hl => ?_)
        refine lv_goto (tgt := 42) hx hb dX9_count_68 (by decide) ?_
        refine lv_iload_n hx hb dX9_count_42 rfl (lv_at hl 0 rfl) ?_
        refine lv_iconst (v := 4) hx hb dX9_count_43 (by decide) ?_
        refine lv_icmp_ge (tgt := 71) hx hb dX9_count_44 (by decide) (fun h9 => absurd h9 (by decide)) (fun _ => ?_)
        refine lv_iload_n hx hb dX9_count_47 rfl (lv_at hl 1 rfl) ?_
        refine lv_aload_n hx hb dX9_count_48 rfl (lv_at hl 2 rfl) ?_
        refine va_get (D := D) (ci := 9) (v := .ref mMany) (C := RX9) (T := TX9) (N := 42) hx hb hts iuX9_count_X9 hown hK hP 0 rfl rfl 38 (by decide) (htw (.fieldLink RX9 58 "MergeJudgeModel" "many" "[I") (List.mem_of_getElem? (i := 6) rfl)) (fun _ h9 => h9) rfl dX9_count_49 ?_
        refine lv_iload_n hx hb dX9_count_52 rfl (lv_at hl 0 rfl) ?_
        refine va_iald hx hb hK hP 2 1 rfl rfl (vp_c (by decide)) dX9_count_53 ?_
        refine cf_v (.int (-1)) rfl ?_
        refine lv_iconst (v := (-1)) hx hb dX9_count_54 (by decide) ?_
        refine lv_icmp_ne (tgt := 62) hx hb dX9_count_55 (by decide) (fun h9 => absurd h9 (by decide)) (fun _ => ?_)
        refine lv_iconst (v := 0) hx hb dX9_count_58 (by decide) ?_
        refine lv_goto (tgt := 63) hx hb dX9_count_59 (by decide) ?_
        refine lv_iadd hx hb dX9_count_63 ?_
        refine cf_i 0 (by decide) ?_
        refine lv_istore_n (lv' := [(2, .int 0), (3, .int 3), (0, .ref b0), (1, .int k)]) hx hb dX9_count_64 rfl hl (by decide) rfl (fun ls hl => ?_)
        refine lv_iinc (v := 4) (lv' := [(3, .int 4), (2, .int 0), (0, .ref b0), (1, .int k)]) hx hb dX9_count_65 hl (k := 1) rfl (by decide) (by decide) rfl (fun ls hl => ?_)
        refine lv_goto (tgt := 42) hx hb dX9_count_68 (by decide) ?_
        refine lv_iload_n hx hb dX9_count_42 rfl (lv_at hl 0 rfl) ?_
        refine lv_iconst (v := 4) hx hb dX9_count_43 (by decide) ?_
        refine lv_icmp_ge (tgt := 71) hx hb dX9_count_44 (by decide) (fun _ => ?_) (fun h9 => absurd h9 (by decide))
        refine lv_iload_n hx hb dX9_count_71 rfl (lv_at hl 1 rfl) ?_
        exact ret_i hx hb hr hlk hS (Nat.le_of_ble_eq_true rfl) (Nat.le_of_ble_eq_true rfl) () (Or.inl ⟨rfl, (by have e0 := c_2; have e1 := c_3; have e2 := hq_1; (try simp only [ge_iff_le, gt_iff_lt, ne_eq, Int32.lt_iff_toInt_lt, Int32.le_iff_toInt_le, ← Int32.toInt_inj, Int64.lt_iff_toInt_lt, Int64.le_iff_toInt_le, Int32.toInt_toInt64, i0, i1, i2, i3, i4, i7, i8, i9, i60, j0, j1, j2, j3, j7] at e0 e1 e2); omega)⟩) (hP.sub [] rfl) (hD.sub [] (by decide) rfl) dX9_count_72
      ·
        refine lv_iconst (v := (-1)) hx hb dX9_count_36 (by decide) ?_
        exact ret_i hx hb hr hlk hS (Nat.le_of_ble_eq_true rfl) (Nat.le_of_ble_eq_true rfl) () (Or.inr (⟨rfl, (by have e0 := c_2; have e1 := c_3; have e2 := hq_1; (try simp only [ge_iff_le, gt_iff_lt, ne_eq, Int32.lt_iff_toInt_lt, Int32.le_iff_toInt_le, ← Int32.toInt_inj, Int64.lt_iff_toInt_lt, Int64.le_iff_toInt_le, Int32.toInt_toInt64, i0, i1, i2, i3, i4, i7, i8, i9, i60, j0, j1, j2, j3, j7] at e0 e1 e2); omega)⟩)) (hP.sub [] rfl) (hD.sub [] (by decide) rfl) dX9_count_37
    ·
      refine lv_aload_n hx hb dX9_count_25 rfl (lv_at hl 0 rfl) ?_
      refine va_get (D := D) (ci := 9) (v := .int 0) (C := RX9) (T := TX9) (N := 42) hx hb hts iuX9_count_X9 hown hK hP 0 rfl rfl 5 (by decide) (htw (.fieldLink RX9 99 "MergeJudgeModel" "taped" "I") (List.mem_of_getElem? (i := 5) rfl)) (fun _ h9 => h9) rfl dX9_count_26 ?_
      exact ret_i hx hb hr hlk hS (Nat.le_of_ble_eq_true rfl) (Nat.le_of_ble_eq_true rfl) () (Or.inl ⟨rfl, (by have e0 := c_2; have e1 := hq_1; (try simp only [ge_iff_le, gt_iff_lt, ne_eq, Int32.lt_iff_toInt_lt, Int32.le_iff_toInt_le, ← Int32.toInt_inj, Int64.lt_iff_toInt_lt, Int64.le_iff_toInt_le, Int32.toInt_toInt64, i0, i1, i2, i3, i4, i7, i8, i9, i60, j0, j1, j2, j3, j7] at e0 e1); omega)⟩) (hP.sub [] rfl) (hD.sub [] (by decide) rfl) dX9_count_29

set_option maxHeartbeats 4000000 in
set_option maxRecDepth 100000 in
theorem k_X9_image (l : Launch) (D : va_G) (cs : Nat → ClassId) (sz : Nat) (b0 : Nat) (k : Int32) (mWorld : Nat) (mImages : Nat) (mHasImage : Nat) (mTape : Nat) (mFive : Nat) (mFresh : Nat) (mMergedBy : Nat) (mIsValid : Nat) (mGoes : Nat) (mFarNow : Nat) (mFreeNow : Nat) (mIsPair : Nat) (mHitsBy : Nat) (mWorthBy : Nat) (mMany : Nat) (mWidth : Nat) (mNumbers : Nat) (mMoving : Nat)  : Mi l D cs yX9_image W_X9_image 1 25 0 0 [.ref b0, .int k] [(b0, .inr (9, [.int 0, .ref mWorld, .ref mImages, .ref mHasImage, .ref mTape, .int 0, .ref mFive, .int 0, .int 0, .int 0, .int 0, .int 0, .int 0, .int (-1), .ref mFresh, .ref mMergedBy, .int 0, .int 0, .int 0, .ref mIsValid, .ref mGoes, .ref mFarNow, .ref mFreeNow, .ref mIsPair, .ref mHitsBy, .int 0, .int 0, .int 0, .int 0, .int 0, .int 0, .int 0, .int 0, .int 0, .ref mWorthBy, .long 0, .long 0, .long 0, .ref mMany, .ref mWidth, .ref mNumbers, .ref mMoving])), (mWorld, .inl (cs 1, 76, .inl (fun _ => 0))), (mImages, .inl (cs 1, 228, .inl (fun _ => 0))), (mHasImage, .inl (cs 3, 3, .inl (fun _ => 0)))] sz (fun (r : Int32) (u : Unit) => (r = 0 ∧ (0 ≤ k.toInt ∧ k.toInt ≤ 2)) ∨ (r = (-2) ∧ ¬ (0 ≤ k.toInt ∧ k.toInt ≤ 2))) (fun (u : Unit) => []) := by
  refine ent (D := D) (cs := cs) (y := yX9_image) (ws := W_X9_image) (As := [.ref b0, .int k]) (W0 := [(b0, .inr (9, [.int 0, .ref mWorld, .ref mImages, .ref mHasImage, .ref mTape, .int 0, .ref mFive, .int 0, .int 0, .int 0, .int 0, .int 0, .int 0, .int (-1), .ref mFresh, .ref mMergedBy, .int 0, .int 0, .int 0, .ref mIsValid, .ref mGoes, .ref mFarNow, .ref mFreeNow, .ref mIsPair, .ref mHitsBy, .int 0, .int 0, .int 0, .int 0, .int 0, .int 0, .int 0, .int 0, .int 0, .ref mWorthBy, .long 0, .long 0, .long 0, .ref mMany, .ref mWidth, .ref mNumbers, .ref mMoving])), (mWorld, .inl (cs 1, 76, .inl (fun _ => 0))), (mImages, .inl (cs 1, 228, .inl (fun _ => 0))), (mHasImage, .inl (cs 3, 3, .inl (fun _ => 0)))]) (Qx := fun A => va_Qi (fun (r : Int32) (u : Unit) => (r = 0 ∧ (0 ≤ k.toInt ∧ k.toInt ≤ 2)) ∨ (r = (-2) ∧ ¬ (0 ≤ k.toInt ∧ k.toInt ≤ 2))) (mpost D A (fun (u : Unit) => [])) A) (maxL := 3) (ret := (some .int)) (by decide) rfl (Nat.le_of_ble_eq_true rfl) ?_
  intro p e s m below meth c A ls hx hb hr hml hlk hown hts hin hK hE hP hD hA hS hl
  have hl : lv_has ls 3 [(0, .ref b0), (1, .int k)] := hl
  generalize hHe : s.heap = H at hP
  have hS : va_S A s.heap H [] := hHe ▸ hS
  have htw : ∀ w ∈ O_X9_image, w.before ([.ref b0, .int k] : List Value).toArray s = true := fun w h => hts w (List.mem_cons_of_mem _ (List.mem_append_left _ h))
  have hFix := (⟨hx, hb, hml, hown, hts⟩ : CallFix p m c _ _ s _ _ _)
  refine lv_iload_n hx hb dX9_image_0 rfl (lv_at hl 1 rfl) ?_
  refine lv_i2l (v := k.toInt64) hx hb dX9_image_1 rfl ?_
  refine lv_lconst (v := 0) hx hb dX9_image_2 (by decide) ?_
  refine lv_ldc2 (v := 2) hx hb hown (htw (.constantLong RX9 74 (2)) (List.mem_of_getElem? (i := 0) rfl)) dX9_image_3 ?_
  refine aft_i (wr := [(b0, .inr (9, [.int 0, .ref mWorld, .ref mImages, .ref mHasImage, .ref mTape, .int 0, .ref mFive, .int 0, .int 0, .int 0, .int 0, .int 0, .int 0, .int (-1), .ref mFresh, .ref mMergedBy, .int 0, .int 0, .int 0, .ref mIsValid, .ref mGoes, .ref mFarNow, .ref mFreeNow, .ref mIsPair, .ref mHitsBy, .int 0, .int 0, .int 0, .int 0, .int 0, .int 0, .int 0, .int 0, .int 0, .ref mWorthBy, .long 0, .long 0, .long 0, .ref mMany, .ref mWidth, .ref mNumbers, .ref mMoving])), (mWorld, .inl (cs 1, 76, .inl (fun _ => 0))), (mImages, .inl (cs 1, 228, .inl (fun _ => 0))), (mHasImage, .inl (cs 3, 3, .inl (fun _ => 0)))]) hP hD hS hA [] [0, 1, 2, 3] rfl rfl (by decide) (by decide) (run_s (As := [.long k.toInt64, .long 0, .long 2]) (rest := []) hFix hK hE hP hD [] (k_X9_in l D cs _ k.toInt64 0 2) (va_cwS 3 hts gc_X9_image_76_X9_in rfl rfl rfl (by decide +kernel) ⟨Nat.le_of_ble_eq_true rfl, Nat.le_of_ble_eq_true rfl⟩) rfl (by decide) rfl hl.1 rfl (Nat.le_of_ble_eq_true rfl) dX9_image_6 ⟨Nat.le_of_ble_eq_true rfl, Nat.le_of_ble_eq_true rfl⟩) (fun r_1 u_1 H locs hq_1 hP hD hS => ?_)
  have hP : va_P D vwCl [(b0, .inr (9, [.int 0, .ref mWorld, .ref mImages, .ref mHasImage, .ref mTape, .int 0, .ref mFive, .int 0, .int 0, .int 0, .int 0, .int 0, .int 0, .int (-1), .ref mFresh, .ref mMergedBy, .int 0, .int 0, .int 0, .ref mIsValid, .ref mGoes, .ref mFarNow, .ref mFreeNow, .ref mIsPair, .ref mHitsBy, .int 0, .int 0, .int 0, .int 0, .int 0, .int 0, .int 0, .int 0, .int 0, .ref mWorthBy, .long 0, .long 0, .long 0, .ref mMany, .ref mWidth, .ref mNumbers, .ref mMoving])), (mWorld, .inl (cs 1, 76, .inl (fun _ => 0))), (mImages, .inl (cs 1, 228, .inl (fun _ => 0))), (mHasImage, .inl (cs 3, 3, .inl (fun _ => 0)))] H := hP
  have hD : va_D A [(b0, .inr (9, [.int 0, .ref mWorld, .ref mImages, .ref mHasImage, .ref mTape, .int 0, .ref mFive, .int 0, .int 0, .int 0, .int 0, .int 0, .int 0, .int (-1), .ref mFresh, .ref mMergedBy, .int 0, .int 0, .int 0, .ref mIsValid, .ref mGoes, .ref mFarNow, .ref mFreeNow, .ref mIsPair, .ref mHitsBy, .int 0, .int 0, .int 0, .int 0, .int 0, .int 0, .int 0, .int 0, .int 0, .ref mWorthBy, .long 0, .long 0, .long 0, .ref mMany, .ref mWidth, .ref mNumbers, .ref mMoving])), (mWorld, .inl (cs 1, 76, .inl (fun _ => 0))), (mImages, .inl (cs 1, 228, .inl (fun _ => 0))), (mHasImage, .inl (cs 3, 3, .inl (fun _ => 0)))] := hD
  replace hq_1 : (r_1 = 1 ∧ 0 ≤ k.toInt64 ∧ k.toInt64 ≤ 2) ∨ (r_1 = 0 ∧ ¬ (0 ≤ k.toInt64 ∧ k.toInt64 ≤ 2)) := hq_1
  rcases hq_1 with ⟨rfl, hq_1⟩ | ⟨rfl, hq_1⟩
  ·
    refine lv_if_ne (tgt := 15) hx hb dX9_image_9 (by decide) (fun _ => ?_) (fun h9 => absurd h9 (by decide))
    rcases one_3 (k := k) (by have e0 := hq_1; (try simp only [ge_iff_le, gt_iff_lt, ne_eq, Int32.lt_iff_toInt_lt, Int32.le_iff_toInt_le, ← Int32.toInt_inj, Int64.lt_iff_toInt_lt, Int64.le_iff_toInt_le, Int32.toInt_toInt64, i0, i1, i2, i3, i4, i7, i8, i9, i60, j0, j1, j2, j3, j7] at e0); omega) with rfl | rfl | rfl
    ·
      refine lv_iconst (v := 0) hx hb dX9_image_15 (by decide) ?_
      refine lv_istore_n (lv' := [(2, .int 0), (0, .ref b0), (1, .int 0)]) hx hb dX9_image_16 rfl hl (by decide) rfl (fun ls hl => ?_)
      have lp_2 : ∀ (nfu : Nat) (i : Nat) (f0 : Nat → Int32) (H : Heap) (locs : List Loc) (ls : Array Slot) (hi : i ≤ 76), 76 - i < nfu → va_P D vwCl [(b0, .inr (9, [.int 0, .ref mWorld, .ref mImages, .ref mHasImage, .ref mTape, .int 0, .ref mFive, .int 0, .int 0, .int 0, .int 0, .int 0, .int 0, .int (-1), .ref mFresh, .ref mMergedBy, .int 0, .int 0, .int 0, .ref mIsValid, .ref mGoes, .ref mFarNow, .ref mFreeNow, .ref mIsPair, .ref mHitsBy, .int 0, .int 0, .int 0, .int 0, .int 0, .int 0, .int 0, .int 0, .int 0, .ref mWorthBy, .long 0, .long 0, .long 0, .ref mMany, .ref mWidth, .ref mNumbers, .ref mMoving])), (mWorld, .inl (cs 1, 76, .inl (fun _ => 0))), (mImages, .inl (cs 1, 228, .inl f0)), (mHasImage, .inl (cs 3, 3, .inl (fun _ => 0)))] H → va_D A [(b0, .inr (9, [.int 0, .ref mWorld, .ref mImages, .ref mHasImage, .ref mTape, .int 0, .ref mFive, .int 0, .int 0, .int 0, .int 0, .int 0, .int 0, .int (-1), .ref mFresh, .ref mMergedBy, .int 0, .int 0, .int 0, .ref mIsValid, .ref mGoes, .ref mFarNow, .ref mFreeNow, .ref mIsPair, .ref mHitsBy, .int 0, .int 0, .int 0, .int 0, .int 0, .int 0, .int 0, .int 0, .int 0, .ref mWorthBy, .long 0, .long 0, .long 0, .ref mMany, .ref mWidth, .ref mNumbers, .ref mMoving])), (mWorld, .inl (cs 1, 76, .inl (fun _ => 0))), (mImages, .inl (cs 1, 228, .inl f0)), (mHasImage, .inl (cs 3, 3, .inl (fun _ => 0)))] → va_S A s.heap H locs → lv_has ls 3 [(2, .int (nI i)), (0, .ref b0), (1, .int 0)] → W p l e (mRm 1 0 0 25) s m ([.ref b0, .int (0 : Int32)] : List Value).toArray below meth c H locs 0 0 (MQ below (va_Qi (fun (r : Int32) (u : Unit) => (r = 0 ∧ (0 ≤ (0 : Int32).toInt ∧ (0 : Int32).toInt ≤ 2)) ∨ (r = (-2) ∧ ¬ (0 ≤ (0 : Int32).toInt ∧ (0 : Int32).toInt ≤ 2))) (mpost D A (fun (u : Unit) => [])) A) ([.ref b0, .int (0 : Int32)] : List Value).toArray s 0 0 A) (F0 m 17 ls []) := by
        intro nfu
        induction nfu with
        | zero => intro i f0 H locs ls hi hmu; exact absurd hmu (Nat.not_lt_zero _)
        | succ nfu ih =>
          intro i f0 H locs ls hi hmu hP hD hS hl
          have ih_lp_2 := @ih
          refine lv_iload_n hx hb dX9_image_17 rfl (lv_at hl 0 rfl) ?_
          refine lv_bipush (v := 76) hx hb dX9_image_18 (by decide) ?_
          refine lv_icmp_ge (tgt := 46) hx hb dX9_image_20 (by decide) (fun c_3 => ?_) (fun c_3 => ?_)
          ·
            have hn_3 := bge_t (a := i) (b := 76) c_3 (by omega) (by omega)
            refine lv_aload_n hx hb dX9_image_46 rfl (lv_at hl 1 rfl) ?_
            refine va_get (D := D) (ci := 9) (v := .ref mHasImage) (C := RX9) (T := TX9) (N := 42) hx hb hts iuX9_image_X9 hown hK hP 0 rfl rfl 3 (by decide) (htw (.fieldLink RX9 16 "MergeJudgeModel" "hasImage" "[Z") (List.mem_of_getElem? (i := 6) rfl)) (fun _ h9 => h9) rfl dX9_image_47 ?_
            refine lv_iload_n hx hb dX9_image_50 rfl (lv_at hl 2 rfl) ?_
            refine lv_iconst (v := 1) hx hb dX9_image_51 (by decide) ?_
            refine va_zast hx hb hK hP hD hS 3 3 rfl rfl (vp_c (by decide)) dX9_image_52 (fun H locs hP hD hS => ?_)
            have hP : va_P D vwCl [(b0, .inr (9, [.int 0, .ref mWorld, .ref mImages, .ref mHasImage, .ref mTape, .int 0, .ref mFive, .int 0, .int 0, .int 0, .int 0, .int 0, .int 0, .int (-1), .ref mFresh, .ref mMergedBy, .int 0, .int 0, .int 0, .ref mIsValid, .ref mGoes, .ref mFarNow, .ref mFreeNow, .ref mIsPair, .ref mHitsBy, .int 0, .int 0, .int 0, .int 0, .int 0, .int 0, .int 0, .int 0, .int 0, .ref mWorthBy, .long 0, .long 0, .long 0, .ref mMany, .ref mWidth, .ref mNumbers, .ref mMoving])), (mWorld, .inl (cs 1, 76, .inl (fun _ => 0))), (mImages, .inl (cs 1, 228, .inl f0)), (mHasImage, .inl (cs 3, 3, .inl (upd (fun _ => 0) 0 (vp_nar .boolean 1))))] H := hP
            have hD : va_D A [(b0, .inr (9, [.int 0, .ref mWorld, .ref mImages, .ref mHasImage, .ref mTape, .int 0, .ref mFive, .int 0, .int 0, .int 0, .int 0, .int 0, .int 0, .int (-1), .ref mFresh, .ref mMergedBy, .int 0, .int 0, .int 0, .ref mIsValid, .ref mGoes, .ref mFarNow, .ref mFreeNow, .ref mIsPair, .ref mHitsBy, .int 0, .int 0, .int 0, .int 0, .int 0, .int 0, .int 0, .int 0, .int 0, .ref mWorthBy, .long 0, .long 0, .long 0, .ref mMany, .ref mWidth, .ref mNumbers, .ref mMoving])), (mWorld, .inl (cs 1, 76, .inl (fun _ => 0))), (mImages, .inl (cs 1, 228, .inl f0)), (mHasImage, .inl (cs 3, 3, .inl (upd (fun _ => 0) 0 (vp_nar .boolean 1))))] := hD
            refine lv_iconst (v := 0) hx hb dX9_image_53 (by decide) ?_
            exact ret_i hx hb hr hlk hS (Nat.le_of_ble_eq_true rfl) (Nat.le_of_ble_eq_true rfl) () (Or.inl ⟨rfl, (by decide)⟩) (hP.sub [] rfl) (hD.sub [] (by decide) rfl) dX9_image_54
          ·
            have hn_3 := bge_f (a := i) (b := 76) c_3 (by omega) (by omega)
            refine lv_aload_n hx hb dX9_image_23 rfl (lv_at hl 1 rfl) ?_
            refine va_get (D := D) (ci := 9) (v := .ref mImages) (C := RX9) (T := TX9) (N := 42) hx hb hts iuX9_image_X9 hown hK hP 0 rfl rfl 2 (by decide) (htw (.fieldLink RX9 13 "MergeJudgeModel" "images" "[I") (List.mem_of_getElem? (i := 4) rfl)) (fun _ h9 => h9) rfl dX9_image_24 ?_
            refine lv_bipush (v := 76) hx hb dX9_image_27 (by decide) ?_
            refine lv_iload_n hx hb dX9_image_29 rfl (lv_at hl 2 rfl) ?_
            refine lv_imul hx hb dX9_image_30 ?_
            refine cf_i 0 (by decide) ?_
            refine lv_iload_n hx hb dX9_image_31 rfl (lv_at hl 0 rfl) ?_
            refine lv_iadd hx hb dX9_image_32 ?_
            refine cf_i (nI (0 + i)) (nI_add 0 i) ?_
            refine lv_aload_n hx hb dX9_image_33 rfl (lv_at hl 1 rfl) ?_
            refine va_get (D := D) (ci := 9) (v := .ref mWorld) (C := RX9) (T := TX9) (N := 42) hx hb hts iuX9_image_X9 hown hK hP 0 rfl rfl 1 (by decide) (htw (.fieldLink RX9 9 "MergeJudgeModel" "world" "[I") (List.mem_of_getElem? (i := 5) rfl)) (fun _ h9 => h9) rfl dX9_image_34 ?_
            refine lv_iload_n hx hb dX9_image_37 rfl (lv_at hl 0 rfl) ?_
            refine va_iald hx hb hK hP 1 1 rfl rfl (vp_in_nI (by omega) (by omega)) dX9_image_38 ?_
            refine cf_v (.int 0) rfl ?_
            refine va_iast hx hb hK hP hD hS 2 1 rfl rfl (vp_in_nI (by omega) (by omega)) dX9_image_39 (fun H locs hP hD hS => ?_)
            have hP : va_P D vwCl [(b0, .inr (9, [.int 0, .ref mWorld, .ref mImages, .ref mHasImage, .ref mTape, .int 0, .ref mFive, .int 0, .int 0, .int 0, .int 0, .int 0, .int 0, .int (-1), .ref mFresh, .ref mMergedBy, .int 0, .int 0, .int 0, .ref mIsValid, .ref mGoes, .ref mFarNow, .ref mFreeNow, .ref mIsPair, .ref mHitsBy, .int 0, .int 0, .int 0, .int 0, .int 0, .int 0, .int 0, .int 0, .int 0, .ref mWorthBy, .long 0, .long 0, .long 0, .ref mMany, .ref mWidth, .ref mNumbers, .ref mMoving])), (mWorld, .inl (cs 1, 76, .inl (fun _ => 0))), (mImages, .inl (cs 1, 228, .inl (upd f0 ((nI (0 + i)).toNatClampNeg) 0))), (mHasImage, .inl (cs 3, 3, .inl (fun _ => 0)))] H := hP
            have hD : va_D A [(b0, .inr (9, [.int 0, .ref mWorld, .ref mImages, .ref mHasImage, .ref mTape, .int 0, .ref mFive, .int 0, .int 0, .int 0, .int 0, .int 0, .int 0, .int (-1), .ref mFresh, .ref mMergedBy, .int 0, .int 0, .int 0, .ref mIsValid, .ref mGoes, .ref mFarNow, .ref mFreeNow, .ref mIsPair, .ref mHitsBy, .int 0, .int 0, .int 0, .int 0, .int 0, .int 0, .int 0, .int 0, .int 0, .ref mWorthBy, .long 0, .long 0, .long 0, .ref mMany, .ref mWidth, .ref mNumbers, .ref mMoving])), (mWorld, .inl (cs 1, 76, .inl (fun _ => 0))), (mImages, .inl (cs 1, 228, .inl (upd f0 ((nI (0 + i)).toNatClampNeg) 0))), (mHasImage, .inl (cs 3, 3, .inl (fun _ => 0)))] := hD
            refine lv_iinc (v := (nI (i + 1))) (lv' := [(2, .int (nI (i + 1))), (0, .ref b0), (1, .int 0)]) hx hb dX9_image_40 hl (k := 0) rfl (nI_1 _) (by decide) rfl (fun ls hl => ?_)
            refine lv_goto (tgt := 17) hx hb dX9_image_43 (by decide) ?_
            exact ih_lp_2 (i + 1) (upd f0 ((nI (0 + i)).toNatClampNeg) 0) H locs ls (by omega) (by omega) (hP.sub [0, 1, 2, 3] rfl) (hD.sub [0, 1, 2, 3] (by decide) rfl) hS (lv_sub hl [0, 1, 2] rfl)
      exact lp_2 _ 0 (fun _ => 0) H locs ls (by omega) (Nat.lt_succ_self _) (hP.sub [0, 1, 2, 3] rfl) (hD.sub [0, 1, 2, 3] (by decide) rfl) hS (lv_sub hl [0, 1, 2] rfl)
    ·
      refine lv_iconst (v := 0) hx hb dX9_image_15 (by decide) ?_
      refine lv_istore_n (lv' := [(2, .int 0), (0, .ref b0), (1, .int 1)]) hx hb dX9_image_16 rfl hl (by decide) rfl (fun ls hl => ?_)
      have lp_4 : ∀ (nfu : Nat) (i : Nat) (f0 : Nat → Int32) (H : Heap) (locs : List Loc) (ls : Array Slot) (hi : i ≤ 76), 76 - i < nfu → va_P D vwCl [(b0, .inr (9, [.int 0, .ref mWorld, .ref mImages, .ref mHasImage, .ref mTape, .int 0, .ref mFive, .int 0, .int 0, .int 0, .int 0, .int 0, .int 0, .int (-1), .ref mFresh, .ref mMergedBy, .int 0, .int 0, .int 0, .ref mIsValid, .ref mGoes, .ref mFarNow, .ref mFreeNow, .ref mIsPair, .ref mHitsBy, .int 0, .int 0, .int 0, .int 0, .int 0, .int 0, .int 0, .int 0, .int 0, .ref mWorthBy, .long 0, .long 0, .long 0, .ref mMany, .ref mWidth, .ref mNumbers, .ref mMoving])), (mWorld, .inl (cs 1, 76, .inl (fun _ => 0))), (mImages, .inl (cs 1, 228, .inl f0)), (mHasImage, .inl (cs 3, 3, .inl (fun _ => 0)))] H → va_D A [(b0, .inr (9, [.int 0, .ref mWorld, .ref mImages, .ref mHasImage, .ref mTape, .int 0, .ref mFive, .int 0, .int 0, .int 0, .int 0, .int 0, .int 0, .int (-1), .ref mFresh, .ref mMergedBy, .int 0, .int 0, .int 0, .ref mIsValid, .ref mGoes, .ref mFarNow, .ref mFreeNow, .ref mIsPair, .ref mHitsBy, .int 0, .int 0, .int 0, .int 0, .int 0, .int 0, .int 0, .int 0, .int 0, .ref mWorthBy, .long 0, .long 0, .long 0, .ref mMany, .ref mWidth, .ref mNumbers, .ref mMoving])), (mWorld, .inl (cs 1, 76, .inl (fun _ => 0))), (mImages, .inl (cs 1, 228, .inl f0)), (mHasImage, .inl (cs 3, 3, .inl (fun _ => 0)))] → va_S A s.heap H locs → lv_has ls 3 [(2, .int (nI i)), (0, .ref b0), (1, .int 1)] → W p l e (mRm 1 0 0 25) s m ([.ref b0, .int (1 : Int32)] : List Value).toArray below meth c H locs 0 0 (MQ below (va_Qi (fun (r : Int32) (u : Unit) => (r = 0 ∧ (0 ≤ (1 : Int32).toInt ∧ (1 : Int32).toInt ≤ 2)) ∨ (r = (-2) ∧ ¬ (0 ≤ (1 : Int32).toInt ∧ (1 : Int32).toInt ≤ 2))) (mpost D A (fun (u : Unit) => [])) A) ([.ref b0, .int (1 : Int32)] : List Value).toArray s 0 0 A) (F0 m 17 ls []) := by
        intro nfu
        induction nfu with
        | zero => intro i f0 H locs ls hi hmu; exact absurd hmu (Nat.not_lt_zero _)
        | succ nfu ih =>
          intro i f0 H locs ls hi hmu hP hD hS hl
          have ih_lp_4 := @ih
          refine lv_iload_n hx hb dX9_image_17 rfl (lv_at hl 0 rfl) ?_
          refine lv_bipush (v := 76) hx hb dX9_image_18 (by decide) ?_
          refine lv_icmp_ge (tgt := 46) hx hb dX9_image_20 (by decide) (fun c_5 => ?_) (fun c_5 => ?_)
          ·
            have hn_5 := bge_t (a := i) (b := 76) c_5 (by omega) (by omega)
            refine lv_aload_n hx hb dX9_image_46 rfl (lv_at hl 1 rfl) ?_
            refine va_get (D := D) (ci := 9) (v := .ref mHasImage) (C := RX9) (T := TX9) (N := 42) hx hb hts iuX9_image_X9 hown hK hP 0 rfl rfl 3 (by decide) (htw (.fieldLink RX9 16 "MergeJudgeModel" "hasImage" "[Z") (List.mem_of_getElem? (i := 6) rfl)) (fun _ h9 => h9) rfl dX9_image_47 ?_
            refine lv_iload_n hx hb dX9_image_50 rfl (lv_at hl 2 rfl) ?_
            refine lv_iconst (v := 1) hx hb dX9_image_51 (by decide) ?_
            refine va_zast hx hb hK hP hD hS 3 3 rfl rfl (vp_c (by decide)) dX9_image_52 (fun H locs hP hD hS => ?_)
            have hP : va_P D vwCl [(b0, .inr (9, [.int 0, .ref mWorld, .ref mImages, .ref mHasImage, .ref mTape, .int 0, .ref mFive, .int 0, .int 0, .int 0, .int 0, .int 0, .int 0, .int (-1), .ref mFresh, .ref mMergedBy, .int 0, .int 0, .int 0, .ref mIsValid, .ref mGoes, .ref mFarNow, .ref mFreeNow, .ref mIsPair, .ref mHitsBy, .int 0, .int 0, .int 0, .int 0, .int 0, .int 0, .int 0, .int 0, .int 0, .ref mWorthBy, .long 0, .long 0, .long 0, .ref mMany, .ref mWidth, .ref mNumbers, .ref mMoving])), (mWorld, .inl (cs 1, 76, .inl (fun _ => 0))), (mImages, .inl (cs 1, 228, .inl f0)), (mHasImage, .inl (cs 3, 3, .inl (upd (fun _ => 0) 1 (vp_nar .boolean 1))))] H := hP
            have hD : va_D A [(b0, .inr (9, [.int 0, .ref mWorld, .ref mImages, .ref mHasImage, .ref mTape, .int 0, .ref mFive, .int 0, .int 0, .int 0, .int 0, .int 0, .int 0, .int (-1), .ref mFresh, .ref mMergedBy, .int 0, .int 0, .int 0, .ref mIsValid, .ref mGoes, .ref mFarNow, .ref mFreeNow, .ref mIsPair, .ref mHitsBy, .int 0, .int 0, .int 0, .int 0, .int 0, .int 0, .int 0, .int 0, .int 0, .ref mWorthBy, .long 0, .long 0, .long 0, .ref mMany, .ref mWidth, .ref mNumbers, .ref mMoving])), (mWorld, .inl (cs 1, 76, .inl (fun _ => 0))), (mImages, .inl (cs 1, 228, .inl f0)), (mHasImage, .inl (cs 3, 3, .inl (upd (fun _ => 0) 1 (vp_nar .boolean 1))))] := hD
            refine lv_iconst (v := 0) hx hb dX9_image_53 (by decide) ?_
            exact ret_i hx hb hr hlk hS (Nat.le_of_ble_eq_true rfl) (Nat.le_of_ble_eq_true rfl) () (Or.inl ⟨rfl, (by decide)⟩) (hP.sub [] rfl) (hD.sub [] (by decide) rfl) dX9_image_54
          ·
            have hn_5 := bge_f (a := i) (b := 76) c_5 (by omega) (by omega)
            refine lv_aload_n hx hb dX9_image_23 rfl (lv_at hl 1 rfl) ?_
            refine va_get (D := D) (ci := 9) (v := .ref mImages) (C := RX9) (T := TX9) (N := 42) hx hb hts iuX9_image_X9 hown hK hP 0 rfl rfl 2 (by decide) (htw (.fieldLink RX9 13 "MergeJudgeModel" "images" "[I") (List.mem_of_getElem? (i := 4) rfl)) (fun _ h9 => h9) rfl dX9_image_24 ?_
            refine lv_bipush (v := 76) hx hb dX9_image_27 (by decide) ?_
            refine lv_iload_n hx hb dX9_image_29 rfl (lv_at hl 2 rfl) ?_
            refine lv_imul hx hb dX9_image_30 ?_
            refine cf_i 76 (by decide) ?_
            refine lv_iload_n hx hb dX9_image_31 rfl (lv_at hl 0 rfl) ?_
            refine lv_iadd hx hb dX9_image_32 ?_
            refine cf_i (nI (76 + i)) (nI_add 76 i) ?_
            refine lv_aload_n hx hb dX9_image_33 rfl (lv_at hl 1 rfl) ?_
            refine va_get (D := D) (ci := 9) (v := .ref mWorld) (C := RX9) (T := TX9) (N := 42) hx hb hts iuX9_image_X9 hown hK hP 0 rfl rfl 1 (by decide) (htw (.fieldLink RX9 9 "MergeJudgeModel" "world" "[I") (List.mem_of_getElem? (i := 5) rfl)) (fun _ h9 => h9) rfl dX9_image_34 ?_
            refine lv_iload_n hx hb dX9_image_37 rfl (lv_at hl 0 rfl) ?_
            refine va_iald hx hb hK hP 1 1 rfl rfl (vp_in_nI (by omega) (by omega)) dX9_image_38 ?_
            refine cf_v (.int 0) rfl ?_
            refine va_iast hx hb hK hP hD hS 2 1 rfl rfl (vp_in_nI (by omega) (by omega)) dX9_image_39 (fun H locs hP hD hS => ?_)
            have hP : va_P D vwCl [(b0, .inr (9, [.int 0, .ref mWorld, .ref mImages, .ref mHasImage, .ref mTape, .int 0, .ref mFive, .int 0, .int 0, .int 0, .int 0, .int 0, .int 0, .int (-1), .ref mFresh, .ref mMergedBy, .int 0, .int 0, .int 0, .ref mIsValid, .ref mGoes, .ref mFarNow, .ref mFreeNow, .ref mIsPair, .ref mHitsBy, .int 0, .int 0, .int 0, .int 0, .int 0, .int 0, .int 0, .int 0, .int 0, .ref mWorthBy, .long 0, .long 0, .long 0, .ref mMany, .ref mWidth, .ref mNumbers, .ref mMoving])), (mWorld, .inl (cs 1, 76, .inl (fun _ => 0))), (mImages, .inl (cs 1, 228, .inl (upd f0 ((nI (76 + i)).toNatClampNeg) 0))), (mHasImage, .inl (cs 3, 3, .inl (fun _ => 0)))] H := hP
            have hD : va_D A [(b0, .inr (9, [.int 0, .ref mWorld, .ref mImages, .ref mHasImage, .ref mTape, .int 0, .ref mFive, .int 0, .int 0, .int 0, .int 0, .int 0, .int 0, .int (-1), .ref mFresh, .ref mMergedBy, .int 0, .int 0, .int 0, .ref mIsValid, .ref mGoes, .ref mFarNow, .ref mFreeNow, .ref mIsPair, .ref mHitsBy, .int 0, .int 0, .int 0, .int 0, .int 0, .int 0, .int 0, .int 0, .int 0, .ref mWorthBy, .long 0, .long 0, .long 0, .ref mMany, .ref mWidth, .ref mNumbers, .ref mMoving])), (mWorld, .inl (cs 1, 76, .inl (fun _ => 0))), (mImages, .inl (cs 1, 228, .inl (upd f0 ((nI (76 + i)).toNatClampNeg) 0))), (mHasImage, .inl (cs 3, 3, .inl (fun _ => 0)))] := hD
            refine lv_iinc (v := (nI (i + 1))) (lv' := [(2, .int (nI (i + 1))), (0, .ref b0), (1, .int 1)]) hx hb dX9_image_40 hl (k := 0) rfl (nI_1 _) (by decide) rfl (fun ls hl => ?_)
            refine lv_goto (tgt := 17) hx hb dX9_image_43 (by decide) ?_
            exact ih_lp_4 (i + 1) (upd f0 ((nI (76 + i)).toNatClampNeg) 0) H locs ls (by omega) (by omega) (hP.sub [0, 1, 2, 3] rfl) (hD.sub [0, 1, 2, 3] (by decide) rfl) hS (lv_sub hl [0, 1, 2] rfl)
      exact lp_4 _ 0 (fun _ => 0) H locs ls (by omega) (Nat.lt_succ_self _) (hP.sub [0, 1, 2, 3] rfl) (hD.sub [0, 1, 2, 3] (by decide) rfl) hS (lv_sub hl [0, 1, 2] rfl)
    ·
      refine lv_iconst (v := 0) hx hb dX9_image_15 (by decide) ?_
      refine lv_istore_n (lv' := [(2, .int 0), (0, .ref b0), (1, .int 2)]) hx hb dX9_image_16 rfl hl (by decide) rfl (fun ls hl => ?_)
      have lp_6 : ∀ (nfu : Nat) (i : Nat) (f0 : Nat → Int32) (H : Heap) (locs : List Loc) (ls : Array Slot) (hi : i ≤ 76), 76 - i < nfu → va_P D vwCl [(b0, .inr (9, [.int 0, .ref mWorld, .ref mImages, .ref mHasImage, .ref mTape, .int 0, .ref mFive, .int 0, .int 0, .int 0, .int 0, .int 0, .int 0, .int (-1), .ref mFresh, .ref mMergedBy, .int 0, .int 0, .int 0, .ref mIsValid, .ref mGoes, .ref mFarNow, .ref mFreeNow, .ref mIsPair, .ref mHitsBy, .int 0, .int 0, .int 0, .int 0, .int 0, .int 0, .int 0, .int 0, .int 0, .ref mWorthBy, .long 0, .long 0, .long 0, .ref mMany, .ref mWidth, .ref mNumbers, .ref mMoving])), (mWorld, .inl (cs 1, 76, .inl (fun _ => 0))), (mImages, .inl (cs 1, 228, .inl f0)), (mHasImage, .inl (cs 3, 3, .inl (fun _ => 0)))] H → va_D A [(b0, .inr (9, [.int 0, .ref mWorld, .ref mImages, .ref mHasImage, .ref mTape, .int 0, .ref mFive, .int 0, .int 0, .int 0, .int 0, .int 0, .int 0, .int (-1), .ref mFresh, .ref mMergedBy, .int 0, .int 0, .int 0, .ref mIsValid, .ref mGoes, .ref mFarNow, .ref mFreeNow, .ref mIsPair, .ref mHitsBy, .int 0, .int 0, .int 0, .int 0, .int 0, .int 0, .int 0, .int 0, .int 0, .ref mWorthBy, .long 0, .long 0, .long 0, .ref mMany, .ref mWidth, .ref mNumbers, .ref mMoving])), (mWorld, .inl (cs 1, 76, .inl (fun _ => 0))), (mImages, .inl (cs 1, 228, .inl f0)), (mHasImage, .inl (cs 3, 3, .inl (fun _ => 0)))] → va_S A s.heap H locs → lv_has ls 3 [(2, .int (nI i)), (0, .ref b0), (1, .int 2)] → W p l e (mRm 1 0 0 25) s m ([.ref b0, .int (2 : Int32)] : List Value).toArray below meth c H locs 0 0 (MQ below (va_Qi (fun (r : Int32) (u : Unit) => (r = 0 ∧ (0 ≤ (2 : Int32).toInt ∧ (2 : Int32).toInt ≤ 2)) ∨ (r = (-2) ∧ ¬ (0 ≤ (2 : Int32).toInt ∧ (2 : Int32).toInt ≤ 2))) (mpost D A (fun (u : Unit) => [])) A) ([.ref b0, .int (2 : Int32)] : List Value).toArray s 0 0 A) (F0 m 17 ls []) := by
        intro nfu
        induction nfu with
        | zero => intro i f0 H locs ls hi hmu; exact absurd hmu (Nat.not_lt_zero _)
        | succ nfu ih =>
          intro i f0 H locs ls hi hmu hP hD hS hl
          have ih_lp_6 := @ih
          refine lv_iload_n hx hb dX9_image_17 rfl (lv_at hl 0 rfl) ?_
          refine lv_bipush (v := 76) hx hb dX9_image_18 (by decide) ?_
          refine lv_icmp_ge (tgt := 46) hx hb dX9_image_20 (by decide) (fun c_7 => ?_) (fun c_7 => ?_)
          ·
            have hn_7 := bge_t (a := i) (b := 76) c_7 (by omega) (by omega)
            refine lv_aload_n hx hb dX9_image_46 rfl (lv_at hl 1 rfl) ?_
            refine va_get (D := D) (ci := 9) (v := .ref mHasImage) (C := RX9) (T := TX9) (N := 42) hx hb hts iuX9_image_X9 hown hK hP 0 rfl rfl 3 (by decide) (htw (.fieldLink RX9 16 "MergeJudgeModel" "hasImage" "[Z") (List.mem_of_getElem? (i := 6) rfl)) (fun _ h9 => h9) rfl dX9_image_47 ?_
            refine lv_iload_n hx hb dX9_image_50 rfl (lv_at hl 2 rfl) ?_
            refine lv_iconst (v := 1) hx hb dX9_image_51 (by decide) ?_
            refine va_zast hx hb hK hP hD hS 3 3 rfl rfl (vp_c (by decide)) dX9_image_52 (fun H locs hP hD hS => ?_)
            have hP : va_P D vwCl [(b0, .inr (9, [.int 0, .ref mWorld, .ref mImages, .ref mHasImage, .ref mTape, .int 0, .ref mFive, .int 0, .int 0, .int 0, .int 0, .int 0, .int 0, .int (-1), .ref mFresh, .ref mMergedBy, .int 0, .int 0, .int 0, .ref mIsValid, .ref mGoes, .ref mFarNow, .ref mFreeNow, .ref mIsPair, .ref mHitsBy, .int 0, .int 0, .int 0, .int 0, .int 0, .int 0, .int 0, .int 0, .int 0, .ref mWorthBy, .long 0, .long 0, .long 0, .ref mMany, .ref mWidth, .ref mNumbers, .ref mMoving])), (mWorld, .inl (cs 1, 76, .inl (fun _ => 0))), (mImages, .inl (cs 1, 228, .inl f0)), (mHasImage, .inl (cs 3, 3, .inl (upd (fun _ => 0) 2 (vp_nar .boolean 1))))] H := hP
            have hD : va_D A [(b0, .inr (9, [.int 0, .ref mWorld, .ref mImages, .ref mHasImage, .ref mTape, .int 0, .ref mFive, .int 0, .int 0, .int 0, .int 0, .int 0, .int 0, .int (-1), .ref mFresh, .ref mMergedBy, .int 0, .int 0, .int 0, .ref mIsValid, .ref mGoes, .ref mFarNow, .ref mFreeNow, .ref mIsPair, .ref mHitsBy, .int 0, .int 0, .int 0, .int 0, .int 0, .int 0, .int 0, .int 0, .int 0, .ref mWorthBy, .long 0, .long 0, .long 0, .ref mMany, .ref mWidth, .ref mNumbers, .ref mMoving])), (mWorld, .inl (cs 1, 76, .inl (fun _ => 0))), (mImages, .inl (cs 1, 228, .inl f0)), (mHasImage, .inl (cs 3, 3, .inl (upd (fun _ => 0) 2 (vp_nar .boolean 1))))] := hD
            refine lv_iconst (v := 0) hx hb dX9_image_53 (by decide) ?_
            exact ret_i hx hb hr hlk hS (Nat.le_of_ble_eq_true rfl) (Nat.le_of_ble_eq_true rfl) () (Or.inl ⟨rfl, (by decide)⟩) (hP.sub [] rfl) (hD.sub [] (by decide) rfl) dX9_image_54
          ·
            have hn_7 := bge_f (a := i) (b := 76) c_7 (by omega) (by omega)
            refine lv_aload_n hx hb dX9_image_23 rfl (lv_at hl 1 rfl) ?_
            refine va_get (D := D) (ci := 9) (v := .ref mImages) (C := RX9) (T := TX9) (N := 42) hx hb hts iuX9_image_X9 hown hK hP 0 rfl rfl 2 (by decide) (htw (.fieldLink RX9 13 "MergeJudgeModel" "images" "[I") (List.mem_of_getElem? (i := 4) rfl)) (fun _ h9 => h9) rfl dX9_image_24 ?_
            refine lv_bipush (v := 76) hx hb dX9_image_27 (by decide) ?_
            refine lv_iload_n hx hb dX9_image_29 rfl (lv_at hl 2 rfl) ?_
            refine lv_imul hx hb dX9_image_30 ?_
            refine cf_i 152 (by decide) ?_
            refine lv_iload_n hx hb dX9_image_31 rfl (lv_at hl 0 rfl) ?_
            refine lv_iadd hx hb dX9_image_32 ?_
            refine cf_i (nI (152 + i)) (nI_add 152 i) ?_
            refine lv_aload_n hx hb dX9_image_33 rfl (lv_at hl 1 rfl) ?_
            refine va_get (D := D) (ci := 9) (v := .ref mWorld) (C := RX9) (T := TX9) (N := 42) hx hb hts iuX9_image_X9 hown hK hP 0 rfl rfl 1 (by decide) (htw (.fieldLink RX9 9 "MergeJudgeModel" "world" "[I") (List.mem_of_getElem? (i := 5) rfl)) (fun _ h9 => h9) rfl dX9_image_34 ?_
            refine lv_iload_n hx hb dX9_image_37 rfl (lv_at hl 0 rfl) ?_
            refine va_iald hx hb hK hP 1 1 rfl rfl (vp_in_nI (by omega) (by omega)) dX9_image_38 ?_
            refine cf_v (.int 0) rfl ?_
            refine va_iast hx hb hK hP hD hS 2 1 rfl rfl (vp_in_nI (by omega) (by omega)) dX9_image_39 (fun H locs hP hD hS => ?_)
            have hP : va_P D vwCl [(b0, .inr (9, [.int 0, .ref mWorld, .ref mImages, .ref mHasImage, .ref mTape, .int 0, .ref mFive, .int 0, .int 0, .int 0, .int 0, .int 0, .int 0, .int (-1), .ref mFresh, .ref mMergedBy, .int 0, .int 0, .int 0, .ref mIsValid, .ref mGoes, .ref mFarNow, .ref mFreeNow, .ref mIsPair, .ref mHitsBy, .int 0, .int 0, .int 0, .int 0, .int 0, .int 0, .int 0, .int 0, .int 0, .ref mWorthBy, .long 0, .long 0, .long 0, .ref mMany, .ref mWidth, .ref mNumbers, .ref mMoving])), (mWorld, .inl (cs 1, 76, .inl (fun _ => 0))), (mImages, .inl (cs 1, 228, .inl (upd f0 ((nI (152 + i)).toNatClampNeg) 0))), (mHasImage, .inl (cs 3, 3, .inl (fun _ => 0)))] H := hP
            have hD : va_D A [(b0, .inr (9, [.int 0, .ref mWorld, .ref mImages, .ref mHasImage, .ref mTape, .int 0, .ref mFive, .int 0, .int 0, .int 0, .int 0, .int 0, .int 0, .int (-1), .ref mFresh, .ref mMergedBy, .int 0, .int 0, .int 0, .ref mIsValid, .ref mGoes, .ref mFarNow, .ref mFreeNow, .ref mIsPair, .ref mHitsBy, .int 0, .int 0, .int 0, .int 0, .int 0, .int 0, .int 0, .int 0, .int 0, .ref mWorthBy, .long 0, .long 0, .long 0, .ref mMany, .ref mWidth, .ref mNumbers, .ref mMoving])), (mWorld, .inl (cs 1, 76, .inl (fun _ => 0))), (mImages, .inl (cs 1, 228, .inl (upd f0 ((nI (152 + i)).toNatClampNeg) 0))), (mHasImage, .inl (cs 3, 3, .inl (fun _ => 0)))] := hD
            refine lv_iinc (v := (nI (i + 1))) (lv' := [(2, .int (nI (i + 1))), (0, .ref b0), (1, .int 2)]) hx hb dX9_image_40 hl (k := 0) rfl (nI_1 _) (by decide) rfl (fun ls hl => ?_)
            refine lv_goto (tgt := 17) hx hb dX9_image_43 (by decide) ?_
            exact ih_lp_6 (i + 1) (upd f0 ((nI (152 + i)).toNatClampNeg) 0) H locs ls (by omega) (by omega) (hP.sub [0, 1, 2, 3] rfl) (hD.sub [0, 1, 2, 3] (by decide) rfl) hS (lv_sub hl [0, 1, 2] rfl)
      exact lp_6 _ 0 (fun _ => 0) H locs ls (by omega) (Nat.lt_succ_self _) (hP.sub [0, 1, 2, 3] rfl) (hD.sub [0, 1, 2, 3] (by decide) rfl) hS (lv_sub hl [0, 1, 2] rfl)
  ·
    refine lv_if_ne (tgt := 15) hx hb dX9_image_9 (by decide) (fun h9 => absurd h9 (by decide)) (fun _ => ?_)
    refine lv_bipush (v := (-2)) hx hb dX9_image_12 (by decide) ?_
    exact ret_i hx hb hr hlk hS (Nat.le_of_ble_eq_true rfl) (Nat.le_of_ble_eq_true rfl) () (Or.inr (⟨rfl, (by have e0 := hq_1; (try simp only [ge_iff_le, gt_iff_lt, ne_eq, Int32.lt_iff_toInt_lt, Int32.le_iff_toInt_le, ← Int32.toInt_inj, Int64.lt_iff_toInt_lt, Int64.le_iff_toInt_le, Int32.toInt_toInt64, i0, i1, i2, i3, i4, i7, i8, i9, i60, j0, j1, j2, j3, j7] at e0); omega)⟩)) (hP.sub [] rfl) (hD.sub [] (by decide) rfl) dX9_image_14

set_option maxHeartbeats 4000000 in
set_option maxRecDepth 100000 in
theorem k_X9_back (l : Launch) (D : va_G) (cs : Nat → ClassId) (sz : Nat) (b0 : Nat) (k : Int32) (mWorld : Nat) (mImages : Nat) (mHasImage : Nat) (mTape : Nat) (mFive : Nat) (mFresh : Nat) (mMergedBy : Nat) (mIsValid : Nat) (mGoes : Nat) (mFarNow : Nat) (mFreeNow : Nat) (mIsPair : Nat) (mHitsBy : Nat) (mWorthBy : Nat) (mMany : Nat) (mWidth : Nat) (mNumbers : Nat) (mMoving : Nat)  : Mi l D cs yX9_back W_X9_back 1 25 0 0 [.ref b0, .int k] [(b0, .inr (9, [.int 0, .ref mWorld, .ref mImages, .ref mHasImage, .ref mTape, .int 0, .ref mFive, .int 0, .int 0, .int 0, .int 0, .int 0, .int 0, .int (-1), .ref mFresh, .ref mMergedBy, .int 0, .int 0, .int 0, .ref mIsValid, .ref mGoes, .ref mFarNow, .ref mFreeNow, .ref mIsPair, .ref mHitsBy, .int 0, .int 0, .int 0, .int 0, .int 0, .int 0, .int 0, .int 0, .int 0, .ref mWorthBy, .long 0, .long 0, .long 0, .ref mMany, .ref mWidth, .ref mNumbers, .ref mMoving])), (mHasImage, .inl (cs 3, 3, .inl (fun _ => 0)))] sz (fun (r : Int32) (u : Unit) => (r = (-6) ∧ (0 ≤ k.toInt ∧ k.toInt ≤ 2)) ∨ (r = (-2) ∧ ¬ (0 ≤ k.toInt ∧ k.toInt ≤ 2))) (fun (u : Unit) => []) := by
  refine ent (D := D) (cs := cs) (y := yX9_back) (ws := W_X9_back) (As := [.ref b0, .int k]) (W0 := [(b0, .inr (9, [.int 0, .ref mWorld, .ref mImages, .ref mHasImage, .ref mTape, .int 0, .ref mFive, .int 0, .int 0, .int 0, .int 0, .int 0, .int 0, .int (-1), .ref mFresh, .ref mMergedBy, .int 0, .int 0, .int 0, .ref mIsValid, .ref mGoes, .ref mFarNow, .ref mFreeNow, .ref mIsPair, .ref mHitsBy, .int 0, .int 0, .int 0, .int 0, .int 0, .int 0, .int 0, .int 0, .int 0, .ref mWorthBy, .long 0, .long 0, .long 0, .ref mMany, .ref mWidth, .ref mNumbers, .ref mMoving])), (mHasImage, .inl (cs 3, 3, .inl (fun _ => 0)))]) (Qx := fun A => va_Qi (fun (r : Int32) (u : Unit) => (r = (-6) ∧ (0 ≤ k.toInt ∧ k.toInt ≤ 2)) ∨ (r = (-2) ∧ ¬ (0 ≤ k.toInt ∧ k.toInt ≤ 2))) (mpost D A (fun (u : Unit) => [])) A) (maxL := 3) (ret := (some .int)) (by decide) rfl (Nat.le_of_ble_eq_true rfl) ?_
  intro p e s m below meth c A ls hx hb hr hml hlk hown hts hin hK hE hP hD hA hS hl
  have hl : lv_has ls 3 [(0, .ref b0), (1, .int k)] := hl
  generalize hHe : s.heap = H at hP
  have hS : va_S A s.heap H [] := hHe ▸ hS
  have htw : ∀ w ∈ O_X9_back, w.before ([.ref b0, .int k] : List Value).toArray s = true := fun w h => hts w (List.mem_cons_of_mem _ (List.mem_append_left _ h))
  have hFix := (⟨hx, hb, hml, hown, hts⟩ : CallFix p m c _ _ s _ _ _)
  refine lv_iload_n hx hb dX9_back_0 rfl (lv_at hl 1 rfl) ?_
  refine lv_i2l (v := k.toInt64) hx hb dX9_back_1 rfl ?_
  refine lv_lconst (v := 0) hx hb dX9_back_2 (by decide) ?_
  refine lv_ldc2 (v := 2) hx hb hown (htw (.constantLong RX9 74 (2)) (List.mem_of_getElem? (i := 0) rfl)) dX9_back_3 ?_
  refine aft_i (wr := [(b0, .inr (9, [.int 0, .ref mWorld, .ref mImages, .ref mHasImage, .ref mTape, .int 0, .ref mFive, .int 0, .int 0, .int 0, .int 0, .int 0, .int 0, .int (-1), .ref mFresh, .ref mMergedBy, .int 0, .int 0, .int 0, .ref mIsValid, .ref mGoes, .ref mFarNow, .ref mFreeNow, .ref mIsPair, .ref mHitsBy, .int 0, .int 0, .int 0, .int 0, .int 0, .int 0, .int 0, .int 0, .int 0, .ref mWorthBy, .long 0, .long 0, .long 0, .ref mMany, .ref mWidth, .ref mNumbers, .ref mMoving])), (mHasImage, .inl (cs 3, 3, .inl (fun _ => 0)))]) hP hD hS hA [] [0, 1] rfl rfl (by decide) (by decide) (run_s (As := [.long k.toInt64, .long 0, .long 2]) (rest := []) hFix hK hE hP hD [] (k_X9_in l D cs _ k.toInt64 0 2) (va_cwS 3 hts gc_X9_back_76_X9_in rfl rfl rfl (by decide +kernel) ⟨Nat.le_of_ble_eq_true rfl, Nat.le_of_ble_eq_true rfl⟩) rfl (by decide) rfl hl.1 rfl (Nat.le_of_ble_eq_true rfl) dX9_back_6 ⟨Nat.le_of_ble_eq_true rfl, Nat.le_of_ble_eq_true rfl⟩) (fun r_1 u_1 H locs hq_1 hP hD hS => ?_)
  have hP : va_P D vwCl [(b0, .inr (9, [.int 0, .ref mWorld, .ref mImages, .ref mHasImage, .ref mTape, .int 0, .ref mFive, .int 0, .int 0, .int 0, .int 0, .int 0, .int 0, .int (-1), .ref mFresh, .ref mMergedBy, .int 0, .int 0, .int 0, .ref mIsValid, .ref mGoes, .ref mFarNow, .ref mFreeNow, .ref mIsPair, .ref mHitsBy, .int 0, .int 0, .int 0, .int 0, .int 0, .int 0, .int 0, .int 0, .int 0, .ref mWorthBy, .long 0, .long 0, .long 0, .ref mMany, .ref mWidth, .ref mNumbers, .ref mMoving])), (mHasImage, .inl (cs 3, 3, .inl (fun _ => 0)))] H := hP
  have hD : va_D A [(b0, .inr (9, [.int 0, .ref mWorld, .ref mImages, .ref mHasImage, .ref mTape, .int 0, .ref mFive, .int 0, .int 0, .int 0, .int 0, .int 0, .int 0, .int (-1), .ref mFresh, .ref mMergedBy, .int 0, .int 0, .int 0, .ref mIsValid, .ref mGoes, .ref mFarNow, .ref mFreeNow, .ref mIsPair, .ref mHitsBy, .int 0, .int 0, .int 0, .int 0, .int 0, .int 0, .int 0, .int 0, .int 0, .ref mWorthBy, .long 0, .long 0, .long 0, .ref mMany, .ref mWidth, .ref mNumbers, .ref mMoving])), (mHasImage, .inl (cs 3, 3, .inl (fun _ => 0)))] := hD
  replace hq_1 : (r_1 = 1 ∧ 0 ≤ k.toInt64 ∧ k.toInt64 ≤ 2) ∨ (r_1 = 0 ∧ ¬ (0 ≤ k.toInt64 ∧ k.toInt64 ≤ 2)) := hq_1
  rcases hq_1 with ⟨rfl, hq_1⟩ | ⟨rfl, hq_1⟩
  ·
    refine lv_if_ne (tgt := 15) hx hb dX9_back_9 (by decide) (fun _ => ?_) (fun h9 => absurd h9 (by decide))
    rcases one_3 (k := k) (by have e0 := hq_1; (try simp only [ge_iff_le, gt_iff_lt, ne_eq, Int32.lt_iff_toInt_lt, Int32.le_iff_toInt_le, ← Int32.toInt_inj, Int64.lt_iff_toInt_lt, Int64.le_iff_toInt_le, Int32.toInt_toInt64, i0, i1, i2, i3, i4, i7, i8, i9, i60, j0, j1, j2, j3, j7] at e0); omega) with rfl | rfl | rfl
    ·
      refine lv_aload_n hx hb dX9_back_15 rfl (lv_at hl 0 rfl) ?_
      refine va_get (D := D) (ci := 9) (v := .ref mHasImage) (C := RX9) (T := TX9) (N := 42) hx hb hts iuX9_back_X9 hown hK hP 0 rfl rfl 3 (by decide) (htw (.fieldLink RX9 16 "MergeJudgeModel" "hasImage" "[Z") (List.mem_of_getElem? (i := 4) rfl)) (fun _ h9 => h9) rfl dX9_back_16 ?_
      refine lv_iload_n hx hb dX9_back_19 rfl (lv_at hl 1 rfl) ?_
      refine va_zald hx hb hK hP 1 3 rfl rfl (vp_c (by decide)) dX9_back_20 ?_
      refine cf_v (.int 0) rfl ?_
      refine lv_if_ne (tgt := 27) hx hb dX9_back_21 (by decide) (fun h9 => absurd h9 (by decide)) (fun _ => ?_)
      refine lv_bipush (v := (-6)) hx hb dX9_back_24 (by decide) ?_
      exact ret_i hx hb hr hlk hS (Nat.le_of_ble_eq_true rfl) (Nat.le_of_ble_eq_true rfl) () (Or.inl ⟨rfl, (by decide)⟩) (hP.sub [] rfl) (hD.sub [] (by decide) rfl) dX9_back_26
    ·
      refine lv_aload_n hx hb dX9_back_15 rfl (lv_at hl 0 rfl) ?_
      refine va_get (D := D) (ci := 9) (v := .ref mHasImage) (C := RX9) (T := TX9) (N := 42) hx hb hts iuX9_back_X9 hown hK hP 0 rfl rfl 3 (by decide) (htw (.fieldLink RX9 16 "MergeJudgeModel" "hasImage" "[Z") (List.mem_of_getElem? (i := 4) rfl)) (fun _ h9 => h9) rfl dX9_back_16 ?_
      refine lv_iload_n hx hb dX9_back_19 rfl (lv_at hl 1 rfl) ?_
      refine va_zald hx hb hK hP 1 3 rfl rfl (vp_c (by decide)) dX9_back_20 ?_
      refine cf_v (.int 0) rfl ?_
      refine lv_if_ne (tgt := 27) hx hb dX9_back_21 (by decide) (fun h9 => absurd h9 (by decide)) (fun _ => ?_)
      refine lv_bipush (v := (-6)) hx hb dX9_back_24 (by decide) ?_
      exact ret_i hx hb hr hlk hS (Nat.le_of_ble_eq_true rfl) (Nat.le_of_ble_eq_true rfl) () (Or.inl ⟨rfl, (by decide)⟩) (hP.sub [] rfl) (hD.sub [] (by decide) rfl) dX9_back_26
    ·
      refine lv_aload_n hx hb dX9_back_15 rfl (lv_at hl 0 rfl) ?_
      refine va_get (D := D) (ci := 9) (v := .ref mHasImage) (C := RX9) (T := TX9) (N := 42) hx hb hts iuX9_back_X9 hown hK hP 0 rfl rfl 3 (by decide) (htw (.fieldLink RX9 16 "MergeJudgeModel" "hasImage" "[Z") (List.mem_of_getElem? (i := 4) rfl)) (fun _ h9 => h9) rfl dX9_back_16 ?_
      refine lv_iload_n hx hb dX9_back_19 rfl (lv_at hl 1 rfl) ?_
      refine va_zald hx hb hK hP 1 3 rfl rfl (vp_c (by decide)) dX9_back_20 ?_
      refine cf_v (.int 0) rfl ?_
      refine lv_if_ne (tgt := 27) hx hb dX9_back_21 (by decide) (fun h9 => absurd h9 (by decide)) (fun _ => ?_)
      refine lv_bipush (v := (-6)) hx hb dX9_back_24 (by decide) ?_
      exact ret_i hx hb hr hlk hS (Nat.le_of_ble_eq_true rfl) (Nat.le_of_ble_eq_true rfl) () (Or.inl ⟨rfl, (by decide)⟩) (hP.sub [] rfl) (hD.sub [] (by decide) rfl) dX9_back_26
  ·
    refine lv_if_ne (tgt := 15) hx hb dX9_back_9 (by decide) (fun h9 => absurd h9 (by decide)) (fun _ => ?_)
    refine lv_bipush (v := (-2)) hx hb dX9_back_12 (by decide) ?_
    exact ret_i hx hb hr hlk hS (Nat.le_of_ble_eq_true rfl) (Nat.le_of_ble_eq_true rfl) () (Or.inr (⟨rfl, (by have e0 := hq_1; (try simp only [ge_iff_le, gt_iff_lt, ne_eq, Int32.lt_iff_toInt_lt, Int32.le_iff_toInt_le, ← Int32.toInt_inj, Int64.lt_iff_toInt_lt, Int64.le_iff_toInt_le, Int32.toInt_toInt64, i0, i1, i2, i3, i4, i7, i8, i9, i60, j0, j1, j2, j3, j7] at e0); omega)⟩)) (hP.sub [] rfl) (hD.sub [] (by decide) rfl) dX9_back_14

set_option maxHeartbeats 4000000 in
set_option maxRecDepth 100000 in
theorem k_X9_row (l : Launch) (D : va_G) (cs : Nat → ClassId) (sz : Nat) (b0 : Nat) (k : Int32) (k2 : Int32) (k3 : Int32) (mWorld : Nat) (mImages : Nat) (mHasImage : Nat) (mTape : Nat) (mFive : Nat) (mFresh : Nat) (mMergedBy : Nat) (mIsValid : Nat) (mGoes : Nat) (mFarNow : Nat) (mFreeNow : Nat) (mIsPair : Nat) (mHitsBy : Nat) (mWorthBy : Nat) (mMany : Nat) (mWidth : Nat) (mNumbers : Nat) (mMoving : Nat)  : Mi l D cs yX9_row W_X9_row 2 45 0 0 [.ref b0, .int k, .int k2, .int k3] [(b0, .inr (9, [.int 0, .ref mWorld, .ref mImages, .ref mHasImage, .ref mTape, .int 0, .ref mFive, .int 0, .int 0, .int 0, .int 0, .int 0, .int 0, .int (-1), .ref mFresh, .ref mMergedBy, .int 0, .int 0, .int 0, .ref mIsValid, .ref mGoes, .ref mFarNow, .ref mFreeNow, .ref mIsPair, .ref mHitsBy, .int 0, .int 0, .int 0, .int 0, .int 0, .int 0, .int 0, .int 0, .int 0, .ref mWorthBy, .long 0, .long 0, .long 0, .ref mMany, .ref mWidth, .ref mNumbers, .ref mMoving])), (mMany, .inl (cs 1, 4, .inl (upd (upd (upd (upd (fun _ => 0) 0 (-1)) 1 (-1)) 2 (-1)) 3 (-1)))), (mWidth, .inl (cs 1, 4, .inl (fun _ => 0))), (mNumbers, .inl (cs 2, 240, .inr (.inl (fun _ => 0))))] sz (fun (r : Int32) (u : Unit) => (r = (-2) ∧ ¬ ((0 ≤ k.toInt ∧ k.toInt ≤ 3) ∧ 0 ≤ k2.toInt ∧ k2.toInt ≤ 3 ∧ k3.toInt ≤ 60)) ∨ (r = (-3) ∧ ((0 ≤ k.toInt ∧ k.toInt ≤ 3) ∧ 0 ≤ k2.toInt ∧ k2.toInt ≤ 3 ∧ k3.toInt ≤ 60) ∧ k3.toInt < 0) ∨ (r = 0 ∧ ((0 ≤ k.toInt ∧ k.toInt ≤ 3) ∧ 0 ≤ k2.toInt ∧ k2.toInt ≤ 3 ∧ k3.toInt ≤ 60) ∧ ¬ k3.toInt < 0)) (fun (u : Unit) => []) := by
  refine ent (D := D) (cs := cs) (y := yX9_row) (ws := W_X9_row) (As := [.ref b0, .int k, .int k2, .int k3]) (W0 := [(b0, .inr (9, [.int 0, .ref mWorld, .ref mImages, .ref mHasImage, .ref mTape, .int 0, .ref mFive, .int 0, .int 0, .int 0, .int 0, .int 0, .int 0, .int (-1), .ref mFresh, .ref mMergedBy, .int 0, .int 0, .int 0, .ref mIsValid, .ref mGoes, .ref mFarNow, .ref mFreeNow, .ref mIsPair, .ref mHitsBy, .int 0, .int 0, .int 0, .int 0, .int 0, .int 0, .int 0, .int 0, .int 0, .ref mWorthBy, .long 0, .long 0, .long 0, .ref mMany, .ref mWidth, .ref mNumbers, .ref mMoving])), (mMany, .inl (cs 1, 4, .inl (upd (upd (upd (upd (fun _ => 0) 0 (-1)) 1 (-1)) 2 (-1)) 3 (-1)))), (mWidth, .inl (cs 1, 4, .inl (fun _ => 0))), (mNumbers, .inl (cs 2, 240, .inr (.inl (fun _ => 0))))]) (Qx := fun A => va_Qi (fun (r : Int32) (u : Unit) => (r = (-2) ∧ ¬ ((0 ≤ k.toInt ∧ k.toInt ≤ 3) ∧ 0 ≤ k2.toInt ∧ k2.toInt ≤ 3 ∧ k3.toInt ≤ 60)) ∨ (r = (-3) ∧ ((0 ≤ k.toInt ∧ k.toInt ≤ 3) ∧ 0 ≤ k2.toInt ∧ k2.toInt ≤ 3 ∧ k3.toInt ≤ 60) ∧ k3.toInt < 0) ∨ (r = 0 ∧ ((0 ≤ k.toInt ∧ k.toInt ≤ 3) ∧ 0 ≤ k2.toInt ∧ k2.toInt ≤ 3 ∧ k3.toInt ≤ 60) ∧ ¬ k3.toInt < 0)) (mpost D A (fun (u : Unit) => [])) A) (maxL := 5) (ret := (some .int)) (by decide) rfl (Nat.le_of_ble_eq_true rfl) ?_
  intro p e s m below meth c A ls hx hb hr hml hlk hown hts hin hK hE hP hD hA hS hl
  have hl : lv_has ls 5 [(0, .ref b0), (1, .int k), (2, .int k2), (3, .int k3)] := hl
  generalize hHe : s.heap = H at hP
  have hS : va_S A s.heap H [] := hHe ▸ hS
  have htw : ∀ w ∈ O_X9_row, w.before ([.ref b0, .int k, .int k2, .int k3] : List Value).toArray s = true := fun w h => hts w (List.mem_cons_of_mem _ (List.mem_append_left _ h))
  have hFix := (⟨hx, hb, hml, hown, hts⟩ : CallFix p m c _ _ s _ _ _)
  refine lv_iload_n hx hb dX9_row_0 rfl (lv_at hl 1 rfl) ?_
  refine aft_i (wr := [(b0, .inr (9, [.int 0, .ref mWorld, .ref mImages, .ref mHasImage, .ref mTape, .int 0, .ref mFive, .int 0, .int 0, .int 0, .int 0, .int 0, .int 0, .int (-1), .ref mFresh, .ref mMergedBy, .int 0, .int 0, .int 0, .ref mIsValid, .ref mGoes, .ref mFarNow, .ref mFreeNow, .ref mIsPair, .ref mHitsBy, .int 0, .int 0, .int 0, .int 0, .int 0, .int 0, .int 0, .int 0, .int 0, .ref mWorthBy, .long 0, .long 0, .long 0, .ref mMany, .ref mWidth, .ref mNumbers, .ref mMoving])), (mMany, .inl (cs 1, 4, .inl (upd (upd (upd (upd (fun _ => 0) 0 (-1)) 1 (-1)) 2 (-1)) 3 (-1)))), (mWidth, .inl (cs 1, 4, .inl (fun _ => 0))), (mNumbers, .inl (cs 2, 240, .inr (.inl (fun _ => 0))))]) hP hD hS hA [] [0, 1, 2, 3] rfl rfl (by decide) (by decide) (run_s (As := [.int k]) (rest := []) hFix hK hE hP hD [] (k_X9_isSlot l D cs _ k) (va_cwS 1 hts gc_X9_row_430_X9_isSlot rfl rfl rfl (by decide +kernel) ⟨Nat.le_of_ble_eq_true rfl, Nat.le_of_ble_eq_true rfl⟩) rfl (by decide) rfl hl.1 rfl (Nat.le_of_ble_eq_true rfl) dX9_row_1 ⟨Nat.le_of_ble_eq_true rfl, Nat.le_of_ble_eq_true rfl⟩) (fun r_1 u_1 H locs hq_1 hP hD hS => ?_)
  have hP : va_P D vwCl [(b0, .inr (9, [.int 0, .ref mWorld, .ref mImages, .ref mHasImage, .ref mTape, .int 0, .ref mFive, .int 0, .int 0, .int 0, .int 0, .int 0, .int 0, .int (-1), .ref mFresh, .ref mMergedBy, .int 0, .int 0, .int 0, .ref mIsValid, .ref mGoes, .ref mFarNow, .ref mFreeNow, .ref mIsPair, .ref mHitsBy, .int 0, .int 0, .int 0, .int 0, .int 0, .int 0, .int 0, .int 0, .int 0, .ref mWorthBy, .long 0, .long 0, .long 0, .ref mMany, .ref mWidth, .ref mNumbers, .ref mMoving])), (mMany, .inl (cs 1, 4, .inl (upd (upd (upd (upd (fun _ => 0) 0 (-1)) 1 (-1)) 2 (-1)) 3 (-1)))), (mWidth, .inl (cs 1, 4, .inl (fun _ => 0))), (mNumbers, .inl (cs 2, 240, .inr (.inl (fun _ => 0))))] H := hP
  have hD : va_D A [(b0, .inr (9, [.int 0, .ref mWorld, .ref mImages, .ref mHasImage, .ref mTape, .int 0, .ref mFive, .int 0, .int 0, .int 0, .int 0, .int 0, .int 0, .int (-1), .ref mFresh, .ref mMergedBy, .int 0, .int 0, .int 0, .ref mIsValid, .ref mGoes, .ref mFarNow, .ref mFreeNow, .ref mIsPair, .ref mHitsBy, .int 0, .int 0, .int 0, .int 0, .int 0, .int 0, .int 0, .int 0, .int 0, .ref mWorthBy, .long 0, .long 0, .long 0, .ref mMany, .ref mWidth, .ref mNumbers, .ref mMoving])), (mMany, .inl (cs 1, 4, .inl (upd (upd (upd (upd (fun _ => 0) 0 (-1)) 1 (-1)) 2 (-1)) 3 (-1)))), (mWidth, .inl (cs 1, 4, .inl (fun _ => 0))), (mNumbers, .inl (cs 2, 240, .inr (.inl (fun _ => 0))))] := hD
  replace hq_1 : (r_1 = 1 ∧ (0 ≤ k.toInt ∧ k.toInt ≤ 3)) ∨ (r_1 = 0 ∧ ¬ (0 ≤ k.toInt ∧ k.toInt ≤ 3)) := hq_1
  rcases hq_1 with ⟨rfl, hq_1⟩ | ⟨rfl, hq_1⟩
  ·
    refine lv_if_eq (tgt := 25) hx hb dX9_row_4 (by decide) (fun h9 => absurd h9 (by decide)) (fun _ => ?_)
    refine lv_iload_n hx hb dX9_row_7 rfl (lv_at hl 2 rfl) ?_
    refine lv_i2l (v := k2.toInt64) hx hb dX9_row_8 rfl ?_
    refine lv_lconst (v := 0) hx hb dX9_row_9 (by decide) ?_
    refine lv_ldc2 (v := 3) hx hb hown (htw (.constantLong RX9 90 (3)) (List.mem_of_getElem? (i := 3) rfl)) dX9_row_10 ?_
    refine aft_i (wr := [(b0, .inr (9, [.int 0, .ref mWorld, .ref mImages, .ref mHasImage, .ref mTape, .int 0, .ref mFive, .int 0, .int 0, .int 0, .int 0, .int 0, .int 0, .int (-1), .ref mFresh, .ref mMergedBy, .int 0, .int 0, .int 0, .ref mIsValid, .ref mGoes, .ref mFarNow, .ref mFreeNow, .ref mIsPair, .ref mHitsBy, .int 0, .int 0, .int 0, .int 0, .int 0, .int 0, .int 0, .int 0, .int 0, .ref mWorthBy, .long 0, .long 0, .long 0, .ref mMany, .ref mWidth, .ref mNumbers, .ref mMoving])), (mMany, .inl (cs 1, 4, .inl (upd (upd (upd (upd (fun _ => 0) 0 (-1)) 1 (-1)) 2 (-1)) 3 (-1)))), (mWidth, .inl (cs 1, 4, .inl (fun _ => 0))), (mNumbers, .inl (cs 2, 240, .inr (.inl (fun _ => 0))))]) hP hD hS hA [] [0, 1, 2, 3] rfl rfl (by decide) (by decide) (run_s (As := [.long k2.toInt64, .long 0, .long 3]) (rest := []) hFix hK hE hP hD [] (k_X9_in l D cs _ k2.toInt64 0 3) (va_cwS 3 hts gc_X9_row_76_X9_in rfl rfl rfl (by decide +kernel) ⟨Nat.le_of_ble_eq_true rfl, Nat.le_of_ble_eq_true rfl⟩) rfl (by decide) rfl hl.1 rfl (Nat.le_of_ble_eq_true rfl) dX9_row_13 ⟨Nat.le_of_ble_eq_true rfl, Nat.le_of_ble_eq_true rfl⟩) (fun r_2 u_2 H locs hq_2 hP hD hS => ?_)
    have hP : va_P D vwCl [(b0, .inr (9, [.int 0, .ref mWorld, .ref mImages, .ref mHasImage, .ref mTape, .int 0, .ref mFive, .int 0, .int 0, .int 0, .int 0, .int 0, .int 0, .int (-1), .ref mFresh, .ref mMergedBy, .int 0, .int 0, .int 0, .ref mIsValid, .ref mGoes, .ref mFarNow, .ref mFreeNow, .ref mIsPair, .ref mHitsBy, .int 0, .int 0, .int 0, .int 0, .int 0, .int 0, .int 0, .int 0, .int 0, .ref mWorthBy, .long 0, .long 0, .long 0, .ref mMany, .ref mWidth, .ref mNumbers, .ref mMoving])), (mMany, .inl (cs 1, 4, .inl (upd (upd (upd (upd (fun _ => 0) 0 (-1)) 1 (-1)) 2 (-1)) 3 (-1)))), (mWidth, .inl (cs 1, 4, .inl (fun _ => 0))), (mNumbers, .inl (cs 2, 240, .inr (.inl (fun _ => 0))))] H := hP
    have hD : va_D A [(b0, .inr (9, [.int 0, .ref mWorld, .ref mImages, .ref mHasImage, .ref mTape, .int 0, .ref mFive, .int 0, .int 0, .int 0, .int 0, .int 0, .int 0, .int (-1), .ref mFresh, .ref mMergedBy, .int 0, .int 0, .int 0, .ref mIsValid, .ref mGoes, .ref mFarNow, .ref mFreeNow, .ref mIsPair, .ref mHitsBy, .int 0, .int 0, .int 0, .int 0, .int 0, .int 0, .int 0, .int 0, .int 0, .ref mWorthBy, .long 0, .long 0, .long 0, .ref mMany, .ref mWidth, .ref mNumbers, .ref mMoving])), (mMany, .inl (cs 1, 4, .inl (upd (upd (upd (upd (fun _ => 0) 0 (-1)) 1 (-1)) 2 (-1)) 3 (-1)))), (mWidth, .inl (cs 1, 4, .inl (fun _ => 0))), (mNumbers, .inl (cs 2, 240, .inr (.inl (fun _ => 0))))] := hD
    replace hq_2 : (r_2 = 1 ∧ 0 ≤ k2.toInt64 ∧ k2.toInt64 ≤ 3) ∨ (r_2 = 0 ∧ ¬ (0 ≤ k2.toInt64 ∧ k2.toInt64 ≤ 3)) := hq_2
    rcases hq_2 with ⟨rfl, hq_2⟩ | ⟨rfl, hq_2⟩
    ·
      refine lv_if_eq (tgt := 25) hx hb dX9_row_16 (by decide) (fun h9 => absurd h9 (by decide)) (fun _ => ?_)
      refine lv_iload_n hx hb dX9_row_19 rfl (lv_at hl 3 rfl) ?_
      refine lv_bipush (v := 60) hx hb dX9_row_20 (by decide) ?_
      refine lv_icmp_le (tgt := 28) hx hb dX9_row_22 (by decide) (fun c_3 => ?_) (fun c_3 => ?_)
      ·
        refine lv_iload_n hx hb dX9_row_28 rfl (lv_at hl 3 rfl) ?_
        refine lv_if_ge (tgt := 35) hx hb dX9_row_29 (by decide) (fun c_4 => ?_) (fun c_4 => ?_)
        ·
          rcases one_4 (k := k) hq_1 with rfl | rfl | rfl | rfl
          ·
            refine lv_aload_n hx hb dX9_row_35 rfl (lv_at hl 0 rfl) ?_
            refine va_get (D := D) (ci := 9) (v := .ref mMany) (C := RX9) (T := TX9) (N := 42) hx hb hts iuX9_row_X9 hown hK hP 0 rfl rfl 38 (by decide) (htw (.fieldLink RX9 58 "MergeJudgeModel" "many" "[I") (List.mem_of_getElem? (i := 6) rfl)) (fun _ h9 => h9) rfl dX9_row_36 ?_
            refine lv_iload_n hx hb dX9_row_39 rfl (lv_at hl 1 rfl) ?_
            refine lv_iload_n hx hb dX9_row_40 rfl (lv_at hl 3 rfl) ?_
            refine va_iast hx hb hK hP hD hS 1 1 rfl rfl (vp_c (by decide)) dX9_row_41 (fun H locs hP hD hS => ?_)
            have hP : va_P D vwCl [(b0, .inr (9, [.int 0, .ref mWorld, .ref mImages, .ref mHasImage, .ref mTape, .int 0, .ref mFive, .int 0, .int 0, .int 0, .int 0, .int 0, .int 0, .int (-1), .ref mFresh, .ref mMergedBy, .int 0, .int 0, .int 0, .ref mIsValid, .ref mGoes, .ref mFarNow, .ref mFreeNow, .ref mIsPair, .ref mHitsBy, .int 0, .int 0, .int 0, .int 0, .int 0, .int 0, .int 0, .int 0, .int 0, .ref mWorthBy, .long 0, .long 0, .long 0, .ref mMany, .ref mWidth, .ref mNumbers, .ref mMoving])), (mMany, .inl (cs 1, 4, .inl (upd (upd (upd (upd (upd (fun _ => 0) 0 (-1)) 1 (-1)) 2 (-1)) 3 (-1)) 0 k3))), (mWidth, .inl (cs 1, 4, .inl (fun _ => 0))), (mNumbers, .inl (cs 2, 240, .inr (.inl (fun _ => 0))))] H := hP
            have hD : va_D A [(b0, .inr (9, [.int 0, .ref mWorld, .ref mImages, .ref mHasImage, .ref mTape, .int 0, .ref mFive, .int 0, .int 0, .int 0, .int 0, .int 0, .int 0, .int (-1), .ref mFresh, .ref mMergedBy, .int 0, .int 0, .int 0, .ref mIsValid, .ref mGoes, .ref mFarNow, .ref mFreeNow, .ref mIsPair, .ref mHitsBy, .int 0, .int 0, .int 0, .int 0, .int 0, .int 0, .int 0, .int 0, .int 0, .ref mWorthBy, .long 0, .long 0, .long 0, .ref mMany, .ref mWidth, .ref mNumbers, .ref mMoving])), (mMany, .inl (cs 1, 4, .inl (upd (upd (upd (upd (upd (fun _ => 0) 0 (-1)) 1 (-1)) 2 (-1)) 3 (-1)) 0 k3))), (mWidth, .inl (cs 1, 4, .inl (fun _ => 0))), (mNumbers, .inl (cs 2, 240, .inr (.inl (fun _ => 0))))] := hD
            refine lv_aload_n hx hb dX9_row_42 rfl (lv_at hl 0 rfl) ?_
            refine va_get (D := D) (ci := 9) (v := .ref mWidth) (C := RX9) (T := TX9) (N := 42) hx hb hts iuX9_row_X9 hown hK hP 0 rfl rfl 39 (by decide) (htw (.fieldLink RX9 61 "MergeJudgeModel" "width" "[I") (List.mem_of_getElem? (i := 7) rfl)) (fun _ h9 => h9) rfl dX9_row_43 ?_
            refine lv_iload_n hx hb dX9_row_46 rfl (lv_at hl 1 rfl) ?_
            refine lv_iload_n hx hb dX9_row_47 rfl (lv_at hl 2 rfl) ?_
            refine va_iast hx hb hK hP hD hS 2 1 rfl rfl (vp_c (by decide)) dX9_row_48 (fun H locs hP hD hS => ?_)
            have hP : va_P D vwCl [(b0, .inr (9, [.int 0, .ref mWorld, .ref mImages, .ref mHasImage, .ref mTape, .int 0, .ref mFive, .int 0, .int 0, .int 0, .int 0, .int 0, .int 0, .int (-1), .ref mFresh, .ref mMergedBy, .int 0, .int 0, .int 0, .ref mIsValid, .ref mGoes, .ref mFarNow, .ref mFreeNow, .ref mIsPair, .ref mHitsBy, .int 0, .int 0, .int 0, .int 0, .int 0, .int 0, .int 0, .int 0, .int 0, .ref mWorthBy, .long 0, .long 0, .long 0, .ref mMany, .ref mWidth, .ref mNumbers, .ref mMoving])), (mMany, .inl (cs 1, 4, .inl (upd (upd (upd (upd (upd (fun _ => 0) 0 (-1)) 1 (-1)) 2 (-1)) 3 (-1)) 0 k3))), (mWidth, .inl (cs 1, 4, .inl (upd (fun _ => 0) 0 k2))), (mNumbers, .inl (cs 2, 240, .inr (.inl (fun _ => 0))))] H := hP
            have hD : va_D A [(b0, .inr (9, [.int 0, .ref mWorld, .ref mImages, .ref mHasImage, .ref mTape, .int 0, .ref mFive, .int 0, .int 0, .int 0, .int 0, .int 0, .int 0, .int (-1), .ref mFresh, .ref mMergedBy, .int 0, .int 0, .int 0, .ref mIsValid, .ref mGoes, .ref mFarNow, .ref mFreeNow, .ref mIsPair, .ref mHitsBy, .int 0, .int 0, .int 0, .int 0, .int 0, .int 0, .int 0, .int 0, .int 0, .ref mWorthBy, .long 0, .long 0, .long 0, .ref mMany, .ref mWidth, .ref mNumbers, .ref mMoving])), (mMany, .inl (cs 1, 4, .inl (upd (upd (upd (upd (upd (fun _ => 0) 0 (-1)) 1 (-1)) 2 (-1)) 3 (-1)) 0 k3))), (mWidth, .inl (cs 1, 4, .inl (upd (fun _ => 0) 0 k2))), (mNumbers, .inl (cs 2, 240, .inr (.inl (fun _ => 0))))] := hD
            refine lv_iconst (v := 0) hx hb dX9_row_49 (by decide) ?_
            refine lv_istore (lv' := [(4, .int 0), (0, .ref b0), (1, .int 0), (2, .int k2), (3, .int k3)]) hx hb dX9_row_50 hl (by decide) rfl (fun ls hl => ?_)
            have lp_5 : ∀ (nfu : Nat) (i : Nat) (f0 : Nat → Int64) (H : Heap) (locs : List Loc) (ls : Array Slot) (hi : i ≤ 60), 60 - i < nfu → va_P D vwCl [(b0, .inr (9, [.int 0, .ref mWorld, .ref mImages, .ref mHasImage, .ref mTape, .int 0, .ref mFive, .int 0, .int 0, .int 0, .int 0, .int 0, .int 0, .int (-1), .ref mFresh, .ref mMergedBy, .int 0, .int 0, .int 0, .ref mIsValid, .ref mGoes, .ref mFarNow, .ref mFreeNow, .ref mIsPair, .ref mHitsBy, .int 0, .int 0, .int 0, .int 0, .int 0, .int 0, .int 0, .int 0, .int 0, .ref mWorthBy, .long 0, .long 0, .long 0, .ref mMany, .ref mWidth, .ref mNumbers, .ref mMoving])), (mMany, .inl (cs 1, 4, .inl (upd (upd (upd (upd (upd (fun _ => 0) 0 (-1)) 1 (-1)) 2 (-1)) 3 (-1)) 0 k3))), (mWidth, .inl (cs 1, 4, .inl (upd (fun _ => 0) 0 k2))), (mNumbers, .inl (cs 2, 240, .inr (.inl f0)))] H → va_D A [(b0, .inr (9, [.int 0, .ref mWorld, .ref mImages, .ref mHasImage, .ref mTape, .int 0, .ref mFive, .int 0, .int 0, .int 0, .int 0, .int 0, .int 0, .int (-1), .ref mFresh, .ref mMergedBy, .int 0, .int 0, .int 0, .ref mIsValid, .ref mGoes, .ref mFarNow, .ref mFreeNow, .ref mIsPair, .ref mHitsBy, .int 0, .int 0, .int 0, .int 0, .int 0, .int 0, .int 0, .int 0, .int 0, .ref mWorthBy, .long 0, .long 0, .long 0, .ref mMany, .ref mWidth, .ref mNumbers, .ref mMoving])), (mMany, .inl (cs 1, 4, .inl (upd (upd (upd (upd (upd (fun _ => 0) 0 (-1)) 1 (-1)) 2 (-1)) 3 (-1)) 0 k3))), (mWidth, .inl (cs 1, 4, .inl (upd (fun _ => 0) 0 k2))), (mNumbers, .inl (cs 2, 240, .inr (.inl f0)))] → va_S A s.heap H locs → lv_has ls 5 [(4, .int (nI i)), (0, .ref b0), (1, .int 0), (2, .int k2), (3, .int k3)] → W p l e (mRm 2 0 0 45) s m ([.ref b0, .int (0 : Int32), .int k2, .int k3] : List Value).toArray below meth c H locs 0 0 (MQ below (va_Qi (fun (r : Int32) (u : Unit) => (r = (-2) ∧ ¬ ((0 ≤ (0 : Int32).toInt ∧ (0 : Int32).toInt ≤ 3) ∧ 0 ≤ k2.toInt ∧ k2.toInt ≤ 3 ∧ k3.toInt ≤ 60)) ∨ (r = (-3) ∧ ((0 ≤ (0 : Int32).toInt ∧ (0 : Int32).toInt ≤ 3) ∧ 0 ≤ k2.toInt ∧ k2.toInt ≤ 3 ∧ k3.toInt ≤ 60) ∧ k3.toInt < 0) ∨ (r = 0 ∧ ((0 ≤ (0 : Int32).toInt ∧ (0 : Int32).toInt ≤ 3) ∧ 0 ≤ k2.toInt ∧ k2.toInt ≤ 3 ∧ k3.toInt ≤ 60) ∧ ¬ k3.toInt < 0)) (mpost D A (fun (u : Unit) => [])) A) ([.ref b0, .int (0 : Int32), .int k2, .int k3] : List Value).toArray s 0 0 A) (F0 m 52 ls []) := by
              intro nfu
              induction nfu with
              | zero => intro i f0 H locs ls hi hmu; exact absurd hmu (Nat.not_lt_zero _)
              | succ nfu ih =>
                intro i f0 H locs ls hi hmu hP hD hS hl
                have ih_lp_5 := @ih
                refine lv_iload hx hb dX9_row_52 (lv_at hl 0 rfl) ?_
                refine lv_bipush (v := 60) hx hb dX9_row_54 (by decide) ?_
                refine lv_icmp_ge (tgt := 78) hx hb dX9_row_56 (by decide) (fun c_6 => ?_) (fun c_6 => ?_)
                ·
                  have hn_6 := bge_t (a := i) (b := 60) c_6 (by omega) (by omega)
                  refine lv_iconst (v := 0) hx hb dX9_row_78 (by decide) ?_
                  exact ret_i hx hb hr hlk hS (Nat.le_of_ble_eq_true rfl) (Nat.le_of_ble_eq_true rfl) () (Or.inr (Or.inr (⟨rfl, (by have e0 := c_3; have e1 := c_4; have e2 := c_6; have e3 := hq_1; have e4 := hq_2; (try simp only [ge_iff_le, gt_iff_lt, ne_eq, Int32.lt_iff_toInt_lt, Int32.le_iff_toInt_le, ← Int32.toInt_inj, Int64.lt_iff_toInt_lt, Int64.le_iff_toInt_le, Int32.toInt_toInt64, i0, i1, i2, i3, i4, i7, i8, i9, i60, j0, j1, j2, j3, j7] at e0 e1 e2 e3 e4); omega)⟩))) (hP.sub [] rfl) (hD.sub [] (by decide) rfl) dX9_row_79
                ·
                  have hn_6 := bge_f (a := i) (b := 60) c_6 (by omega) (by omega)
                  refine lv_aload_n hx hb dX9_row_59 rfl (lv_at hl 1 rfl) ?_
                  refine va_get (D := D) (ci := 9) (v := .ref mNumbers) (C := RX9) (T := TX9) (N := 42) hx hb hts iuX9_row_X9 hown hK hP 0 rfl rfl 40 (by decide) (htw (.fieldLink RX9 64 "MergeJudgeModel" "numbers" "[J") (List.mem_of_getElem? (i := 8) rfl)) (fun _ h9 => h9) rfl dX9_row_60 ?_
                  refine lv_bipush (v := 60) hx hb dX9_row_63 (by decide) ?_
                  refine lv_iload_n hx hb dX9_row_65 rfl (lv_at hl 2 rfl) ?_
                  refine lv_imul hx hb dX9_row_66 ?_
                  refine cf_i 0 (by decide) ?_
                  refine lv_iload hx hb dX9_row_67 (lv_at hl 0 rfl) ?_
                  refine lv_iadd hx hb dX9_row_69 ?_
                  refine cf_i (nI (0 + i)) (nI_add 0 i) ?_
                  refine lv_lconst (v := 0) hx hb dX9_row_70 (by decide) ?_
                  refine va_last hx hb hK hP hD hS 3 2 rfl rfl (vp_in_nI (by omega) (by omega)) dX9_row_71 (fun H locs hP hD hS => ?_)
                  have hP : va_P D vwCl [(b0, .inr (9, [.int 0, .ref mWorld, .ref mImages, .ref mHasImage, .ref mTape, .int 0, .ref mFive, .int 0, .int 0, .int 0, .int 0, .int 0, .int 0, .int (-1), .ref mFresh, .ref mMergedBy, .int 0, .int 0, .int 0, .ref mIsValid, .ref mGoes, .ref mFarNow, .ref mFreeNow, .ref mIsPair, .ref mHitsBy, .int 0, .int 0, .int 0, .int 0, .int 0, .int 0, .int 0, .int 0, .int 0, .ref mWorthBy, .long 0, .long 0, .long 0, .ref mMany, .ref mWidth, .ref mNumbers, .ref mMoving])), (mMany, .inl (cs 1, 4, .inl (upd (upd (upd (upd (upd (fun _ => 0) 0 (-1)) 1 (-1)) 2 (-1)) 3 (-1)) 0 k3))), (mWidth, .inl (cs 1, 4, .inl (upd (fun _ => 0) 0 k2))), (mNumbers, .inl (cs 2, 240, .inr (.inl (vp_updL f0 ((nI (0 + i)).toNatClampNeg) 0))))] H := hP
                  have hD : va_D A [(b0, .inr (9, [.int 0, .ref mWorld, .ref mImages, .ref mHasImage, .ref mTape, .int 0, .ref mFive, .int 0, .int 0, .int 0, .int 0, .int 0, .int 0, .int (-1), .ref mFresh, .ref mMergedBy, .int 0, .int 0, .int 0, .ref mIsValid, .ref mGoes, .ref mFarNow, .ref mFreeNow, .ref mIsPair, .ref mHitsBy, .int 0, .int 0, .int 0, .int 0, .int 0, .int 0, .int 0, .int 0, .int 0, .ref mWorthBy, .long 0, .long 0, .long 0, .ref mMany, .ref mWidth, .ref mNumbers, .ref mMoving])), (mMany, .inl (cs 1, 4, .inl (upd (upd (upd (upd (upd (fun _ => 0) 0 (-1)) 1 (-1)) 2 (-1)) 3 (-1)) 0 k3))), (mWidth, .inl (cs 1, 4, .inl (upd (fun _ => 0) 0 k2))), (mNumbers, .inl (cs 2, 240, .inr (.inl (vp_updL f0 ((nI (0 + i)).toNatClampNeg) 0))))] := hD
                  refine lv_iinc (v := (nI (i + 1))) (lv' := [(4, .int (nI (i + 1))), (0, .ref b0), (1, .int 0), (2, .int k2), (3, .int k3)]) hx hb dX9_row_72 hl (k := 0) rfl (nI_1 _) (by decide) rfl (fun ls hl => ?_)
                  refine lv_goto (tgt := 52) hx hb dX9_row_75 (by decide) ?_
                  exact ih_lp_5 (i + 1) (vp_updL f0 ((nI (0 + i)).toNatClampNeg) 0) H locs ls (by omega) (by omega) (hP.sub [0, 1, 2, 3] rfl) (hD.sub [0, 1, 2, 3] (by decide) rfl) hS (lv_sub hl [0, 1, 2, 3, 4] rfl)
            exact lp_5 _ 0 (fun _ => 0) H locs ls (by omega) (Nat.lt_succ_self _) (hP.sub [0, 1, 2, 3] rfl) (hD.sub [0, 1, 2, 3] (by decide) rfl) hS (lv_sub hl [0, 1, 2, 3, 4] rfl)
          ·
            refine lv_aload_n hx hb dX9_row_35 rfl (lv_at hl 0 rfl) ?_
            refine va_get (D := D) (ci := 9) (v := .ref mMany) (C := RX9) (T := TX9) (N := 42) hx hb hts iuX9_row_X9 hown hK hP 0 rfl rfl 38 (by decide) (htw (.fieldLink RX9 58 "MergeJudgeModel" "many" "[I") (List.mem_of_getElem? (i := 6) rfl)) (fun _ h9 => h9) rfl dX9_row_36 ?_
            refine lv_iload_n hx hb dX9_row_39 rfl (lv_at hl 1 rfl) ?_
            refine lv_iload_n hx hb dX9_row_40 rfl (lv_at hl 3 rfl) ?_
            refine va_iast hx hb hK hP hD hS 1 1 rfl rfl (vp_c (by decide)) dX9_row_41 (fun H locs hP hD hS => ?_)
            have hP : va_P D vwCl [(b0, .inr (9, [.int 0, .ref mWorld, .ref mImages, .ref mHasImage, .ref mTape, .int 0, .ref mFive, .int 0, .int 0, .int 0, .int 0, .int 0, .int 0, .int (-1), .ref mFresh, .ref mMergedBy, .int 0, .int 0, .int 0, .ref mIsValid, .ref mGoes, .ref mFarNow, .ref mFreeNow, .ref mIsPair, .ref mHitsBy, .int 0, .int 0, .int 0, .int 0, .int 0, .int 0, .int 0, .int 0, .int 0, .ref mWorthBy, .long 0, .long 0, .long 0, .ref mMany, .ref mWidth, .ref mNumbers, .ref mMoving])), (mMany, .inl (cs 1, 4, .inl (upd (upd (upd (upd (upd (fun _ => 0) 0 (-1)) 1 (-1)) 2 (-1)) 3 (-1)) 1 k3))), (mWidth, .inl (cs 1, 4, .inl (fun _ => 0))), (mNumbers, .inl (cs 2, 240, .inr (.inl (fun _ => 0))))] H := hP
            have hD : va_D A [(b0, .inr (9, [.int 0, .ref mWorld, .ref mImages, .ref mHasImage, .ref mTape, .int 0, .ref mFive, .int 0, .int 0, .int 0, .int 0, .int 0, .int 0, .int (-1), .ref mFresh, .ref mMergedBy, .int 0, .int 0, .int 0, .ref mIsValid, .ref mGoes, .ref mFarNow, .ref mFreeNow, .ref mIsPair, .ref mHitsBy, .int 0, .int 0, .int 0, .int 0, .int 0, .int 0, .int 0, .int 0, .int 0, .ref mWorthBy, .long 0, .long 0, .long 0, .ref mMany, .ref mWidth, .ref mNumbers, .ref mMoving])), (mMany, .inl (cs 1, 4, .inl (upd (upd (upd (upd (upd (fun _ => 0) 0 (-1)) 1 (-1)) 2 (-1)) 3 (-1)) 1 k3))), (mWidth, .inl (cs 1, 4, .inl (fun _ => 0))), (mNumbers, .inl (cs 2, 240, .inr (.inl (fun _ => 0))))] := hD
            refine lv_aload_n hx hb dX9_row_42 rfl (lv_at hl 0 rfl) ?_
            refine va_get (D := D) (ci := 9) (v := .ref mWidth) (C := RX9) (T := TX9) (N := 42) hx hb hts iuX9_row_X9 hown hK hP 0 rfl rfl 39 (by decide) (htw (.fieldLink RX9 61 "MergeJudgeModel" "width" "[I") (List.mem_of_getElem? (i := 7) rfl)) (fun _ h9 => h9) rfl dX9_row_43 ?_
            refine lv_iload_n hx hb dX9_row_46 rfl (lv_at hl 1 rfl) ?_
            refine lv_iload_n hx hb dX9_row_47 rfl (lv_at hl 2 rfl) ?_
            refine va_iast hx hb hK hP hD hS 2 1 rfl rfl (vp_c (by decide)) dX9_row_48 (fun H locs hP hD hS => ?_)
            have hP : va_P D vwCl [(b0, .inr (9, [.int 0, .ref mWorld, .ref mImages, .ref mHasImage, .ref mTape, .int 0, .ref mFive, .int 0, .int 0, .int 0, .int 0, .int 0, .int 0, .int (-1), .ref mFresh, .ref mMergedBy, .int 0, .int 0, .int 0, .ref mIsValid, .ref mGoes, .ref mFarNow, .ref mFreeNow, .ref mIsPair, .ref mHitsBy, .int 0, .int 0, .int 0, .int 0, .int 0, .int 0, .int 0, .int 0, .int 0, .ref mWorthBy, .long 0, .long 0, .long 0, .ref mMany, .ref mWidth, .ref mNumbers, .ref mMoving])), (mMany, .inl (cs 1, 4, .inl (upd (upd (upd (upd (upd (fun _ => 0) 0 (-1)) 1 (-1)) 2 (-1)) 3 (-1)) 1 k3))), (mWidth, .inl (cs 1, 4, .inl (upd (fun _ => 0) 1 k2))), (mNumbers, .inl (cs 2, 240, .inr (.inl (fun _ => 0))))] H := hP
            have hD : va_D A [(b0, .inr (9, [.int 0, .ref mWorld, .ref mImages, .ref mHasImage, .ref mTape, .int 0, .ref mFive, .int 0, .int 0, .int 0, .int 0, .int 0, .int 0, .int (-1), .ref mFresh, .ref mMergedBy, .int 0, .int 0, .int 0, .ref mIsValid, .ref mGoes, .ref mFarNow, .ref mFreeNow, .ref mIsPair, .ref mHitsBy, .int 0, .int 0, .int 0, .int 0, .int 0, .int 0, .int 0, .int 0, .int 0, .ref mWorthBy, .long 0, .long 0, .long 0, .ref mMany, .ref mWidth, .ref mNumbers, .ref mMoving])), (mMany, .inl (cs 1, 4, .inl (upd (upd (upd (upd (upd (fun _ => 0) 0 (-1)) 1 (-1)) 2 (-1)) 3 (-1)) 1 k3))), (mWidth, .inl (cs 1, 4, .inl (upd (fun _ => 0) 1 k2))), (mNumbers, .inl (cs 2, 240, .inr (.inl (fun _ => 0))))] := hD
            refine lv_iconst (v := 0) hx hb dX9_row_49 (by decide) ?_
            refine lv_istore (lv' := [(4, .int 0), (0, .ref b0), (1, .int 1), (2, .int k2), (3, .int k3)]) hx hb dX9_row_50 hl (by decide) rfl (fun ls hl => ?_)
            have lp_7 : ∀ (nfu : Nat) (i : Nat) (f0 : Nat → Int64) (H : Heap) (locs : List Loc) (ls : Array Slot) (hi : i ≤ 60), 60 - i < nfu → va_P D vwCl [(b0, .inr (9, [.int 0, .ref mWorld, .ref mImages, .ref mHasImage, .ref mTape, .int 0, .ref mFive, .int 0, .int 0, .int 0, .int 0, .int 0, .int 0, .int (-1), .ref mFresh, .ref mMergedBy, .int 0, .int 0, .int 0, .ref mIsValid, .ref mGoes, .ref mFarNow, .ref mFreeNow, .ref mIsPair, .ref mHitsBy, .int 0, .int 0, .int 0, .int 0, .int 0, .int 0, .int 0, .int 0, .int 0, .ref mWorthBy, .long 0, .long 0, .long 0, .ref mMany, .ref mWidth, .ref mNumbers, .ref mMoving])), (mMany, .inl (cs 1, 4, .inl (upd (upd (upd (upd (upd (fun _ => 0) 0 (-1)) 1 (-1)) 2 (-1)) 3 (-1)) 1 k3))), (mWidth, .inl (cs 1, 4, .inl (upd (fun _ => 0) 1 k2))), (mNumbers, .inl (cs 2, 240, .inr (.inl f0)))] H → va_D A [(b0, .inr (9, [.int 0, .ref mWorld, .ref mImages, .ref mHasImage, .ref mTape, .int 0, .ref mFive, .int 0, .int 0, .int 0, .int 0, .int 0, .int 0, .int (-1), .ref mFresh, .ref mMergedBy, .int 0, .int 0, .int 0, .ref mIsValid, .ref mGoes, .ref mFarNow, .ref mFreeNow, .ref mIsPair, .ref mHitsBy, .int 0, .int 0, .int 0, .int 0, .int 0, .int 0, .int 0, .int 0, .int 0, .ref mWorthBy, .long 0, .long 0, .long 0, .ref mMany, .ref mWidth, .ref mNumbers, .ref mMoving])), (mMany, .inl (cs 1, 4, .inl (upd (upd (upd (upd (upd (fun _ => 0) 0 (-1)) 1 (-1)) 2 (-1)) 3 (-1)) 1 k3))), (mWidth, .inl (cs 1, 4, .inl (upd (fun _ => 0) 1 k2))), (mNumbers, .inl (cs 2, 240, .inr (.inl f0)))] → va_S A s.heap H locs → lv_has ls 5 [(4, .int (nI i)), (0, .ref b0), (1, .int 1), (2, .int k2), (3, .int k3)] → W p l e (mRm 2 0 0 45) s m ([.ref b0, .int (1 : Int32), .int k2, .int k3] : List Value).toArray below meth c H locs 0 0 (MQ below (va_Qi (fun (r : Int32) (u : Unit) => (r = (-2) ∧ ¬ ((0 ≤ (1 : Int32).toInt ∧ (1 : Int32).toInt ≤ 3) ∧ 0 ≤ k2.toInt ∧ k2.toInt ≤ 3 ∧ k3.toInt ≤ 60)) ∨ (r = (-3) ∧ ((0 ≤ (1 : Int32).toInt ∧ (1 : Int32).toInt ≤ 3) ∧ 0 ≤ k2.toInt ∧ k2.toInt ≤ 3 ∧ k3.toInt ≤ 60) ∧ k3.toInt < 0) ∨ (r = 0 ∧ ((0 ≤ (1 : Int32).toInt ∧ (1 : Int32).toInt ≤ 3) ∧ 0 ≤ k2.toInt ∧ k2.toInt ≤ 3 ∧ k3.toInt ≤ 60) ∧ ¬ k3.toInt < 0)) (mpost D A (fun (u : Unit) => [])) A) ([.ref b0, .int (1 : Int32), .int k2, .int k3] : List Value).toArray s 0 0 A) (F0 m 52 ls []) := by
              intro nfu
              induction nfu with
              | zero => intro i f0 H locs ls hi hmu; exact absurd hmu (Nat.not_lt_zero _)
              | succ nfu ih =>
                intro i f0 H locs ls hi hmu hP hD hS hl
                have ih_lp_7 := @ih
                refine lv_iload hx hb dX9_row_52 (lv_at hl 0 rfl) ?_
                refine lv_bipush (v := 60) hx hb dX9_row_54 (by decide) ?_
                refine lv_icmp_ge (tgt := 78) hx hb dX9_row_56 (by decide) (fun c_8 => ?_) (fun c_8 => ?_)
                ·
                  have hn_8 := bge_t (a := i) (b := 60) c_8 (by omega) (by omega)
                  refine lv_iconst (v := 0) hx hb dX9_row_78 (by decide) ?_
                  exact ret_i hx hb hr hlk hS (Nat.le_of_ble_eq_true rfl) (Nat.le_of_ble_eq_true rfl) () (Or.inr (Or.inr (⟨rfl, (by have e0 := c_3; have e1 := c_4; have e2 := c_8; have e3 := hq_1; have e4 := hq_2; (try simp only [ge_iff_le, gt_iff_lt, ne_eq, Int32.lt_iff_toInt_lt, Int32.le_iff_toInt_le, ← Int32.toInt_inj, Int64.lt_iff_toInt_lt, Int64.le_iff_toInt_le, Int32.toInt_toInt64, i0, i1, i2, i3, i4, i7, i8, i9, i60, j0, j1, j2, j3, j7] at e0 e1 e2 e3 e4); omega)⟩))) (hP.sub [] rfl) (hD.sub [] (by decide) rfl) dX9_row_79
                ·
                  have hn_8 := bge_f (a := i) (b := 60) c_8 (by omega) (by omega)
                  refine lv_aload_n hx hb dX9_row_59 rfl (lv_at hl 1 rfl) ?_
                  refine va_get (D := D) (ci := 9) (v := .ref mNumbers) (C := RX9) (T := TX9) (N := 42) hx hb hts iuX9_row_X9 hown hK hP 0 rfl rfl 40 (by decide) (htw (.fieldLink RX9 64 "MergeJudgeModel" "numbers" "[J") (List.mem_of_getElem? (i := 8) rfl)) (fun _ h9 => h9) rfl dX9_row_60 ?_
                  refine lv_bipush (v := 60) hx hb dX9_row_63 (by decide) ?_
                  refine lv_iload_n hx hb dX9_row_65 rfl (lv_at hl 2 rfl) ?_
                  refine lv_imul hx hb dX9_row_66 ?_
                  refine cf_i 60 (by decide) ?_
                  refine lv_iload hx hb dX9_row_67 (lv_at hl 0 rfl) ?_
                  refine lv_iadd hx hb dX9_row_69 ?_
                  refine cf_i (nI (60 + i)) (nI_add 60 i) ?_
                  refine lv_lconst (v := 0) hx hb dX9_row_70 (by decide) ?_
                  refine va_last hx hb hK hP hD hS 3 2 rfl rfl (vp_in_nI (by omega) (by omega)) dX9_row_71 (fun H locs hP hD hS => ?_)
                  have hP : va_P D vwCl [(b0, .inr (9, [.int 0, .ref mWorld, .ref mImages, .ref mHasImage, .ref mTape, .int 0, .ref mFive, .int 0, .int 0, .int 0, .int 0, .int 0, .int 0, .int (-1), .ref mFresh, .ref mMergedBy, .int 0, .int 0, .int 0, .ref mIsValid, .ref mGoes, .ref mFarNow, .ref mFreeNow, .ref mIsPair, .ref mHitsBy, .int 0, .int 0, .int 0, .int 0, .int 0, .int 0, .int 0, .int 0, .int 0, .ref mWorthBy, .long 0, .long 0, .long 0, .ref mMany, .ref mWidth, .ref mNumbers, .ref mMoving])), (mMany, .inl (cs 1, 4, .inl (upd (upd (upd (upd (upd (fun _ => 0) 0 (-1)) 1 (-1)) 2 (-1)) 3 (-1)) 1 k3))), (mWidth, .inl (cs 1, 4, .inl (upd (fun _ => 0) 1 k2))), (mNumbers, .inl (cs 2, 240, .inr (.inl (vp_updL f0 ((nI (60 + i)).toNatClampNeg) 0))))] H := hP
                  have hD : va_D A [(b0, .inr (9, [.int 0, .ref mWorld, .ref mImages, .ref mHasImage, .ref mTape, .int 0, .ref mFive, .int 0, .int 0, .int 0, .int 0, .int 0, .int 0, .int (-1), .ref mFresh, .ref mMergedBy, .int 0, .int 0, .int 0, .ref mIsValid, .ref mGoes, .ref mFarNow, .ref mFreeNow, .ref mIsPair, .ref mHitsBy, .int 0, .int 0, .int 0, .int 0, .int 0, .int 0, .int 0, .int 0, .int 0, .ref mWorthBy, .long 0, .long 0, .long 0, .ref mMany, .ref mWidth, .ref mNumbers, .ref mMoving])), (mMany, .inl (cs 1, 4, .inl (upd (upd (upd (upd (upd (fun _ => 0) 0 (-1)) 1 (-1)) 2 (-1)) 3 (-1)) 1 k3))), (mWidth, .inl (cs 1, 4, .inl (upd (fun _ => 0) 1 k2))), (mNumbers, .inl (cs 2, 240, .inr (.inl (vp_updL f0 ((nI (60 + i)).toNatClampNeg) 0))))] := hD
                  refine lv_iinc (v := (nI (i + 1))) (lv' := [(4, .int (nI (i + 1))), (0, .ref b0), (1, .int 1), (2, .int k2), (3, .int k3)]) hx hb dX9_row_72 hl (k := 0) rfl (nI_1 _) (by decide) rfl (fun ls hl => ?_)
                  refine lv_goto (tgt := 52) hx hb dX9_row_75 (by decide) ?_
                  exact ih_lp_7 (i + 1) (vp_updL f0 ((nI (60 + i)).toNatClampNeg) 0) H locs ls (by omega) (by omega) (hP.sub [0, 1, 2, 3] rfl) (hD.sub [0, 1, 2, 3] (by decide) rfl) hS (lv_sub hl [0, 1, 2, 3, 4] rfl)
            exact lp_7 _ 0 (fun _ => 0) H locs ls (by omega) (Nat.lt_succ_self _) (hP.sub [0, 1, 2, 3] rfl) (hD.sub [0, 1, 2, 3] (by decide) rfl) hS (lv_sub hl [0, 1, 2, 3, 4] rfl)
          ·
            refine lv_aload_n hx hb dX9_row_35 rfl (lv_at hl 0 rfl) ?_
            refine va_get (D := D) (ci := 9) (v := .ref mMany) (C := RX9) (T := TX9) (N := 42) hx hb hts iuX9_row_X9 hown hK hP 0 rfl rfl 38 (by decide) (htw (.fieldLink RX9 58 "MergeJudgeModel" "many" "[I") (List.mem_of_getElem? (i := 6) rfl)) (fun _ h9 => h9) rfl dX9_row_36 ?_
            refine lv_iload_n hx hb dX9_row_39 rfl (lv_at hl 1 rfl) ?_
            refine lv_iload_n hx hb dX9_row_40 rfl (lv_at hl 3 rfl) ?_
            refine va_iast hx hb hK hP hD hS 1 1 rfl rfl (vp_c (by decide)) dX9_row_41 (fun H locs hP hD hS => ?_)
            have hP : va_P D vwCl [(b0, .inr (9, [.int 0, .ref mWorld, .ref mImages, .ref mHasImage, .ref mTape, .int 0, .ref mFive, .int 0, .int 0, .int 0, .int 0, .int 0, .int 0, .int (-1), .ref mFresh, .ref mMergedBy, .int 0, .int 0, .int 0, .ref mIsValid, .ref mGoes, .ref mFarNow, .ref mFreeNow, .ref mIsPair, .ref mHitsBy, .int 0, .int 0, .int 0, .int 0, .int 0, .int 0, .int 0, .int 0, .int 0, .ref mWorthBy, .long 0, .long 0, .long 0, .ref mMany, .ref mWidth, .ref mNumbers, .ref mMoving])), (mMany, .inl (cs 1, 4, .inl (upd (upd (upd (upd (upd (fun _ => 0) 0 (-1)) 1 (-1)) 2 (-1)) 3 (-1)) 2 k3))), (mWidth, .inl (cs 1, 4, .inl (fun _ => 0))), (mNumbers, .inl (cs 2, 240, .inr (.inl (fun _ => 0))))] H := hP
            have hD : va_D A [(b0, .inr (9, [.int 0, .ref mWorld, .ref mImages, .ref mHasImage, .ref mTape, .int 0, .ref mFive, .int 0, .int 0, .int 0, .int 0, .int 0, .int 0, .int (-1), .ref mFresh, .ref mMergedBy, .int 0, .int 0, .int 0, .ref mIsValid, .ref mGoes, .ref mFarNow, .ref mFreeNow, .ref mIsPair, .ref mHitsBy, .int 0, .int 0, .int 0, .int 0, .int 0, .int 0, .int 0, .int 0, .int 0, .ref mWorthBy, .long 0, .long 0, .long 0, .ref mMany, .ref mWidth, .ref mNumbers, .ref mMoving])), (mMany, .inl (cs 1, 4, .inl (upd (upd (upd (upd (upd (fun _ => 0) 0 (-1)) 1 (-1)) 2 (-1)) 3 (-1)) 2 k3))), (mWidth, .inl (cs 1, 4, .inl (fun _ => 0))), (mNumbers, .inl (cs 2, 240, .inr (.inl (fun _ => 0))))] := hD
            refine lv_aload_n hx hb dX9_row_42 rfl (lv_at hl 0 rfl) ?_
            refine va_get (D := D) (ci := 9) (v := .ref mWidth) (C := RX9) (T := TX9) (N := 42) hx hb hts iuX9_row_X9 hown hK hP 0 rfl rfl 39 (by decide) (htw (.fieldLink RX9 61 "MergeJudgeModel" "width" "[I") (List.mem_of_getElem? (i := 7) rfl)) (fun _ h9 => h9) rfl dX9_row_43 ?_
            refine lv_iload_n hx hb dX9_row_46 rfl (lv_at hl 1 rfl) ?_
            refine lv_iload_n hx hb dX9_row_47 rfl (lv_at hl 2 rfl) ?_
            refine va_iast hx hb hK hP hD hS 2 1 rfl rfl (vp_c (by decide)) dX9_row_48 (fun H locs hP hD hS => ?_)
            have hP : va_P D vwCl [(b0, .inr (9, [.int 0, .ref mWorld, .ref mImages, .ref mHasImage, .ref mTape, .int 0, .ref mFive, .int 0, .int 0, .int 0, .int 0, .int 0, .int 0, .int (-1), .ref mFresh, .ref mMergedBy, .int 0, .int 0, .int 0, .ref mIsValid, .ref mGoes, .ref mFarNow, .ref mFreeNow, .ref mIsPair, .ref mHitsBy, .int 0, .int 0, .int 0, .int 0, .int 0, .int 0, .int 0, .int 0, .int 0, .ref mWorthBy, .long 0, .long 0, .long 0, .ref mMany, .ref mWidth, .ref mNumbers, .ref mMoving])), (mMany, .inl (cs 1, 4, .inl (upd (upd (upd (upd (upd (fun _ => 0) 0 (-1)) 1 (-1)) 2 (-1)) 3 (-1)) 2 k3))), (mWidth, .inl (cs 1, 4, .inl (upd (fun _ => 0) 2 k2))), (mNumbers, .inl (cs 2, 240, .inr (.inl (fun _ => 0))))] H := hP
            have hD : va_D A [(b0, .inr (9, [.int 0, .ref mWorld, .ref mImages, .ref mHasImage, .ref mTape, .int 0, .ref mFive, .int 0, .int 0, .int 0, .int 0, .int 0, .int 0, .int (-1), .ref mFresh, .ref mMergedBy, .int 0, .int 0, .int 0, .ref mIsValid, .ref mGoes, .ref mFarNow, .ref mFreeNow, .ref mIsPair, .ref mHitsBy, .int 0, .int 0, .int 0, .int 0, .int 0, .int 0, .int 0, .int 0, .int 0, .ref mWorthBy, .long 0, .long 0, .long 0, .ref mMany, .ref mWidth, .ref mNumbers, .ref mMoving])), (mMany, .inl (cs 1, 4, .inl (upd (upd (upd (upd (upd (fun _ => 0) 0 (-1)) 1 (-1)) 2 (-1)) 3 (-1)) 2 k3))), (mWidth, .inl (cs 1, 4, .inl (upd (fun _ => 0) 2 k2))), (mNumbers, .inl (cs 2, 240, .inr (.inl (fun _ => 0))))] := hD
            refine lv_iconst (v := 0) hx hb dX9_row_49 (by decide) ?_
            refine lv_istore (lv' := [(4, .int 0), (0, .ref b0), (1, .int 2), (2, .int k2), (3, .int k3)]) hx hb dX9_row_50 hl (by decide) rfl (fun ls hl => ?_)
            have lp_9 : ∀ (nfu : Nat) (i : Nat) (f0 : Nat → Int64) (H : Heap) (locs : List Loc) (ls : Array Slot) (hi : i ≤ 60), 60 - i < nfu → va_P D vwCl [(b0, .inr (9, [.int 0, .ref mWorld, .ref mImages, .ref mHasImage, .ref mTape, .int 0, .ref mFive, .int 0, .int 0, .int 0, .int 0, .int 0, .int 0, .int (-1), .ref mFresh, .ref mMergedBy, .int 0, .int 0, .int 0, .ref mIsValid, .ref mGoes, .ref mFarNow, .ref mFreeNow, .ref mIsPair, .ref mHitsBy, .int 0, .int 0, .int 0, .int 0, .int 0, .int 0, .int 0, .int 0, .int 0, .ref mWorthBy, .long 0, .long 0, .long 0, .ref mMany, .ref mWidth, .ref mNumbers, .ref mMoving])), (mMany, .inl (cs 1, 4, .inl (upd (upd (upd (upd (upd (fun _ => 0) 0 (-1)) 1 (-1)) 2 (-1)) 3 (-1)) 2 k3))), (mWidth, .inl (cs 1, 4, .inl (upd (fun _ => 0) 2 k2))), (mNumbers, .inl (cs 2, 240, .inr (.inl f0)))] H → va_D A [(b0, .inr (9, [.int 0, .ref mWorld, .ref mImages, .ref mHasImage, .ref mTape, .int 0, .ref mFive, .int 0, .int 0, .int 0, .int 0, .int 0, .int 0, .int (-1), .ref mFresh, .ref mMergedBy, .int 0, .int 0, .int 0, .ref mIsValid, .ref mGoes, .ref mFarNow, .ref mFreeNow, .ref mIsPair, .ref mHitsBy, .int 0, .int 0, .int 0, .int 0, .int 0, .int 0, .int 0, .int 0, .int 0, .ref mWorthBy, .long 0, .long 0, .long 0, .ref mMany, .ref mWidth, .ref mNumbers, .ref mMoving])), (mMany, .inl (cs 1, 4, .inl (upd (upd (upd (upd (upd (fun _ => 0) 0 (-1)) 1 (-1)) 2 (-1)) 3 (-1)) 2 k3))), (mWidth, .inl (cs 1, 4, .inl (upd (fun _ => 0) 2 k2))), (mNumbers, .inl (cs 2, 240, .inr (.inl f0)))] → va_S A s.heap H locs → lv_has ls 5 [(4, .int (nI i)), (0, .ref b0), (1, .int 2), (2, .int k2), (3, .int k3)] → W p l e (mRm 2 0 0 45) s m ([.ref b0, .int (2 : Int32), .int k2, .int k3] : List Value).toArray below meth c H locs 0 0 (MQ below (va_Qi (fun (r : Int32) (u : Unit) => (r = (-2) ∧ ¬ ((0 ≤ (2 : Int32).toInt ∧ (2 : Int32).toInt ≤ 3) ∧ 0 ≤ k2.toInt ∧ k2.toInt ≤ 3 ∧ k3.toInt ≤ 60)) ∨ (r = (-3) ∧ ((0 ≤ (2 : Int32).toInt ∧ (2 : Int32).toInt ≤ 3) ∧ 0 ≤ k2.toInt ∧ k2.toInt ≤ 3 ∧ k3.toInt ≤ 60) ∧ k3.toInt < 0) ∨ (r = 0 ∧ ((0 ≤ (2 : Int32).toInt ∧ (2 : Int32).toInt ≤ 3) ∧ 0 ≤ k2.toInt ∧ k2.toInt ≤ 3 ∧ k3.toInt ≤ 60) ∧ ¬ k3.toInt < 0)) (mpost D A (fun (u : Unit) => [])) A) ([.ref b0, .int (2 : Int32), .int k2, .int k3] : List Value).toArray s 0 0 A) (F0 m 52 ls []) := by
              intro nfu
              induction nfu with
              | zero => intro i f0 H locs ls hi hmu; exact absurd hmu (Nat.not_lt_zero _)
              | succ nfu ih =>
                intro i f0 H locs ls hi hmu hP hD hS hl
                have ih_lp_9 := @ih
                refine lv_iload hx hb dX9_row_52 (lv_at hl 0 rfl) ?_
                refine lv_bipush (v := 60) hx hb dX9_row_54 (by decide) ?_
                refine lv_icmp_ge (tgt := 78) hx hb dX9_row_56 (by decide) (fun c_10 => ?_) (fun c_10 => ?_)
                ·
                  have hn_10 := bge_t (a := i) (b := 60) c_10 (by omega) (by omega)
                  refine lv_iconst (v := 0) hx hb dX9_row_78 (by decide) ?_
                  exact ret_i hx hb hr hlk hS (Nat.le_of_ble_eq_true rfl) (Nat.le_of_ble_eq_true rfl) () (Or.inr (Or.inr (⟨rfl, (by have e0 := c_3; have e1 := c_4; have e2 := c_10; have e3 := hq_1; have e4 := hq_2; (try simp only [ge_iff_le, gt_iff_lt, ne_eq, Int32.lt_iff_toInt_lt, Int32.le_iff_toInt_le, ← Int32.toInt_inj, Int64.lt_iff_toInt_lt, Int64.le_iff_toInt_le, Int32.toInt_toInt64, i0, i1, i2, i3, i4, i7, i8, i9, i60, j0, j1, j2, j3, j7] at e0 e1 e2 e3 e4); omega)⟩))) (hP.sub [] rfl) (hD.sub [] (by decide) rfl) dX9_row_79
                ·
                  have hn_10 := bge_f (a := i) (b := 60) c_10 (by omega) (by omega)
                  refine lv_aload_n hx hb dX9_row_59 rfl (lv_at hl 1 rfl) ?_
                  refine va_get (D := D) (ci := 9) (v := .ref mNumbers) (C := RX9) (T := TX9) (N := 42) hx hb hts iuX9_row_X9 hown hK hP 0 rfl rfl 40 (by decide) (htw (.fieldLink RX9 64 "MergeJudgeModel" "numbers" "[J") (List.mem_of_getElem? (i := 8) rfl)) (fun _ h9 => h9) rfl dX9_row_60 ?_
                  refine lv_bipush (v := 60) hx hb dX9_row_63 (by decide) ?_
                  refine lv_iload_n hx hb dX9_row_65 rfl (lv_at hl 2 rfl) ?_
                  refine lv_imul hx hb dX9_row_66 ?_
                  refine cf_i 120 (by decide) ?_
                  refine lv_iload hx hb dX9_row_67 (lv_at hl 0 rfl) ?_
                  refine lv_iadd hx hb dX9_row_69 ?_
                  refine cf_i (nI (120 + i)) (nI_add 120 i) ?_
                  refine lv_lconst (v := 0) hx hb dX9_row_70 (by decide) ?_
                  refine va_last hx hb hK hP hD hS 3 2 rfl rfl (vp_in_nI (by omega) (by omega)) dX9_row_71 (fun H locs hP hD hS => ?_)
                  have hP : va_P D vwCl [(b0, .inr (9, [.int 0, .ref mWorld, .ref mImages, .ref mHasImage, .ref mTape, .int 0, .ref mFive, .int 0, .int 0, .int 0, .int 0, .int 0, .int 0, .int (-1), .ref mFresh, .ref mMergedBy, .int 0, .int 0, .int 0, .ref mIsValid, .ref mGoes, .ref mFarNow, .ref mFreeNow, .ref mIsPair, .ref mHitsBy, .int 0, .int 0, .int 0, .int 0, .int 0, .int 0, .int 0, .int 0, .int 0, .ref mWorthBy, .long 0, .long 0, .long 0, .ref mMany, .ref mWidth, .ref mNumbers, .ref mMoving])), (mMany, .inl (cs 1, 4, .inl (upd (upd (upd (upd (upd (fun _ => 0) 0 (-1)) 1 (-1)) 2 (-1)) 3 (-1)) 2 k3))), (mWidth, .inl (cs 1, 4, .inl (upd (fun _ => 0) 2 k2))), (mNumbers, .inl (cs 2, 240, .inr (.inl (vp_updL f0 ((nI (120 + i)).toNatClampNeg) 0))))] H := hP
                  have hD : va_D A [(b0, .inr (9, [.int 0, .ref mWorld, .ref mImages, .ref mHasImage, .ref mTape, .int 0, .ref mFive, .int 0, .int 0, .int 0, .int 0, .int 0, .int 0, .int (-1), .ref mFresh, .ref mMergedBy, .int 0, .int 0, .int 0, .ref mIsValid, .ref mGoes, .ref mFarNow, .ref mFreeNow, .ref mIsPair, .ref mHitsBy, .int 0, .int 0, .int 0, .int 0, .int 0, .int 0, .int 0, .int 0, .int 0, .ref mWorthBy, .long 0, .long 0, .long 0, .ref mMany, .ref mWidth, .ref mNumbers, .ref mMoving])), (mMany, .inl (cs 1, 4, .inl (upd (upd (upd (upd (upd (fun _ => 0) 0 (-1)) 1 (-1)) 2 (-1)) 3 (-1)) 2 k3))), (mWidth, .inl (cs 1, 4, .inl (upd (fun _ => 0) 2 k2))), (mNumbers, .inl (cs 2, 240, .inr (.inl (vp_updL f0 ((nI (120 + i)).toNatClampNeg) 0))))] := hD
                  refine lv_iinc (v := (nI (i + 1))) (lv' := [(4, .int (nI (i + 1))), (0, .ref b0), (1, .int 2), (2, .int k2), (3, .int k3)]) hx hb dX9_row_72 hl (k := 0) rfl (nI_1 _) (by decide) rfl (fun ls hl => ?_)
                  refine lv_goto (tgt := 52) hx hb dX9_row_75 (by decide) ?_
                  exact ih_lp_9 (i + 1) (vp_updL f0 ((nI (120 + i)).toNatClampNeg) 0) H locs ls (by omega) (by omega) (hP.sub [0, 1, 2, 3] rfl) (hD.sub [0, 1, 2, 3] (by decide) rfl) hS (lv_sub hl [0, 1, 2, 3, 4] rfl)
            exact lp_9 _ 0 (fun _ => 0) H locs ls (by omega) (Nat.lt_succ_self _) (hP.sub [0, 1, 2, 3] rfl) (hD.sub [0, 1, 2, 3] (by decide) rfl) hS (lv_sub hl [0, 1, 2, 3, 4] rfl)
          ·
            refine lv_aload_n hx hb dX9_row_35 rfl (lv_at hl 0 rfl) ?_
            refine va_get (D := D) (ci := 9) (v := .ref mMany) (C := RX9) (T := TX9) (N := 42) hx hb hts iuX9_row_X9 hown hK hP 0 rfl rfl 38 (by decide) (htw (.fieldLink RX9 58 "MergeJudgeModel" "many" "[I") (List.mem_of_getElem? (i := 6) rfl)) (fun _ h9 => h9) rfl dX9_row_36 ?_
            refine lv_iload_n hx hb dX9_row_39 rfl (lv_at hl 1 rfl) ?_
            refine lv_iload_n hx hb dX9_row_40 rfl (lv_at hl 3 rfl) ?_
            refine va_iast hx hb hK hP hD hS 1 1 rfl rfl (vp_c (by decide)) dX9_row_41 (fun H locs hP hD hS => ?_)
            have hP : va_P D vwCl [(b0, .inr (9, [.int 0, .ref mWorld, .ref mImages, .ref mHasImage, .ref mTape, .int 0, .ref mFive, .int 0, .int 0, .int 0, .int 0, .int 0, .int 0, .int (-1), .ref mFresh, .ref mMergedBy, .int 0, .int 0, .int 0, .ref mIsValid, .ref mGoes, .ref mFarNow, .ref mFreeNow, .ref mIsPair, .ref mHitsBy, .int 0, .int 0, .int 0, .int 0, .int 0, .int 0, .int 0, .int 0, .int 0, .ref mWorthBy, .long 0, .long 0, .long 0, .ref mMany, .ref mWidth, .ref mNumbers, .ref mMoving])), (mMany, .inl (cs 1, 4, .inl (upd (upd (upd (upd (upd (fun _ => 0) 0 (-1)) 1 (-1)) 2 (-1)) 3 (-1)) 3 k3))), (mWidth, .inl (cs 1, 4, .inl (fun _ => 0))), (mNumbers, .inl (cs 2, 240, .inr (.inl (fun _ => 0))))] H := hP
            have hD : va_D A [(b0, .inr (9, [.int 0, .ref mWorld, .ref mImages, .ref mHasImage, .ref mTape, .int 0, .ref mFive, .int 0, .int 0, .int 0, .int 0, .int 0, .int 0, .int (-1), .ref mFresh, .ref mMergedBy, .int 0, .int 0, .int 0, .ref mIsValid, .ref mGoes, .ref mFarNow, .ref mFreeNow, .ref mIsPair, .ref mHitsBy, .int 0, .int 0, .int 0, .int 0, .int 0, .int 0, .int 0, .int 0, .int 0, .ref mWorthBy, .long 0, .long 0, .long 0, .ref mMany, .ref mWidth, .ref mNumbers, .ref mMoving])), (mMany, .inl (cs 1, 4, .inl (upd (upd (upd (upd (upd (fun _ => 0) 0 (-1)) 1 (-1)) 2 (-1)) 3 (-1)) 3 k3))), (mWidth, .inl (cs 1, 4, .inl (fun _ => 0))), (mNumbers, .inl (cs 2, 240, .inr (.inl (fun _ => 0))))] := hD
            refine lv_aload_n hx hb dX9_row_42 rfl (lv_at hl 0 rfl) ?_
            refine va_get (D := D) (ci := 9) (v := .ref mWidth) (C := RX9) (T := TX9) (N := 42) hx hb hts iuX9_row_X9 hown hK hP 0 rfl rfl 39 (by decide) (htw (.fieldLink RX9 61 "MergeJudgeModel" "width" "[I") (List.mem_of_getElem? (i := 7) rfl)) (fun _ h9 => h9) rfl dX9_row_43 ?_
            refine lv_iload_n hx hb dX9_row_46 rfl (lv_at hl 1 rfl) ?_
            refine lv_iload_n hx hb dX9_row_47 rfl (lv_at hl 2 rfl) ?_
            refine va_iast hx hb hK hP hD hS 2 1 rfl rfl (vp_c (by decide)) dX9_row_48 (fun H locs hP hD hS => ?_)
            have hP : va_P D vwCl [(b0, .inr (9, [.int 0, .ref mWorld, .ref mImages, .ref mHasImage, .ref mTape, .int 0, .ref mFive, .int 0, .int 0, .int 0, .int 0, .int 0, .int 0, .int (-1), .ref mFresh, .ref mMergedBy, .int 0, .int 0, .int 0, .ref mIsValid, .ref mGoes, .ref mFarNow, .ref mFreeNow, .ref mIsPair, .ref mHitsBy, .int 0, .int 0, .int 0, .int 0, .int 0, .int 0, .int 0, .int 0, .int 0, .ref mWorthBy, .long 0, .long 0, .long 0, .ref mMany, .ref mWidth, .ref mNumbers, .ref mMoving])), (mMany, .inl (cs 1, 4, .inl (upd (upd (upd (upd (upd (fun _ => 0) 0 (-1)) 1 (-1)) 2 (-1)) 3 (-1)) 3 k3))), (mWidth, .inl (cs 1, 4, .inl (upd (fun _ => 0) 3 k2))), (mNumbers, .inl (cs 2, 240, .inr (.inl (fun _ => 0))))] H := hP
            have hD : va_D A [(b0, .inr (9, [.int 0, .ref mWorld, .ref mImages, .ref mHasImage, .ref mTape, .int 0, .ref mFive, .int 0, .int 0, .int 0, .int 0, .int 0, .int 0, .int (-1), .ref mFresh, .ref mMergedBy, .int 0, .int 0, .int 0, .ref mIsValid, .ref mGoes, .ref mFarNow, .ref mFreeNow, .ref mIsPair, .ref mHitsBy, .int 0, .int 0, .int 0, .int 0, .int 0, .int 0, .int 0, .int 0, .int 0, .ref mWorthBy, .long 0, .long 0, .long 0, .ref mMany, .ref mWidth, .ref mNumbers, .ref mMoving])), (mMany, .inl (cs 1, 4, .inl (upd (upd (upd (upd (upd (fun _ => 0) 0 (-1)) 1 (-1)) 2 (-1)) 3 (-1)) 3 k3))), (mWidth, .inl (cs 1, 4, .inl (upd (fun _ => 0) 3 k2))), (mNumbers, .inl (cs 2, 240, .inr (.inl (fun _ => 0))))] := hD
            refine lv_iconst (v := 0) hx hb dX9_row_49 (by decide) ?_
            refine lv_istore (lv' := [(4, .int 0), (0, .ref b0), (1, .int 3), (2, .int k2), (3, .int k3)]) hx hb dX9_row_50 hl (by decide) rfl (fun ls hl => ?_)
            have lp_11 : ∀ (nfu : Nat) (i : Nat) (f0 : Nat → Int64) (H : Heap) (locs : List Loc) (ls : Array Slot) (hi : i ≤ 60), 60 - i < nfu → va_P D vwCl [(b0, .inr (9, [.int 0, .ref mWorld, .ref mImages, .ref mHasImage, .ref mTape, .int 0, .ref mFive, .int 0, .int 0, .int 0, .int 0, .int 0, .int 0, .int (-1), .ref mFresh, .ref mMergedBy, .int 0, .int 0, .int 0, .ref mIsValid, .ref mGoes, .ref mFarNow, .ref mFreeNow, .ref mIsPair, .ref mHitsBy, .int 0, .int 0, .int 0, .int 0, .int 0, .int 0, .int 0, .int 0, .int 0, .ref mWorthBy, .long 0, .long 0, .long 0, .ref mMany, .ref mWidth, .ref mNumbers, .ref mMoving])), (mMany, .inl (cs 1, 4, .inl (upd (upd (upd (upd (upd (fun _ => 0) 0 (-1)) 1 (-1)) 2 (-1)) 3 (-1)) 3 k3))), (mWidth, .inl (cs 1, 4, .inl (upd (fun _ => 0) 3 k2))), (mNumbers, .inl (cs 2, 240, .inr (.inl f0)))] H → va_D A [(b0, .inr (9, [.int 0, .ref mWorld, .ref mImages, .ref mHasImage, .ref mTape, .int 0, .ref mFive, .int 0, .int 0, .int 0, .int 0, .int 0, .int 0, .int (-1), .ref mFresh, .ref mMergedBy, .int 0, .int 0, .int 0, .ref mIsValid, .ref mGoes, .ref mFarNow, .ref mFreeNow, .ref mIsPair, .ref mHitsBy, .int 0, .int 0, .int 0, .int 0, .int 0, .int 0, .int 0, .int 0, .int 0, .ref mWorthBy, .long 0, .long 0, .long 0, .ref mMany, .ref mWidth, .ref mNumbers, .ref mMoving])), (mMany, .inl (cs 1, 4, .inl (upd (upd (upd (upd (upd (fun _ => 0) 0 (-1)) 1 (-1)) 2 (-1)) 3 (-1)) 3 k3))), (mWidth, .inl (cs 1, 4, .inl (upd (fun _ => 0) 3 k2))), (mNumbers, .inl (cs 2, 240, .inr (.inl f0)))] → va_S A s.heap H locs → lv_has ls 5 [(4, .int (nI i)), (0, .ref b0), (1, .int 3), (2, .int k2), (3, .int k3)] → W p l e (mRm 2 0 0 45) s m ([.ref b0, .int (3 : Int32), .int k2, .int k3] : List Value).toArray below meth c H locs 0 0 (MQ below (va_Qi (fun (r : Int32) (u : Unit) => (r = (-2) ∧ ¬ ((0 ≤ (3 : Int32).toInt ∧ (3 : Int32).toInt ≤ 3) ∧ 0 ≤ k2.toInt ∧ k2.toInt ≤ 3 ∧ k3.toInt ≤ 60)) ∨ (r = (-3) ∧ ((0 ≤ (3 : Int32).toInt ∧ (3 : Int32).toInt ≤ 3) ∧ 0 ≤ k2.toInt ∧ k2.toInt ≤ 3 ∧ k3.toInt ≤ 60) ∧ k3.toInt < 0) ∨ (r = 0 ∧ ((0 ≤ (3 : Int32).toInt ∧ (3 : Int32).toInt ≤ 3) ∧ 0 ≤ k2.toInt ∧ k2.toInt ≤ 3 ∧ k3.toInt ≤ 60) ∧ ¬ k3.toInt < 0)) (mpost D A (fun (u : Unit) => [])) A) ([.ref b0, .int (3 : Int32), .int k2, .int k3] : List Value).toArray s 0 0 A) (F0 m 52 ls []) := by
              intro nfu
              induction nfu with
              | zero => intro i f0 H locs ls hi hmu; exact absurd hmu (Nat.not_lt_zero _)
              | succ nfu ih =>
                intro i f0 H locs ls hi hmu hP hD hS hl
                have ih_lp_11 := @ih
                refine lv_iload hx hb dX9_row_52 (lv_at hl 0 rfl) ?_
                refine lv_bipush (v := 60) hx hb dX9_row_54 (by decide) ?_
                refine lv_icmp_ge (tgt := 78) hx hb dX9_row_56 (by decide) (fun c_12 => ?_) (fun c_12 => ?_)
                ·
                  have hn_12 := bge_t (a := i) (b := 60) c_12 (by omega) (by omega)
                  refine lv_iconst (v := 0) hx hb dX9_row_78 (by decide) ?_
                  exact ret_i hx hb hr hlk hS (Nat.le_of_ble_eq_true rfl) (Nat.le_of_ble_eq_true rfl) () (Or.inr (Or.inr (⟨rfl, (by have e0 := c_3; have e1 := c_4; have e2 := c_12; have e3 := hq_1; have e4 := hq_2; (try simp only [ge_iff_le, gt_iff_lt, ne_eq, Int32.lt_iff_toInt_lt, Int32.le_iff_toInt_le, ← Int32.toInt_inj, Int64.lt_iff_toInt_lt, Int64.le_iff_toInt_le, Int32.toInt_toInt64, i0, i1, i2, i3, i4, i7, i8, i9, i60, j0, j1, j2, j3, j7] at e0 e1 e2 e3 e4); omega)⟩))) (hP.sub [] rfl) (hD.sub [] (by decide) rfl) dX9_row_79
                ·
                  have hn_12 := bge_f (a := i) (b := 60) c_12 (by omega) (by omega)
                  refine lv_aload_n hx hb dX9_row_59 rfl (lv_at hl 1 rfl) ?_
                  refine va_get (D := D) (ci := 9) (v := .ref mNumbers) (C := RX9) (T := TX9) (N := 42) hx hb hts iuX9_row_X9 hown hK hP 0 rfl rfl 40 (by decide) (htw (.fieldLink RX9 64 "MergeJudgeModel" "numbers" "[J") (List.mem_of_getElem? (i := 8) rfl)) (fun _ h9 => h9) rfl dX9_row_60 ?_
                  refine lv_bipush (v := 60) hx hb dX9_row_63 (by decide) ?_
                  refine lv_iload_n hx hb dX9_row_65 rfl (lv_at hl 2 rfl) ?_
                  refine lv_imul hx hb dX9_row_66 ?_
                  refine cf_i 180 (by decide) ?_
                  refine lv_iload hx hb dX9_row_67 (lv_at hl 0 rfl) ?_
                  refine lv_iadd hx hb dX9_row_69 ?_
                  refine cf_i (nI (180 + i)) (nI_add 180 i) ?_
                  refine lv_lconst (v := 0) hx hb dX9_row_70 (by decide) ?_
                  refine va_last hx hb hK hP hD hS 3 2 rfl rfl (vp_in_nI (by omega) (by omega)) dX9_row_71 (fun H locs hP hD hS => ?_)
                  have hP : va_P D vwCl [(b0, .inr (9, [.int 0, .ref mWorld, .ref mImages, .ref mHasImage, .ref mTape, .int 0, .ref mFive, .int 0, .int 0, .int 0, .int 0, .int 0, .int 0, .int (-1), .ref mFresh, .ref mMergedBy, .int 0, .int 0, .int 0, .ref mIsValid, .ref mGoes, .ref mFarNow, .ref mFreeNow, .ref mIsPair, .ref mHitsBy, .int 0, .int 0, .int 0, .int 0, .int 0, .int 0, .int 0, .int 0, .int 0, .ref mWorthBy, .long 0, .long 0, .long 0, .ref mMany, .ref mWidth, .ref mNumbers, .ref mMoving])), (mMany, .inl (cs 1, 4, .inl (upd (upd (upd (upd (upd (fun _ => 0) 0 (-1)) 1 (-1)) 2 (-1)) 3 (-1)) 3 k3))), (mWidth, .inl (cs 1, 4, .inl (upd (fun _ => 0) 3 k2))), (mNumbers, .inl (cs 2, 240, .inr (.inl (vp_updL f0 ((nI (180 + i)).toNatClampNeg) 0))))] H := hP
                  have hD : va_D A [(b0, .inr (9, [.int 0, .ref mWorld, .ref mImages, .ref mHasImage, .ref mTape, .int 0, .ref mFive, .int 0, .int 0, .int 0, .int 0, .int 0, .int 0, .int (-1), .ref mFresh, .ref mMergedBy, .int 0, .int 0, .int 0, .ref mIsValid, .ref mGoes, .ref mFarNow, .ref mFreeNow, .ref mIsPair, .ref mHitsBy, .int 0, .int 0, .int 0, .int 0, .int 0, .int 0, .int 0, .int 0, .int 0, .ref mWorthBy, .long 0, .long 0, .long 0, .ref mMany, .ref mWidth, .ref mNumbers, .ref mMoving])), (mMany, .inl (cs 1, 4, .inl (upd (upd (upd (upd (upd (fun _ => 0) 0 (-1)) 1 (-1)) 2 (-1)) 3 (-1)) 3 k3))), (mWidth, .inl (cs 1, 4, .inl (upd (fun _ => 0) 3 k2))), (mNumbers, .inl (cs 2, 240, .inr (.inl (vp_updL f0 ((nI (180 + i)).toNatClampNeg) 0))))] := hD
                  refine lv_iinc (v := (nI (i + 1))) (lv' := [(4, .int (nI (i + 1))), (0, .ref b0), (1, .int 3), (2, .int k2), (3, .int k3)]) hx hb dX9_row_72 hl (k := 0) rfl (nI_1 _) (by decide) rfl (fun ls hl => ?_)
                  refine lv_goto (tgt := 52) hx hb dX9_row_75 (by decide) ?_
                  exact ih_lp_11 (i + 1) (vp_updL f0 ((nI (180 + i)).toNatClampNeg) 0) H locs ls (by omega) (by omega) (hP.sub [0, 1, 2, 3] rfl) (hD.sub [0, 1, 2, 3] (by decide) rfl) hS (lv_sub hl [0, 1, 2, 3, 4] rfl)
            exact lp_11 _ 0 (fun _ => 0) H locs ls (by omega) (Nat.lt_succ_self _) (hP.sub [0, 1, 2, 3] rfl) (hD.sub [0, 1, 2, 3] (by decide) rfl) hS (lv_sub hl [0, 1, 2, 3, 4] rfl)
        ·
          refine lv_bipush (v := (-3)) hx hb dX9_row_32 (by decide) ?_
          exact ret_i hx hb hr hlk hS (Nat.le_of_ble_eq_true rfl) (Nat.le_of_ble_eq_true rfl) () (Or.inr (Or.inl ⟨rfl, (by have e0 := c_3; have e1 := c_4; have e2 := hq_1; have e3 := hq_2; (try simp only [ge_iff_le, gt_iff_lt, ne_eq, Int32.lt_iff_toInt_lt, Int32.le_iff_toInt_le, ← Int32.toInt_inj, Int64.lt_iff_toInt_lt, Int64.le_iff_toInt_le, Int32.toInt_toInt64, i0, i1, i2, i3, i4, i7, i8, i9, i60, j0, j1, j2, j3, j7] at e0 e1 e2 e3); omega)⟩)) (hP.sub [] rfl) (hD.sub [] (by decide) rfl) dX9_row_34
      ·
        refine lv_bipush (v := (-2)) hx hb dX9_row_25 (by decide) ?_
        exact ret_i hx hb hr hlk hS (Nat.le_of_ble_eq_true rfl) (Nat.le_of_ble_eq_true rfl) () (Or.inl ⟨rfl, (by have e0 := c_3; have e1 := hq_1; have e2 := hq_2; (try simp only [ge_iff_le, gt_iff_lt, ne_eq, Int32.lt_iff_toInt_lt, Int32.le_iff_toInt_le, ← Int32.toInt_inj, Int64.lt_iff_toInt_lt, Int64.le_iff_toInt_le, Int32.toInt_toInt64, i0, i1, i2, i3, i4, i7, i8, i9, i60, j0, j1, j2, j3, j7] at e0 e1 e2); omega)⟩) (hP.sub [] rfl) (hD.sub [] (by decide) rfl) dX9_row_27
    ·
      refine lv_if_eq (tgt := 25) hx hb dX9_row_16 (by decide) (fun _ => ?_) (fun h9 => absurd h9 (by decide))
      refine lv_bipush (v := (-2)) hx hb dX9_row_25 (by decide) ?_
      exact ret_i hx hb hr hlk hS (Nat.le_of_ble_eq_true rfl) (Nat.le_of_ble_eq_true rfl) () (Or.inl ⟨rfl, (by have e0 := hq_1; have e1 := hq_2; (try simp only [ge_iff_le, gt_iff_lt, ne_eq, Int32.lt_iff_toInt_lt, Int32.le_iff_toInt_le, ← Int32.toInt_inj, Int64.lt_iff_toInt_lt, Int64.le_iff_toInt_le, Int32.toInt_toInt64, i0, i1, i2, i3, i4, i7, i8, i9, i60, j0, j1, j2, j3, j7] at e0 e1); omega)⟩) (hP.sub [] rfl) (hD.sub [] (by decide) rfl) dX9_row_27
  ·
    refine lv_if_eq (tgt := 25) hx hb dX9_row_4 (by decide) (fun _ => ?_) (fun h9 => absurd h9 (by decide))
    refine lv_bipush (v := (-2)) hx hb dX9_row_25 (by decide) ?_
    exact ret_i hx hb hr hlk hS (Nat.le_of_ble_eq_true rfl) (Nat.le_of_ble_eq_true rfl) () (Or.inl ⟨rfl, (by have e0 := hq_1; (try simp only [ge_iff_le, gt_iff_lt, ne_eq, Int32.lt_iff_toInt_lt, Int32.le_iff_toInt_le, ← Int32.toInt_inj, Int64.lt_iff_toInt_lt, Int64.le_iff_toInt_le, Int32.toInt_toInt64, i0, i1, i2, i3, i4, i7, i8, i9, i60, j0, j1, j2, j3, j7] at e0); omega)⟩) (hP.sub [] rfl) (hD.sub [] (by decide) rfl) dX9_row_27

set_option maxHeartbeats 4000000 in
set_option maxRecDepth 100000 in
theorem k_X9_write (l : Launch) (D : va_G) (cs : Nat → ClassId) (sz : Nat) (b0 : Nat) (k : Int32) (k2 : Int32) (k3 : Int64) (mWorld : Nat) (mImages : Nat) (mHasImage : Nat) (mTape : Nat) (mFive : Nat) (mFresh : Nat) (mMergedBy : Nat) (mIsValid : Nat) (mGoes : Nat) (mFarNow : Nat) (mFreeNow : Nat) (mIsPair : Nat) (mHitsBy : Nat) (mWorthBy : Nat) (mMany : Nat) (mWidth : Nat) (mNumbers : Nat) (mMoving : Nat)  : Mi l D cs yX9_write W_X9_write 2 45 0 0 [.ref b0, .int k, .int k2, .long k3] [(b0, .inr (9, [.int 0, .ref mWorld, .ref mImages, .ref mHasImage, .ref mTape, .int 0, .ref mFive, .int 0, .int 0, .int 0, .int 0, .int 0, .int 0, .int (-1), .ref mFresh, .ref mMergedBy, .int 0, .int 0, .int 0, .ref mIsValid, .ref mGoes, .ref mFarNow, .ref mFreeNow, .ref mIsPair, .ref mHitsBy, .int 0, .int 0, .int 0, .int 0, .int 0, .int 0, .int 0, .int 0, .int 0, .ref mWorthBy, .long 0, .long 0, .long 0, .ref mMany, .ref mWidth, .ref mNumbers, .ref mMoving])), (mMany, .inl (cs 1, 4, .inl (upd (upd (upd (upd (fun _ => 0) 0 (-1)) 1 (-1)) 2 (-1)) 3 (-1))))] sz (fun (r : Int32) (u : Unit) => (r = (-2) ∧ ¬ (0 ≤ k.toInt ∧ k.toInt ≤ 3)) ∨ (r = (-6) ∧ (0 ≤ k.toInt ∧ k.toInt ≤ 3))) (fun (u : Unit) => []) := by
  refine ent (D := D) (cs := cs) (y := yX9_write) (ws := W_X9_write) (As := [.ref b0, .int k, .int k2, .long k3]) (W0 := [(b0, .inr (9, [.int 0, .ref mWorld, .ref mImages, .ref mHasImage, .ref mTape, .int 0, .ref mFive, .int 0, .int 0, .int 0, .int 0, .int 0, .int 0, .int (-1), .ref mFresh, .ref mMergedBy, .int 0, .int 0, .int 0, .ref mIsValid, .ref mGoes, .ref mFarNow, .ref mFreeNow, .ref mIsPair, .ref mHitsBy, .int 0, .int 0, .int 0, .int 0, .int 0, .int 0, .int 0, .int 0, .int 0, .ref mWorthBy, .long 0, .long 0, .long 0, .ref mMany, .ref mWidth, .ref mNumbers, .ref mMoving])), (mMany, .inl (cs 1, 4, .inl (upd (upd (upd (upd (fun _ => 0) 0 (-1)) 1 (-1)) 2 (-1)) 3 (-1))))]) (Qx := fun A => va_Qi (fun (r : Int32) (u : Unit) => (r = (-2) ∧ ¬ (0 ≤ k.toInt ∧ k.toInt ≤ 3)) ∨ (r = (-6) ∧ (0 ≤ k.toInt ∧ k.toInt ≤ 3))) (mpost D A (fun (u : Unit) => [])) A) (maxL := 5) (ret := (some .int)) (by decide) rfl (Nat.le_of_ble_eq_true rfl) ?_
  intro p e s m below meth c A ls hx hb hr hml hlk hown hts hin hK hE hP hD hA hS hl
  have hl : lv_has ls 5 [(0, .ref b0), (1, .int k), (2, .int k2), (3, .long k3)] := hl
  generalize hHe : s.heap = H at hP
  have hS : va_S A s.heap H [] := hHe ▸ hS
  have htw : ∀ w ∈ O_X9_write, w.before ([.ref b0, .int k, .int k2, .long k3] : List Value).toArray s = true := fun w h => hts w (List.mem_cons_of_mem _ (List.mem_append_left _ h))
  have hFix := (⟨hx, hb, hml, hown, hts⟩ : CallFix p m c _ _ s _ _ _)
  refine lv_iload_n hx hb dX9_write_0 rfl (lv_at hl 1 rfl) ?_
  refine aft_i (wr := [(b0, .inr (9, [.int 0, .ref mWorld, .ref mImages, .ref mHasImage, .ref mTape, .int 0, .ref mFive, .int 0, .int 0, .int 0, .int 0, .int 0, .int 0, .int (-1), .ref mFresh, .ref mMergedBy, .int 0, .int 0, .int 0, .ref mIsValid, .ref mGoes, .ref mFarNow, .ref mFreeNow, .ref mIsPair, .ref mHitsBy, .int 0, .int 0, .int 0, .int 0, .int 0, .int 0, .int 0, .int 0, .int 0, .ref mWorthBy, .long 0, .long 0, .long 0, .ref mMany, .ref mWidth, .ref mNumbers, .ref mMoving])), (mMany, .inl (cs 1, 4, .inl (upd (upd (upd (upd (fun _ => 0) 0 (-1)) 1 (-1)) 2 (-1)) 3 (-1))))]) hP hD hS hA [] [0, 1] rfl rfl (by decide) (by decide) (run_s (As := [.int k]) (rest := []) hFix hK hE hP hD [] (k_X9_isSlot l D cs _ k) (va_cwS 1 hts gc_X9_write_430_X9_isSlot rfl rfl rfl (by decide +kernel) ⟨Nat.le_of_ble_eq_true rfl, Nat.le_of_ble_eq_true rfl⟩) rfl (by decide) rfl hl.1 rfl (Nat.le_of_ble_eq_true rfl) dX9_write_1 ⟨Nat.le_of_ble_eq_true rfl, Nat.le_of_ble_eq_true rfl⟩) (fun r_1 u_1 H locs hq_1 hP hD hS => ?_)
  have hP : va_P D vwCl [(b0, .inr (9, [.int 0, .ref mWorld, .ref mImages, .ref mHasImage, .ref mTape, .int 0, .ref mFive, .int 0, .int 0, .int 0, .int 0, .int 0, .int 0, .int (-1), .ref mFresh, .ref mMergedBy, .int 0, .int 0, .int 0, .ref mIsValid, .ref mGoes, .ref mFarNow, .ref mFreeNow, .ref mIsPair, .ref mHitsBy, .int 0, .int 0, .int 0, .int 0, .int 0, .int 0, .int 0, .int 0, .int 0, .ref mWorthBy, .long 0, .long 0, .long 0, .ref mMany, .ref mWidth, .ref mNumbers, .ref mMoving])), (mMany, .inl (cs 1, 4, .inl (upd (upd (upd (upd (fun _ => 0) 0 (-1)) 1 (-1)) 2 (-1)) 3 (-1))))] H := hP
  have hD : va_D A [(b0, .inr (9, [.int 0, .ref mWorld, .ref mImages, .ref mHasImage, .ref mTape, .int 0, .ref mFive, .int 0, .int 0, .int 0, .int 0, .int 0, .int 0, .int (-1), .ref mFresh, .ref mMergedBy, .int 0, .int 0, .int 0, .ref mIsValid, .ref mGoes, .ref mFarNow, .ref mFreeNow, .ref mIsPair, .ref mHitsBy, .int 0, .int 0, .int 0, .int 0, .int 0, .int 0, .int 0, .int 0, .int 0, .ref mWorthBy, .long 0, .long 0, .long 0, .ref mMany, .ref mWidth, .ref mNumbers, .ref mMoving])), (mMany, .inl (cs 1, 4, .inl (upd (upd (upd (upd (fun _ => 0) 0 (-1)) 1 (-1)) 2 (-1)) 3 (-1))))] := hD
  replace hq_1 : (r_1 = 1 ∧ (0 ≤ k.toInt ∧ k.toInt ≤ 3)) ∨ (r_1 = 0 ∧ ¬ (0 ≤ k.toInt ∧ k.toInt ≤ 3)) := hq_1
  rcases hq_1 with ⟨rfl, hq_1⟩ | ⟨rfl, hq_1⟩
  ·
    refine lv_if_ne (tgt := 10) hx hb dX9_write_4 (by decide) (fun _ => ?_) (fun h9 => absurd h9 (by decide))
    rcases one_4 (k := k) hq_1 with rfl | rfl | rfl | rfl
    ·
      refine lv_aload_n hx hb dX9_write_10 rfl (lv_at hl 0 rfl) ?_
      refine va_get (D := D) (ci := 9) (v := .ref mMany) (C := RX9) (T := TX9) (N := 42) hx hb hts iuX9_write_X9 hown hK hP 0 rfl rfl 38 (by decide) (htw (.fieldLink RX9 58 "MergeJudgeModel" "many" "[I") (List.mem_of_getElem? (i := 3) rfl)) (fun _ h9 => h9) rfl dX9_write_11 ?_
      refine lv_iload_n hx hb dX9_write_14 rfl (lv_at hl 1 rfl) ?_
      refine va_iald hx hb hK hP 1 1 rfl rfl (vp_c (by decide)) dX9_write_15 ?_
      refine cf_v (.int (-1)) rfl ?_
      refine lv_iconst (v := (-1)) hx hb dX9_write_16 (by decide) ?_
      refine lv_icmp_ne (tgt := 23) hx hb dX9_write_17 (by decide) (fun h9 => absurd h9 (by decide)) (fun _ => ?_)
      refine lv_bipush (v := (-6)) hx hb dX9_write_20 (by decide) ?_
      exact ret_i hx hb hr hlk hS (Nat.le_of_ble_eq_true rfl) (Nat.le_of_ble_eq_true rfl) () (Or.inr (⟨rfl, (by have e0 := hq_1; (try simp only [ge_iff_le, gt_iff_lt, ne_eq, Int32.lt_iff_toInt_lt, Int32.le_iff_toInt_le, ← Int32.toInt_inj, Int64.lt_iff_toInt_lt, Int64.le_iff_toInt_le, Int32.toInt_toInt64, i0, i1, i2, i3, i4, i7, i8, i9, i60, j0, j1, j2, j3, j7] at e0); omega)⟩)) (hP.sub [] rfl) (hD.sub [] (by decide) rfl) dX9_write_22
    ·
      refine lv_aload_n hx hb dX9_write_10 rfl (lv_at hl 0 rfl) ?_
      refine va_get (D := D) (ci := 9) (v := .ref mMany) (C := RX9) (T := TX9) (N := 42) hx hb hts iuX9_write_X9 hown hK hP 0 rfl rfl 38 (by decide) (htw (.fieldLink RX9 58 "MergeJudgeModel" "many" "[I") (List.mem_of_getElem? (i := 3) rfl)) (fun _ h9 => h9) rfl dX9_write_11 ?_
      refine lv_iload_n hx hb dX9_write_14 rfl (lv_at hl 1 rfl) ?_
      refine va_iald hx hb hK hP 1 1 rfl rfl (vp_c (by decide)) dX9_write_15 ?_
      refine cf_v (.int (-1)) rfl ?_
      refine lv_iconst (v := (-1)) hx hb dX9_write_16 (by decide) ?_
      refine lv_icmp_ne (tgt := 23) hx hb dX9_write_17 (by decide) (fun h9 => absurd h9 (by decide)) (fun _ => ?_)
      refine lv_bipush (v := (-6)) hx hb dX9_write_20 (by decide) ?_
      exact ret_i hx hb hr hlk hS (Nat.le_of_ble_eq_true rfl) (Nat.le_of_ble_eq_true rfl) () (Or.inr (⟨rfl, (by have e0 := hq_1; (try simp only [ge_iff_le, gt_iff_lt, ne_eq, Int32.lt_iff_toInt_lt, Int32.le_iff_toInt_le, ← Int32.toInt_inj, Int64.lt_iff_toInt_lt, Int64.le_iff_toInt_le, Int32.toInt_toInt64, i0, i1, i2, i3, i4, i7, i8, i9, i60, j0, j1, j2, j3, j7] at e0); omega)⟩)) (hP.sub [] rfl) (hD.sub [] (by decide) rfl) dX9_write_22
    ·
      refine lv_aload_n hx hb dX9_write_10 rfl (lv_at hl 0 rfl) ?_
      refine va_get (D := D) (ci := 9) (v := .ref mMany) (C := RX9) (T := TX9) (N := 42) hx hb hts iuX9_write_X9 hown hK hP 0 rfl rfl 38 (by decide) (htw (.fieldLink RX9 58 "MergeJudgeModel" "many" "[I") (List.mem_of_getElem? (i := 3) rfl)) (fun _ h9 => h9) rfl dX9_write_11 ?_
      refine lv_iload_n hx hb dX9_write_14 rfl (lv_at hl 1 rfl) ?_
      refine va_iald hx hb hK hP 1 1 rfl rfl (vp_c (by decide)) dX9_write_15 ?_
      refine cf_v (.int (-1)) rfl ?_
      refine lv_iconst (v := (-1)) hx hb dX9_write_16 (by decide) ?_
      refine lv_icmp_ne (tgt := 23) hx hb dX9_write_17 (by decide) (fun h9 => absurd h9 (by decide)) (fun _ => ?_)
      refine lv_bipush (v := (-6)) hx hb dX9_write_20 (by decide) ?_
      exact ret_i hx hb hr hlk hS (Nat.le_of_ble_eq_true rfl) (Nat.le_of_ble_eq_true rfl) () (Or.inr (⟨rfl, (by have e0 := hq_1; (try simp only [ge_iff_le, gt_iff_lt, ne_eq, Int32.lt_iff_toInt_lt, Int32.le_iff_toInt_le, ← Int32.toInt_inj, Int64.lt_iff_toInt_lt, Int64.le_iff_toInt_le, Int32.toInt_toInt64, i0, i1, i2, i3, i4, i7, i8, i9, i60, j0, j1, j2, j3, j7] at e0); omega)⟩)) (hP.sub [] rfl) (hD.sub [] (by decide) rfl) dX9_write_22
    ·
      refine lv_aload_n hx hb dX9_write_10 rfl (lv_at hl 0 rfl) ?_
      refine va_get (D := D) (ci := 9) (v := .ref mMany) (C := RX9) (T := TX9) (N := 42) hx hb hts iuX9_write_X9 hown hK hP 0 rfl rfl 38 (by decide) (htw (.fieldLink RX9 58 "MergeJudgeModel" "many" "[I") (List.mem_of_getElem? (i := 3) rfl)) (fun _ h9 => h9) rfl dX9_write_11 ?_
      refine lv_iload_n hx hb dX9_write_14 rfl (lv_at hl 1 rfl) ?_
      refine va_iald hx hb hK hP 1 1 rfl rfl (vp_c (by decide)) dX9_write_15 ?_
      refine cf_v (.int (-1)) rfl ?_
      refine lv_iconst (v := (-1)) hx hb dX9_write_16 (by decide) ?_
      refine lv_icmp_ne (tgt := 23) hx hb dX9_write_17 (by decide) (fun h9 => absurd h9 (by decide)) (fun _ => ?_)
      refine lv_bipush (v := (-6)) hx hb dX9_write_20 (by decide) ?_
      exact ret_i hx hb hr hlk hS (Nat.le_of_ble_eq_true rfl) (Nat.le_of_ble_eq_true rfl) () (Or.inr (⟨rfl, (by have e0 := hq_1; (try simp only [ge_iff_le, gt_iff_lt, ne_eq, Int32.lt_iff_toInt_lt, Int32.le_iff_toInt_le, ← Int32.toInt_inj, Int64.lt_iff_toInt_lt, Int64.le_iff_toInt_le, Int32.toInt_toInt64, i0, i1, i2, i3, i4, i7, i8, i9, i60, j0, j1, j2, j3, j7] at e0); omega)⟩)) (hP.sub [] rfl) (hD.sub [] (by decide) rfl) dX9_write_22
  ·
    refine lv_if_ne (tgt := 10) hx hb dX9_write_4 (by decide) (fun h9 => absurd h9 (by decide)) (fun _ => ?_)
    refine lv_bipush (v := (-2)) hx hb dX9_write_7 (by decide) ?_
    exact ret_i hx hb hr hlk hS (Nat.le_of_ble_eq_true rfl) (Nat.le_of_ble_eq_true rfl) () (Or.inl ⟨rfl, (by have e0 := hq_1; (try simp only [ge_iff_le, gt_iff_lt, ne_eq, Int32.lt_iff_toInt_lt, Int32.le_iff_toInt_le, ← Int32.toInt_inj, Int64.lt_iff_toInt_lt, Int64.le_iff_toInt_le, Int32.toInt_toInt64, i0, i1, i2, i3, i4, i7, i8, i9, i60, j0, j1, j2, j3, j7] at e0); omega)⟩) (hP.sub [] rfl) (hD.sub [] (by decide) rfl) dX9_write_9

set_option maxHeartbeats 4000000 in
set_option maxRecDepth 100000 in
theorem k_X9_paste (l : Launch) (D : va_G) (cs : Nat → ClassId) (sz : Nat) (b0 : Nat) (k : Int32) (k2 : Int32) (k3 : Int32) (k4 : Int32) (k5 : Int32) (mWorld : Nat) (mImages : Nat) (mHasImage : Nat) (mTape : Nat) (mFive : Nat) (mFresh : Nat) (mMergedBy : Nat) (mIsValid : Nat) (mGoes : Nat) (mFarNow : Nat) (mFreeNow : Nat) (mIsPair : Nat) (mHitsBy : Nat) (mWorthBy : Nat) (mMany : Nat) (mWidth : Nat) (mNumbers : Nat) (mMoving : Nat)  : Mi l D cs yX9_paste W_X9_paste 2 45 0 0 [.ref b0, .int k, .int k2, .int k3, .int k4, .int k5] [(b0, .inr (9, [.int 0, .ref mWorld, .ref mImages, .ref mHasImage, .ref mTape, .int 0, .ref mFive, .int 0, .int 0, .int 0, .int 0, .int 0, .int 0, .int (-1), .ref mFresh, .ref mMergedBy, .int 0, .int 0, .int 0, .ref mIsValid, .ref mGoes, .ref mFarNow, .ref mFreeNow, .ref mIsPair, .ref mHitsBy, .int 0, .int 0, .int 0, .int 0, .int 0, .int 0, .int 0, .int 0, .int 0, .ref mWorthBy, .long 0, .long 0, .long 0, .ref mMany, .ref mWidth, .ref mNumbers, .ref mMoving])), (mMany, .inl (cs 1, 4, .inl (upd (upd (upd (upd (fun _ => 0) 0 (-1)) 1 (-1)) 2 (-1)) 3 (-1))))] sz (fun (r : Int32) (u : Unit) => (r = (-2) ∧ ¬ ((0 ≤ k.toInt ∧ k.toInt ≤ 3) ∧ (0 ≤ k3.toInt ∧ k3.toInt ≤ 3))) ∨ (r = (-6) ∧ ((0 ≤ k.toInt ∧ k.toInt ≤ 3) ∧ (0 ≤ k3.toInt ∧ k3.toInt ≤ 3)))) (fun (u : Unit) => []) := by
  refine ent (D := D) (cs := cs) (y := yX9_paste) (ws := W_X9_paste) (As := [.ref b0, .int k, .int k2, .int k3, .int k4, .int k5]) (W0 := [(b0, .inr (9, [.int 0, .ref mWorld, .ref mImages, .ref mHasImage, .ref mTape, .int 0, .ref mFive, .int 0, .int 0, .int 0, .int 0, .int 0, .int 0, .int (-1), .ref mFresh, .ref mMergedBy, .int 0, .int 0, .int 0, .ref mIsValid, .ref mGoes, .ref mFarNow, .ref mFreeNow, .ref mIsPair, .ref mHitsBy, .int 0, .int 0, .int 0, .int 0, .int 0, .int 0, .int 0, .int 0, .int 0, .ref mWorthBy, .long 0, .long 0, .long 0, .ref mMany, .ref mWidth, .ref mNumbers, .ref mMoving])), (mMany, .inl (cs 1, 4, .inl (upd (upd (upd (upd (fun _ => 0) 0 (-1)) 1 (-1)) 2 (-1)) 3 (-1))))]) (Qx := fun A => va_Qi (fun (r : Int32) (u : Unit) => (r = (-2) ∧ ¬ ((0 ≤ k.toInt ∧ k.toInt ≤ 3) ∧ (0 ≤ k3.toInt ∧ k3.toInt ≤ 3))) ∨ (r = (-6) ∧ ((0 ≤ k.toInt ∧ k.toInt ≤ 3) ∧ (0 ≤ k3.toInt ∧ k3.toInt ≤ 3)))) (mpost D A (fun (u : Unit) => [])) A) (maxL := 7) (ret := (some .int)) (by decide) rfl (Nat.le_of_ble_eq_true rfl) ?_
  intro p e s m below meth c A ls hx hb hr hml hlk hown hts hin hK hE hP hD hA hS hl
  have hl : lv_has ls 7 [(0, .ref b0), (1, .int k), (2, .int k2), (3, .int k3), (4, .int k4), (5, .int k5)] := hl
  generalize hHe : s.heap = H at hP
  have hS : va_S A s.heap H [] := hHe ▸ hS
  have htw : ∀ w ∈ O_X9_paste, w.before ([.ref b0, .int k, .int k2, .int k3, .int k4, .int k5] : List Value).toArray s = true := fun w h => hts w (List.mem_cons_of_mem _ (List.mem_append_left _ h))
  have hFix := (⟨hx, hb, hml, hown, hts⟩ : CallFix p m c _ _ s _ _ _)
  refine lv_iload_n hx hb dX9_paste_0 rfl (lv_at hl 1 rfl) ?_
  refine aft_i (wr := [(b0, .inr (9, [.int 0, .ref mWorld, .ref mImages, .ref mHasImage, .ref mTape, .int 0, .ref mFive, .int 0, .int 0, .int 0, .int 0, .int 0, .int 0, .int (-1), .ref mFresh, .ref mMergedBy, .int 0, .int 0, .int 0, .ref mIsValid, .ref mGoes, .ref mFarNow, .ref mFreeNow, .ref mIsPair, .ref mHitsBy, .int 0, .int 0, .int 0, .int 0, .int 0, .int 0, .int 0, .int 0, .int 0, .ref mWorthBy, .long 0, .long 0, .long 0, .ref mMany, .ref mWidth, .ref mNumbers, .ref mMoving])), (mMany, .inl (cs 1, 4, .inl (upd (upd (upd (upd (fun _ => 0) 0 (-1)) 1 (-1)) 2 (-1)) 3 (-1))))]) hP hD hS hA [] [0, 1] rfl rfl (by decide) (by decide) (run_s (As := [.int k]) (rest := []) hFix hK hE hP hD [] (k_X9_isSlot l D cs _ k) (va_cwS 1 hts gc_X9_paste_430_X9_isSlot rfl rfl rfl (by decide +kernel) ⟨Nat.le_of_ble_eq_true rfl, Nat.le_of_ble_eq_true rfl⟩) rfl (by decide) rfl hl.1 rfl (Nat.le_of_ble_eq_true rfl) dX9_paste_1 ⟨Nat.le_of_ble_eq_true rfl, Nat.le_of_ble_eq_true rfl⟩) (fun r_1 u_1 H locs hq_1 hP hD hS => ?_)
  have hP : va_P D vwCl [(b0, .inr (9, [.int 0, .ref mWorld, .ref mImages, .ref mHasImage, .ref mTape, .int 0, .ref mFive, .int 0, .int 0, .int 0, .int 0, .int 0, .int 0, .int (-1), .ref mFresh, .ref mMergedBy, .int 0, .int 0, .int 0, .ref mIsValid, .ref mGoes, .ref mFarNow, .ref mFreeNow, .ref mIsPair, .ref mHitsBy, .int 0, .int 0, .int 0, .int 0, .int 0, .int 0, .int 0, .int 0, .int 0, .ref mWorthBy, .long 0, .long 0, .long 0, .ref mMany, .ref mWidth, .ref mNumbers, .ref mMoving])), (mMany, .inl (cs 1, 4, .inl (upd (upd (upd (upd (fun _ => 0) 0 (-1)) 1 (-1)) 2 (-1)) 3 (-1))))] H := hP
  have hD : va_D A [(b0, .inr (9, [.int 0, .ref mWorld, .ref mImages, .ref mHasImage, .ref mTape, .int 0, .ref mFive, .int 0, .int 0, .int 0, .int 0, .int 0, .int 0, .int (-1), .ref mFresh, .ref mMergedBy, .int 0, .int 0, .int 0, .ref mIsValid, .ref mGoes, .ref mFarNow, .ref mFreeNow, .ref mIsPair, .ref mHitsBy, .int 0, .int 0, .int 0, .int 0, .int 0, .int 0, .int 0, .int 0, .int 0, .ref mWorthBy, .long 0, .long 0, .long 0, .ref mMany, .ref mWidth, .ref mNumbers, .ref mMoving])), (mMany, .inl (cs 1, 4, .inl (upd (upd (upd (upd (fun _ => 0) 0 (-1)) 1 (-1)) 2 (-1)) 3 (-1))))] := hD
  replace hq_1 : (r_1 = 1 ∧ (0 ≤ k.toInt ∧ k.toInt ≤ 3)) ∨ (r_1 = 0 ∧ ¬ (0 ≤ k.toInt ∧ k.toInt ≤ 3)) := hq_1
  rcases hq_1 with ⟨rfl, hq_1⟩ | ⟨rfl, hq_1⟩
  ·
    refine lv_if_eq (tgt := 14) hx hb dX9_paste_4 (by decide) (fun h9 => absurd h9 (by decide)) (fun _ => ?_)
    refine lv_iload_n hx hb dX9_paste_7 rfl (lv_at hl 3 rfl) ?_
    refine aft_i (wr := [(b0, .inr (9, [.int 0, .ref mWorld, .ref mImages, .ref mHasImage, .ref mTape, .int 0, .ref mFive, .int 0, .int 0, .int 0, .int 0, .int 0, .int 0, .int (-1), .ref mFresh, .ref mMergedBy, .int 0, .int 0, .int 0, .ref mIsValid, .ref mGoes, .ref mFarNow, .ref mFreeNow, .ref mIsPair, .ref mHitsBy, .int 0, .int 0, .int 0, .int 0, .int 0, .int 0, .int 0, .int 0, .int 0, .ref mWorthBy, .long 0, .long 0, .long 0, .ref mMany, .ref mWidth, .ref mNumbers, .ref mMoving])), (mMany, .inl (cs 1, 4, .inl (upd (upd (upd (upd (fun _ => 0) 0 (-1)) 1 (-1)) 2 (-1)) 3 (-1))))]) hP hD hS hA [] [0, 1] rfl rfl (by decide) (by decide) (run_s (As := [.int k3]) (rest := []) hFix hK hE hP hD [] (k_X9_isSlot l D cs _ k3) (va_cwS 1 hts gc_X9_paste_430_X9_isSlot rfl rfl rfl (by decide +kernel) ⟨Nat.le_of_ble_eq_true rfl, Nat.le_of_ble_eq_true rfl⟩) rfl (by decide) rfl hl.1 rfl (Nat.le_of_ble_eq_true rfl) dX9_paste_8 ⟨Nat.le_of_ble_eq_true rfl, Nat.le_of_ble_eq_true rfl⟩) (fun r_2 u_2 H locs hq_2 hP hD hS => ?_)
    have hP : va_P D vwCl [(b0, .inr (9, [.int 0, .ref mWorld, .ref mImages, .ref mHasImage, .ref mTape, .int 0, .ref mFive, .int 0, .int 0, .int 0, .int 0, .int 0, .int 0, .int (-1), .ref mFresh, .ref mMergedBy, .int 0, .int 0, .int 0, .ref mIsValid, .ref mGoes, .ref mFarNow, .ref mFreeNow, .ref mIsPair, .ref mHitsBy, .int 0, .int 0, .int 0, .int 0, .int 0, .int 0, .int 0, .int 0, .int 0, .ref mWorthBy, .long 0, .long 0, .long 0, .ref mMany, .ref mWidth, .ref mNumbers, .ref mMoving])), (mMany, .inl (cs 1, 4, .inl (upd (upd (upd (upd (fun _ => 0) 0 (-1)) 1 (-1)) 2 (-1)) 3 (-1))))] H := hP
    have hD : va_D A [(b0, .inr (9, [.int 0, .ref mWorld, .ref mImages, .ref mHasImage, .ref mTape, .int 0, .ref mFive, .int 0, .int 0, .int 0, .int 0, .int 0, .int 0, .int (-1), .ref mFresh, .ref mMergedBy, .int 0, .int 0, .int 0, .ref mIsValid, .ref mGoes, .ref mFarNow, .ref mFreeNow, .ref mIsPair, .ref mHitsBy, .int 0, .int 0, .int 0, .int 0, .int 0, .int 0, .int 0, .int 0, .int 0, .ref mWorthBy, .long 0, .long 0, .long 0, .ref mMany, .ref mWidth, .ref mNumbers, .ref mMoving])), (mMany, .inl (cs 1, 4, .inl (upd (upd (upd (upd (fun _ => 0) 0 (-1)) 1 (-1)) 2 (-1)) 3 (-1))))] := hD
    replace hq_2 : (r_2 = 1 ∧ (0 ≤ k3.toInt ∧ k3.toInt ≤ 3)) ∨ (r_2 = 0 ∧ ¬ (0 ≤ k3.toInt ∧ k3.toInt ≤ 3)) := hq_2
    rcases hq_2 with ⟨rfl, hq_2⟩ | ⟨rfl, hq_2⟩
    ·
      refine lv_if_ne (tgt := 17) hx hb dX9_paste_11 (by decide) (fun _ => ?_) (fun h9 => absurd h9 (by decide))
      rcases one_4 (k := k) hq_1 with rfl | rfl | rfl | rfl
      ·
        rcases one_4 (k := k3) hq_2 with rfl | rfl | rfl | rfl
        ·
          refine lv_aload_n hx hb dX9_paste_17 rfl (lv_at hl 0 rfl) ?_
          refine va_get (D := D) (ci := 9) (v := .ref mMany) (C := RX9) (T := TX9) (N := 42) hx hb hts iuX9_paste_X9 hown hK hP 0 rfl rfl 38 (by decide) (htw (.fieldLink RX9 58 "MergeJudgeModel" "many" "[I") (List.mem_of_getElem? (i := 3) rfl)) (fun _ h9 => h9) rfl dX9_paste_18 ?_
          refine lv_iload_n hx hb dX9_paste_21 rfl (lv_at hl 1 rfl) ?_
          refine va_iald hx hb hK hP 1 1 rfl rfl (vp_c (by decide)) dX9_paste_22 ?_
          refine cf_v (.int (-1)) rfl ?_
          refine lv_iconst (v := (-1)) hx hb dX9_paste_23 (by decide) ?_
          refine lv_icmp_eq (tgt := 37) hx hb dX9_paste_24 (by decide) (fun _ => ?_) (fun h9 => absurd h9 (by decide))
          refine lv_bipush (v := (-6)) hx hb dX9_paste_37 (by decide) ?_
          exact ret_i hx hb hr hlk hS (Nat.le_of_ble_eq_true rfl) (Nat.le_of_ble_eq_true rfl) () (Or.inr (⟨rfl, (by have e0 := hq_1; have e1 := hq_2; (try simp only [ge_iff_le, gt_iff_lt, ne_eq, Int32.lt_iff_toInt_lt, Int32.le_iff_toInt_le, ← Int32.toInt_inj, Int64.lt_iff_toInt_lt, Int64.le_iff_toInt_le, Int32.toInt_toInt64, i0, i1, i2, i3, i4, i7, i8, i9, i60, j0, j1, j2, j3, j7] at e0 e1); omega)⟩)) (hP.sub [] rfl) (hD.sub [] (by decide) rfl) dX9_paste_39
        ·
          refine lv_aload_n hx hb dX9_paste_17 rfl (lv_at hl 0 rfl) ?_
          refine va_get (D := D) (ci := 9) (v := .ref mMany) (C := RX9) (T := TX9) (N := 42) hx hb hts iuX9_paste_X9 hown hK hP 0 rfl rfl 38 (by decide) (htw (.fieldLink RX9 58 "MergeJudgeModel" "many" "[I") (List.mem_of_getElem? (i := 3) rfl)) (fun _ h9 => h9) rfl dX9_paste_18 ?_
          refine lv_iload_n hx hb dX9_paste_21 rfl (lv_at hl 1 rfl) ?_
          refine va_iald hx hb hK hP 1 1 rfl rfl (vp_c (by decide)) dX9_paste_22 ?_
          refine cf_v (.int (-1)) rfl ?_
          refine lv_iconst (v := (-1)) hx hb dX9_paste_23 (by decide) ?_
          refine lv_icmp_eq (tgt := 37) hx hb dX9_paste_24 (by decide) (fun _ => ?_) (fun h9 => absurd h9 (by decide))
          refine lv_bipush (v := (-6)) hx hb dX9_paste_37 (by decide) ?_
          exact ret_i hx hb hr hlk hS (Nat.le_of_ble_eq_true rfl) (Nat.le_of_ble_eq_true rfl) () (Or.inr (⟨rfl, (by have e0 := hq_1; have e1 := hq_2; (try simp only [ge_iff_le, gt_iff_lt, ne_eq, Int32.lt_iff_toInt_lt, Int32.le_iff_toInt_le, ← Int32.toInt_inj, Int64.lt_iff_toInt_lt, Int64.le_iff_toInt_le, Int32.toInt_toInt64, i0, i1, i2, i3, i4, i7, i8, i9, i60, j0, j1, j2, j3, j7] at e0 e1); omega)⟩)) (hP.sub [] rfl) (hD.sub [] (by decide) rfl) dX9_paste_39
        ·
          refine lv_aload_n hx hb dX9_paste_17 rfl (lv_at hl 0 rfl) ?_
          refine va_get (D := D) (ci := 9) (v := .ref mMany) (C := RX9) (T := TX9) (N := 42) hx hb hts iuX9_paste_X9 hown hK hP 0 rfl rfl 38 (by decide) (htw (.fieldLink RX9 58 "MergeJudgeModel" "many" "[I") (List.mem_of_getElem? (i := 3) rfl)) (fun _ h9 => h9) rfl dX9_paste_18 ?_
          refine lv_iload_n hx hb dX9_paste_21 rfl (lv_at hl 1 rfl) ?_
          refine va_iald hx hb hK hP 1 1 rfl rfl (vp_c (by decide)) dX9_paste_22 ?_
          refine cf_v (.int (-1)) rfl ?_
          refine lv_iconst (v := (-1)) hx hb dX9_paste_23 (by decide) ?_
          refine lv_icmp_eq (tgt := 37) hx hb dX9_paste_24 (by decide) (fun _ => ?_) (fun h9 => absurd h9 (by decide))
          refine lv_bipush (v := (-6)) hx hb dX9_paste_37 (by decide) ?_
          exact ret_i hx hb hr hlk hS (Nat.le_of_ble_eq_true rfl) (Nat.le_of_ble_eq_true rfl) () (Or.inr (⟨rfl, (by have e0 := hq_1; have e1 := hq_2; (try simp only [ge_iff_le, gt_iff_lt, ne_eq, Int32.lt_iff_toInt_lt, Int32.le_iff_toInt_le, ← Int32.toInt_inj, Int64.lt_iff_toInt_lt, Int64.le_iff_toInt_le, Int32.toInt_toInt64, i0, i1, i2, i3, i4, i7, i8, i9, i60, j0, j1, j2, j3, j7] at e0 e1); omega)⟩)) (hP.sub [] rfl) (hD.sub [] (by decide) rfl) dX9_paste_39
        ·
          refine lv_aload_n hx hb dX9_paste_17 rfl (lv_at hl 0 rfl) ?_
          refine va_get (D := D) (ci := 9) (v := .ref mMany) (C := RX9) (T := TX9) (N := 42) hx hb hts iuX9_paste_X9 hown hK hP 0 rfl rfl 38 (by decide) (htw (.fieldLink RX9 58 "MergeJudgeModel" "many" "[I") (List.mem_of_getElem? (i := 3) rfl)) (fun _ h9 => h9) rfl dX9_paste_18 ?_
          refine lv_iload_n hx hb dX9_paste_21 rfl (lv_at hl 1 rfl) ?_
          refine va_iald hx hb hK hP 1 1 rfl rfl (vp_c (by decide)) dX9_paste_22 ?_
          refine cf_v (.int (-1)) rfl ?_
          refine lv_iconst (v := (-1)) hx hb dX9_paste_23 (by decide) ?_
          refine lv_icmp_eq (tgt := 37) hx hb dX9_paste_24 (by decide) (fun _ => ?_) (fun h9 => absurd h9 (by decide))
          refine lv_bipush (v := (-6)) hx hb dX9_paste_37 (by decide) ?_
          exact ret_i hx hb hr hlk hS (Nat.le_of_ble_eq_true rfl) (Nat.le_of_ble_eq_true rfl) () (Or.inr (⟨rfl, (by have e0 := hq_1; have e1 := hq_2; (try simp only [ge_iff_le, gt_iff_lt, ne_eq, Int32.lt_iff_toInt_lt, Int32.le_iff_toInt_le, ← Int32.toInt_inj, Int64.lt_iff_toInt_lt, Int64.le_iff_toInt_le, Int32.toInt_toInt64, i0, i1, i2, i3, i4, i7, i8, i9, i60, j0, j1, j2, j3, j7] at e0 e1); omega)⟩)) (hP.sub [] rfl) (hD.sub [] (by decide) rfl) dX9_paste_39
      ·
        rcases one_4 (k := k3) hq_2 with rfl | rfl | rfl | rfl
        ·
          refine lv_aload_n hx hb dX9_paste_17 rfl (lv_at hl 0 rfl) ?_
          refine va_get (D := D) (ci := 9) (v := .ref mMany) (C := RX9) (T := TX9) (N := 42) hx hb hts iuX9_paste_X9 hown hK hP 0 rfl rfl 38 (by decide) (htw (.fieldLink RX9 58 "MergeJudgeModel" "many" "[I") (List.mem_of_getElem? (i := 3) rfl)) (fun _ h9 => h9) rfl dX9_paste_18 ?_
          refine lv_iload_n hx hb dX9_paste_21 rfl (lv_at hl 1 rfl) ?_
          refine va_iald hx hb hK hP 1 1 rfl rfl (vp_c (by decide)) dX9_paste_22 ?_
          refine cf_v (.int (-1)) rfl ?_
          refine lv_iconst (v := (-1)) hx hb dX9_paste_23 (by decide) ?_
          refine lv_icmp_eq (tgt := 37) hx hb dX9_paste_24 (by decide) (fun _ => ?_) (fun h9 => absurd h9 (by decide))
          refine lv_bipush (v := (-6)) hx hb dX9_paste_37 (by decide) ?_
          exact ret_i hx hb hr hlk hS (Nat.le_of_ble_eq_true rfl) (Nat.le_of_ble_eq_true rfl) () (Or.inr (⟨rfl, (by have e0 := hq_1; have e1 := hq_2; (try simp only [ge_iff_le, gt_iff_lt, ne_eq, Int32.lt_iff_toInt_lt, Int32.le_iff_toInt_le, ← Int32.toInt_inj, Int64.lt_iff_toInt_lt, Int64.le_iff_toInt_le, Int32.toInt_toInt64, i0, i1, i2, i3, i4, i7, i8, i9, i60, j0, j1, j2, j3, j7] at e0 e1); omega)⟩)) (hP.sub [] rfl) (hD.sub [] (by decide) rfl) dX9_paste_39
        ·
          refine lv_aload_n hx hb dX9_paste_17 rfl (lv_at hl 0 rfl) ?_
          refine va_get (D := D) (ci := 9) (v := .ref mMany) (C := RX9) (T := TX9) (N := 42) hx hb hts iuX9_paste_X9 hown hK hP 0 rfl rfl 38 (by decide) (htw (.fieldLink RX9 58 "MergeJudgeModel" "many" "[I") (List.mem_of_getElem? (i := 3) rfl)) (fun _ h9 => h9) rfl dX9_paste_18 ?_
          refine lv_iload_n hx hb dX9_paste_21 rfl (lv_at hl 1 rfl) ?_
          refine va_iald hx hb hK hP 1 1 rfl rfl (vp_c (by decide)) dX9_paste_22 ?_
          refine cf_v (.int (-1)) rfl ?_
          refine lv_iconst (v := (-1)) hx hb dX9_paste_23 (by decide) ?_
          refine lv_icmp_eq (tgt := 37) hx hb dX9_paste_24 (by decide) (fun _ => ?_) (fun h9 => absurd h9 (by decide))
          refine lv_bipush (v := (-6)) hx hb dX9_paste_37 (by decide) ?_
          exact ret_i hx hb hr hlk hS (Nat.le_of_ble_eq_true rfl) (Nat.le_of_ble_eq_true rfl) () (Or.inr (⟨rfl, (by have e0 := hq_1; have e1 := hq_2; (try simp only [ge_iff_le, gt_iff_lt, ne_eq, Int32.lt_iff_toInt_lt, Int32.le_iff_toInt_le, ← Int32.toInt_inj, Int64.lt_iff_toInt_lt, Int64.le_iff_toInt_le, Int32.toInt_toInt64, i0, i1, i2, i3, i4, i7, i8, i9, i60, j0, j1, j2, j3, j7] at e0 e1); omega)⟩)) (hP.sub [] rfl) (hD.sub [] (by decide) rfl) dX9_paste_39
        ·
          refine lv_aload_n hx hb dX9_paste_17 rfl (lv_at hl 0 rfl) ?_
          refine va_get (D := D) (ci := 9) (v := .ref mMany) (C := RX9) (T := TX9) (N := 42) hx hb hts iuX9_paste_X9 hown hK hP 0 rfl rfl 38 (by decide) (htw (.fieldLink RX9 58 "MergeJudgeModel" "many" "[I") (List.mem_of_getElem? (i := 3) rfl)) (fun _ h9 => h9) rfl dX9_paste_18 ?_
          refine lv_iload_n hx hb dX9_paste_21 rfl (lv_at hl 1 rfl) ?_
          refine va_iald hx hb hK hP 1 1 rfl rfl (vp_c (by decide)) dX9_paste_22 ?_
          refine cf_v (.int (-1)) rfl ?_
          refine lv_iconst (v := (-1)) hx hb dX9_paste_23 (by decide) ?_
          refine lv_icmp_eq (tgt := 37) hx hb dX9_paste_24 (by decide) (fun _ => ?_) (fun h9 => absurd h9 (by decide))
          refine lv_bipush (v := (-6)) hx hb dX9_paste_37 (by decide) ?_
          exact ret_i hx hb hr hlk hS (Nat.le_of_ble_eq_true rfl) (Nat.le_of_ble_eq_true rfl) () (Or.inr (⟨rfl, (by have e0 := hq_1; have e1 := hq_2; (try simp only [ge_iff_le, gt_iff_lt, ne_eq, Int32.lt_iff_toInt_lt, Int32.le_iff_toInt_le, ← Int32.toInt_inj, Int64.lt_iff_toInt_lt, Int64.le_iff_toInt_le, Int32.toInt_toInt64, i0, i1, i2, i3, i4, i7, i8, i9, i60, j0, j1, j2, j3, j7] at e0 e1); omega)⟩)) (hP.sub [] rfl) (hD.sub [] (by decide) rfl) dX9_paste_39
        ·
          refine lv_aload_n hx hb dX9_paste_17 rfl (lv_at hl 0 rfl) ?_
          refine va_get (D := D) (ci := 9) (v := .ref mMany) (C := RX9) (T := TX9) (N := 42) hx hb hts iuX9_paste_X9 hown hK hP 0 rfl rfl 38 (by decide) (htw (.fieldLink RX9 58 "MergeJudgeModel" "many" "[I") (List.mem_of_getElem? (i := 3) rfl)) (fun _ h9 => h9) rfl dX9_paste_18 ?_
          refine lv_iload_n hx hb dX9_paste_21 rfl (lv_at hl 1 rfl) ?_
          refine va_iald hx hb hK hP 1 1 rfl rfl (vp_c (by decide)) dX9_paste_22 ?_
          refine cf_v (.int (-1)) rfl ?_
          refine lv_iconst (v := (-1)) hx hb dX9_paste_23 (by decide) ?_
          refine lv_icmp_eq (tgt := 37) hx hb dX9_paste_24 (by decide) (fun _ => ?_) (fun h9 => absurd h9 (by decide))
          refine lv_bipush (v := (-6)) hx hb dX9_paste_37 (by decide) ?_
          exact ret_i hx hb hr hlk hS (Nat.le_of_ble_eq_true rfl) (Nat.le_of_ble_eq_true rfl) () (Or.inr (⟨rfl, (by have e0 := hq_1; have e1 := hq_2; (try simp only [ge_iff_le, gt_iff_lt, ne_eq, Int32.lt_iff_toInt_lt, Int32.le_iff_toInt_le, ← Int32.toInt_inj, Int64.lt_iff_toInt_lt, Int64.le_iff_toInt_le, Int32.toInt_toInt64, i0, i1, i2, i3, i4, i7, i8, i9, i60, j0, j1, j2, j3, j7] at e0 e1); omega)⟩)) (hP.sub [] rfl) (hD.sub [] (by decide) rfl) dX9_paste_39
      ·
        rcases one_4 (k := k3) hq_2 with rfl | rfl | rfl | rfl
        ·
          refine lv_aload_n hx hb dX9_paste_17 rfl (lv_at hl 0 rfl) ?_
          refine va_get (D := D) (ci := 9) (v := .ref mMany) (C := RX9) (T := TX9) (N := 42) hx hb hts iuX9_paste_X9 hown hK hP 0 rfl rfl 38 (by decide) (htw (.fieldLink RX9 58 "MergeJudgeModel" "many" "[I") (List.mem_of_getElem? (i := 3) rfl)) (fun _ h9 => h9) rfl dX9_paste_18 ?_
          refine lv_iload_n hx hb dX9_paste_21 rfl (lv_at hl 1 rfl) ?_
          refine va_iald hx hb hK hP 1 1 rfl rfl (vp_c (by decide)) dX9_paste_22 ?_
          refine cf_v (.int (-1)) rfl ?_
          refine lv_iconst (v := (-1)) hx hb dX9_paste_23 (by decide) ?_
          refine lv_icmp_eq (tgt := 37) hx hb dX9_paste_24 (by decide) (fun _ => ?_) (fun h9 => absurd h9 (by decide))
          refine lv_bipush (v := (-6)) hx hb dX9_paste_37 (by decide) ?_
          exact ret_i hx hb hr hlk hS (Nat.le_of_ble_eq_true rfl) (Nat.le_of_ble_eq_true rfl) () (Or.inr (⟨rfl, (by have e0 := hq_1; have e1 := hq_2; (try simp only [ge_iff_le, gt_iff_lt, ne_eq, Int32.lt_iff_toInt_lt, Int32.le_iff_toInt_le, ← Int32.toInt_inj, Int64.lt_iff_toInt_lt, Int64.le_iff_toInt_le, Int32.toInt_toInt64, i0, i1, i2, i3, i4, i7, i8, i9, i60, j0, j1, j2, j3, j7] at e0 e1); omega)⟩)) (hP.sub [] rfl) (hD.sub [] (by decide) rfl) dX9_paste_39
        ·
          refine lv_aload_n hx hb dX9_paste_17 rfl (lv_at hl 0 rfl) ?_
          refine va_get (D := D) (ci := 9) (v := .ref mMany) (C := RX9) (T := TX9) (N := 42) hx hb hts iuX9_paste_X9 hown hK hP 0 rfl rfl 38 (by decide) (htw (.fieldLink RX9 58 "MergeJudgeModel" "many" "[I") (List.mem_of_getElem? (i := 3) rfl)) (fun _ h9 => h9) rfl dX9_paste_18 ?_
          refine lv_iload_n hx hb dX9_paste_21 rfl (lv_at hl 1 rfl) ?_
          refine va_iald hx hb hK hP 1 1 rfl rfl (vp_c (by decide)) dX9_paste_22 ?_
          refine cf_v (.int (-1)) rfl ?_
          refine lv_iconst (v := (-1)) hx hb dX9_paste_23 (by decide) ?_
          refine lv_icmp_eq (tgt := 37) hx hb dX9_paste_24 (by decide) (fun _ => ?_) (fun h9 => absurd h9 (by decide))
          refine lv_bipush (v := (-6)) hx hb dX9_paste_37 (by decide) ?_
          exact ret_i hx hb hr hlk hS (Nat.le_of_ble_eq_true rfl) (Nat.le_of_ble_eq_true rfl) () (Or.inr (⟨rfl, (by have e0 := hq_1; have e1 := hq_2; (try simp only [ge_iff_le, gt_iff_lt, ne_eq, Int32.lt_iff_toInt_lt, Int32.le_iff_toInt_le, ← Int32.toInt_inj, Int64.lt_iff_toInt_lt, Int64.le_iff_toInt_le, Int32.toInt_toInt64, i0, i1, i2, i3, i4, i7, i8, i9, i60, j0, j1, j2, j3, j7] at e0 e1); omega)⟩)) (hP.sub [] rfl) (hD.sub [] (by decide) rfl) dX9_paste_39
        ·
          refine lv_aload_n hx hb dX9_paste_17 rfl (lv_at hl 0 rfl) ?_
          refine va_get (D := D) (ci := 9) (v := .ref mMany) (C := RX9) (T := TX9) (N := 42) hx hb hts iuX9_paste_X9 hown hK hP 0 rfl rfl 38 (by decide) (htw (.fieldLink RX9 58 "MergeJudgeModel" "many" "[I") (List.mem_of_getElem? (i := 3) rfl)) (fun _ h9 => h9) rfl dX9_paste_18 ?_
          refine lv_iload_n hx hb dX9_paste_21 rfl (lv_at hl 1 rfl) ?_
          refine va_iald hx hb hK hP 1 1 rfl rfl (vp_c (by decide)) dX9_paste_22 ?_
          refine cf_v (.int (-1)) rfl ?_
          refine lv_iconst (v := (-1)) hx hb dX9_paste_23 (by decide) ?_
          refine lv_icmp_eq (tgt := 37) hx hb dX9_paste_24 (by decide) (fun _ => ?_) (fun h9 => absurd h9 (by decide))
          refine lv_bipush (v := (-6)) hx hb dX9_paste_37 (by decide) ?_
          exact ret_i hx hb hr hlk hS (Nat.le_of_ble_eq_true rfl) (Nat.le_of_ble_eq_true rfl) () (Or.inr (⟨rfl, (by have e0 := hq_1; have e1 := hq_2; (try simp only [ge_iff_le, gt_iff_lt, ne_eq, Int32.lt_iff_toInt_lt, Int32.le_iff_toInt_le, ← Int32.toInt_inj, Int64.lt_iff_toInt_lt, Int64.le_iff_toInt_le, Int32.toInt_toInt64, i0, i1, i2, i3, i4, i7, i8, i9, i60, j0, j1, j2, j3, j7] at e0 e1); omega)⟩)) (hP.sub [] rfl) (hD.sub [] (by decide) rfl) dX9_paste_39
        ·
          refine lv_aload_n hx hb dX9_paste_17 rfl (lv_at hl 0 rfl) ?_
          refine va_get (D := D) (ci := 9) (v := .ref mMany) (C := RX9) (T := TX9) (N := 42) hx hb hts iuX9_paste_X9 hown hK hP 0 rfl rfl 38 (by decide) (htw (.fieldLink RX9 58 "MergeJudgeModel" "many" "[I") (List.mem_of_getElem? (i := 3) rfl)) (fun _ h9 => h9) rfl dX9_paste_18 ?_
          refine lv_iload_n hx hb dX9_paste_21 rfl (lv_at hl 1 rfl) ?_
          refine va_iald hx hb hK hP 1 1 rfl rfl (vp_c (by decide)) dX9_paste_22 ?_
          refine cf_v (.int (-1)) rfl ?_
          refine lv_iconst (v := (-1)) hx hb dX9_paste_23 (by decide) ?_
          refine lv_icmp_eq (tgt := 37) hx hb dX9_paste_24 (by decide) (fun _ => ?_) (fun h9 => absurd h9 (by decide))
          refine lv_bipush (v := (-6)) hx hb dX9_paste_37 (by decide) ?_
          exact ret_i hx hb hr hlk hS (Nat.le_of_ble_eq_true rfl) (Nat.le_of_ble_eq_true rfl) () (Or.inr (⟨rfl, (by have e0 := hq_1; have e1 := hq_2; (try simp only [ge_iff_le, gt_iff_lt, ne_eq, Int32.lt_iff_toInt_lt, Int32.le_iff_toInt_le, ← Int32.toInt_inj, Int64.lt_iff_toInt_lt, Int64.le_iff_toInt_le, Int32.toInt_toInt64, i0, i1, i2, i3, i4, i7, i8, i9, i60, j0, j1, j2, j3, j7] at e0 e1); omega)⟩)) (hP.sub [] rfl) (hD.sub [] (by decide) rfl) dX9_paste_39
      ·
        rcases one_4 (k := k3) hq_2 with rfl | rfl | rfl | rfl
        ·
          refine lv_aload_n hx hb dX9_paste_17 rfl (lv_at hl 0 rfl) ?_
          refine va_get (D := D) (ci := 9) (v := .ref mMany) (C := RX9) (T := TX9) (N := 42) hx hb hts iuX9_paste_X9 hown hK hP 0 rfl rfl 38 (by decide) (htw (.fieldLink RX9 58 "MergeJudgeModel" "many" "[I") (List.mem_of_getElem? (i := 3) rfl)) (fun _ h9 => h9) rfl dX9_paste_18 ?_
          refine lv_iload_n hx hb dX9_paste_21 rfl (lv_at hl 1 rfl) ?_
          refine va_iald hx hb hK hP 1 1 rfl rfl (vp_c (by decide)) dX9_paste_22 ?_
          refine cf_v (.int (-1)) rfl ?_
          refine lv_iconst (v := (-1)) hx hb dX9_paste_23 (by decide) ?_
          refine lv_icmp_eq (tgt := 37) hx hb dX9_paste_24 (by decide) (fun _ => ?_) (fun h9 => absurd h9 (by decide))
          refine lv_bipush (v := (-6)) hx hb dX9_paste_37 (by decide) ?_
          exact ret_i hx hb hr hlk hS (Nat.le_of_ble_eq_true rfl) (Nat.le_of_ble_eq_true rfl) () (Or.inr (⟨rfl, (by have e0 := hq_1; have e1 := hq_2; (try simp only [ge_iff_le, gt_iff_lt, ne_eq, Int32.lt_iff_toInt_lt, Int32.le_iff_toInt_le, ← Int32.toInt_inj, Int64.lt_iff_toInt_lt, Int64.le_iff_toInt_le, Int32.toInt_toInt64, i0, i1, i2, i3, i4, i7, i8, i9, i60, j0, j1, j2, j3, j7] at e0 e1); omega)⟩)) (hP.sub [] rfl) (hD.sub [] (by decide) rfl) dX9_paste_39
        ·
          refine lv_aload_n hx hb dX9_paste_17 rfl (lv_at hl 0 rfl) ?_
          refine va_get (D := D) (ci := 9) (v := .ref mMany) (C := RX9) (T := TX9) (N := 42) hx hb hts iuX9_paste_X9 hown hK hP 0 rfl rfl 38 (by decide) (htw (.fieldLink RX9 58 "MergeJudgeModel" "many" "[I") (List.mem_of_getElem? (i := 3) rfl)) (fun _ h9 => h9) rfl dX9_paste_18 ?_
          refine lv_iload_n hx hb dX9_paste_21 rfl (lv_at hl 1 rfl) ?_
          refine va_iald hx hb hK hP 1 1 rfl rfl (vp_c (by decide)) dX9_paste_22 ?_
          refine cf_v (.int (-1)) rfl ?_
          refine lv_iconst (v := (-1)) hx hb dX9_paste_23 (by decide) ?_
          refine lv_icmp_eq (tgt := 37) hx hb dX9_paste_24 (by decide) (fun _ => ?_) (fun h9 => absurd h9 (by decide))
          refine lv_bipush (v := (-6)) hx hb dX9_paste_37 (by decide) ?_
          exact ret_i hx hb hr hlk hS (Nat.le_of_ble_eq_true rfl) (Nat.le_of_ble_eq_true rfl) () (Or.inr (⟨rfl, (by have e0 := hq_1; have e1 := hq_2; (try simp only [ge_iff_le, gt_iff_lt, ne_eq, Int32.lt_iff_toInt_lt, Int32.le_iff_toInt_le, ← Int32.toInt_inj, Int64.lt_iff_toInt_lt, Int64.le_iff_toInt_le, Int32.toInt_toInt64, i0, i1, i2, i3, i4, i7, i8, i9, i60, j0, j1, j2, j3, j7] at e0 e1); omega)⟩)) (hP.sub [] rfl) (hD.sub [] (by decide) rfl) dX9_paste_39
        ·
          refine lv_aload_n hx hb dX9_paste_17 rfl (lv_at hl 0 rfl) ?_
          refine va_get (D := D) (ci := 9) (v := .ref mMany) (C := RX9) (T := TX9) (N := 42) hx hb hts iuX9_paste_X9 hown hK hP 0 rfl rfl 38 (by decide) (htw (.fieldLink RX9 58 "MergeJudgeModel" "many" "[I") (List.mem_of_getElem? (i := 3) rfl)) (fun _ h9 => h9) rfl dX9_paste_18 ?_
          refine lv_iload_n hx hb dX9_paste_21 rfl (lv_at hl 1 rfl) ?_
          refine va_iald hx hb hK hP 1 1 rfl rfl (vp_c (by decide)) dX9_paste_22 ?_
          refine cf_v (.int (-1)) rfl ?_
          refine lv_iconst (v := (-1)) hx hb dX9_paste_23 (by decide) ?_
          refine lv_icmp_eq (tgt := 37) hx hb dX9_paste_24 (by decide) (fun _ => ?_) (fun h9 => absurd h9 (by decide))
          refine lv_bipush (v := (-6)) hx hb dX9_paste_37 (by decide) ?_
          exact ret_i hx hb hr hlk hS (Nat.le_of_ble_eq_true rfl) (Nat.le_of_ble_eq_true rfl) () (Or.inr (⟨rfl, (by have e0 := hq_1; have e1 := hq_2; (try simp only [ge_iff_le, gt_iff_lt, ne_eq, Int32.lt_iff_toInt_lt, Int32.le_iff_toInt_le, ← Int32.toInt_inj, Int64.lt_iff_toInt_lt, Int64.le_iff_toInt_le, Int32.toInt_toInt64, i0, i1, i2, i3, i4, i7, i8, i9, i60, j0, j1, j2, j3, j7] at e0 e1); omega)⟩)) (hP.sub [] rfl) (hD.sub [] (by decide) rfl) dX9_paste_39
        ·
          refine lv_aload_n hx hb dX9_paste_17 rfl (lv_at hl 0 rfl) ?_
          refine va_get (D := D) (ci := 9) (v := .ref mMany) (C := RX9) (T := TX9) (N := 42) hx hb hts iuX9_paste_X9 hown hK hP 0 rfl rfl 38 (by decide) (htw (.fieldLink RX9 58 "MergeJudgeModel" "many" "[I") (List.mem_of_getElem? (i := 3) rfl)) (fun _ h9 => h9) rfl dX9_paste_18 ?_
          refine lv_iload_n hx hb dX9_paste_21 rfl (lv_at hl 1 rfl) ?_
          refine va_iald hx hb hK hP 1 1 rfl rfl (vp_c (by decide)) dX9_paste_22 ?_
          refine cf_v (.int (-1)) rfl ?_
          refine lv_iconst (v := (-1)) hx hb dX9_paste_23 (by decide) ?_
          refine lv_icmp_eq (tgt := 37) hx hb dX9_paste_24 (by decide) (fun _ => ?_) (fun h9 => absurd h9 (by decide))
          refine lv_bipush (v := (-6)) hx hb dX9_paste_37 (by decide) ?_
          exact ret_i hx hb hr hlk hS (Nat.le_of_ble_eq_true rfl) (Nat.le_of_ble_eq_true rfl) () (Or.inr (⟨rfl, (by have e0 := hq_1; have e1 := hq_2; (try simp only [ge_iff_le, gt_iff_lt, ne_eq, Int32.lt_iff_toInt_lt, Int32.le_iff_toInt_le, ← Int32.toInt_inj, Int64.lt_iff_toInt_lt, Int64.le_iff_toInt_le, Int32.toInt_toInt64, i0, i1, i2, i3, i4, i7, i8, i9, i60, j0, j1, j2, j3, j7] at e0 e1); omega)⟩)) (hP.sub [] rfl) (hD.sub [] (by decide) rfl) dX9_paste_39
    ·
      refine lv_if_ne (tgt := 17) hx hb dX9_paste_11 (by decide) (fun h9 => absurd h9 (by decide)) (fun _ => ?_)
      refine lv_bipush (v := (-2)) hx hb dX9_paste_14 (by decide) ?_
      exact ret_i hx hb hr hlk hS (Nat.le_of_ble_eq_true rfl) (Nat.le_of_ble_eq_true rfl) () (Or.inl ⟨rfl, (by have e0 := hq_1; have e1 := hq_2; (try simp only [ge_iff_le, gt_iff_lt, ne_eq, Int32.lt_iff_toInt_lt, Int32.le_iff_toInt_le, ← Int32.toInt_inj, Int64.lt_iff_toInt_lt, Int64.le_iff_toInt_le, Int32.toInt_toInt64, i0, i1, i2, i3, i4, i7, i8, i9, i60, j0, j1, j2, j3, j7] at e0 e1); omega)⟩) (hP.sub [] rfl) (hD.sub [] (by decide) rfl) dX9_paste_16
  ·
    refine lv_if_eq (tgt := 14) hx hb dX9_paste_4 (by decide) (fun _ => ?_) (fun h9 => absurd h9 (by decide))
    refine lv_bipush (v := (-2)) hx hb dX9_paste_14 (by decide) ?_
    exact ret_i hx hb hr hlk hS (Nat.le_of_ble_eq_true rfl) (Nat.le_of_ble_eq_true rfl) () (Or.inl ⟨rfl, (by have e0 := hq_1; (try simp only [ge_iff_le, gt_iff_lt, ne_eq, Int32.lt_iff_toInt_lt, Int32.le_iff_toInt_le, ← Int32.toInt_inj, Int64.lt_iff_toInt_lt, Int64.le_iff_toInt_le, Int32.toInt_toInt64, i0, i1, i2, i3, i4, i7, i8, i9, i60, j0, j1, j2, j3, j7] at e0); omega)⟩) (hP.sub [] rfl) (hD.sub [] (by decide) rfl) dX9_paste_16

set_option maxHeartbeats 4000000 in
set_option maxRecDepth 100000 in
theorem k_X9_see_empty (l : Launch) (D : va_G) (cs : Nat → ClassId) (sz : Nat) (b0 : Nat) (mWorld : Nat) (mImages : Nat) (mHasImage : Nat) (mTape : Nat) (mFive : Nat) (mFresh : Nat) (mMergedBy : Nat) (mIsValid : Nat) (mGoes : Nat) (mFarNow : Nat) (mFreeNow : Nat) (mIsPair : Nat) (mHitsBy : Nat) (mWorthBy : Nat) (mMany : Nat) (mWidth : Nat) (mNumbers : Nat) (mMoving : Nat)  : Mi l D cs yX9_see W_X9_see 0 0 0 0 [.ref b0, .int 0] [(b0, .inr (9, [.int 0, .ref mWorld, .ref mImages, .ref mHasImage, .ref mTape, .int 0, .ref mFive, .int 0, .int 0, .int 0, .int 0, .int 0, .int 0, .int (-1), .ref mFresh, .ref mMergedBy, .int 0, .int 0, .int 0, .ref mIsValid, .ref mGoes, .ref mFarNow, .ref mFreeNow, .ref mIsPair, .ref mHitsBy, .int 0, .int 0, .int 0, .int 0, .int 0, .int 0, .int 0, .int 0, .int 0, .ref mWorthBy, .long 0, .long 0, .long 0, .ref mMany, .ref mWidth, .ref mNumbers, .ref mMoving]))] sz (fun (r : Int32) (u : Unit) => r = (-1)) (fun (u : Unit) => [(b0, .inr (9, [.int 0, .ref mWorld, .ref mImages, .ref mHasImage, .ref mTape, .int 0, .ref mFive, .int 0, .int 0, .int 0, .int 0, .int 0, .int 0, .int (-1), .ref mFresh, .ref mMergedBy, .int 0, .int 0, .int 0, .ref mIsValid, .ref mGoes, .ref mFarNow, .ref mFreeNow, .ref mIsPair, .ref mHitsBy, .int 0, .int 0, .int 0, .int 0, .int 0, .int 0, .int 0, .int 0, .int 0, .ref mWorthBy, .long 0, .long 0, .long 0, .ref mMany, .ref mWidth, .ref mNumbers, .ref mMoving]))]) := by
  refine ent (D := D) (cs := cs) (y := yX9_see) (ws := W_X9_see) (As := [.ref b0, .int 0]) (W0 := [(b0, .inr (9, [.int 0, .ref mWorld, .ref mImages, .ref mHasImage, .ref mTape, .int 0, .ref mFive, .int 0, .int 0, .int 0, .int 0, .int 0, .int 0, .int (-1), .ref mFresh, .ref mMergedBy, .int 0, .int 0, .int 0, .ref mIsValid, .ref mGoes, .ref mFarNow, .ref mFreeNow, .ref mIsPair, .ref mHitsBy, .int 0, .int 0, .int 0, .int 0, .int 0, .int 0, .int 0, .int 0, .int 0, .ref mWorthBy, .long 0, .long 0, .long 0, .ref mMany, .ref mWidth, .ref mNumbers, .ref mMoving]))]) (Qx := fun A => va_Qi (fun (r : Int32) (u : Unit) => r = (-1)) (mpost D A (fun (u : Unit) => [(b0, .inr (9, [.int 0, .ref mWorld, .ref mImages, .ref mHasImage, .ref mTape, .int 0, .ref mFive, .int 0, .int 0, .int 0, .int 0, .int 0, .int 0, .int (-1), .ref mFresh, .ref mMergedBy, .int 0, .int 0, .int 0, .ref mIsValid, .ref mGoes, .ref mFarNow, .ref mFreeNow, .ref mIsPair, .ref mHitsBy, .int 0, .int 0, .int 0, .int 0, .int 0, .int 0, .int 0, .int 0, .int 0, .ref mWorthBy, .long 0, .long 0, .long 0, .ref mMany, .ref mWidth, .ref mNumbers, .ref mMoving]))])) A) (maxL := 2) (ret := (some .int)) (by decide) rfl (Nat.le_of_ble_eq_true rfl) ?_
  intro p e s m below meth c A ls hx hb hr hml hlk hown hts hin hK hE hP hD hA hS hl
  have hl : lv_has ls 2 [(0, .ref b0), (1, .int 0)] := hl
  generalize hHe : s.heap = H at hP
  have hS : va_S A s.heap H [] := hHe ▸ hS
  have htw : ∀ w ∈ O_X9_see, w.before ([.ref b0, .int 0] : List Value).toArray s = true := fun w h => hts w (List.mem_cons_of_mem _ (List.mem_append_left _ h))
  have hFix := (⟨hx, hb, hml, hown, hts⟩ : CallFix p m c _ _ s _ _ _)
  refine lv_iload_n hx hb dX9_see_0 rfl (lv_at hl 1 rfl) ?_
  refine lv_aload_n hx hb dX9_see_1 rfl (lv_at hl 0 rfl) ?_
  refine va_get (D := D) (ci := 9) (v := .int 0) (C := RX9) (T := TX9) (N := 42) hx hb hts iuX9_see_X9 hown hK hP 0 rfl rfl 7 (by decide) (htw (.fieldLink RX9 102 "MergeJudgeModel" "size" "I") (List.mem_of_getElem? (i := 0) rfl)) (fun _ h9 => h9) rfl dX9_see_2 ?_
  refine lv_icmp_ge (tgt := 21) hx hb dX9_see_5 (by decide) (fun _ => ?_) (fun h9 => absurd h9 (by decide))
  refine lv_iconst (v := (-1)) hx hb dX9_see_21 (by decide) ?_
  exact ret_i hx hb hr hlk hS (Nat.le_of_ble_eq_true rfl) (Nat.le_of_ble_eq_true rfl) () (rfl) (hP.sub [0] rfl) (hD.sub [0] (by decide) rfl) dX9_see_22

set_option maxHeartbeats 4000000 in
set_option maxRecDepth 100000 in
theorem k_X9_advance_empty (l : Launch) (D : va_G) (cs : Nat → ClassId) (sz : Nat) (b0 : Nat) (mWorld : Nat) (mImages : Nat) (mHasImage : Nat) (mTape : Nat) (mFive : Nat) (mFresh : Nat) (mMergedBy : Nat) (mIsValid : Nat) (mGoes : Nat) (mFarNow : Nat) (mFreeNow : Nat) (mIsPair : Nat) (mHitsBy : Nat) (mWorthBy : Nat) (mMany : Nat) (mWidth : Nat) (mNumbers : Nat) (mMoving : Nat)  : Mv l D cs yX9_advance W_X9_advance 1 21 0 0 [.ref b0] [(b0, .inr (9, [.int 0, .ref mWorld, .ref mImages, .ref mHasImage, .ref mTape, .int 0, .ref mFive, .int 0, .int 0, .int 0, .int 0, .int 0, .int 0, .int (-1), .ref mFresh, .ref mMergedBy, .int 0, .int 0, .int 0, .ref mIsValid, .ref mGoes, .ref mFarNow, .ref mFreeNow, .ref mIsPair, .ref mHitsBy, .int 0, .int 0, .int 0, .int 0, .int 0, .int 0, .int 0, .int 0, .int 0, .ref mWorthBy, .long 0, .long 0, .long 0, .ref mMany, .ref mWidth, .ref mNumbers, .ref mMoving]))] sz (fun (u : Unit) => True) (fun (u : Unit) => [(b0, .inr (9, [.int 0, .ref mWorld, .ref mImages, .ref mHasImage, .ref mTape, .int 0, .ref mFive, .int 0, .int 0, .int 0, .int 0, .int 0, .int 0, .int (-1), .ref mFresh, .ref mMergedBy, .int 0, .int 0, .int 0, .ref mIsValid, .ref mGoes, .ref mFarNow, .ref mFreeNow, .ref mIsPair, .ref mHitsBy, .int 0, .int 0, .int 0, .int 0, .int 0, .int 0, .int 0, .int 0, .int 0, .ref mWorthBy, .long 0, .long 0, .long 0, .ref mMany, .ref mWidth, .ref mNumbers, .ref mMoving]))]) := by
  refine ent (D := D) (cs := cs) (y := yX9_advance) (ws := W_X9_advance) (As := [.ref b0]) (W0 := [(b0, .inr (9, [.int 0, .ref mWorld, .ref mImages, .ref mHasImage, .ref mTape, .int 0, .ref mFive, .int 0, .int 0, .int 0, .int 0, .int 0, .int 0, .int (-1), .ref mFresh, .ref mMergedBy, .int 0, .int 0, .int 0, .ref mIsValid, .ref mGoes, .ref mFarNow, .ref mFreeNow, .ref mIsPair, .ref mHitsBy, .int 0, .int 0, .int 0, .int 0, .int 0, .int 0, .int 0, .int 0, .int 0, .ref mWorthBy, .long 0, .long 0, .long 0, .ref mMany, .ref mWidth, .ref mNumbers, .ref mMoving]))]) (Qx := fun A => va_Qv (fun (u : Unit) => True) (mpost D A (fun (u : Unit) => [(b0, .inr (9, [.int 0, .ref mWorld, .ref mImages, .ref mHasImage, .ref mTape, .int 0, .ref mFive, .int 0, .int 0, .int 0, .int 0, .int 0, .int 0, .int (-1), .ref mFresh, .ref mMergedBy, .int 0, .int 0, .int 0, .ref mIsValid, .ref mGoes, .ref mFarNow, .ref mFreeNow, .ref mIsPair, .ref mHitsBy, .int 0, .int 0, .int 0, .int 0, .int 0, .int 0, .int 0, .int 0, .int 0, .ref mWorthBy, .long 0, .long 0, .long 0, .ref mMany, .ref mWidth, .ref mNumbers, .ref mMoving]))])) A) (maxL := 2) (ret := none) (by decide) rfl (Nat.le_of_ble_eq_true rfl) ?_
  intro p e s m below meth c A ls hx hb hr hml hlk hown hts hin hK hE hP hD hA hS hl
  have hl : lv_has ls 2 [(0, .ref b0)] := hl
  generalize hHe : s.heap = H at hP
  have hS : va_S A s.heap H [] := hHe ▸ hS
  have htw : ∀ w ∈ O_X9_advance, w.before ([.ref b0] : List Value).toArray s = true := fun w h => hts w (List.mem_cons_of_mem _ (List.mem_append_left _ h))
  have hFix := (⟨hx, hb, hml, hown, hts⟩ : CallFix p m c _ _ s _ _ _)
  refine lv_aload_n hx hb dX9_advance_0 rfl (lv_at hl 0 rfl) ?_
  refine lv_aload_n hx hb dX9_advance_1 rfl (lv_at hl 0 rfl) ?_
  refine va_get (D := D) (ci := 9) (v := .int 0) (C := RX9) (T := TX9) (N := 42) hx hb hts iuX9_advance_X9 hown hK hP 0 rfl rfl 8 (by decide) (htw (.fieldLink RX9 105 "MergeJudgeModel" "at" "I") (List.mem_of_getElem? (i := 0) rfl)) (fun _ h9 => h9) rfl dX9_advance_2 ?_
  refine aft_i (wr := []) hP hD hS hA [0] [] rfl rfl (by decide) (by decide) (run_v (As := [.int 0]) (rest := []) hFix hK hE hP hD [0] (k_X9_see_empty l D cs _ b0 mWorld mImages mHasImage mTape mFive mFresh mMergedBy mIsValid mGoes mFarNow mFreeNow mIsPair mHitsBy mWorthBy mMany mWidth mNumbers mMoving) (cwV 1 hts gc_X9_advance_108_X9_see rfl rfl rfl (by decide +kernel) ⟨Nat.le_of_ble_eq_true rfl, Nat.le_of_ble_eq_true rfl⟩) rfl (by decide) rfl rfl rfl hl.1 rfl (Nat.le_of_ble_eq_true rfl) dX9_advance_5 ⟨Nat.le_of_ble_eq_true rfl, Nat.le_of_ble_eq_true rfl⟩) (fun r_1 u_1 H locs hq_1 hP hD hS => ?_)
  have hP : va_P D vwCl [(b0, .inr (9, [.int 0, .ref mWorld, .ref mImages, .ref mHasImage, .ref mTape, .int 0, .ref mFive, .int 0, .int 0, .int 0, .int 0, .int 0, .int 0, .int (-1), .ref mFresh, .ref mMergedBy, .int 0, .int 0, .int 0, .ref mIsValid, .ref mGoes, .ref mFarNow, .ref mFreeNow, .ref mIsPair, .ref mHitsBy, .int 0, .int 0, .int 0, .int 0, .int 0, .int 0, .int 0, .int 0, .int 0, .ref mWorthBy, .long 0, .long 0, .long 0, .ref mMany, .ref mWidth, .ref mNumbers, .ref mMoving]))] H := hP
  have hD : va_D A [(b0, .inr (9, [.int 0, .ref mWorld, .ref mImages, .ref mHasImage, .ref mTape, .int 0, .ref mFive, .int 0, .int 0, .int 0, .int 0, .int 0, .int 0, .int (-1), .ref mFresh, .ref mMergedBy, .int 0, .int 0, .int 0, .ref mIsValid, .ref mGoes, .ref mFarNow, .ref mFreeNow, .ref mIsPair, .ref mHitsBy, .int 0, .int 0, .int 0, .int 0, .int 0, .int 0, .int 0, .int 0, .int 0, .ref mWorthBy, .long 0, .long 0, .long 0, .ref mMany, .ref mWidth, .ref mNumbers, .ref mMoving]))] := hD
  replace hq_1 : r_1 = (-1) := hq_1
  subst hq_1
  refine lv_bipush (v := 32) hx hb dX9_advance_8 (by decide) ?_
  refine lv_icmp_eq (tgt := 26) hx hb dX9_advance_10 (by decide) (fun h9 => absurd h9 (by decide)) (fun _ => ?_)
  refine lv_aload_n hx hb dX9_advance_13 rfl (lv_at hl 0 rfl) ?_
  refine lv_aload_n hx hb dX9_advance_14 rfl (lv_at hl 0 rfl) ?_
  refine va_get (D := D) (ci := 9) (v := .int 0) (C := RX9) (T := TX9) (N := 42) hx hb hts iuX9_advance_X9 hown hK hP 0 rfl rfl 8 (by decide) (htw (.fieldLink RX9 105 "MergeJudgeModel" "at" "I") (List.mem_of_getElem? (i := 0) rfl)) (fun _ h9 => h9) rfl dX9_advance_15 ?_
  refine aft_i (wr := []) hP hD hS hA [0] [] rfl rfl (by decide) (by decide) (run_v (As := [.int 0]) (rest := []) hFix hK hE hP hD [0] (k_X9_see_empty l D cs _ b0 mWorld mImages mHasImage mTape mFive mFresh mMergedBy mIsValid mGoes mFarNow mFreeNow mIsPair mHitsBy mWorthBy mMany mWidth mNumbers mMoving) (cwV 1 hts gc_X9_advance_108_X9_see rfl rfl rfl (by decide +kernel) ⟨Nat.le_of_ble_eq_true rfl, Nat.le_of_ble_eq_true rfl⟩) rfl (by decide) rfl rfl rfl hl.1 rfl (Nat.le_of_ble_eq_true rfl) dX9_advance_18 ⟨Nat.le_of_ble_eq_true rfl, Nat.le_of_ble_eq_true rfl⟩) (fun r_2 u_2 H locs hq_2 hP hD hS => ?_)
  have hP : va_P D vwCl [(b0, .inr (9, [.int 0, .ref mWorld, .ref mImages, .ref mHasImage, .ref mTape, .int 0, .ref mFive, .int 0, .int 0, .int 0, .int 0, .int 0, .int 0, .int (-1), .ref mFresh, .ref mMergedBy, .int 0, .int 0, .int 0, .ref mIsValid, .ref mGoes, .ref mFarNow, .ref mFreeNow, .ref mIsPair, .ref mHitsBy, .int 0, .int 0, .int 0, .int 0, .int 0, .int 0, .int 0, .int 0, .int 0, .ref mWorthBy, .long 0, .long 0, .long 0, .ref mMany, .ref mWidth, .ref mNumbers, .ref mMoving]))] H := hP
  have hD : va_D A [(b0, .inr (9, [.int 0, .ref mWorld, .ref mImages, .ref mHasImage, .ref mTape, .int 0, .ref mFive, .int 0, .int 0, .int 0, .int 0, .int 0, .int 0, .int (-1), .ref mFresh, .ref mMergedBy, .int 0, .int 0, .int 0, .ref mIsValid, .ref mGoes, .ref mFarNow, .ref mFreeNow, .ref mIsPair, .ref mHitsBy, .int 0, .int 0, .int 0, .int 0, .int 0, .int 0, .int 0, .int 0, .int 0, .ref mWorthBy, .long 0, .long 0, .long 0, .ref mMany, .ref mWidth, .ref mNumbers, .ref mMoving]))] := hD
  replace hq_2 : r_2 = (-1) := hq_2
  subst hq_2
  refine lv_bipush (v := 10) hx hb dX9_advance_21 (by decide) ?_
  refine lv_icmp_ne (tgt := 39) hx hb dX9_advance_23 (by decide) (fun _ => ?_) (fun h9 => absurd h9 (by decide))
  refine lv_aload_n hx hb dX9_advance_39 rfl (lv_at hl 0 rfl) ?_
  refine lv_aload_n hx hb dX9_advance_40 rfl (lv_at hl 0 rfl) ?_
  refine va_get (D := D) (ci := 9) (v := .int 0) (C := RX9) (T := TX9) (N := 42) hx hb hts iuX9_advance_X9 hown hK hP 0 rfl rfl 8 (by decide) (htw (.fieldLink RX9 105 "MergeJudgeModel" "at" "I") (List.mem_of_getElem? (i := 0) rfl)) (fun _ h9 => h9) rfl dX9_advance_41 ?_
  refine va_put (D := D) (ci := 9) (v := .int 0) (ty := .int) (C := RX9) (T := TX9) (N := 42) hx hb hts iuX9_advance_X9 tyX9 tyX9_ok nmX9 hown hK hP hD hS 0 rfl rfl 9 (by decide) (htw (.fieldLink RX9 112 "MergeJudgeModel" "from" "I") (List.mem_of_getElem? (i := 5) rfl)) (fun _ h9 => h9) rfl (by decide +kernel) rfl rfl (Nat.le_of_ble_eq_true rfl) dX9_advance_44 (fun H locs hP hD hS => ?_)
  have hP : va_P D vwCl [(b0, .inr (9, [.int 0, .ref mWorld, .ref mImages, .ref mHasImage, .ref mTape, .int 0, .ref mFive, .int 0, .int 0, .int 0, .int 0, .int 0, .int 0, .int (-1), .ref mFresh, .ref mMergedBy, .int 0, .int 0, .int 0, .ref mIsValid, .ref mGoes, .ref mFarNow, .ref mFreeNow, .ref mIsPair, .ref mHitsBy, .int 0, .int 0, .int 0, .int 0, .int 0, .int 0, .int 0, .int 0, .int 0, .ref mWorthBy, .long 0, .long 0, .long 0, .ref mMany, .ref mWidth, .ref mNumbers, .ref mMoving]))] H := hP
  have hD : va_D A [(b0, .inr (9, [.int 0, .ref mWorld, .ref mImages, .ref mHasImage, .ref mTape, .int 0, .ref mFive, .int 0, .int 0, .int 0, .int 0, .int 0, .int 0, .int (-1), .ref mFresh, .ref mMergedBy, .int 0, .int 0, .int 0, .ref mIsValid, .ref mGoes, .ref mFarNow, .ref mFreeNow, .ref mIsPair, .ref mHitsBy, .int 0, .int 0, .int 0, .int 0, .int 0, .int 0, .int 0, .int 0, .int 0, .ref mWorthBy, .long 0, .long 0, .long 0, .ref mMany, .ref mWidth, .ref mNumbers, .ref mMoving]))] := hD
  refine lv_aload_n hx hb dX9_advance_47 rfl (lv_at hl 0 rfl) ?_
  refine lv_aload_n hx hb dX9_advance_48 rfl (lv_at hl 0 rfl) ?_
  refine va_get (D := D) (ci := 9) (v := .int 0) (C := RX9) (T := TX9) (N := 42) hx hb hts iuX9_advance_X9 hown hK hP 0 rfl rfl 8 (by decide) (htw (.fieldLink RX9 105 "MergeJudgeModel" "at" "I") (List.mem_of_getElem? (i := 0) rfl)) (fun _ h9 => h9) rfl dX9_advance_49 ?_
  refine aft_i (wr := []) hP hD hS hA [0] [] rfl rfl (by decide) (by decide) (run_v (As := [.int 0]) (rest := []) hFix hK hE hP hD [0] (k_X9_see_empty l D cs _ b0 mWorld mImages mHasImage mTape mFive mFresh mMergedBy mIsValid mGoes mFarNow mFreeNow mIsPair mHitsBy mWorthBy mMany mWidth mNumbers mMoving) (cwV 1 hts gc_X9_advance_108_X9_see rfl rfl rfl (by decide +kernel) ⟨Nat.le_of_ble_eq_true rfl, Nat.le_of_ble_eq_true rfl⟩) rfl (by decide) rfl rfl rfl hl.1 rfl (Nat.le_of_ble_eq_true rfl) dX9_advance_52 ⟨Nat.le_of_ble_eq_true rfl, Nat.le_of_ble_eq_true rfl⟩) (fun r_3 u_3 H locs hq_3 hP hD hS => ?_)
  have hP : va_P D vwCl [(b0, .inr (9, [.int 0, .ref mWorld, .ref mImages, .ref mHasImage, .ref mTape, .int 0, .ref mFive, .int 0, .int 0, .int 0, .int 0, .int 0, .int 0, .int (-1), .ref mFresh, .ref mMergedBy, .int 0, .int 0, .int 0, .ref mIsValid, .ref mGoes, .ref mFarNow, .ref mFreeNow, .ref mIsPair, .ref mHitsBy, .int 0, .int 0, .int 0, .int 0, .int 0, .int 0, .int 0, .int 0, .int 0, .ref mWorthBy, .long 0, .long 0, .long 0, .ref mMany, .ref mWidth, .ref mNumbers, .ref mMoving]))] H := hP
  have hD : va_D A [(b0, .inr (9, [.int 0, .ref mWorld, .ref mImages, .ref mHasImage, .ref mTape, .int 0, .ref mFive, .int 0, .int 0, .int 0, .int 0, .int 0, .int 0, .int (-1), .ref mFresh, .ref mMergedBy, .int 0, .int 0, .int 0, .ref mIsValid, .ref mGoes, .ref mFarNow, .ref mFreeNow, .ref mIsPair, .ref mHitsBy, .int 0, .int 0, .int 0, .int 0, .int 0, .int 0, .int 0, .int 0, .int 0, .ref mWorthBy, .long 0, .long 0, .long 0, .ref mMany, .ref mWidth, .ref mNumbers, .ref mMoving]))] := hD
  replace hq_3 : r_3 = (-1) := hq_3
  subst hq_3
  refine lv_istore_n (lv' := [(1, .int (-1)), (0, .ref b0)]) hx hb dX9_advance_55 rfl hl (by decide) rfl (fun ls hl => ?_)
  refine lv_iload_n hx hb dX9_advance_56 rfl (lv_at hl 0 rfl) ?_
  refine lv_iconst (v := (-1)) hx hb dX9_advance_57 (by decide) ?_
  refine lv_icmp_ne (tgt := 69) hx hb dX9_advance_58 (by decide) (fun h9 => absurd h9 (by decide)) (fun _ => ?_)
  refine lv_aload_n hx hb dX9_advance_61 rfl (lv_at hl 1 rfl) ?_
  refine lv_iconst (v := 0) hx hb dX9_advance_62 (by decide) ?_
  refine va_put (D := D) (ci := 9) (v := .int 0) (ty := .int) (C := RX9) (T := TX9) (N := 42) hx hb hts iuX9_advance_X9 tyX9 tyX9_ok nmX9 hown hK hP hD hS 0 rfl rfl 10 (by decide) (htw (.fieldLink RX9 115 "MergeJudgeModel" "token" "I") (List.mem_of_getElem? (i := 6) rfl)) (fun _ h9 => h9) rfl (by decide +kernel) rfl rfl (Nat.le_of_ble_eq_true rfl) dX9_advance_63 (fun H locs hP hD hS => ?_)
  have hP : va_P D vwCl [(b0, .inr (9, [.int 0, .ref mWorld, .ref mImages, .ref mHasImage, .ref mTape, .int 0, .ref mFive, .int 0, .int 0, .int 0, .int 0, .int 0, .int 0, .int (-1), .ref mFresh, .ref mMergedBy, .int 0, .int 0, .int 0, .ref mIsValid, .ref mGoes, .ref mFarNow, .ref mFreeNow, .ref mIsPair, .ref mHitsBy, .int 0, .int 0, .int 0, .int 0, .int 0, .int 0, .int 0, .int 0, .int 0, .ref mWorthBy, .long 0, .long 0, .long 0, .ref mMany, .ref mWidth, .ref mNumbers, .ref mMoving]))] H := hP
  have hD : va_D A [(b0, .inr (9, [.int 0, .ref mWorld, .ref mImages, .ref mHasImage, .ref mTape, .int 0, .ref mFive, .int 0, .int 0, .int 0, .int 0, .int 0, .int 0, .int (-1), .ref mFresh, .ref mMergedBy, .int 0, .int 0, .int 0, .ref mIsValid, .ref mGoes, .ref mFarNow, .ref mFreeNow, .ref mIsPair, .ref mHitsBy, .int 0, .int 0, .int 0, .int 0, .int 0, .int 0, .int 0, .int 0, .int 0, .ref mWorthBy, .long 0, .long 0, .long 0, .ref mMany, .ref mWidth, .ref mNumbers, .ref mMoving]))] := hD
  refine lv_goto (tgt := 239) hx hb dX9_advance_66 (by decide) ?_
  exact ret_v hx hb hr hlk hS (Nat.le_of_ble_eq_true rfl) (Nat.le_of_ble_eq_true rfl) () (trivial) (hP.sub [0] rfl) (hD.sub [0] (by decide) rfl) dX9_advance_239

set_option maxHeartbeats 4000000 in
set_option maxRecDepth 100000 in
theorem k_X9_good_empty (l : Launch) (D : va_G) (cs : Nat → ClassId) (sz : Nat) (b0 : Nat) (mWorld : Nat) (mImages : Nat) (mHasImage : Nat) (mTape : Nat) (mFive : Nat) (mFresh : Nat) (mMergedBy : Nat) (mIsValid : Nat) (mGoes : Nat) (mFarNow : Nat) (mFreeNow : Nat) (mIsPair : Nat) (mHitsBy : Nat) (mWorthBy : Nat) (mMany : Nat) (mWidth : Nat) (mNumbers : Nat) (mMoving : Nat)  : Mi l D cs yX9_good W_X9_good 0 0 0 0 [.ref b0] [(b0, .inr (9, [.int 0, .ref mWorld, .ref mImages, .ref mHasImage, .ref mTape, .int 0, .ref mFive, .int 0, .int 0, .int 0, .int 0, .int 0, .int 0, .int (-1), .ref mFresh, .ref mMergedBy, .int 0, .int 0, .int 0, .ref mIsValid, .ref mGoes, .ref mFarNow, .ref mFreeNow, .ref mIsPair, .ref mHitsBy, .int 0, .int 0, .int 0, .int 0, .int 0, .int 0, .int 0, .int 0, .int 0, .ref mWorthBy, .long 0, .long 0, .long 0, .ref mMany, .ref mWidth, .ref mNumbers, .ref mMoving]))] sz (fun (r : Int32) (u : Unit) => r = 1) (fun (u : Unit) => [(b0, .inr (9, [.int 0, .ref mWorld, .ref mImages, .ref mHasImage, .ref mTape, .int 0, .ref mFive, .int 0, .int 0, .int 0, .int 0, .int 0, .int 0, .int (-1), .ref mFresh, .ref mMergedBy, .int 0, .int 0, .int 0, .ref mIsValid, .ref mGoes, .ref mFarNow, .ref mFreeNow, .ref mIsPair, .ref mHitsBy, .int 0, .int 0, .int 0, .int 0, .int 0, .int 0, .int 0, .int 0, .int 0, .ref mWorthBy, .long 0, .long 0, .long 0, .ref mMany, .ref mWidth, .ref mNumbers, .ref mMoving]))]) := by
  refine ent (D := D) (cs := cs) (y := yX9_good) (ws := W_X9_good) (As := [.ref b0]) (W0 := [(b0, .inr (9, [.int 0, .ref mWorld, .ref mImages, .ref mHasImage, .ref mTape, .int 0, .ref mFive, .int 0, .int 0, .int 0, .int 0, .int 0, .int 0, .int (-1), .ref mFresh, .ref mMergedBy, .int 0, .int 0, .int 0, .ref mIsValid, .ref mGoes, .ref mFarNow, .ref mFreeNow, .ref mIsPair, .ref mHitsBy, .int 0, .int 0, .int 0, .int 0, .int 0, .int 0, .int 0, .int 0, .int 0, .ref mWorthBy, .long 0, .long 0, .long 0, .ref mMany, .ref mWidth, .ref mNumbers, .ref mMoving]))]) (Qx := fun A => va_Qi (fun (r : Int32) (u : Unit) => r = 1) (mpost D A (fun (u : Unit) => [(b0, .inr (9, [.int 0, .ref mWorld, .ref mImages, .ref mHasImage, .ref mTape, .int 0, .ref mFive, .int 0, .int 0, .int 0, .int 0, .int 0, .int 0, .int (-1), .ref mFresh, .ref mMergedBy, .int 0, .int 0, .int 0, .ref mIsValid, .ref mGoes, .ref mFarNow, .ref mFreeNow, .ref mIsPair, .ref mHitsBy, .int 0, .int 0, .int 0, .int 0, .int 0, .int 0, .int 0, .int 0, .int 0, .ref mWorthBy, .long 0, .long 0, .long 0, .ref mMany, .ref mWidth, .ref mNumbers, .ref mMoving]))])) A) (maxL := 1) (ret := (some .boolean)) (by decide) rfl (Nat.le_of_ble_eq_true rfl) ?_
  intro p e s m below meth c A ls hx hb hr hml hlk hown hts hin hK hE hP hD hA hS hl
  have hl : lv_has ls 1 [(0, .ref b0)] := hl
  generalize hHe : s.heap = H at hP
  have hS : va_S A s.heap H [] := hHe ▸ hS
  have htw : ∀ w ∈ O_X9_good, w.before ([.ref b0] : List Value).toArray s = true := fun w h => hts w (List.mem_cons_of_mem _ (List.mem_append_left _ h))
  have hFix := (⟨hx, hb, hml, hown, hts⟩ : CallFix p m c _ _ s _ _ _)
  refine lv_aload_n hx hb dX9_good_0 rfl (lv_at hl 0 rfl) ?_
  refine va_get (D := D) (ci := 9) (v := .int 0) (C := RX9) (T := TX9) (N := 42) hx hb hts iuX9_good_X9 hown hK hP 0 rfl rfl 12 (by decide) (htw (.fieldLink RX9 136 "MergeJudgeModel" "faultKind" "I") (List.mem_of_getElem? (i := 0) rfl)) (fun _ h9 => h9) rfl dX9_good_1 ?_
  refine lv_if_ne (tgt := 11) hx hb dX9_good_4 (by decide) (fun h9 => absurd h9 (by decide)) (fun _ => ?_)
  refine lv_iconst (v := 1) hx hb dX9_good_7 (by decide) ?_
  refine lv_goto (tgt := 12) hx hb dX9_good_8 (by decide) ?_
  exact ret_z hx hb hr hlk hS (Nat.le_of_ble_eq_true rfl) (Nat.le_of_ble_eq_true rfl) (by decide) () (rfl) (hP.sub [0] rfl) (hD.sub [0] (by decide) rfl) dX9_good_12

set_option maxHeartbeats 4000000 in
set_option maxRecDepth 100000 in
theorem k_X9_base (l : Launch) (D : va_G) (cs : Nat → ClassId) (sz : Nat) (b0 : Nat) (mWorld : Nat) (mImages : Nat) (mHasImage : Nat) (mTape : Nat) (mFive : Nat) (mFresh : Nat) (mMergedBy : Nat) (mIsValid : Nat) (mGoes : Nat) (mFarNow : Nat) (mFreeNow : Nat) (mIsPair : Nat) (mHitsBy : Nat) (mWorthBy : Nat) (mMany : Nat) (mWidth : Nat) (mNumbers : Nat) (mMoving : Nat)  : Mi l D cs yX9_base W_X9_base 2 42 0 0 [.ref b0] [(b0, .inr (9, [.int 0, .ref mWorld, .ref mImages, .ref mHasImage, .ref mTape, .int 0, .ref mFive, .int 0, .int 0, .int 0, .int 0, .int 0, .int 0, .int (-1), .ref mFresh, .ref mMergedBy, .int 0, .int 0, .int 0, .ref mIsValid, .ref mGoes, .ref mFarNow, .ref mFreeNow, .ref mIsPair, .ref mHitsBy, .int 0, .int 0, .int 0, .int 0, .int 0, .int 0, .int 0, .int 0, .int 0, .ref mWorthBy, .long 0, .long 0, .long 0, .ref mMany, .ref mWidth, .ref mNumbers, .ref mMoving])), (mFresh, .inl (cs 1, 76, .inl (fun _ => 0))), (mWorld, .inl (cs 1, 76, .inl (fun _ => 0)))] sz (fun (r : Int32) (u : Unit) => r = 0) (fun (u : Unit) => []) := by
  refine ent (D := D) (cs := cs) (y := yX9_base) (ws := W_X9_base) (As := [.ref b0]) (W0 := [(b0, .inr (9, [.int 0, .ref mWorld, .ref mImages, .ref mHasImage, .ref mTape, .int 0, .ref mFive, .int 0, .int 0, .int 0, .int 0, .int 0, .int 0, .int (-1), .ref mFresh, .ref mMergedBy, .int 0, .int 0, .int 0, .ref mIsValid, .ref mGoes, .ref mFarNow, .ref mFreeNow, .ref mIsPair, .ref mHitsBy, .int 0, .int 0, .int 0, .int 0, .int 0, .int 0, .int 0, .int 0, .int 0, .ref mWorthBy, .long 0, .long 0, .long 0, .ref mMany, .ref mWidth, .ref mNumbers, .ref mMoving])), (mFresh, .inl (cs 1, 76, .inl (fun _ => 0))), (mWorld, .inl (cs 1, 76, .inl (fun _ => 0)))]) (Qx := fun A => va_Qi (fun (r : Int32) (u : Unit) => r = 0) (mpost D A (fun (u : Unit) => [])) A) (maxL := 2) (ret := (some .int)) (by decide) rfl (Nat.le_of_ble_eq_true rfl) ?_
  intro p e s m below meth c A ls hx hb hr hml hlk hown hts hin hK hE hP hD hA hS hl
  have hl : lv_has ls 2 [(0, .ref b0)] := hl
  generalize hHe : s.heap = H at hP
  have hS : va_S A s.heap H [] := hHe ▸ hS
  have htw : ∀ w ∈ O_X9_base, w.before ([.ref b0] : List Value).toArray s = true := fun w h => hts w (List.mem_cons_of_mem _ (List.mem_append_left _ h))
  have hFix := (⟨hx, hb, hml, hown, hts⟩ : CallFix p m c _ _ s _ _ _)
  refine lv_aload_n hx hb dX9_base_0 rfl (lv_at hl 0 rfl) ?_
  refine lv_aload_n hx hb dX9_base_1 rfl (lv_at hl 0 rfl) ?_
  refine va_get (D := D) (ci := 9) (v := .int 0) (C := RX9) (T := TX9) (N := 42) hx hb hts iuX9_base_X9 hown hK hP 0 rfl rfl 5 (by decide) (htw (.fieldLink RX9 99 "MergeJudgeModel" "taped" "I") (List.mem_of_getElem? (i := 0) rfl)) (fun _ h9 => h9) rfl dX9_base_2 ?_
  refine va_put (D := D) (ci := 9) (v := .int 0) (ty := .int) (C := RX9) (T := TX9) (N := 42) hx hb hts iuX9_base_X9 tyX9 tyX9_ok nmX9 hown hK hP hD hS 0 rfl rfl 7 (by decide) (htw (.fieldLink RX9 102 "MergeJudgeModel" "size" "I") (List.mem_of_getElem? (i := 1) rfl)) (fun _ h9 => h9) rfl (by decide +kernel) rfl rfl (Nat.le_of_ble_eq_true rfl) dX9_base_5 (fun H locs hP hD hS => ?_)
  have hP : va_P D vwCl [(b0, .inr (9, [.int 0, .ref mWorld, .ref mImages, .ref mHasImage, .ref mTape, .int 0, .ref mFive, .int 0, .int 0, .int 0, .int 0, .int 0, .int 0, .int (-1), .ref mFresh, .ref mMergedBy, .int 0, .int 0, .int 0, .ref mIsValid, .ref mGoes, .ref mFarNow, .ref mFreeNow, .ref mIsPair, .ref mHitsBy, .int 0, .int 0, .int 0, .int 0, .int 0, .int 0, .int 0, .int 0, .int 0, .ref mWorthBy, .long 0, .long 0, .long 0, .ref mMany, .ref mWidth, .ref mNumbers, .ref mMoving])), (mFresh, .inl (cs 1, 76, .inl (fun _ => 0))), (mWorld, .inl (cs 1, 76, .inl (fun _ => 0)))] H := hP
  have hD : va_D A [(b0, .inr (9, [.int 0, .ref mWorld, .ref mImages, .ref mHasImage, .ref mTape, .int 0, .ref mFive, .int 0, .int 0, .int 0, .int 0, .int 0, .int 0, .int (-1), .ref mFresh, .ref mMergedBy, .int 0, .int 0, .int 0, .ref mIsValid, .ref mGoes, .ref mFarNow, .ref mFreeNow, .ref mIsPair, .ref mHitsBy, .int 0, .int 0, .int 0, .int 0, .int 0, .int 0, .int 0, .int 0, .int 0, .ref mWorthBy, .long 0, .long 0, .long 0, .ref mMany, .ref mWidth, .ref mNumbers, .ref mMoving])), (mFresh, .inl (cs 1, 76, .inl (fun _ => 0))), (mWorld, .inl (cs 1, 76, .inl (fun _ => 0)))] := hD
  refine lv_aload_n hx hb dX9_base_8 rfl (lv_at hl 0 rfl) ?_
  refine lv_iconst (v := 0) hx hb dX9_base_9 (by decide) ?_
  refine va_put (D := D) (ci := 9) (v := .int 0) (ty := .int) (C := RX9) (T := TX9) (N := 42) hx hb hts iuX9_base_X9 tyX9 tyX9_ok nmX9 hown hK hP hD hS 0 rfl rfl 5 (by decide) (htw (.fieldLink RX9 99 "MergeJudgeModel" "taped" "I") (List.mem_of_getElem? (i := 0) rfl)) (fun _ h9 => h9) rfl (by decide +kernel) rfl rfl (Nat.le_of_ble_eq_true rfl) dX9_base_10 (fun H locs hP hD hS => ?_)
  have hP : va_P D vwCl [(b0, .inr (9, [.int 0, .ref mWorld, .ref mImages, .ref mHasImage, .ref mTape, .int 0, .ref mFive, .int 0, .int 0, .int 0, .int 0, .int 0, .int 0, .int (-1), .ref mFresh, .ref mMergedBy, .int 0, .int 0, .int 0, .ref mIsValid, .ref mGoes, .ref mFarNow, .ref mFreeNow, .ref mIsPair, .ref mHitsBy, .int 0, .int 0, .int 0, .int 0, .int 0, .int 0, .int 0, .int 0, .int 0, .ref mWorthBy, .long 0, .long 0, .long 0, .ref mMany, .ref mWidth, .ref mNumbers, .ref mMoving])), (mFresh, .inl (cs 1, 76, .inl (fun _ => 0))), (mWorld, .inl (cs 1, 76, .inl (fun _ => 0)))] H := hP
  have hD : va_D A [(b0, .inr (9, [.int 0, .ref mWorld, .ref mImages, .ref mHasImage, .ref mTape, .int 0, .ref mFive, .int 0, .int 0, .int 0, .int 0, .int 0, .int 0, .int (-1), .ref mFresh, .ref mMergedBy, .int 0, .int 0, .int 0, .ref mIsValid, .ref mGoes, .ref mFarNow, .ref mFreeNow, .ref mIsPair, .ref mHitsBy, .int 0, .int 0, .int 0, .int 0, .int 0, .int 0, .int 0, .int 0, .int 0, .ref mWorthBy, .long 0, .long 0, .long 0, .ref mMany, .ref mWidth, .ref mNumbers, .ref mMoving])), (mFresh, .inl (cs 1, 76, .inl (fun _ => 0))), (mWorld, .inl (cs 1, 76, .inl (fun _ => 0)))] := hD
  refine lv_aload_n hx hb dX9_base_13 rfl (lv_at hl 0 rfl) ?_
  refine lv_iconst (v := 0) hx hb dX9_base_14 (by decide) ?_
  refine va_put (D := D) (ci := 9) (v := .int 0) (ty := .int) (C := RX9) (T := TX9) (N := 42) hx hb hts iuX9_base_X9 tyX9 tyX9_ok nmX9 hown hK hP hD hS 0 rfl rfl 8 (by decide) (htw (.fieldLink RX9 105 "MergeJudgeModel" "at" "I") (List.mem_of_getElem? (i := 2) rfl)) (fun _ h9 => h9) rfl (by decide +kernel) rfl rfl (Nat.le_of_ble_eq_true rfl) dX9_base_15 (fun H locs hP hD hS => ?_)
  have hP : va_P D vwCl [(b0, .inr (9, [.int 0, .ref mWorld, .ref mImages, .ref mHasImage, .ref mTape, .int 0, .ref mFive, .int 0, .int 0, .int 0, .int 0, .int 0, .int 0, .int (-1), .ref mFresh, .ref mMergedBy, .int 0, .int 0, .int 0, .ref mIsValid, .ref mGoes, .ref mFarNow, .ref mFreeNow, .ref mIsPair, .ref mHitsBy, .int 0, .int 0, .int 0, .int 0, .int 0, .int 0, .int 0, .int 0, .int 0, .ref mWorthBy, .long 0, .long 0, .long 0, .ref mMany, .ref mWidth, .ref mNumbers, .ref mMoving])), (mFresh, .inl (cs 1, 76, .inl (fun _ => 0))), (mWorld, .inl (cs 1, 76, .inl (fun _ => 0)))] H := hP
  have hD : va_D A [(b0, .inr (9, [.int 0, .ref mWorld, .ref mImages, .ref mHasImage, .ref mTape, .int 0, .ref mFive, .int 0, .int 0, .int 0, .int 0, .int 0, .int 0, .int (-1), .ref mFresh, .ref mMergedBy, .int 0, .int 0, .int 0, .ref mIsValid, .ref mGoes, .ref mFarNow, .ref mFreeNow, .ref mIsPair, .ref mHitsBy, .int 0, .int 0, .int 0, .int 0, .int 0, .int 0, .int 0, .int 0, .int 0, .ref mWorthBy, .long 0, .long 0, .long 0, .ref mMany, .ref mWidth, .ref mNumbers, .ref mMoving])), (mFresh, .inl (cs 1, 76, .inl (fun _ => 0))), (mWorld, .inl (cs 1, 76, .inl (fun _ => 0)))] := hD
  refine lv_aload_n hx hb dX9_base_18 rfl (lv_at hl 0 rfl) ?_
  refine lv_iconst (v := 0) hx hb dX9_base_19 (by decide) ?_
  refine va_put (D := D) (ci := 9) (v := .int 0) (ty := .int) (C := RX9) (T := TX9) (N := 42) hx hb hts iuX9_base_X9 tyX9 tyX9_ok nmX9 hown hK hP hD hS 0 rfl rfl 12 (by decide) (htw (.fieldLink RX9 136 "MergeJudgeModel" "faultKind" "I") (List.mem_of_getElem? (i := 3) rfl)) (fun _ h9 => h9) rfl (by decide +kernel) rfl rfl (Nat.le_of_ble_eq_true rfl) dX9_base_20 (fun H locs hP hD hS => ?_)
  have hP : va_P D vwCl [(b0, .inr (9, [.int 0, .ref mWorld, .ref mImages, .ref mHasImage, .ref mTape, .int 0, .ref mFive, .int 0, .int 0, .int 0, .int 0, .int 0, .int 0, .int (-1), .ref mFresh, .ref mMergedBy, .int 0, .int 0, .int 0, .ref mIsValid, .ref mGoes, .ref mFarNow, .ref mFreeNow, .ref mIsPair, .ref mHitsBy, .int 0, .int 0, .int 0, .int 0, .int 0, .int 0, .int 0, .int 0, .int 0, .ref mWorthBy, .long 0, .long 0, .long 0, .ref mMany, .ref mWidth, .ref mNumbers, .ref mMoving])), (mFresh, .inl (cs 1, 76, .inl (fun _ => 0))), (mWorld, .inl (cs 1, 76, .inl (fun _ => 0)))] H := hP
  have hD : va_D A [(b0, .inr (9, [.int 0, .ref mWorld, .ref mImages, .ref mHasImage, .ref mTape, .int 0, .ref mFive, .int 0, .int 0, .int 0, .int 0, .int 0, .int 0, .int (-1), .ref mFresh, .ref mMergedBy, .int 0, .int 0, .int 0, .ref mIsValid, .ref mGoes, .ref mFarNow, .ref mFreeNow, .ref mIsPair, .ref mHitsBy, .int 0, .int 0, .int 0, .int 0, .int 0, .int 0, .int 0, .int 0, .int 0, .ref mWorthBy, .long 0, .long 0, .long 0, .ref mMany, .ref mWidth, .ref mNumbers, .ref mMoving])), (mFresh, .inl (cs 1, 76, .inl (fun _ => 0))), (mWorld, .inl (cs 1, 76, .inl (fun _ => 0)))] := hD
  refine lv_aload_n hx hb dX9_base_23 rfl (lv_at hl 0 rfl) ?_
  refine lv_iconst (v := (-1)) hx hb dX9_base_24 (by decide) ?_
  refine va_put (D := D) (ci := 9) (v := .int (-1)) (ty := .int) (C := RX9) (T := TX9) (N := 42) hx hb hts iuX9_base_X9 tyX9 tyX9_ok nmX9 hown hK hP hD hS 0 rfl rfl 13 (by decide) (htw (.fieldLink RX9 27 "MergeJudgeModel" "faultPlace" "I") (List.mem_of_getElem? (i := 4) rfl)) (fun _ h9 => h9) rfl (by decide +kernel) rfl rfl (Nat.le_of_ble_eq_true rfl) dX9_base_25 (fun H locs hP hD hS => ?_)
  have hP : va_P D vwCl [(b0, .inr (9, [.int 0, .ref mWorld, .ref mImages, .ref mHasImage, .ref mTape, .int 0, .ref mFive, .int 0, .int 0, .int 0, .int 0, .int 0, .int 0, .int (-1), .ref mFresh, .ref mMergedBy, .int 0, .int 0, .int 0, .ref mIsValid, .ref mGoes, .ref mFarNow, .ref mFreeNow, .ref mIsPair, .ref mHitsBy, .int 0, .int 0, .int 0, .int 0, .int 0, .int 0, .int 0, .int 0, .int 0, .ref mWorthBy, .long 0, .long 0, .long 0, .ref mMany, .ref mWidth, .ref mNumbers, .ref mMoving])), (mFresh, .inl (cs 1, 76, .inl (fun _ => 0))), (mWorld, .inl (cs 1, 76, .inl (fun _ => 0)))] H := hP
  have hD : va_D A [(b0, .inr (9, [.int 0, .ref mWorld, .ref mImages, .ref mHasImage, .ref mTape, .int 0, .ref mFive, .int 0, .int 0, .int 0, .int 0, .int 0, .int 0, .int (-1), .ref mFresh, .ref mMergedBy, .int 0, .int 0, .int 0, .ref mIsValid, .ref mGoes, .ref mFarNow, .ref mFreeNow, .ref mIsPair, .ref mHitsBy, .int 0, .int 0, .int 0, .int 0, .int 0, .int 0, .int 0, .int 0, .int 0, .ref mWorthBy, .long 0, .long 0, .long 0, .ref mMany, .ref mWidth, .ref mNumbers, .ref mMoving])), (mFresh, .inl (cs 1, 76, .inl (fun _ => 0))), (mWorld, .inl (cs 1, 76, .inl (fun _ => 0)))] := hD
  refine lv_iconst (v := 0) hx hb dX9_base_28 (by decide) ?_
  refine lv_istore_n (lv' := [(1, .int 0), (0, .ref b0)]) hx hb dX9_base_29 rfl hl (by decide) rfl (fun ls hl => ?_)
  have lp_1 : ∀ (nfu : Nat) (i : Nat) (f0 : Nat → Int32) (H : Heap) (locs : List Loc) (ls : Array Slot) (hi : i ≤ 76) (hf : ∀ j, f0 j = 0), 76 - i < nfu → va_P D vwCl [(b0, .inr (9, [.int 0, .ref mWorld, .ref mImages, .ref mHasImage, .ref mTape, .int 0, .ref mFive, .int 0, .int 0, .int 0, .int 0, .int 0, .int 0, .int (-1), .ref mFresh, .ref mMergedBy, .int 0, .int 0, .int 0, .ref mIsValid, .ref mGoes, .ref mFarNow, .ref mFreeNow, .ref mIsPair, .ref mHitsBy, .int 0, .int 0, .int 0, .int 0, .int 0, .int 0, .int 0, .int 0, .int 0, .ref mWorthBy, .long 0, .long 0, .long 0, .ref mMany, .ref mWidth, .ref mNumbers, .ref mMoving])), (mFresh, .inl (cs 1, 76, .inl f0)), (mWorld, .inl (cs 1, 76, .inl (fun _ => 0)))] H → va_D A [(b0, .inr (9, [.int 0, .ref mWorld, .ref mImages, .ref mHasImage, .ref mTape, .int 0, .ref mFive, .int 0, .int 0, .int 0, .int 0, .int 0, .int 0, .int (-1), .ref mFresh, .ref mMergedBy, .int 0, .int 0, .int 0, .ref mIsValid, .ref mGoes, .ref mFarNow, .ref mFreeNow, .ref mIsPair, .ref mHitsBy, .int 0, .int 0, .int 0, .int 0, .int 0, .int 0, .int 0, .int 0, .int 0, .ref mWorthBy, .long 0, .long 0, .long 0, .ref mMany, .ref mWidth, .ref mNumbers, .ref mMoving])), (mFresh, .inl (cs 1, 76, .inl f0)), (mWorld, .inl (cs 1, 76, .inl (fun _ => 0)))] → va_S A s.heap H locs → lv_has ls 2 [(1, .int (nI i)), (0, .ref b0)] → W p l e (mRm 2 0 0 42) s m ([.ref b0] : List Value).toArray below meth c H locs 0 0 (MQ below (va_Qi (fun (r : Int32) (u : Unit) => r = 0) (mpost D A (fun (u : Unit) => [])) A) ([.ref b0] : List Value).toArray s 0 0 A) (F0 m 30 ls []) := by
    intro nfu
    induction nfu with
    | zero => intro i f0 H locs ls hi hf hmu; exact absurd hmu (Nat.not_lt_zero _)
    | succ nfu ih =>
      intro i f0 H locs ls hi hf hmu hP hD hS hl
      have ih_lp_1 := @ih
      refine lv_iload_n hx hb dX9_base_30 rfl (lv_at hl 0 rfl) ?_
      refine lv_bipush (v := 76) hx hb dX9_base_31 (by decide) ?_
      refine lv_icmp_ge (tgt := 49) hx hb dX9_base_33 (by decide) (fun c_2 => ?_) (fun c_2 => ?_)
      ·
        have hn_2 := bge_t (a := i) (b := 76) c_2 (by omega) (by omega)
        refine lv_aload_n hx hb dX9_base_49 rfl (lv_at hl 1 rfl) ?_
        refine aft_v (wr := [(mFresh, .inl (cs 1, 76, .inl f0)), (mWorld, .inl (cs 1, 76, .inl (fun _ => 0)))]) hP hD hS hA [0] [1, 2] rfl rfl (by decide) (by decide) (run_v (As := []) (rest := []) hFix hK hE hP hD [0] (k_X9_advance_empty l D cs _ b0 mWorld mImages mHasImage mTape mFive mFresh mMergedBy mIsValid mGoes mFarNow mFreeNow mIsPair mHitsBy mWorthBy mMany mWidth mNumbers mMoving) (cwV 0 hts gc_X9_base_155_X9_advance rfl rfl rfl (by decide +kernel) ⟨Nat.le_of_ble_eq_true rfl, Nat.le_of_ble_eq_true rfl⟩) rfl (by decide) rfl rfl rfl hl.1 rfl (Nat.le_of_ble_eq_true rfl) dX9_base_50 ⟨Nat.le_of_ble_eq_true rfl, Nat.le_of_ble_eq_true rfl⟩) (fun u_3 H locs hq_3 hP hD hS => ?_)
        have hP : va_P D vwCl [(mFresh, .inl (cs 1, 76, .inl f0)), (mWorld, .inl (cs 1, 76, .inl (fun _ => 0))), (b0, .inr (9, [.int 0, .ref mWorld, .ref mImages, .ref mHasImage, .ref mTape, .int 0, .ref mFive, .int 0, .int 0, .int 0, .int 0, .int 0, .int 0, .int (-1), .ref mFresh, .ref mMergedBy, .int 0, .int 0, .int 0, .ref mIsValid, .ref mGoes, .ref mFarNow, .ref mFreeNow, .ref mIsPair, .ref mHitsBy, .int 0, .int 0, .int 0, .int 0, .int 0, .int 0, .int 0, .int 0, .int 0, .ref mWorthBy, .long 0, .long 0, .long 0, .ref mMany, .ref mWidth, .ref mNumbers, .ref mMoving]))] H := hP
        have hD : va_D A [(mFresh, .inl (cs 1, 76, .inl f0)), (mWorld, .inl (cs 1, 76, .inl (fun _ => 0))), (b0, .inr (9, [.int 0, .ref mWorld, .ref mImages, .ref mHasImage, .ref mTape, .int 0, .ref mFive, .int 0, .int 0, .int 0, .int 0, .int 0, .int 0, .int (-1), .ref mFresh, .ref mMergedBy, .int 0, .int 0, .int 0, .ref mIsValid, .ref mGoes, .ref mFarNow, .ref mFreeNow, .ref mIsPair, .ref mHitsBy, .int 0, .int 0, .int 0, .int 0, .int 0, .int 0, .int 0, .int 0, .int 0, .ref mWorthBy, .long 0, .long 0, .long 0, .ref mMany, .ref mWidth, .ref mNumbers, .ref mMoving]))] := hD
        refine lv_aload_n hx hb dX9_base_53 rfl (lv_at hl 1 rfl) ?_
        refine aft_i (wr := [(mFresh, .inl (cs 1, 76, .inl f0)), (mWorld, .inl (cs 1, 76, .inl (fun _ => 0)))]) hP hD hS hA [2] [0, 1] rfl rfl (by decide) (by decide) (run_v (As := []) (rest := []) hFix hK hE hP hD [2] (k_X9_good_empty l D cs _ b0 mWorld mImages mHasImage mTape mFive mFresh mMergedBy mIsValid mGoes mFarNow mFreeNow mIsPair mHitsBy mWorthBy mMany mWidth mNumbers mMoving) (cwV 0 hts gc_X9_base_139_X9_good rfl rfl rfl (by decide +kernel) ⟨Nat.le_of_ble_eq_true rfl, Nat.le_of_ble_eq_true rfl⟩) rfl (by decide) rfl rfl rfl hl.1 rfl (Nat.le_of_ble_eq_true rfl) dX9_base_54 ⟨Nat.le_of_ble_eq_true rfl, Nat.le_of_ble_eq_true rfl⟩) (fun r_4 u_4 H locs hq_4 hP hD hS => ?_)
        have hP : va_P D vwCl [(mFresh, .inl (cs 1, 76, .inl f0)), (mWorld, .inl (cs 1, 76, .inl (fun _ => 0))), (b0, .inr (9, [.int 0, .ref mWorld, .ref mImages, .ref mHasImage, .ref mTape, .int 0, .ref mFive, .int 0, .int 0, .int 0, .int 0, .int 0, .int 0, .int (-1), .ref mFresh, .ref mMergedBy, .int 0, .int 0, .int 0, .ref mIsValid, .ref mGoes, .ref mFarNow, .ref mFreeNow, .ref mIsPair, .ref mHitsBy, .int 0, .int 0, .int 0, .int 0, .int 0, .int 0, .int 0, .int 0, .int 0, .ref mWorthBy, .long 0, .long 0, .long 0, .ref mMany, .ref mWidth, .ref mNumbers, .ref mMoving]))] H := hP
        have hD : va_D A [(mFresh, .inl (cs 1, 76, .inl f0)), (mWorld, .inl (cs 1, 76, .inl (fun _ => 0))), (b0, .inr (9, [.int 0, .ref mWorld, .ref mImages, .ref mHasImage, .ref mTape, .int 0, .ref mFive, .int 0, .int 0, .int 0, .int 0, .int 0, .int 0, .int (-1), .ref mFresh, .ref mMergedBy, .int 0, .int 0, .int 0, .ref mIsValid, .ref mGoes, .ref mFarNow, .ref mFreeNow, .ref mIsPair, .ref mHitsBy, .int 0, .int 0, .int 0, .int 0, .int 0, .int 0, .int 0, .int 0, .int 0, .ref mWorthBy, .long 0, .long 0, .long 0, .ref mMany, .ref mWidth, .ref mNumbers, .ref mMoving]))] := hD
        replace hq_4 : r_4 = 1 := hq_4
        subst hq_4
        refine lv_if_eq (tgt := 74) hx hb dX9_base_57 (by decide) (fun h9 => absurd h9 (by decide)) (fun _ => ?_)
        refine lv_aload_n hx hb dX9_base_60 rfl (lv_at hl 1 rfl) ?_
        refine va_get (D := D) (ci := 9) (v := .int 0) (C := RX9) (T := TX9) (N := 42) hx hb hts iuX9_base_X9 hown hK hP 2 rfl rfl 10 (by decide) (htw (.fieldLink RX9 115 "MergeJudgeModel" "token" "I") (List.mem_of_getElem? (i := 13) rfl)) (fun _ h9 => h9) rfl dX9_base_61 ?_
        refine lv_if_eq (tgt := 74) hx hb dX9_base_64 (by decide) (fun _ => ?_) (fun h9 => absurd h9 (by decide))
        refine lv_aload_n hx hb dX9_base_74 rfl (lv_at hl 1 rfl) ?_
        refine aft_i (wr := [(mFresh, .inl (cs 1, 76, .inl f0)), (mWorld, .inl (cs 1, 76, .inl (fun _ => 0)))]) hP hD hS hA [2] [0, 1] rfl rfl (by decide) (by decide) (run_v (As := []) (rest := []) hFix hK hE hP hD [2] (k_X9_good_empty l D cs _ b0 mWorld mImages mHasImage mTape mFive mFresh mMergedBy mIsValid mGoes mFarNow mFreeNow mIsPair mHitsBy mWorthBy mMany mWidth mNumbers mMoving) (cwV 0 hts gc_X9_base_139_X9_good rfl rfl rfl (by decide +kernel) ⟨Nat.le_of_ble_eq_true rfl, Nat.le_of_ble_eq_true rfl⟩) rfl (by decide) rfl rfl rfl hl.1 rfl (Nat.le_of_ble_eq_true rfl) dX9_base_75 ⟨Nat.le_of_ble_eq_true rfl, Nat.le_of_ble_eq_true rfl⟩) (fun r_5 u_5 H locs hq_5 hP hD hS => ?_)
        have hP : va_P D vwCl [(mFresh, .inl (cs 1, 76, .inl f0)), (mWorld, .inl (cs 1, 76, .inl (fun _ => 0))), (b0, .inr (9, [.int 0, .ref mWorld, .ref mImages, .ref mHasImage, .ref mTape, .int 0, .ref mFive, .int 0, .int 0, .int 0, .int 0, .int 0, .int 0, .int (-1), .ref mFresh, .ref mMergedBy, .int 0, .int 0, .int 0, .ref mIsValid, .ref mGoes, .ref mFarNow, .ref mFreeNow, .ref mIsPair, .ref mHitsBy, .int 0, .int 0, .int 0, .int 0, .int 0, .int 0, .int 0, .int 0, .int 0, .ref mWorthBy, .long 0, .long 0, .long 0, .ref mMany, .ref mWidth, .ref mNumbers, .ref mMoving]))] H := hP
        have hD : va_D A [(mFresh, .inl (cs 1, 76, .inl f0)), (mWorld, .inl (cs 1, 76, .inl (fun _ => 0))), (b0, .inr (9, [.int 0, .ref mWorld, .ref mImages, .ref mHasImage, .ref mTape, .int 0, .ref mFive, .int 0, .int 0, .int 0, .int 0, .int 0, .int 0, .int (-1), .ref mFresh, .ref mMergedBy, .int 0, .int 0, .int 0, .ref mIsValid, .ref mGoes, .ref mFarNow, .ref mFreeNow, .ref mIsPair, .ref mHitsBy, .int 0, .int 0, .int 0, .int 0, .int 0, .int 0, .int 0, .int 0, .int 0, .ref mWorthBy, .long 0, .long 0, .long 0, .ref mMany, .ref mWidth, .ref mNumbers, .ref mMoving]))] := hD
        replace hq_5 : r_5 = 1 := hq_5
        subst hq_5
        refine lv_if_ne (tgt := 84) hx hb dX9_base_78 (by decide) (fun _ => ?_) (fun h9 => absurd h9 (by decide))
        refine lv_iconst (v := 0) hx hb dX9_base_84 (by decide) ?_
        refine lv_istore_n (lv' := [(1, .int 0), (0, .ref b0)]) hx hb dX9_base_85 rfl hl (by decide) rfl (fun ls hl => ?_)
        have lp_6 : ∀ (nfu : Nat) (i2 : Nat) (g0 : Nat → Int32) (H : Heap) (locs : List Loc) (ls : Array Slot) (hi2 : i2 ≤ 76) (hg : ∀ j, g0 j = 0), 76 - i2 < nfu → va_P D vwCl [(mFresh, .inl (cs 1, 76, .inl f0)), (mWorld, .inl (cs 1, 76, .inl g0)), (b0, .inr (9, [.int 0, .ref mWorld, .ref mImages, .ref mHasImage, .ref mTape, .int 0, .ref mFive, .int 0, .int 0, .int 0, .int 0, .int 0, .int 0, .int (-1), .ref mFresh, .ref mMergedBy, .int 0, .int 0, .int 0, .ref mIsValid, .ref mGoes, .ref mFarNow, .ref mFreeNow, .ref mIsPair, .ref mHitsBy, .int 0, .int 0, .int 0, .int 0, .int 0, .int 0, .int 0, .int 0, .int 0, .ref mWorthBy, .long 0, .long 0, .long 0, .ref mMany, .ref mWidth, .ref mNumbers, .ref mMoving]))] H → va_D A [(mFresh, .inl (cs 1, 76, .inl f0)), (mWorld, .inl (cs 1, 76, .inl g0)), (b0, .inr (9, [.int 0, .ref mWorld, .ref mImages, .ref mHasImage, .ref mTape, .int 0, .ref mFive, .int 0, .int 0, .int 0, .int 0, .int 0, .int 0, .int (-1), .ref mFresh, .ref mMergedBy, .int 0, .int 0, .int 0, .ref mIsValid, .ref mGoes, .ref mFarNow, .ref mFreeNow, .ref mIsPair, .ref mHitsBy, .int 0, .int 0, .int 0, .int 0, .int 0, .int 0, .int 0, .int 0, .int 0, .ref mWorthBy, .long 0, .long 0, .long 0, .ref mMany, .ref mWidth, .ref mNumbers, .ref mMoving]))] → va_S A s.heap H locs → lv_has ls 2 [(1, .int (nI i2)), (0, .ref b0)] → W p l e (mRm 2 0 0 42) s m ([.ref b0] : List Value).toArray below meth c H locs 0 0 (MQ below (va_Qi (fun (r : Int32) (u : Unit) => r = 0) (mpost D A (fun (u : Unit) => [])) A) ([.ref b0] : List Value).toArray s 0 0 A) (F0 m 86 ls []) := by
          intro nfu
          induction nfu with
          | zero => intro i2 g0 H locs ls hi2 hg hmu; exact absurd hmu (Nat.not_lt_zero _)
          | succ nfu ih =>
            intro i2 g0 H locs ls hi2 hg hmu hP hD hS hl
            have ih_lp_6 := @ih
            refine lv_iload_n hx hb dX9_base_86 rfl (lv_at hl 0 rfl) ?_
            refine lv_bipush (v := 76) hx hb dX9_base_87 (by decide) ?_
            refine lv_icmp_ge (tgt := 110) hx hb dX9_base_89 (by decide) (fun c_7 => ?_) (fun c_7 => ?_)
            ·
              have hn_7 := bge_t (a := i2) (b := 76) c_7 (by omega) (by omega)
              refine lv_aload_n hx hb dX9_base_110 rfl (lv_at hl 1 rfl) ?_
              refine va_get (D := D) (ci := 9) (v := .ref mWorld) (C := RX9) (T := TX9) (N := 42) hx hb hts iuX9_base_X9 hown hK hP 2 rfl rfl 1 (by decide) (htw (.fieldLink RX9 9 "MergeJudgeModel" "world" "[I") (List.mem_of_getElem? (i := 17) rfl)) (fun _ h9 => h9) rfl dX9_base_111 ?_
              refine lv_bipush (v := 7) hx hb dX9_base_114 (by decide) ?_
              refine va_iald hx hb hK hP 1 1 rfl rfl (vp_c (by decide)) dX9_base_116 ?_
              refine cf_v (.int (g0 7)) rfl ?_
              exact ret_i hx hb hr hlk hS (Nat.le_of_ble_eq_true rfl) (Nat.le_of_ble_eq_true rfl) () ((hg 7)) (hP.sub [] rfl) (hD.sub [] (by decide) rfl) dX9_base_117
            ·
              have hn_7 := bge_f (a := i2) (b := 76) c_7 (by omega) (by omega)
              refine lv_aload_n hx hb dX9_base_92 rfl (lv_at hl 1 rfl) ?_
              refine va_get (D := D) (ci := 9) (v := .ref mWorld) (C := RX9) (T := TX9) (N := 42) hx hb hts iuX9_base_X9 hown hK hP 2 rfl rfl 1 (by decide) (htw (.fieldLink RX9 9 "MergeJudgeModel" "world" "[I") (List.mem_of_getElem? (i := 17) rfl)) (fun _ h9 => h9) rfl dX9_base_93 ?_
              refine lv_iload_n hx hb dX9_base_96 rfl (lv_at hl 0 rfl) ?_
              refine lv_aload_n hx hb dX9_base_97 rfl (lv_at hl 1 rfl) ?_
              refine va_get (D := D) (ci := 9) (v := .ref mFresh) (C := RX9) (T := TX9) (N := 42) hx hb hts iuX9_base_X9 hown hK hP 2 rfl rfl 14 (by decide) (htw (.fieldLink RX9 31 "MergeJudgeModel" "fresh" "[I") (List.mem_of_getElem? (i := 5) rfl)) (fun _ h9 => h9) rfl dX9_base_98 ?_
              refine lv_iload_n hx hb dX9_base_101 rfl (lv_at hl 0 rfl) ?_
              refine va_iald hx hb hK hP 0 1 rfl rfl (vp_in_nI (by omega) (by omega)) dX9_base_102 ?_
              rw [nI_clamp (by omega)]
              refine va_iast hx hb hK hP hD hS 1 1 rfl rfl (vp_in_nI (by omega) (by omega)) dX9_base_103 (fun H locs hP hD hS => ?_)
              have hP : va_P D vwCl [(mFresh, .inl (cs 1, 76, .inl f0)), (mWorld, .inl (cs 1, 76, .inl (upd g0 ((nI i2).toNatClampNeg) (f0 i2)))), (b0, .inr (9, [.int 0, .ref mWorld, .ref mImages, .ref mHasImage, .ref mTape, .int 0, .ref mFive, .int 0, .int 0, .int 0, .int 0, .int 0, .int 0, .int (-1), .ref mFresh, .ref mMergedBy, .int 0, .int 0, .int 0, .ref mIsValid, .ref mGoes, .ref mFarNow, .ref mFreeNow, .ref mIsPair, .ref mHitsBy, .int 0, .int 0, .int 0, .int 0, .int 0, .int 0, .int 0, .int 0, .int 0, .ref mWorthBy, .long 0, .long 0, .long 0, .ref mMany, .ref mWidth, .ref mNumbers, .ref mMoving]))] H := hP
              have hD : va_D A [(mFresh, .inl (cs 1, 76, .inl f0)), (mWorld, .inl (cs 1, 76, .inl (upd g0 ((nI i2).toNatClampNeg) (f0 i2)))), (b0, .inr (9, [.int 0, .ref mWorld, .ref mImages, .ref mHasImage, .ref mTape, .int 0, .ref mFive, .int 0, .int 0, .int 0, .int 0, .int 0, .int 0, .int (-1), .ref mFresh, .ref mMergedBy, .int 0, .int 0, .int 0, .ref mIsValid, .ref mGoes, .ref mFarNow, .ref mFreeNow, .ref mIsPair, .ref mHitsBy, .int 0, .int 0, .int 0, .int 0, .int 0, .int 0, .int 0, .int 0, .int 0, .ref mWorthBy, .long 0, .long 0, .long 0, .ref mMany, .ref mWidth, .ref mNumbers, .ref mMoving]))] := hD
              refine lv_iinc (v := (nI (i2 + 1))) (lv' := [(1, .int (nI (i2 + 1))), (0, .ref b0)]) hx hb dX9_base_104 hl (k := 0) rfl (nI_1 _) (by decide) rfl (fun ls hl => ?_)
              refine lv_goto (tgt := 86) hx hb dX9_base_107 (by decide) ?_
              exact ih_lp_6 (i2 + 1) (upd g0 ((nI i2).toNatClampNeg) (f0 i2)) H locs ls (by omega) (upd_0x hg (hf _)) (by omega) (hP.sub [0, 1, 2] rfl) (hD.sub [0, 1, 2] (by decide) rfl) hS (lv_sub hl [0, 1] rfl)
        exact lp_6 _ 0 (fun _ => 0) H locs ls (by omega) (fun _ => rfl) (Nat.lt_succ_self _) (hP.sub [0, 1, 2] rfl) (hD.sub [0, 1, 2] (by decide) rfl) hS (lv_sub hl [0, 1] rfl)
      ·
        have hn_2 := bge_f (a := i) (b := 76) c_2 (by omega) (by omega)
        refine lv_aload_n hx hb dX9_base_36 rfl (lv_at hl 1 rfl) ?_
        refine va_get (D := D) (ci := 9) (v := .ref mFresh) (C := RX9) (T := TX9) (N := 42) hx hb hts iuX9_base_X9 hown hK hP 0 rfl rfl 14 (by decide) (htw (.fieldLink RX9 31 "MergeJudgeModel" "fresh" "[I") (List.mem_of_getElem? (i := 5) rfl)) (fun _ h9 => h9) rfl dX9_base_37 ?_
        refine lv_iload_n hx hb dX9_base_40 rfl (lv_at hl 0 rfl) ?_
        refine lv_iconst (v := 0) hx hb dX9_base_41 (by decide) ?_
        refine va_iast hx hb hK hP hD hS 1 1 rfl rfl (vp_in_nI (by omega) (by omega)) dX9_base_42 (fun H locs hP hD hS => ?_)
        have hP : va_P D vwCl [(b0, .inr (9, [.int 0, .ref mWorld, .ref mImages, .ref mHasImage, .ref mTape, .int 0, .ref mFive, .int 0, .int 0, .int 0, .int 0, .int 0, .int 0, .int (-1), .ref mFresh, .ref mMergedBy, .int 0, .int 0, .int 0, .ref mIsValid, .ref mGoes, .ref mFarNow, .ref mFreeNow, .ref mIsPair, .ref mHitsBy, .int 0, .int 0, .int 0, .int 0, .int 0, .int 0, .int 0, .int 0, .int 0, .ref mWorthBy, .long 0, .long 0, .long 0, .ref mMany, .ref mWidth, .ref mNumbers, .ref mMoving])), (mFresh, .inl (cs 1, 76, .inl (upd f0 ((nI i).toNatClampNeg) 0))), (mWorld, .inl (cs 1, 76, .inl (fun _ => 0)))] H := hP
        have hD : va_D A [(b0, .inr (9, [.int 0, .ref mWorld, .ref mImages, .ref mHasImage, .ref mTape, .int 0, .ref mFive, .int 0, .int 0, .int 0, .int 0, .int 0, .int 0, .int (-1), .ref mFresh, .ref mMergedBy, .int 0, .int 0, .int 0, .ref mIsValid, .ref mGoes, .ref mFarNow, .ref mFreeNow, .ref mIsPair, .ref mHitsBy, .int 0, .int 0, .int 0, .int 0, .int 0, .int 0, .int 0, .int 0, .int 0, .ref mWorthBy, .long 0, .long 0, .long 0, .ref mMany, .ref mWidth, .ref mNumbers, .ref mMoving])), (mFresh, .inl (cs 1, 76, .inl (upd f0 ((nI i).toNatClampNeg) 0))), (mWorld, .inl (cs 1, 76, .inl (fun _ => 0)))] := hD
        refine lv_iinc (v := (nI (i + 1))) (lv' := [(1, .int (nI (i + 1))), (0, .ref b0)]) hx hb dX9_base_43 hl (k := 0) rfl (nI_1 _) (by decide) rfl (fun ls hl => ?_)
        refine lv_goto (tgt := 30) hx hb dX9_base_46 (by decide) ?_
        exact ih_lp_1 (i + 1) (upd f0 ((nI i).toNatClampNeg) 0) H locs ls (by omega) (upd_0 hf) (by omega) (hP.sub [0, 1, 2] rfl) (hD.sub [0, 1, 2] (by decide) rfl) hS (lv_sub hl [0, 1] rfl)
  exact lp_1 _ 0 (fun _ => 0) H locs ls (by omega) (fun _ => rfl) (Nat.lt_succ_self _) (hP.sub [0, 1, 2] rfl) (hD.sub [0, 1, 2] (by decide) rfl) hS (lv_sub hl [0, 1] rfl)
