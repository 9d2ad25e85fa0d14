set_option maxHeartbeats 4000000 in
set_option maxRecDepth 100000 in
theorem k_X7_put_f (l : Launch) (D : va_G) (cs : Nat → ClassId) (sz : Nat) (aT : Nat) (a1 : Int32) (tb : Nat) (ft : Nat → Int32) (nt : Nat) (hnt : nt ≤ 400) (hn4 : nt + 4 ≤ 400) : Mv l D cs yX7_put W_X7_put 0 0 0 0 [.ref aT, .int a1] [(aT, .inr (7, [.ref tb, .int (nI nt)])), (tb, .inl (cs 0, 400, .inl ft))] sz (fun (u : Nat × (Nat → Int32)) => (u.1 = nt + 4) ∧ (u.2 = PB a1 nt ft)) (fun (u : Nat × (Nat → Int32)) => [(aT, .inr (7, [.ref tb, .int (nI u.1)])), (tb, .inl (cs 0, 400, .inl u.2))]) := by
  refine ent (D := D) (cs := cs) (y := yX7_put) (ws := W_X7_put) (As := [.ref aT, .int a1]) (W0 := [(aT, .inr (7, [.ref tb, .int (nI nt)])), (tb, .inl (cs 0, 400, .inl ft))]) (Qx := fun A => va_Qv (fun (u : Nat × (Nat → Int32)) => (u.1 = nt + 4) ∧ (u.2 = PB a1 nt ft)) (mpost D A (fun (u : Nat × (Nat → Int32)) => [(aT, .inr (7, [.ref tb, .int (nI u.1)])), (tb, .inl (cs 0, 400, .inl u.2))])) A) (maxL := 3) (ret := none) (by decide) rfl (Nat.le_of_ble_eq_true rfl) ?_
  intro p e s m below meth c A ls hx hb hr hml hlk hown hts hin hK hE hP hD hA hS hl
  have hl : lv_has ls 3 [(0, .ref aT), (1, .int a1)] := hl
  generalize hHe : s.heap = H at hP
  have hS : va_S A s.heap H [] := hHe ▸ hS
  generalize hLe : ([] : List Loc) = locs at hS ⊢
  have htw : ∀ w ∈ O_X7_put, w.before ([.ref aT, .int a1] : List Value).toArray s = true := fun w h => hts w (List.mem_cons_of_mem _ (List.mem_append_left _ h))
  have hFix := (⟨hx, hb, hml, hown, hts⟩ : CallFix p m c _ _ s _ _ _)
  refine lv_bipush (v := 24) hx hb dX7_put_0 (by decide) ?_
  refine lv_istore_n (lv' := [(2, .int 24), (0, .ref aT), (1, .int a1)]) hx hb dX7_put_2 rfl hl (by decide) rfl (fun ls hl => ?_)
  refine lv_iload_n hx hb dX7_put_3 rfl (lv_at hl 0 rfl) ?_
  refine lv_if_lt (tgt := 46) hx hb dX7_put_4 (by decide) (fun h9 => absurd h9 (by decide)) (fun _ => ?_)
  refine lv_aload_n hx hb dX7_put_7 rfl (lv_at hl 1 rfl) ?_
  refine va_get (D := D) (ci := 7) (v := .int (nI nt)) (C := RX7) (T := TX7) (N := 2) hx hb hts iuX7_put_X7 hown hK hP 0 rfl rfl 1 (by decide) (htw (.fieldLink RX7 15 "MergeJudge$Tape" "size" "I") (List.mem_of_getElem? (i := 0) rfl)) (fun _ h9 => h9) rfl dX7_put_8 ?_
  refine lv_sipush (v := 400) hx hb dX7_put_11 (by decide) ?_
  refine lv_icmp_ge (tgt := 40) hx hb dX7_put_14 (by decide) (fun c_1 => False.elim (absurd (bge_t (a := nt) (b := 400) c_1 (by omega) (by omega)) (by omega))) (fun c_1 => ?_)
  refine lv_aload_n hx hb dX7_put_17 rfl (lv_at hl 1 rfl) ?_
  refine va_get (D := D) (ci := 7) (v := .ref tb) (C := RX7) (T := TX7) (N := 2) hx hb hts iuX7_put_X7 hown hK hP 0 rfl rfl 0 (by decide) (htw (.fieldLink RX7 9 "MergeJudge$Tape" "bytes" "[B") (List.mem_of_getElem? (i := 1) rfl)) (fun _ h9 => h9) rfl dX7_put_18 ?_
  refine lv_aload_n hx hb dX7_put_21 rfl (lv_at hl 1 rfl) ?_
  refine va_get (D := D) (ci := 7) (v := .int (nI nt)) (C := RX7) (T := TX7) (N := 2) hx hb hts iuX7_put_X7 hown hK hP 0 rfl rfl 1 (by decide) (htw (.fieldLink RX7 15 "MergeJudge$Tape" "size" "I") (List.mem_of_getElem? (i := 0) rfl)) (fun _ h9 => h9) rfl dX7_put_22 ?_
  refine lv_iload_n hx hb dX7_put_25 rfl (lv_at hl 2 rfl) ?_
  refine lv_iload_n hx hb dX7_put_26 rfl (lv_at hl 0 rfl) ?_
  refine lv_ishr hx hb dX7_put_27 ?_
  refine lv_i2b (v := ((a1 >>> ((24 : Int32) &&& 31)).toInt8.toInt32)) hx hb dX7_put_28 rfl ?_
  refine va_bast hx hb hK hP hD hS 1 0 rfl rfl (vp_in_nI (by omega) (by omega)) dX7_put_29 (fun H locs hP hD hS => ?_)
  have hP : va_P D vwCl [(aT, .inr (7, [.ref tb, .int (nI nt)])), (tb, .inl (cs 0, 400, .inl (upd ft ((nI nt).toNatClampNeg) (vp_nar .byte ((a1 >>> ((24 : Int32) &&& 31)).toInt8.toInt32)))))] H := hP
  have hD : va_D A [(aT, .inr (7, [.ref tb, .int (nI nt)])), (tb, .inl (cs 0, 400, .inl (upd ft ((nI nt).toNatClampNeg) (vp_nar .byte ((a1 >>> ((24 : Int32) &&& 31)).toInt8.toInt32)))))] := hD
  refine lv_aload_n hx hb dX7_put_30 rfl (lv_at hl 1 rfl) ?_
  refine lv_dup hx hb dX7_put_31 rfl ?_
  refine va_get (D := D) (ci := 7) (v := .int (nI nt)) (C := RX7) (T := TX7) (N := 2) hx hb hts iuX7_put_X7 hown hK hP 0 rfl rfl 1 (by decide) (htw (.fieldLink RX7 15 "MergeJudge$Tape" "size" "I") (List.mem_of_getElem? (i := 0) rfl)) (fun _ h9 => h9) rfl dX7_put_32 ?_
  refine lv_iconst (v := 1) hx hb dX7_put_35 (by decide) ?_
  refine lv_iadd hx hb dX7_put_36 ?_
  refine cf_i (nI (nt + 1)) (nI_add nt 1) ?_
  refine va_put (D := D) (ci := 7) (v := .int (nI (nt + 1))) (ty := .int) (C := RX7) (T := TX7) (N := 2) hx hb hts iuX7_put_X7 tyX7 tyX7_ok nmX7 hown hK hP hD hS 0 rfl rfl 1 (by decide) (htw (.fieldLink RX7 15 "MergeJudge$Tape" "size" "I") (List.mem_of_getElem? (i := 0) rfl)) (fun _ h9 => h9) rfl (by decide +kernel) rfl rfl (Nat.le_of_ble_eq_true rfl) dX7_put_37 (fun H locs hP hD hS => ?_)
  have hP : va_P D vwCl [(aT, .inr (7, [.ref tb, .int (nI (nt + 1))])), (tb, .inl (cs 0, 400, .inl (upd ft ((nI nt).toNatClampNeg) (vp_nar .byte ((a1 >>> ((24 : Int32) &&& 31)).toInt8.toInt32)))))] H := hP
  have hD : va_D A [(aT, .inr (7, [.ref tb, .int (nI (nt + 1))])), (tb, .inl (cs 0, 400, .inl (upd ft ((nI nt).toNatClampNeg) (vp_nar .byte ((a1 >>> ((24 : Int32) &&& 31)).toInt8.toInt32)))))] := hD
  refine lv_iinc (v := 16) (lv' := [(2, .int 16), (0, .ref aT), (1, .int a1)]) hx hb dX7_put_40 hl (k := 0) rfl (by decide) (by decide) rfl (fun ls hl => ?_)
  refine lv_goto (tgt := 3) hx hb dX7_put_43 (by decide) ?_
  refine lv_iload_n hx hb dX7_put_3 rfl (lv_at hl 0 rfl) ?_
  refine lv_if_lt (tgt := 46) hx hb dX7_put_4 (by decide) (fun h9 => absurd h9 (by decide)) (fun _ => ?_)
  refine lv_aload_n hx hb dX7_put_7 rfl (lv_at hl 1 rfl) ?_
  refine va_get (D := D) (ci := 7) (v := .int (nI (nt + 1))) (C := RX7) (T := TX7) (N := 2) hx hb hts iuX7_put_X7 hown hK hP 0 rfl rfl 1 (by decide) (htw (.fieldLink RX7 15 "MergeJudge$Tape" "size" "I") (List.mem_of_getElem? (i := 0) rfl)) (fun _ h9 => h9) rfl dX7_put_8 ?_
  refine lv_sipush (v := 400) hx hb dX7_put_11 (by decide) ?_
  refine lv_icmp_ge (tgt := 40) hx hb dX7_put_14 (by decide) (fun c_2 => False.elim (absurd (bge_t (a := nt + 1) (b := 400) c_2 (by omega) (by omega)) (by omega))) (fun c_2 => ?_)
  refine lv_aload_n hx hb dX7_put_17 rfl (lv_at hl 1 rfl) ?_
  refine va_get (D := D) (ci := 7) (v := .ref tb) (C := RX7) (T := TX7) (N := 2) hx hb hts iuX7_put_X7 hown hK hP 0 rfl rfl 0 (by decide) (htw (.fieldLink RX7 9 "MergeJudge$Tape" "bytes" "[B") (List.mem_of_getElem? (i := 1) rfl)) (fun _ h9 => h9) rfl dX7_put_18 ?_
  refine lv_aload_n hx hb dX7_put_21 rfl (lv_at hl 1 rfl) ?_
  refine va_get (D := D) (ci := 7) (v := .int (nI (nt + 1))) (C := RX7) (T := TX7) (N := 2) hx hb hts iuX7_put_X7 hown hK hP 0 rfl rfl 1 (by decide) (htw (.fieldLink RX7 15 "MergeJudge$Tape" "size" "I") (List.mem_of_getElem? (i := 0) rfl)) (fun _ h9 => h9) rfl dX7_put_22 ?_
  refine lv_iload_n hx hb dX7_put_25 rfl (lv_at hl 2 rfl) ?_
  refine lv_iload_n hx hb dX7_put_26 rfl (lv_at hl 0 rfl) ?_
  refine lv_ishr hx hb dX7_put_27 ?_
  refine lv_i2b (v := ((a1 >>> ((16 : Int32) &&& 31)).toInt8.toInt32)) hx hb dX7_put_28 rfl ?_
  refine va_bast hx hb hK hP hD hS 1 0 rfl rfl (vp_in_nI (by omega) (by omega)) dX7_put_29 (fun H locs hP hD hS => ?_)
  have hP : va_P D vwCl [(aT, .inr (7, [.ref tb, .int (nI (nt + 1))])), (tb, .inl (cs 0, 400, .inl (upd (upd ft ((nI nt).toNatClampNeg) (vp_nar .byte ((a1 >>> ((24 : Int32) &&& 31)).toInt8.toInt32))) ((nI (nt + 1)).toNatClampNeg) (vp_nar .byte ((a1 >>> ((16 : Int32) &&& 31)).toInt8.toInt32)))))] H := hP
  have hD : va_D A [(aT, .inr (7, [.ref tb, .int (nI (nt + 1))])), (tb, .inl (cs 0, 400, .inl (upd (upd ft ((nI nt).toNatClampNeg) (vp_nar .byte ((a1 >>> ((24 : Int32) &&& 31)).toInt8.toInt32))) ((nI (nt + 1)).toNatClampNeg) (vp_nar .byte ((a1 >>> ((16 : Int32) &&& 31)).toInt8.toInt32)))))] := hD
  refine lv_aload_n hx hb dX7_put_30 rfl (lv_at hl 1 rfl) ?_
  refine lv_dup hx hb dX7_put_31 rfl ?_
  refine va_get (D := D) (ci := 7) (v := .int (nI (nt + 1))) (C := RX7) (T := TX7) (N := 2) hx hb hts iuX7_put_X7 hown hK hP 0 rfl rfl 1 (by decide) (htw (.fieldLink RX7 15 "MergeJudge$Tape" "size" "I") (List.mem_of_getElem? (i := 0) rfl)) (fun _ h9 => h9) rfl dX7_put_32 ?_
  refine lv_iconst (v := 1) hx hb dX7_put_35 (by decide) ?_
  refine lv_iadd hx hb dX7_put_36 ?_
  refine cf_i (nI (nt + 1 + 1)) (nI_add (nt + 1) 1) ?_
  refine va_put (D := D) (ci := 7) (v := .int (nI (nt + 1 + 1))) (ty := .int) (C := RX7) (T := TX7) (N := 2) hx hb hts iuX7_put_X7 tyX7 tyX7_ok nmX7 hown hK hP hD hS 0 rfl rfl 1 (by decide) (htw (.fieldLink RX7 15 "MergeJudge$Tape" "size" "I") (List.mem_of_getElem? (i := 0) rfl)) (fun _ h9 => h9) rfl (by decide +kernel) rfl rfl (Nat.le_of_ble_eq_true rfl) dX7_put_37 (fun H locs hP hD hS => ?_)
  have hP : va_P D vwCl [(aT, .inr (7, [.ref tb, .int (nI (nt + 1 + 1))])), (tb, .inl (cs 0, 400, .inl (upd (upd ft ((nI nt).toNatClampNeg) (vp_nar .byte ((a1 >>> ((24 : Int32) &&& 31)).toInt8.toInt32))) ((nI (nt + 1)).toNatClampNeg) (vp_nar .byte ((a1 >>> ((16 : Int32) &&& 31)).toInt8.toInt32)))))] H := hP
  have hD : va_D A [(aT, .inr (7, [.ref tb, .int (nI (nt + 1 + 1))])), (tb, .inl (cs 0, 400, .inl (upd (upd ft ((nI nt).toNatClampNeg) (vp_nar .byte ((a1 >>> ((24 : Int32) &&& 31)).toInt8.toInt32))) ((nI (nt + 1)).toNatClampNeg) (vp_nar .byte ((a1 >>> ((16 : Int32) &&& 31)).toInt8.toInt32)))))] := hD
  refine lv_iinc (v := 8) (lv' := [(2, .int 8), (0, .ref aT), (1, .int a1)]) hx hb dX7_put_40 hl (k := 0) rfl (by decide) (by decide) rfl (fun ls hl => ?_)
  refine lv_goto (tgt := 3) hx hb dX7_put_43 (by decide) ?_
  refine lv_iload_n hx hb dX7_put_3 rfl (lv_at hl 0 rfl) ?_
  refine lv_if_lt (tgt := 46) hx hb dX7_put_4 (by decide) (fun h9 => absurd h9 (by decide)) (fun _ => ?_)
  refine lv_aload_n hx hb dX7_put_7 rfl (lv_at hl 1 rfl) ?_
  refine va_get (D := D) (ci := 7) (v := .int (nI (nt + 1 + 1))) (C := RX7) (T := TX7) (N := 2) hx hb hts iuX7_put_X7 hown hK hP 0 rfl rfl 1 (by decide) (htw (.fieldLink RX7 15 "MergeJudge$Tape" "size" "I") (List.mem_of_getElem? (i := 0) rfl)) (fun _ h9 => h9) rfl dX7_put_8 ?_
  refine lv_sipush (v := 400) hx hb dX7_put_11 (by decide) ?_
  refine lv_icmp_ge (tgt := 40) hx hb dX7_put_14 (by decide) (fun c_3 => False.elim (absurd (bge_t (a := nt + 1 + 1) (b := 400) c_3 (by omega) (by omega)) (by omega))) (fun c_3 => ?_)
  refine lv_aload_n hx hb dX7_put_17 rfl (lv_at hl 1 rfl) ?_
  refine va_get (D := D) (ci := 7) (v := .ref tb) (C := RX7) (T := TX7) (N := 2) hx hb hts iuX7_put_X7 hown hK hP 0 rfl rfl 0 (by decide) (htw (.fieldLink RX7 9 "MergeJudge$Tape" "bytes" "[B") (List.mem_of_getElem? (i := 1) rfl)) (fun _ h9 => h9) rfl dX7_put_18 ?_
  refine lv_aload_n hx hb dX7_put_21 rfl (lv_at hl 1 rfl) ?_
  refine va_get (D := D) (ci := 7) (v := .int (nI (nt + 1 + 1))) (C := RX7) (T := TX7) (N := 2) hx hb hts iuX7_put_X7 hown hK hP 0 rfl rfl 1 (by decide) (htw (.fieldLink RX7 15 "MergeJudge$Tape" "size" "I") (List.mem_of_getElem? (i := 0) rfl)) (fun _ h9 => h9) rfl dX7_put_22 ?_
  refine lv_iload_n hx hb dX7_put_25 rfl (lv_at hl 2 rfl) ?_
  refine lv_iload_n hx hb dX7_put_26 rfl (lv_at hl 0 rfl) ?_
  refine lv_ishr hx hb dX7_put_27 ?_
  refine lv_i2b (v := ((a1 >>> ((8 : Int32) &&& 31)).toInt8.toInt32)) hx hb dX7_put_28 rfl ?_
  refine va_bast hx hb hK hP hD hS 1 0 rfl rfl (vp_in_nI (by omega) (by omega)) dX7_put_29 (fun H locs hP hD hS => ?_)
  have hP : va_P D vwCl [(aT, .inr (7, [.ref tb, .int (nI (nt + 1 + 1))])), (tb, .inl (cs 0, 400, .inl (upd (upd (upd ft ((nI nt).toNatClampNeg) (vp_nar .byte ((a1 >>> ((24 : Int32) &&& 31)).toInt8.toInt32))) ((nI (nt + 1)).toNatClampNeg) (vp_nar .byte ((a1 >>> ((16 : Int32) &&& 31)).toInt8.toInt32))) ((nI (nt + 1 + 1)).toNatClampNeg) (vp_nar .byte ((a1 >>> ((8 : Int32) &&& 31)).toInt8.toInt32)))))] H := hP
  have hD : va_D A [(aT, .inr (7, [.ref tb, .int (nI (nt + 1 + 1))])), (tb, .inl (cs 0, 400, .inl (upd (upd (upd ft ((nI nt).toNatClampNeg) (vp_nar .byte ((a1 >>> ((24 : Int32) &&& 31)).toInt8.toInt32))) ((nI (nt + 1)).toNatClampNeg) (vp_nar .byte ((a1 >>> ((16 : Int32) &&& 31)).toInt8.toInt32))) ((nI (nt + 1 + 1)).toNatClampNeg) (vp_nar .byte ((a1 >>> ((8 : Int32) &&& 31)).toInt8.toInt32)))))] := hD
  refine lv_aload_n hx hb dX7_put_30 rfl (lv_at hl 1 rfl) ?_
  refine lv_dup hx hb dX7_put_31 rfl ?_
  refine va_get (D := D) (ci := 7) (v := .int (nI (nt + 1 + 1))) (C := RX7) (T := TX7) (N := 2) hx hb hts iuX7_put_X7 hown hK hP 0 rfl rfl 1 (by decide) (htw (.fieldLink RX7 15 "MergeJudge$Tape" "size" "I") (List.mem_of_getElem? (i := 0) rfl)) (fun _ h9 => h9) rfl dX7_put_32 ?_
  refine lv_iconst (v := 1) hx hb dX7_put_35 (by decide) ?_
  refine lv_iadd hx hb dX7_put_36 ?_
  refine cf_i (nI ((nt + 1 + 1) + 1)) (nI_add (nt + 1 + 1) 1) ?_
  refine va_put (D := D) (ci := 7) (v := .int (nI ((nt + 1 + 1) + 1))) (ty := .int) (C := RX7) (T := TX7) (N := 2) hx hb hts iuX7_put_X7 tyX7 tyX7_ok nmX7 hown hK hP hD hS 0 rfl rfl 1 (by decide) (htw (.fieldLink RX7 15 "MergeJudge$Tape" "size" "I") (List.mem_of_getElem? (i := 0) rfl)) (fun _ h9 => h9) rfl (by decide +kernel) rfl rfl (Nat.le_of_ble_eq_true rfl) dX7_put_37 (fun H locs hP hD hS => ?_)
  have hP : va_P D vwCl [(aT, .inr (7, [.ref tb, .int (nI ((nt + 1 + 1) + 1))])), (tb, .inl (cs 0, 400, .inl (upd (upd (upd ft ((nI nt).toNatClampNeg) (vp_nar .byte ((a1 >>> ((24 : Int32) &&& 31)).toInt8.toInt32))) ((nI (nt + 1)).toNatClampNeg) (vp_nar .byte ((a1 >>> ((16 : Int32) &&& 31)).toInt8.toInt32))) ((nI (nt + 1 + 1)).toNatClampNeg) (vp_nar .byte ((a1 >>> ((8 : Int32) &&& 31)).toInt8.toInt32)))))] H := hP
  have hD : va_D A [(aT, .inr (7, [.ref tb, .int (nI ((nt + 1 + 1) + 1))])), (tb, .inl (cs 0, 400, .inl (upd (upd (upd ft ((nI nt).toNatClampNeg) (vp_nar .byte ((a1 >>> ((24 : Int32) &&& 31)).toInt8.toInt32))) ((nI (nt + 1)).toNatClampNeg) (vp_nar .byte ((a1 >>> ((16 : Int32) &&& 31)).toInt8.toInt32))) ((nI (nt + 1 + 1)).toNatClampNeg) (vp_nar .byte ((a1 >>> ((8 : Int32) &&& 31)).toInt8.toInt32)))))] := hD
  refine lv_iinc (v := 0) (lv' := [(2, .int 0), (0, .ref aT), (1, .int a1)]) hx hb dX7_put_40 hl (k := 0) rfl (by decide) (by decide) rfl (fun ls hl => ?_)
  refine lv_goto (tgt := 3) hx hb dX7_put_43 (by decide) ?_
  refine lv_iload_n hx hb dX7_put_3 rfl (lv_at hl 0 rfl) ?_
  refine lv_if_lt (tgt := 46) hx hb dX7_put_4 (by decide) (fun h9 => absurd h9 (by decide)) (fun _ => ?_)
  refine lv_aload_n hx hb dX7_put_7 rfl (lv_at hl 1 rfl) ?_
  refine va_get (D := D) (ci := 7) (v := .int (nI ((nt + 1 + 1) + 1))) (C := RX7) (T := TX7) (N := 2) hx hb hts iuX7_put_X7 hown hK hP 0 rfl rfl 1 (by decide) (htw (.fieldLink RX7 15 "MergeJudge$Tape" "size" "I") (List.mem_of_getElem? (i := 0) rfl)) (fun _ h9 => h9) rfl dX7_put_8 ?_
  refine lv_sipush (v := 400) hx hb dX7_put_11 (by decide) ?_
  refine lv_icmp_ge (tgt := 40) hx hb dX7_put_14 (by decide) (fun c_4 => False.elim (absurd (bge_t (a := (nt + 1 + 1) + 1) (b := 400) c_4 (by omega) (by omega)) (by omega))) (fun c_4 => ?_)
  refine lv_aload_n hx hb dX7_put_17 rfl (lv_at hl 1 rfl) ?_
  refine va_get (D := D) (ci := 7) (v := .ref tb) (C := RX7) (T := TX7) (N := 2) hx hb hts iuX7_put_X7 hown hK hP 0 rfl rfl 0 (by decide) (htw (.fieldLink RX7 9 "MergeJudge$Tape" "bytes" "[B") (List.mem_of_getElem? (i := 1) rfl)) (fun _ h9 => h9) rfl dX7_put_18 ?_
  refine lv_aload_n hx hb dX7_put_21 rfl (lv_at hl 1 rfl) ?_
  refine va_get (D := D) (ci := 7) (v := .int (nI ((nt + 1 + 1) + 1))) (C := RX7) (T := TX7) (N := 2) hx hb hts iuX7_put_X7 hown hK hP 0 rfl rfl 1 (by decide) (htw (.fieldLink RX7 15 "MergeJudge$Tape" "size" "I") (List.mem_of_getElem? (i := 0) rfl)) (fun _ h9 => h9) rfl dX7_put_22 ?_
  refine lv_iload_n hx hb dX7_put_25 rfl (lv_at hl 2 rfl) ?_
  refine lv_iload_n hx hb dX7_put_26 rfl (lv_at hl 0 rfl) ?_
  refine lv_ishr hx hb dX7_put_27 ?_
  refine lv_i2b (v := ((a1 >>> ((0 : Int32) &&& 31)).toInt8.toInt32)) hx hb dX7_put_28 rfl ?_
  refine va_bast hx hb hK hP hD hS 1 0 rfl rfl (vp_in_nI (by omega) (by omega)) dX7_put_29 (fun H locs hP hD hS => ?_)
  have hP : va_P D vwCl [(aT, .inr (7, [.ref tb, .int (nI ((nt + 1 + 1) + 1))])), (tb, .inl (cs 0, 400, .inl (upd (upd (upd (upd ft ((nI nt).toNatClampNeg) (vp_nar .byte ((a1 >>> ((24 : Int32) &&& 31)).toInt8.toInt32))) ((nI (nt + 1)).toNatClampNeg) (vp_nar .byte ((a1 >>> ((16 : Int32) &&& 31)).toInt8.toInt32))) ((nI (nt + 1 + 1)).toNatClampNeg) (vp_nar .byte ((a1 >>> ((8 : Int32) &&& 31)).toInt8.toInt32))) ((nI ((nt + 1 + 1) + 1)).toNatClampNeg) (vp_nar .byte ((a1 >>> ((0 : Int32) &&& 31)).toInt8.toInt32)))))] H := hP
  have hD : va_D A [(aT, .inr (7, [.ref tb, .int (nI ((nt + 1 + 1) + 1))])), (tb, .inl (cs 0, 400, .inl (upd (upd (upd (upd ft ((nI nt).toNatClampNeg) (vp_nar .byte ((a1 >>> ((24 : Int32) &&& 31)).toInt8.toInt32))) ((nI (nt + 1)).toNatClampNeg) (vp_nar .byte ((a1 >>> ((16 : Int32) &&& 31)).toInt8.toInt32))) ((nI (nt + 1 + 1)).toNatClampNeg) (vp_nar .byte ((a1 >>> ((8 : Int32) &&& 31)).toInt8.toInt32))) ((nI ((nt + 1 + 1) + 1)).toNatClampNeg) (vp_nar .byte ((a1 >>> ((0 : Int32) &&& 31)).toInt8.toInt32)))))] := hD
  refine lv_aload_n hx hb dX7_put_30 rfl (lv_at hl 1 rfl) ?_
  refine lv_dup hx hb dX7_put_31 rfl ?_
  refine va_get (D := D) (ci := 7) (v := .int (nI ((nt + 1 + 1) + 1))) (C := RX7) (T := TX7) (N := 2) hx hb hts iuX7_put_X7 hown hK hP 0 rfl rfl 1 (by decide) (htw (.fieldLink RX7 15 "MergeJudge$Tape" "size" "I") (List.mem_of_getElem? (i := 0) rfl)) (fun _ h9 => h9) rfl dX7_put_32 ?_
  refine lv_iconst (v := 1) hx hb dX7_put_35 (by decide) ?_
  refine lv_iadd hx hb dX7_put_36 ?_
  refine cf_i (nI (((nt + 1 + 1) + 1) + 1)) (nI_add ((nt + 1 + 1) + 1) 1) ?_
  refine va_put (D := D) (ci := 7) (v := .int (nI (((nt + 1 + 1) + 1) + 1))) (ty := .int) (C := RX7) (T := TX7) (N := 2) hx hb hts iuX7_put_X7 tyX7 tyX7_ok nmX7 hown hK hP hD hS 0 rfl rfl 1 (by decide) (htw (.fieldLink RX7 15 "MergeJudge$Tape" "size" "I") (List.mem_of_getElem? (i := 0) rfl)) (fun _ h9 => h9) rfl (by decide +kernel) rfl rfl (Nat.le_of_ble_eq_true rfl) dX7_put_37 (fun H locs hP hD hS => ?_)
  have hP : va_P D vwCl [(aT, .inr (7, [.ref tb, .int (nI (((nt + 1 + 1) + 1) + 1))])), (tb, .inl (cs 0, 400, .inl (upd (upd (upd (upd ft ((nI nt).toNatClampNeg) (vp_nar .byte ((a1 >>> ((24 : Int32) &&& 31)).toInt8.toInt32))) ((nI (nt + 1)).toNatClampNeg) (vp_nar .byte ((a1 >>> ((16 : Int32) &&& 31)).toInt8.toInt32))) ((nI (nt + 1 + 1)).toNatClampNeg) (vp_nar .byte ((a1 >>> ((8 : Int32) &&& 31)).toInt8.toInt32))) ((nI ((nt + 1 + 1) + 1)).toNatClampNeg) (vp_nar .byte ((a1 >>> ((0 : Int32) &&& 31)).toInt8.toInt32)))))] H := hP
  have hD : va_D A [(aT, .inr (7, [.ref tb, .int (nI (((nt + 1 + 1) + 1) + 1))])), (tb, .inl (cs 0, 400, .inl (upd (upd (upd (upd ft ((nI nt).toNatClampNeg) (vp_nar .byte ((a1 >>> ((24 : Int32) &&& 31)).toInt8.toInt32))) ((nI (nt + 1)).toNatClampNeg) (vp_nar .byte ((a1 >>> ((16 : Int32) &&& 31)).toInt8.toInt32))) ((nI (nt + 1 + 1)).toNatClampNeg) (vp_nar .byte ((a1 >>> ((8 : Int32) &&& 31)).toInt8.toInt32))) ((nI ((nt + 1 + 1) + 1)).toNatClampNeg) (vp_nar .byte ((a1 >>> ((0 : Int32) &&& 31)).toInt8.toInt32)))))] := hD
  refine lv_iinc (v := (-8)) (lv' := [(2, .int (-8)), (0, .ref aT), (1, .int a1)]) hx hb dX7_put_40 hl (k := 0) rfl (by decide) (by decide) rfl (fun ls hl => ?_)
  refine lv_goto (tgt := 3) hx hb dX7_put_43 (by decide) ?_
  refine lv_iload_n hx hb dX7_put_3 rfl (lv_at hl 0 rfl) ?_
  refine lv_if_lt (tgt := 46) hx hb dX7_put_4 (by decide) (fun _ => ?_) (fun h9 => absurd h9 (by decide))
  exact ret_v hx hb hr hlk hS (Nat.le_of_ble_eq_true rfl) (Nat.le_of_ble_eq_true rfl) (((nt + 1 + 1) + 1) + 1, upd (upd (upd (upd ft ((nI nt).toNatClampNeg) (vp_nar .byte ((a1 >>> ((24 : Int32) &&& 31)).toInt8.toInt32))) ((nI (nt + 1)).toNatClampNeg) (vp_nar .byte ((a1 >>> ((16 : Int32) &&& 31)).toInt8.toInt32))) ((nI (nt + 1 + 1)).toNatClampNeg) (vp_nar .byte ((a1 >>> ((8 : Int32) &&& 31)).toInt8.toInt32))) ((nI ((nt + 1 + 1) + 1)).toNatClampNeg) (vp_nar .byte ((a1 >>> ((0 : Int32) &&& 31)).toInt8.toInt32))) (⟨(by first | omega | (dsimp only; omega)), (by unfold PB byt; (repeat rw [nI_clamp (by omega)]); rfl)⟩) (hP.sub [0, 1] rfl) (hD.sub [0, 1] (by decide) rfl) dX7_put_46

set_option maxHeartbeats 4000000 in
set_option maxRecDepth 100000 in
theorem k_X8_feed_f (l : Launch) (D : va_G) (cs : Nat → ClassId) (sz : Nat) (a0 : Nat) (x1 : Int32) (x2 : Int32) (x3 : Int32) (x4 : Int32) (x5 : Int32) (aT : Nat) (aD : Nat) (aO : Nat) (aR : Nat) (aS : Nat) (aJ : Nat) (aC : Nat) (xi : Nat) (xk : Nat) (xl : Nat) (tb : Nat) (ft : Nat → Int32) (nt : Nat) (hnt : nt ≤ 400) : Mi l D cs yX8_feed W_X8_feed 1 22 0 0 [.ref a0, .int x1, .int x2, .int x3, .int x4, .int x5] [(a0, .inr (8, [.ref aT, .ref aD, .ref aO, .ref aR, .ref aS, .ref aJ, .ref aC, .ref xi, .ref xk, .ref xl])), (aT, .inr (7, [.ref tb, .int (nI nt)])), (tb, .inl (cs 0, 400, .inl ft))] sz (fun (r : Int32) (u : Nat × (Nat → Int32)) => (u.1 ≤ 400) ∧ (r = fdr nt) ∧ (u.1 = fdn nt) ∧ (u.2 = FDB x1 x2 x3 x4 x5 nt ft)) (fun (u : Nat × (Nat → Int32)) => [(a0, .inr (8, [.ref aT, .ref aD, .ref aO, .ref aR, .ref aS, .ref aJ, .ref aC, .ref xi, .ref xk, .ref xl])), (aT, .inr (7, [.ref tb, .int (nI u.1)])), (tb, .inl (cs 0, 400, .inl u.2))]) := by
  refine ent (D := D) (cs := cs) (y := yX8_feed) (ws := W_X8_feed) (As := [.ref a0, .int x1, .int x2, .int x3, .int x4, .int x5]) (W0 := [(a0, .inr (8, [.ref aT, .ref aD, .ref aO, .ref aR, .ref aS, .ref aJ, .ref aC, .ref xi, .ref xk, .ref xl])), (aT, .inr (7, [.ref tb, .int (nI nt)])), (tb, .inl (cs 0, 400, .inl ft))]) (Qx := fun A => va_Qi (fun (r : Int32) (u : Nat × (Nat → Int32)) => (u.1 ≤ 400) ∧ (r = fdr nt) ∧ (u.1 = fdn nt) ∧ (u.2 = FDB x1 x2 x3 x4 x5 nt ft)) (mpost D A (fun (u : Nat × (Nat → Int32)) => [(a0, .inr (8, [.ref aT, .ref aD, .ref aO, .ref aR, .ref aS, .ref aJ, .ref aC, .ref xi, .ref xk, .ref xl])), (aT, .inr (7, [.ref tb, .int (nI u.1)])), (tb, .inl (cs 0, 400, .inl u.2))])) A) (maxL := 6) (ret := (some .int)) (by decide) rfl (Nat.le_of_ble_eq_true rfl) ?_
  intro p e s m below meth c A ls hx hb hr hml hlk hown hts hin hK hE hP hD hA hS hl
  have hl : lv_has ls 6 [(0, .ref a0), (1, .int x1), (2, .int x2), (3, .int x3), (4, .int x4), (5, .int x5)] := hl
  generalize hHe : s.heap = H at hP
  have hS : va_S A s.heap H [] := hHe ▸ hS
  generalize hLe : ([] : List Loc) = locs at hS ⊢
  have htw : ∀ w ∈ O_X8_feed, w.before ([.ref a0, .int x1, .int x2, .int x3, .int x4, .int x5] : List Value).toArray s = true := fun w h => hts w (List.mem_cons_of_mem _ (List.mem_append_left _ h))
  have hFix := (⟨hx, hb, hml, hown, hts⟩ : CallFix p m c _ _ s _ _ _)
  refine lv_aload_n hx hb dX8_feed_0 rfl (lv_at hl 0 rfl) ?_
  refine va_get (D := D) (ci := 8) (v := .ref aT) (C := RX8) (T := TX8) (N := 10) hx hb hts iuX8_feed_X8 hown hK hP 0 rfl rfl 0 (by decide) (htw (.fieldLink RX8 10 "MergeJudge" "tape" "LMergeJudge$Tape;") (List.mem_of_getElem? (i := 0) rfl)) (fun _ h9 => h9) rfl dX8_feed_1 ?_
  refine va_get (D := D) (ci := 7) (v := .int (nI nt)) (C := RX7) (T := TX7) (N := 2) hx hb hts iuX8_feed_X7 hown hK hP 1 rfl rfl 1 (by decide) (htw (.fieldLink RX8 75 "MergeJudge$Tape" "size" "I") (List.mem_of_getElem? (i := 1) rfl)) (fun _ h9 => h9) rfl dX8_feed_4 ?_
  refine lv_bipush (v := 20) hx hb dX8_feed_7 (by decide) ?_
  refine lv_iadd hx hb dX8_feed_9 ?_
  refine cf_i (nI (nt + 20)) (nI_add nt 20) ?_
  refine lv_sipush (v := 400) hx hb dX8_feed_10 (by decide) ?_
  refine lv_icmp_le (tgt := 18) hx hb dX8_feed_13 (by decide) (fun c_1 => ?_) (fun c_1 => ?_)
  ·
    have hn_1 := ble_t (a := nt + 20) (b := 400) c_1 (by omega) (by omega)
    refine lv_aload_n hx hb dX8_feed_18 rfl (lv_at hl 0 rfl) ?_
    refine va_get (D := D) (ci := 8) (v := .ref aT) (C := RX8) (T := TX8) (N := 10) hx hb hts iuX8_feed_X8 hown hK hP 0 rfl rfl 0 (by decide) (htw (.fieldLink RX8 10 "MergeJudge" "tape" "LMergeJudge$Tape;") (List.mem_of_getElem? (i := 0) rfl)) (fun _ h9 => h9) rfl dX8_feed_19 ?_
    refine lv_iload_n hx hb dX8_feed_22 rfl (lv_at hl 1 rfl) ?_
    refine aft_v (wr := [(a0, .inr (8, [.ref aT, .ref aD, .ref aO, .ref aR, .ref aS, .ref aJ, .ref aC, .ref xi, .ref xk, .ref xl]))]) hP hD hS hA [1, 2] [0] rfl rfl (by decide) (by decide) (run_v (As := [.int x1]) (rest := []) hFix hK hE hP hD [1, 2] (k_X7_put_f l D cs _ aT x1 tb ft nt (by first | assumption | decide | omega) (by first | assumption | decide | omega)) (cwV 1 hts gc_X8_feed_79_X7_put rfl rfl rfl (by decide +kernel) ⟨Nat.le_of_ble_eq_true rfl, Nat.le_of_ble_eq_true rfl⟩) rfl (by decide) rfl rfl rfl hl.1 rfl (Nat.le_of_ble_eq_true rfl) dX8_feed_23 ⟨Nat.le_of_ble_eq_true rfl, Nat.le_of_ble_eq_true rfl⟩) (fun u_2 H locs hq_2 hP hD hS => ?_)
    obtain ⟨nt1_2, ft1_2⟩ := u_2
    have hP : va_P D vwCl [(a0, .inr (8, [.ref aT, .ref aD, .ref aO, .ref aR, .ref aS, .ref aJ, .ref aC, .ref xi, .ref xk, .ref xl])), (aT, .inr (7, [.ref tb, .int (nI nt1_2)])), (tb, .inl (cs 0, 400, .inl ft1_2))] H := hP
    have hD : va_D A [(a0, .inr (8, [.ref aT, .ref aD, .ref aO, .ref aR, .ref aS, .ref aJ, .ref aC, .ref xi, .ref xk, .ref xl])), (aT, .inr (7, [.ref tb, .int (nI nt1_2)])), (tb, .inl (cs 0, 400, .inl ft1_2))] := hD
    replace hq_2 : (nt1_2 = nt + 4) ∧ (ft1_2 = PB x1 nt ft) := hq_2
    obtain ⟨hp_2_0, hp_2_1⟩ := hq_2
    refine lv_aload_n hx hb dX8_feed_26 rfl (lv_at hl 0 rfl) ?_
    refine va_get (D := D) (ci := 8) (v := .ref aT) (C := RX8) (T := TX8) (N := 10) hx hb hts iuX8_feed_X8 hown hK hP 0 rfl rfl 0 (by decide) (htw (.fieldLink RX8 10 "MergeJudge" "tape" "LMergeJudge$Tape;") (List.mem_of_getElem? (i := 0) rfl)) (fun _ h9 => h9) rfl dX8_feed_27 ?_
    refine lv_iload_n hx hb dX8_feed_30 rfl (lv_at hl 2 rfl) ?_
    refine aft_v (wr := [(a0, .inr (8, [.ref aT, .ref aD, .ref aO, .ref aR, .ref aS, .ref aJ, .ref aC, .ref xi, .ref xk, .ref xl]))]) hP hD hS hA [1, 2] [0] rfl rfl (by decide) (by decide) (run_v (As := [.int x2]) (rest := []) hFix hK hE hP hD [1, 2] (k_X7_put_f l D cs _ aT x2 tb ft1_2 nt1_2 (by first | assumption | decide | omega) (by first | assumption | decide | omega)) (cwV 1 hts gc_X8_feed_79_X7_put rfl rfl rfl (by decide +kernel) ⟨Nat.le_of_ble_eq_true rfl, Nat.le_of_ble_eq_true rfl⟩) rfl (by decide) rfl rfl rfl hl.1 rfl (Nat.le_of_ble_eq_true rfl) dX8_feed_31 ⟨Nat.le_of_ble_eq_true rfl, Nat.le_of_ble_eq_true rfl⟩) (fun u_3 H locs hq_3 hP hD hS => ?_)
    obtain ⟨nt1_3, ft1_3⟩ := u_3
    have hP : va_P D vwCl [(a0, .inr (8, [.ref aT, .ref aD, .ref aO, .ref aR, .ref aS, .ref aJ, .ref aC, .ref xi, .ref xk, .ref xl])), (aT, .inr (7, [.ref tb, .int (nI nt1_3)])), (tb, .inl (cs 0, 400, .inl ft1_3))] H := hP
    have hD : va_D A [(a0, .inr (8, [.ref aT, .ref aD, .ref aO, .ref aR, .ref aS, .ref aJ, .ref aC, .ref xi, .ref xk, .ref xl])), (aT, .inr (7, [.ref tb, .int (nI nt1_3)])), (tb, .inl (cs 0, 400, .inl ft1_3))] := hD
    replace hq_3 : (nt1_3 = nt1_2 + 4) ∧ (ft1_3 = PB x2 nt1_2 ft1_2) := hq_3
    obtain ⟨hp_3_0, hp_3_1⟩ := hq_3
    refine lv_aload_n hx hb dX8_feed_34 rfl (lv_at hl 0 rfl) ?_
    refine va_get (D := D) (ci := 8) (v := .ref aT) (C := RX8) (T := TX8) (N := 10) hx hb hts iuX8_feed_X8 hown hK hP 0 rfl rfl 0 (by decide) (htw (.fieldLink RX8 10 "MergeJudge" "tape" "LMergeJudge$Tape;") (List.mem_of_getElem? (i := 0) rfl)) (fun _ h9 => h9) rfl dX8_feed_35 ?_
    refine lv_iload_n hx hb dX8_feed_38 rfl (lv_at hl 3 rfl) ?_
    refine aft_v (wr := [(a0, .inr (8, [.ref aT, .ref aD, .ref aO, .ref aR, .ref aS, .ref aJ, .ref aC, .ref xi, .ref xk, .ref xl]))]) hP hD hS hA [1, 2] [0] rfl rfl (by decide) (by decide) (run_v (As := [.int x3]) (rest := []) hFix hK hE hP hD [1, 2] (k_X7_put_f l D cs _ aT x3 tb ft1_3 nt1_3 (by first | assumption | decide | omega) (by first | assumption | decide | omega)) (cwV 1 hts gc_X8_feed_79_X7_put rfl rfl rfl (by decide +kernel) ⟨Nat.le_of_ble_eq_true rfl, Nat.le_of_ble_eq_true rfl⟩) rfl (by decide) rfl rfl rfl hl.1 rfl (Nat.le_of_ble_eq_true rfl) dX8_feed_39 ⟨Nat.le_of_ble_eq_true rfl, Nat.le_of_ble_eq_true rfl⟩) (fun u_4 H locs hq_4 hP hD hS => ?_)
    obtain ⟨nt1_4, ft1_4⟩ := u_4
    have hP : va_P D vwCl [(a0, .inr (8, [.ref aT, .ref aD, .ref aO, .ref aR, .ref aS, .ref aJ, .ref aC, .ref xi, .ref xk, .ref xl])), (aT, .inr (7, [.ref tb, .int (nI nt1_4)])), (tb, .inl (cs 0, 400, .inl ft1_4))] H := hP
    have hD : va_D A [(a0, .inr (8, [.ref aT, .ref aD, .ref aO, .ref aR, .ref aS, .ref aJ, .ref aC, .ref xi, .ref xk, .ref xl])), (aT, .inr (7, [.ref tb, .int (nI nt1_4)])), (tb, .inl (cs 0, 400, .inl ft1_4))] := hD
    replace hq_4 : (nt1_4 = nt1_3 + 4) ∧ (ft1_4 = PB x3 nt1_3 ft1_3) := hq_4
    obtain ⟨hp_4_0, hp_4_1⟩ := hq_4
    refine lv_aload_n hx hb dX8_feed_42 rfl (lv_at hl 0 rfl) ?_
    refine va_get (D := D) (ci := 8) (v := .ref aT) (C := RX8) (T := TX8) (N := 10) hx hb hts iuX8_feed_X8 hown hK hP 0 rfl rfl 0 (by decide) (htw (.fieldLink RX8 10 "MergeJudge" "tape" "LMergeJudge$Tape;") (List.mem_of_getElem? (i := 0) rfl)) (fun _ h9 => h9) rfl dX8_feed_43 ?_
    refine lv_iload hx hb dX8_feed_46 (lv_at hl 4 rfl) ?_
    refine aft_v (wr := [(a0, .inr (8, [.ref aT, .ref aD, .ref aO, .ref aR, .ref aS, .ref aJ, .ref aC, .ref xi, .ref xk, .ref xl]))]) hP hD hS hA [1, 2] [0] rfl rfl (by decide) (by decide) (run_v (As := [.int x4]) (rest := []) hFix hK hE hP hD [1, 2] (k_X7_put_f l D cs _ aT x4 tb ft1_4 nt1_4 (by first | assumption | decide | omega) (by first | assumption | decide | omega)) (cwV 1 hts gc_X8_feed_79_X7_put rfl rfl rfl (by decide +kernel) ⟨Nat.le_of_ble_eq_true rfl, Nat.le_of_ble_eq_true rfl⟩) rfl (by decide) rfl rfl rfl hl.1 rfl (Nat.le_of_ble_eq_true rfl) dX8_feed_48 ⟨Nat.le_of_ble_eq_true rfl, Nat.le_of_ble_eq_true rfl⟩) (fun u_5 H locs hq_5 hP hD hS => ?_)
    obtain ⟨nt1_5, ft1_5⟩ := u_5
    have hP : va_P D vwCl [(a0, .inr (8, [.ref aT, .ref aD, .ref aO, .ref aR, .ref aS, .ref aJ, .ref aC, .ref xi, .ref xk, .ref xl])), (aT, .inr (7, [.ref tb, .int (nI nt1_5)])), (tb, .inl (cs 0, 400, .inl ft1_5))] H := hP
    have hD : va_D A [(a0, .inr (8, [.ref aT, .ref aD, .ref aO, .ref aR, .ref aS, .ref aJ, .ref aC, .ref xi, .ref xk, .ref xl])), (aT, .inr (7, [.ref tb, .int (nI nt1_5)])), (tb, .inl (cs 0, 400, .inl ft1_5))] := hD
    replace hq_5 : (nt1_5 = nt1_4 + 4) ∧ (ft1_5 = PB x4 nt1_4 ft1_4) := hq_5
    obtain ⟨hp_5_0, hp_5_1⟩ := hq_5
    refine lv_aload_n hx hb dX8_feed_51 rfl (lv_at hl 0 rfl) ?_
    refine va_get (D := D) (ci := 8) (v := .ref aT) (C := RX8) (T := TX8) (N := 10) hx hb hts iuX8_feed_X8 hown hK hP 0 rfl rfl 0 (by decide) (htw (.fieldLink RX8 10 "MergeJudge" "tape" "LMergeJudge$Tape;") (List.mem_of_getElem? (i := 0) rfl)) (fun _ h9 => h9) rfl dX8_feed_52 ?_
    refine lv_iload hx hb dX8_feed_55 (lv_at hl 5 rfl) ?_
    refine aft_v (wr := [(a0, .inr (8, [.ref aT, .ref aD, .ref aO, .ref aR, .ref aS, .ref aJ, .ref aC, .ref xi, .ref xk, .ref xl]))]) hP hD hS hA [1, 2] [0] rfl rfl (by decide) (by decide) (run_v (As := [.int x5]) (rest := []) hFix hK hE hP hD [1, 2] (k_X7_put_f l D cs _ aT x5 tb ft1_5 nt1_5 (by first | assumption | decide | omega) (by first | assumption | decide | omega)) (cwV 1 hts gc_X8_feed_79_X7_put rfl rfl rfl (by decide +kernel) ⟨Nat.le_of_ble_eq_true rfl, Nat.le_of_ble_eq_true rfl⟩) rfl (by decide) rfl rfl rfl hl.1 rfl (Nat.le_of_ble_eq_true rfl) dX8_feed_57 ⟨Nat.le_of_ble_eq_true rfl, Nat.le_of_ble_eq_true rfl⟩) (fun u_6 H locs hq_6 hP hD hS => ?_)
    obtain ⟨nt1_6, ft1_6⟩ := u_6
    have hP : va_P D vwCl [(a0, .inr (8, [.ref aT, .ref aD, .ref aO, .ref aR, .ref aS, .ref aJ, .ref aC, .ref xi, .ref xk, .ref xl])), (aT, .inr (7, [.ref tb, .int (nI nt1_6)])), (tb, .inl (cs 0, 400, .inl ft1_6))] H := hP
    have hD : va_D A [(a0, .inr (8, [.ref aT, .ref aD, .ref aO, .ref aR, .ref aS, .ref aJ, .ref aC, .ref xi, .ref xk, .ref xl])), (aT, .inr (7, [.ref tb, .int (nI nt1_6)])), (tb, .inl (cs 0, 400, .inl ft1_6))] := hD
    replace hq_6 : (nt1_6 = nt1_5 + 4) ∧ (ft1_6 = PB x5 nt1_5 ft1_5) := hq_6
    obtain ⟨hp_6_0, hp_6_1⟩ := hq_6
    refine lv_aload_n hx hb dX8_feed_60 rfl (lv_at hl 0 rfl) ?_
    refine va_get (D := D) (ci := 8) (v := .ref aT) (C := RX8) (T := TX8) (N := 10) hx hb hts iuX8_feed_X8 hown hK hP 0 rfl rfl 0 (by decide) (htw (.fieldLink RX8 10 "MergeJudge" "tape" "LMergeJudge$Tape;") (List.mem_of_getElem? (i := 0) rfl)) (fun _ h9 => h9) rfl dX8_feed_61 ?_
    refine va_get (D := D) (ci := 7) (v := .int (nI nt1_6)) (C := RX7) (T := TX7) (N := 2) hx hb hts iuX8_feed_X7 hown hK hP 1 rfl rfl 1 (by decide) (htw (.fieldLink RX8 75 "MergeJudge$Tape" "size" "I") (List.mem_of_getElem? (i := 1) rfl)) (fun _ h9 => h9) rfl dX8_feed_64 ?_
    exact ret_i hx hb hr hlk hS (Nat.le_of_ble_eq_true rfl) (Nat.le_of_ble_eq_true rfl) (nt1_6, ft1_6) (⟨(by first | omega | (dsimp only; omega)), (by have e9 : nt1_6 = nt + 20 := (by omega); rw [e9]; exact (fd_y (by omega)).1), (by have e9 : nt1_6 = nt + 20 := (by omega); rw [e9]; exact (fd_y (by omega)).2), (by rw [fdb_y (by omega), hp_6_1, hp_5_1, hp_4_1, hp_3_1, hp_2_1, show nt1_2 = nt + 4 by omega, show nt1_3 = nt + 8 by omega, show nt1_4 = nt + 12 by omega, show nt1_5 = nt + 16 by omega]; rfl)⟩) (hP.sub [0, 1, 2] rfl) (hD.sub [0, 1, 2] (by decide) rfl) dX8_feed_67
  ·
    have hn_1 := ble_f (a := nt + 20) (b := 400) c_1 (by omega) (by omega)
    refine lv_iconst (v := (-1)) hx hb dX8_feed_16 (by decide) ?_
    exact ret_i hx hb hr hlk hS (Nat.le_of_ble_eq_true rfl) (Nat.le_of_ble_eq_true rfl) (nt, ft) (⟨(by first | omega | (dsimp only; omega)), (fd_n (by omega)).1, (fd_n (by omega)).2, (fdb_n (by omega))⟩) (hP.sub [0, 1, 2] rfl) (hD.sub [0, 1, 2] (by decide) rfl) dX8_feed_17

set_option maxHeartbeats 4000000 in
set_option maxRecDepth 100000 in
theorem k_X9_feed_f (l : Launch) (D : va_G) (cs : Nat → ClassId) (sz : Nat) (b0 : Nat) (x1 : Int32) (x2 : Int32) (x3 : Int32) (x4 : Int32) (x5 : Int32) (zThrown : Int32) (mWorld : Nat) (mImages : Nat) (mHasImage : Nat) (mTape : Nat) (mFive : Nat) (zToken : Int32) (zValue : Int32) (zFaultKind : Int32) (zFaultPlace : Int32) (mFresh : Nat) (mMergedBy : Nat) (zLawNow : Int32) (zLockedNow : Int32) (zDroppedNow : Int32) (mIsValid : Nat) (mGoes : Nat) (mFarNow : Nat) (mFreeNow : Nat) (mIsPair : Nat) (mHitsBy : Nat) (zBreakMany : Int32) (zLeastOps : Int32) (zLeastBase : Int32) (zLeastFirst : Int32) (zLeastSecond : Int32) (zBestLocks : Int32) (zInEach : Int32) (zFitMany : Int32) (zFitFirst : Int32) (mWorthBy : Nat) (zOftenAll : Int64) (zOftenSafe : Int64) (zOftenValid : Int64) (mMany : Nat) (mWidth : Nat) (mNumbers : Nat) (mMoving : Nat) (gTape : Nat → Int32) (gFive : Nat → Int32) (zTaped : Nat) (zSize : Nat) (zAt : Nat) (zFrom : Nat) (hzt : zTaped ≤ 400) (hzs : zSize ≤ 400) : Mi l D cs yX9_feed W_X9_feed 0 0 0 0 [.ref b0, .int x1, .int x2, .int x3, .int x4, .int x5] [(b0, .inr (9, [.int zThrown, .ref mWorld, .ref mImages, .ref mHasImage, .ref mTape, .int (nI zTaped), .ref mFive, .int (nI zSize), .int (nI zAt), .int (nI zFrom), .int zToken, .int zValue, .int zFaultKind, .int zFaultPlace, .ref mFresh, .ref mMergedBy, .int zLawNow, .int zLockedNow, .int zDroppedNow, .ref mIsValid, .ref mGoes, .ref mFarNow, .ref mFreeNow, .ref mIsPair, .ref mHitsBy, .int zBreakMany, .int zLeastOps, .int zLeastBase, .int zLeastFirst, .int zLeastSecond, .int zBestLocks, .int zInEach, .int zFitMany, .int zFitFirst, .ref mWorthBy, .long zOftenAll, .long zOftenSafe, .long zOftenValid, .ref mMany, .ref mWidth, .ref mNumbers, .ref mMoving])), (mTape, .inl (cs 0, 400, .inl gTape)), (mFive, .inl (cs 1, 5, .inl gFive))] sz (fun (r : Int32) (u : Nat × (Nat → Int32) × (Nat → Int32)) => (u.1 ≤ 400) ∧ (r = fdr zTaped) ∧ (u.1 = fdn zTaped) ∧ (u.2.1 = FDB x1 x2 x3 x4 x5 zTaped gTape)) (fun (u : Nat × (Nat → Int32) × (Nat → Int32)) => [(b0, .inr (9, [.int zThrown, .ref mWorld, .ref mImages, .ref mHasImage, .ref mTape, .int (nI u.1), .ref mFive, .int (nI zSize), .int (nI zAt), .int (nI zFrom), .int zToken, .int zValue, .int zFaultKind, .int zFaultPlace, .ref mFresh, .ref mMergedBy, .int zLawNow, .int zLockedNow, .int zDroppedNow, .ref mIsValid, .ref mGoes, .ref mFarNow, .ref mFreeNow, .ref mIsPair, .ref mHitsBy, .int zBreakMany, .int zLeastOps, .int zLeastBase, .int zLeastFirst, .int zLeastSecond, .int zBestLocks, .int zInEach, .int zFitMany, .int zFitFirst, .ref mWorthBy, .long zOftenAll, .long zOftenSafe, .long zOftenValid, .ref mMany, .ref mWidth, .ref mNumbers, .ref mMoving])), (mTape, .inl (cs 0, 400, .inl u.2.1)), (mFive, .inl (cs 1, 5, .inl u.2.2))]) := by
  refine ent (D := D) (cs := cs) (y := yX9_feed) (ws := W_X9_feed) (As := [.ref b0, .int x1, .int x2, .int x3, .int x4, .int x5]) (W0 := [(b0, .inr (9, [.int zThrown, .ref mWorld, .ref mImages, .ref mHasImage, .ref mTape, .int (nI zTaped), .ref mFive, .int (nI zSize), .int (nI zAt), .int (nI zFrom), .int zToken, .int zValue, .int zFaultKind, .int zFaultPlace, .ref mFresh, .ref mMergedBy, .int zLawNow, .int zLockedNow, .int zDroppedNow, .ref mIsValid, .ref mGoes, .ref mFarNow, .ref mFreeNow, .ref mIsPair, .ref mHitsBy, .int zBreakMany, .int zLeastOps, .int zLeastBase, .int zLeastFirst, .int zLeastSecond, .int zBestLocks, .int zInEach, .int zFitMany, .int zFitFirst, .ref mWorthBy, .long zOftenAll, .long zOftenSafe, .long zOftenValid, .ref mMany, .ref mWidth, .ref mNumbers, .ref mMoving])), (mTape, .inl (cs 0, 400, .inl gTape)), (mFive, .inl (cs 1, 5, .inl gFive))]) (Qx := fun A => va_Qi (fun (r : Int32) (u : Nat × (Nat → Int32) × (Nat → Int32)) => (u.1 ≤ 400) ∧ (r = fdr zTaped) ∧ (u.1 = fdn zTaped) ∧ (u.2.1 = FDB x1 x2 x3 x4 x5 zTaped gTape)) (mpost D A (fun (u : Nat × (Nat → Int32) × (Nat → Int32)) => [(b0, .inr (9, [.int zThrown, .ref mWorld, .ref mImages, .ref mHasImage, .ref mTape, .int (nI u.1), .ref mFive, .int (nI zSize), .int (nI zAt), .int (nI zFrom), .int zToken, .int zValue, .int zFaultKind, .int zFaultPlace, .ref mFresh, .ref mMergedBy, .int zLawNow, .int zLockedNow, .int zDroppedNow, .ref mIsValid, .ref mGoes, .ref mFarNow, .ref mFreeNow, .ref mIsPair, .ref mHitsBy, .int zBreakMany, .int zLeastOps, .int zLeastBase, .int zLeastFirst, .int zLeastSecond, .int zBestLocks, .int zInEach, .int zFitMany, .int zFitFirst, .ref mWorthBy, .long zOftenAll, .long zOftenSafe, .long zOftenValid, .ref mMany, .ref mWidth, .ref mNumbers, .ref mMoving])), (mTape, .inl (cs 0, 400, .inl u.2.1)), (mFive, .inl (cs 1, 5, .inl u.2.2))])) A) (maxL := 7) (ret := (some .int)) (by decide) rfl (Nat.le_of_ble_eq_true rfl) ?_
  intro p e s m below meth c A ls hx hb hr hml hlk hown hts hin hK hE hP hD hA hS hl
  have hl : lv_has ls 7 [(0, .ref b0), (1, .int x1), (2, .int x2), (3, .int x3), (4, .int x4), (5, .int x5)] := hl
  generalize hHe : s.heap = H at hP
  have hS : va_S A s.heap H [] := hHe ▸ hS
  generalize hLe : ([] : List Loc) = locs at hS ⊢
  have htw : ∀ w ∈ O_X9_feed, w.before ([.ref b0, .int x1, .int x2, .int x3, .int x4, .int x5] : List Value).toArray s = true := fun w h => hts w (List.mem_cons_of_mem _ (List.mem_append_left _ h))
  have hFix := (⟨hx, hb, hml, hown, hts⟩ : CallFix p m c _ _ s _ _ _)
  refine lv_aload_n hx hb dX9_feed_0 rfl (lv_at hl 0 rfl) ?_
  refine va_get (D := D) (ci := 9) (v := .int (nI zTaped)) (C := RX9) (T := TX9) (N := 42) hx hb hts iuX9_feed_X9 hown hK hP 0 rfl rfl 5 (by decide) (htw (.fieldLink RX9 99 "MergeJudgeModel" "taped" "I") (List.mem_of_getElem? (i := 0) rfl)) (fun _ h9 => h9) rfl dX9_feed_1 ?_
  refine lv_bipush (v := 20) hx hb dX9_feed_4 (by decide) ?_
  refine lv_iadd hx hb dX9_feed_6 ?_
  refine cf_i (nI (zTaped + 20)) (nI_add zTaped 20) ?_
  refine lv_sipush (v := 400) hx hb dX9_feed_7 (by decide) ?_
  refine lv_icmp_le (tgt := 15) hx hb dX9_feed_10 (by decide) (fun c_1 => ?_) (fun c_1 => ?_)
  ·
    have hn_1 := ble_t (a := zTaped + 20) (b := 400) c_1 (by omega) (by omega)
    refine lv_aload_n hx hb dX9_feed_15 rfl (lv_at hl 0 rfl) ?_
    refine va_get (D := D) (ci := 9) (v := .ref mFive) (C := RX9) (T := TX9) (N := 42) hx hb hts iuX9_feed_X9 hown hK hP 0 rfl rfl 6 (by decide) (htw (.fieldLink RX9 24 "MergeJudgeModel" "five" "[I") (List.mem_of_getElem? (i := 1) rfl)) (fun _ h9 => h9) rfl dX9_feed_16 ?_
    refine lv_iconst (v := 0) hx hb dX9_feed_19 (by decide) ?_
    refine lv_iload_n hx hb dX9_feed_20 rfl (lv_at hl 1 rfl) ?_
    refine va_iast hx hb hK hP hD hS 2 1 rfl rfl (vp_c (by decide)) dX9_feed_21 (fun H locs hP hD hS => ?_)
    have hP : va_P D vwCl [(b0, .inr (9, [.int zThrown, .ref mWorld, .ref mImages, .ref mHasImage, .ref mTape, .int (nI zTaped), .ref mFive, .int (nI zSize), .int (nI zAt), .int (nI zFrom), .int zToken, .int zValue, .int zFaultKind, .int zFaultPlace, .ref mFresh, .ref mMergedBy, .int zLawNow, .int zLockedNow, .int zDroppedNow, .ref mIsValid, .ref mGoes, .ref mFarNow, .ref mFreeNow, .ref mIsPair, .ref mHitsBy, .int zBreakMany, .int zLeastOps, .int zLeastBase, .int zLeastFirst, .int zLeastSecond, .int zBestLocks, .int zInEach, .int zFitMany, .int zFitFirst, .ref mWorthBy, .long zOftenAll, .long zOftenSafe, .long zOftenValid, .ref mMany, .ref mWidth, .ref mNumbers, .ref mMoving])), (mTape, .inl (cs 0, 400, .inl gTape)), (mFive, .inl (cs 1, 5, .inl (upd gFive 0 x1)))] H := hP
    have hD : va_D A [(b0, .inr (9, [.int zThrown, .ref mWorld, .ref mImages, .ref mHasImage, .ref mTape, .int (nI zTaped), .ref mFive, .int (nI zSize), .int (nI zAt), .int (nI zFrom), .int zToken, .int zValue, .int zFaultKind, .int zFaultPlace, .ref mFresh, .ref mMergedBy, .int zLawNow, .int zLockedNow, .int zDroppedNow, .ref mIsValid, .ref mGoes, .ref mFarNow, .ref mFreeNow, .ref mIsPair, .ref mHitsBy, .int zBreakMany, .int zLeastOps, .int zLeastBase, .int zLeastFirst, .int zLeastSecond, .int zBestLocks, .int zInEach, .int zFitMany, .int zFitFirst, .ref mWorthBy, .long zOftenAll, .long zOftenSafe, .long zOftenValid, .ref mMany, .ref mWidth, .ref mNumbers, .ref mMoving])), (mTape, .inl (cs 0, 400, .inl gTape)), (mFive, .inl (cs 1, 5, .inl (upd gFive 0 x1)))] := hD
    refine lv_aload_n hx hb dX9_feed_22 rfl (lv_at hl 0 rfl) ?_
    refine va_get (D := D) (ci := 9) (v := .ref mFive) (C := RX9) (T := TX9) (N := 42) hx hb hts iuX9_feed_X9 hown hK hP 0 rfl rfl 6 (by decide) (htw (.fieldLink RX9 24 "MergeJudgeModel" "five" "[I") (List.mem_of_getElem? (i := 1) rfl)) (fun _ h9 => h9) rfl dX9_feed_23 ?_
    refine lv_iconst (v := 1) hx hb dX9_feed_26 (by decide) ?_
    refine lv_iload_n hx hb dX9_feed_27 rfl (lv_at hl 2 rfl) ?_
    refine va_iast hx hb hK hP hD hS 2 1 rfl rfl (vp_c (by decide)) dX9_feed_28 (fun H locs hP hD hS => ?_)
    have hP : va_P D vwCl [(b0, .inr (9, [.int zThrown, .ref mWorld, .ref mImages, .ref mHasImage, .ref mTape, .int (nI zTaped), .ref mFive, .int (nI zSize), .int (nI zAt), .int (nI zFrom), .int zToken, .int zValue, .int zFaultKind, .int zFaultPlace, .ref mFresh, .ref mMergedBy, .int zLawNow, .int zLockedNow, .int zDroppedNow, .ref mIsValid, .ref mGoes, .ref mFarNow, .ref mFreeNow, .ref mIsPair, .ref mHitsBy, .int zBreakMany, .int zLeastOps, .int zLeastBase, .int zLeastFirst, .int zLeastSecond, .int zBestLocks, .int zInEach, .int zFitMany, .int zFitFirst, .ref mWorthBy, .long zOftenAll, .long zOftenSafe, .long zOftenValid, .ref mMany, .ref mWidth, .ref mNumbers, .ref mMoving])), (mTape, .inl (cs 0, 400, .inl gTape)), (mFive, .inl (cs 1, 5, .inl (upd (upd gFive 0 x1) 1 x2)))] H := hP
    have hD : va_D A [(b0, .inr (9, [.int zThrown, .ref mWorld, .ref mImages, .ref mHasImage, .ref mTape, .int (nI zTaped), .ref mFive, .int (nI zSize), .int (nI zAt), .int (nI zFrom), .int zToken, .int zValue, .int zFaultKind, .int zFaultPlace, .ref mFresh, .ref mMergedBy, .int zLawNow, .int zLockedNow, .int zDroppedNow, .ref mIsValid, .ref mGoes, .ref mFarNow, .ref mFreeNow, .ref mIsPair, .ref mHitsBy, .int zBreakMany, .int zLeastOps, .int zLeastBase, .int zLeastFirst, .int zLeastSecond, .int zBestLocks, .int zInEach, .int zFitMany, .int zFitFirst, .ref mWorthBy, .long zOftenAll, .long zOftenSafe, .long zOftenValid, .ref mMany, .ref mWidth, .ref mNumbers, .ref mMoving])), (mTape, .inl (cs 0, 400, .inl gTape)), (mFive, .inl (cs 1, 5, .inl (upd (upd gFive 0 x1) 1 x2)))] := hD
    refine lv_aload_n hx hb dX9_feed_29 rfl (lv_at hl 0 rfl) ?_
    refine va_get (D := D) (ci := 9) (v := .ref mFive) (C := RX9) (T := TX9) (N := 42) hx hb hts iuX9_feed_X9 hown hK hP 0 rfl rfl 6 (by decide) (htw (.fieldLink RX9 24 "MergeJudgeModel" "five" "[I") (List.mem_of_getElem? (i := 1) rfl)) (fun _ h9 => h9) rfl dX9_feed_30 ?_
    refine lv_iconst (v := 2) hx hb dX9_feed_33 (by decide) ?_
    refine lv_iload_n hx hb dX9_feed_34 rfl (lv_at hl 3 rfl) ?_
    refine va_iast hx hb hK hP hD hS 2 1 rfl rfl (vp_c (by decide)) dX9_feed_35 (fun H locs hP hD hS => ?_)
    have hP : va_P D vwCl [(b0, .inr (9, [.int zThrown, .ref mWorld, .ref mImages, .ref mHasImage, .ref mTape, .int (nI zTaped), .ref mFive, .int (nI zSize), .int (nI zAt), .int (nI zFrom), .int zToken, .int zValue, .int zFaultKind, .int zFaultPlace, .ref mFresh, .ref mMergedBy, .int zLawNow, .int zLockedNow, .int zDroppedNow, .ref mIsValid, .ref mGoes, .ref mFarNow, .ref mFreeNow, .ref mIsPair, .ref mHitsBy, .int zBreakMany, .int zLeastOps, .int zLeastBase, .int zLeastFirst, .int zLeastSecond, .int zBestLocks, .int zInEach, .int zFitMany, .int zFitFirst, .ref mWorthBy, .long zOftenAll, .long zOftenSafe, .long zOftenValid, .ref mMany, .ref mWidth, .ref mNumbers, .ref mMoving])), (mTape, .inl (cs 0, 400, .inl gTape)), (mFive, .inl (cs 1, 5, .inl (upd (upd (upd gFive 0 x1) 1 x2) 2 x3)))] H := hP
    have hD : va_D A [(b0, .inr (9, [.int zThrown, .ref mWorld, .ref mImages, .ref mHasImage, .ref mTape, .int (nI zTaped), .ref mFive, .int (nI zSize), .int (nI zAt), .int (nI zFrom), .int zToken, .int zValue, .int zFaultKind, .int zFaultPlace, .ref mFresh, .ref mMergedBy, .int zLawNow, .int zLockedNow, .int zDroppedNow, .ref mIsValid, .ref mGoes, .ref mFarNow, .ref mFreeNow, .ref mIsPair, .ref mHitsBy, .int zBreakMany, .int zLeastOps, .int zLeastBase, .int zLeastFirst, .int zLeastSecond, .int zBestLocks, .int zInEach, .int zFitMany, .int zFitFirst, .ref mWorthBy, .long zOftenAll, .long zOftenSafe, .long zOftenValid, .ref mMany, .ref mWidth, .ref mNumbers, .ref mMoving])), (mTape, .inl (cs 0, 400, .inl gTape)), (mFive, .inl (cs 1, 5, .inl (upd (upd (upd gFive 0 x1) 1 x2) 2 x3)))] := hD
    refine lv_aload_n hx hb dX9_feed_36 rfl (lv_at hl 0 rfl) ?_
    refine va_get (D := D) (ci := 9) (v := .ref mFive) (C := RX9) (T := TX9) (N := 42) hx hb hts iuX9_feed_X9 hown hK hP 0 rfl rfl 6 (by decide) (htw (.fieldLink RX9 24 "MergeJudgeModel" "five" "[I") (List.mem_of_getElem? (i := 1) rfl)) (fun _ h9 => h9) rfl dX9_feed_37 ?_
    refine lv_iconst (v := 3) hx hb dX9_feed_40 (by decide) ?_
    refine lv_iload hx hb dX9_feed_41 (lv_at hl 4 rfl) ?_
    refine va_iast hx hb hK hP hD hS 2 1 rfl rfl (vp_c (by decide)) dX9_feed_43 (fun H locs hP hD hS => ?_)
    have hP : va_P D vwCl [(b0, .inr (9, [.int zThrown, .ref mWorld, .ref mImages, .ref mHasImage, .ref mTape, .int (nI zTaped), .ref mFive, .int (nI zSize), .int (nI zAt), .int (nI zFrom), .int zToken, .int zValue, .int zFaultKind, .int zFaultPlace, .ref mFresh, .ref mMergedBy, .int zLawNow, .int zLockedNow, .int zDroppedNow, .ref mIsValid, .ref mGoes, .ref mFarNow, .ref mFreeNow, .ref mIsPair, .ref mHitsBy, .int zBreakMany, .int zLeastOps, .int zLeastBase, .int zLeastFirst, .int zLeastSecond, .int zBestLocks, .int zInEach, .int zFitMany, .int zFitFirst, .ref mWorthBy, .long zOftenAll, .long zOftenSafe, .long zOftenValid, .ref mMany, .ref mWidth, .ref mNumbers, .ref mMoving])), (mTape, .inl (cs 0, 400, .inl gTape)), (mFive, .inl (cs 1, 5, .inl (upd (upd (upd (upd gFive 0 x1) 1 x2) 2 x3) 3 x4)))] H := hP
    have hD : va_D A [(b0, .inr (9, [.int zThrown, .ref mWorld, .ref mImages, .ref mHasImage, .ref mTape, .int (nI zTaped), .ref mFive, .int (nI zSize), .int (nI zAt), .int (nI zFrom), .int zToken, .int zValue, .int zFaultKind, .int zFaultPlace, .ref mFresh, .ref mMergedBy, .int zLawNow, .int zLockedNow, .int zDroppedNow, .ref mIsValid, .ref mGoes, .ref mFarNow, .ref mFreeNow, .ref mIsPair, .ref mHitsBy, .int zBreakMany, .int zLeastOps, .int zLeastBase, .int zLeastFirst, .int zLeastSecond, .int zBestLocks, .int zInEach, .int zFitMany, .int zFitFirst, .ref mWorthBy, .long zOftenAll, .long zOftenSafe, .long zOftenValid, .ref mMany, .ref mWidth, .ref mNumbers, .ref mMoving])), (mTape, .inl (cs 0, 400, .inl gTape)), (mFive, .inl (cs 1, 5, .inl (upd (upd (upd (upd gFive 0 x1) 1 x2) 2 x3) 3 x4)))] := hD
    refine lv_aload_n hx hb dX9_feed_44 rfl (lv_at hl 0 rfl) ?_
    refine va_get (D := D) (ci := 9) (v := .ref mFive) (C := RX9) (T := TX9) (N := 42) hx hb hts iuX9_feed_X9 hown hK hP 0 rfl rfl 6 (by decide) (htw (.fieldLink RX9 24 "MergeJudgeModel" "five" "[I") (List.mem_of_getElem? (i := 1) rfl)) (fun _ h9 => h9) rfl dX9_feed_45 ?_
    refine lv_iconst (v := 4) hx hb dX9_feed_48 (by decide) ?_
    refine lv_iload hx hb dX9_feed_49 (lv_at hl 5 rfl) ?_
    refine va_iast hx hb hK hP hD hS 2 1 rfl rfl (vp_c (by decide)) dX9_feed_51 (fun H locs hP hD hS => ?_)
    have hP : va_P D vwCl [(b0, .inr (9, [.int zThrown, .ref mWorld, .ref mImages, .ref mHasImage, .ref mTape, .int (nI zTaped), .ref mFive, .int (nI zSize), .int (nI zAt), .int (nI zFrom), .int zToken, .int zValue, .int zFaultKind, .int zFaultPlace, .ref mFresh, .ref mMergedBy, .int zLawNow, .int zLockedNow, .int zDroppedNow, .ref mIsValid, .ref mGoes, .ref mFarNow, .ref mFreeNow, .ref mIsPair, .ref mHitsBy, .int zBreakMany, .int zLeastOps, .int zLeastBase, .int zLeastFirst, .int zLeastSecond, .int zBestLocks, .int zInEach, .int zFitMany, .int zFitFirst, .ref mWorthBy, .long zOftenAll, .long zOftenSafe, .long zOftenValid, .ref mMany, .ref mWidth, .ref mNumbers, .ref mMoving])), (mTape, .inl (cs 0, 400, .inl gTape)), (mFive, .inl (cs 1, 5, .inl (upd (upd (upd (upd (upd gFive 0 x1) 1 x2) 2 x3) 3 x4) 4 x5)))] H := hP
    have hD : va_D A [(b0, .inr (9, [.int zThrown, .ref mWorld, .ref mImages, .ref mHasImage, .ref mTape, .int (nI zTaped), .ref mFive, .int (nI zSize), .int (nI zAt), .int (nI zFrom), .int zToken, .int zValue, .int zFaultKind, .int zFaultPlace, .ref mFresh, .ref mMergedBy, .int zLawNow, .int zLockedNow, .int zDroppedNow, .ref mIsValid, .ref mGoes, .ref mFarNow, .ref mFreeNow, .ref mIsPair, .ref mHitsBy, .int zBreakMany, .int zLeastOps, .int zLeastBase, .int zLeastFirst, .int zLeastSecond, .int zBestLocks, .int zInEach, .int zFitMany, .int zFitFirst, .ref mWorthBy, .long zOftenAll, .long zOftenSafe, .long zOftenValid, .ref mMany, .ref mWidth, .ref mNumbers, .ref mMoving])), (mTape, .inl (cs 0, 400, .inl gTape)), (mFive, .inl (cs 1, 5, .inl (upd (upd (upd (upd (upd gFive 0 x1) 1 x2) 2 x3) 3 x4) 4 x5)))] := hD
    refine lv_iconst (v := 0) hx hb dX9_feed_52 (by decide) ?_
    refine lv_istore (lv' := [(6, .int 0), (0, .ref b0), (1, .int x1), (2, .int x2), (3, .int x3), (4, .int x4), (5, .int x5)]) hx hb dX9_feed_53 hl (by decide) rfl (fun ls hl => ?_)
    have lp_3 : ∀ (nfu : Nat) (i_2 : Nat) (m0_2 : Nat → Int32) (H : Heap) (locs : List Loc) (ls : Array Slot) (hi_2 : i_2 ≤ 20) (hv0_2 : m0_2 = FB (upd (upd (upd (upd (upd gFive 0 x1) 1 x2) 2 x3) 3 x4) 4 x5) zTaped i_2 gTape), 20 - i_2 < nfu → va_P D vwCl [(b0, .inr (9, [.int zThrown, .ref mWorld, .ref mImages, .ref mHasImage, .ref mTape, .int (nI zTaped), .ref mFive, .int (nI zSize), .int (nI zAt), .int (nI zFrom), .int zToken, .int zValue, .int zFaultKind, .int zFaultPlace, .ref mFresh, .ref mMergedBy, .int zLawNow, .int zLockedNow, .int zDroppedNow, .ref mIsValid, .ref mGoes, .ref mFarNow, .ref mFreeNow, .ref mIsPair, .ref mHitsBy, .int zBreakMany, .int zLeastOps, .int zLeastBase, .int zLeastFirst, .int zLeastSecond, .int zBestLocks, .int zInEach, .int zFitMany, .int zFitFirst, .ref mWorthBy, .long zOftenAll, .long zOftenSafe, .long zOftenValid, .ref mMany, .ref mWidth, .ref mNumbers, .ref mMoving])), (mTape, .inl (cs 0, 400, .inl m0_2)), (mFive, .inl (cs 1, 5, .inl (upd (upd (upd (upd (upd gFive 0 x1) 1 x2) 2 x3) 3 x4) 4 x5)))] H → va_D A [(b0, .inr (9, [.int zThrown, .ref mWorld, .ref mImages, .ref mHasImage, .ref mTape, .int (nI zTaped), .ref mFive, .int (nI zSize), .int (nI zAt), .int (nI zFrom), .int zToken, .int zValue, .int zFaultKind, .int zFaultPlace, .ref mFresh, .ref mMergedBy, .int zLawNow, .int zLockedNow, .int zDroppedNow, .ref mIsValid, .ref mGoes, .ref mFarNow, .ref mFreeNow, .ref mIsPair, .ref mHitsBy, .int zBreakMany, .int zLeastOps, .int zLeastBase, .int zLeastFirst, .int zLeastSecond, .int zBestLocks, .int zInEach, .int zFitMany, .int zFitFirst, .ref mWorthBy, .long zOftenAll, .long zOftenSafe, .long zOftenValid, .ref mMany, .ref mWidth, .ref mNumbers, .ref mMoving])), (mTape, .inl (cs 0, 400, .inl m0_2)), (mFive, .inl (cs 1, 5, .inl (upd (upd (upd (upd (upd gFive 0 x1) 1 x2) 2 x3) 3 x4) 4 x5)))] → va_S A s.heap H locs → lv_has ls 7 [(6, .int (nI i_2)), (0, .ref b0), (1, .int x1), (2, .int x2), (3, .int x3), (4, .int x4), (5, .int x5)] → W p l e (mRm 0 0 0 0) s m ([.ref b0, .int x1, .int x2, .int x3, .int x4, .int x5] : List Value).toArray below meth c H locs 0 0 (MQ below (va_Qi (fun (r : Int32) (u : Nat × (Nat → Int32) × (Nat → Int32)) => (u.1 ≤ 400) ∧ (r = fdr zTaped) ∧ (u.1 = fdn zTaped) ∧ (u.2.1 = FDB x1 x2 x3 x4 x5 zTaped gTape)) (mpost D A (fun (u : Nat × (Nat → Int32) × (Nat → Int32)) => [(b0, .inr (9, [.int zThrown, .ref mWorld, .ref mImages, .ref mHasImage, .ref mTape, .int (nI u.1), .ref mFive, .int (nI zSize), .int (nI zAt), .int (nI zFrom), .int zToken, .int zValue, .int zFaultKind, .int zFaultPlace, .ref mFresh, .ref mMergedBy, .int zLawNow, .int zLockedNow, .int zDroppedNow, .ref mIsValid, .ref mGoes, .ref mFarNow, .ref mFreeNow, .ref mIsPair, .ref mHitsBy, .int zBreakMany, .int zLeastOps, .int zLeastBase, .int zLeastFirst, .int zLeastSecond, .int zBestLocks, .int zInEach, .int zFitMany, .int zFitFirst, .ref mWorthBy, .long zOftenAll, .long zOftenSafe, .long zOftenValid, .ref mMany, .ref mWidth, .ref mNumbers, .ref mMoving])), (mTape, .inl (cs 0, 400, .inl u.2.1)), (mFive, .inl (cs 1, 5, .inl u.2.2))])) A) ([.ref b0, .int x1, .int x2, .int x3, .int x4, .int x5] : List Value).toArray s 0 0 A) (F0 m 55 ls []) := by
      intro nfu
      induction nfu with
      | zero => intro i_2 m0_2 H locs ls hi_2 hv0_2 hmu; exact absurd hmu (Nat.not_lt_zero _)
      | succ nfu ih =>
        intro i_2 m0_2 H locs ls hi_2 hv0_2 hmu hP hD hS hl
        have ih_lp_3 := @ih
        refine lv_iload hx hb dX9_feed_55 (lv_at hl 0 rfl) ?_
        refine lv_bipush (v := 20) hx hb dX9_feed_57 (by decide) ?_
        refine lv_icmp_ge (tgt := 101) hx hb dX9_feed_59 (by decide) (fun c_4 => ?_) (fun c_4 => ?_)
        ·
          have hn_4 := bge_t (a := i_2) (b := 20) c_4 (by omega) (by omega)
          refine lv_aload_n hx hb dX9_feed_101 rfl (lv_at hl 1 rfl) ?_
          refine lv_dup hx hb dX9_feed_102 rfl ?_
          refine va_get (D := D) (ci := 9) (v := .int (nI zTaped)) (C := RX9) (T := TX9) (N := 42) hx hb hts iuX9_feed_X9 hown hK hP 0 rfl rfl 5 (by decide) (htw (.fieldLink RX9 99 "MergeJudgeModel" "taped" "I") (List.mem_of_getElem? (i := 0) rfl)) (fun _ h9 => h9) rfl dX9_feed_103 ?_
          refine lv_bipush (v := 20) hx hb dX9_feed_106 (by decide) ?_
          refine lv_iadd hx hb dX9_feed_108 ?_
          refine cf_i (nI (zTaped + 20)) (nI_add zTaped 20) ?_
          refine va_put (D := D) (ci := 9) (v := .int (nI (zTaped + 20))) (ty := .int) (C := RX9) (T := TX9) (N := 42) hx hb hts iuX9_feed_X9 tyX9 tyX9_ok nmX9 hown hK hP hD hS 0 rfl rfl 5 (by decide) (htw (.fieldLink RX9 99 "MergeJudgeModel" "taped" "I") (List.mem_of_getElem? (i := 0) rfl)) (fun _ h9 => h9) rfl (by decide +kernel) rfl rfl (Nat.le_of_ble_eq_true rfl) dX9_feed_109 (fun H locs hP hD hS => ?_)
          have hP : va_P D vwCl [(b0, .inr (9, [.int zThrown, .ref mWorld, .ref mImages, .ref mHasImage, .ref mTape, .int (nI (zTaped + 20)), .ref mFive, .int (nI zSize), .int (nI zAt), .int (nI zFrom), .int zToken, .int zValue, .int zFaultKind, .int zFaultPlace, .ref mFresh, .ref mMergedBy, .int zLawNow, .int zLockedNow, .int zDroppedNow, .ref mIsValid, .ref mGoes, .ref mFarNow, .ref mFreeNow, .ref mIsPair, .ref mHitsBy, .int zBreakMany, .int zLeastOps, .int zLeastBase, .int zLeastFirst, .int zLeastSecond, .int zBestLocks, .int zInEach, .int zFitMany, .int zFitFirst, .ref mWorthBy, .long zOftenAll, .long zOftenSafe, .long zOftenValid, .ref mMany, .ref mWidth, .ref mNumbers, .ref mMoving])), (mTape, .inl (cs 0, 400, .inl m0_2)), (mFive, .inl (cs 1, 5, .inl (upd (upd (upd (upd (upd gFive 0 x1) 1 x2) 2 x3) 3 x4) 4 x5)))] H := hP
          have hD : va_D A [(b0, .inr (9, [.int zThrown, .ref mWorld, .ref mImages, .ref mHasImage, .ref mTape, .int (nI (zTaped + 20)), .ref mFive, .int (nI zSize), .int (nI zAt), .int (nI zFrom), .int zToken, .int zValue, .int zFaultKind, .int zFaultPlace, .ref mFresh, .ref mMergedBy, .int zLawNow, .int zLockedNow, .int zDroppedNow, .ref mIsValid, .ref mGoes, .ref mFarNow, .ref mFreeNow, .ref mIsPair, .ref mHitsBy, .int zBreakMany, .int zLeastOps, .int zLeastBase, .int zLeastFirst, .int zLeastSecond, .int zBestLocks, .int zInEach, .int zFitMany, .int zFitFirst, .ref mWorthBy, .long zOftenAll, .long zOftenSafe, .long zOftenValid, .ref mMany, .ref mWidth, .ref mNumbers, .ref mMoving])), (mTape, .inl (cs 0, 400, .inl m0_2)), (mFive, .inl (cs 1, 5, .inl (upd (upd (upd (upd (upd gFive 0 x1) 1 x2) 2 x3) 3 x4) 4 x5)))] := hD
          refine lv_aload_n hx hb dX9_feed_112 rfl (lv_at hl 1 rfl) ?_
          refine va_get (D := D) (ci := 9) (v := .int (nI (zTaped + 20))) (C := RX9) (T := TX9) (N := 42) hx hb hts iuX9_feed_X9 hown hK hP 0 rfl rfl 5 (by decide) (htw (.fieldLink RX9 99 "MergeJudgeModel" "taped" "I") (List.mem_of_getElem? (i := 0) rfl)) (fun _ h9 => h9) rfl dX9_feed_113 ?_
          exact ret_i hx hb hr hlk hS (Nat.le_of_ble_eq_true rfl) (Nat.le_of_ble_eq_true rfl) (zTaped + 20, m0_2, upd (upd (upd (upd (upd gFive 0 x1) 1 x2) 2 x3) 3 x4) 4 x5) (⟨(by first | omega | (dsimp only; omega)), (fd_y (by omega)).1, (fd_y (by omega)).2, (by have e9 := hv0_2; rw [show i_2 = 20 by omega] at e9; rw [fdb_y (by omega)]; exact fb_20 e9)⟩) (hP.sub [0, 1, 2] rfl) (hD.sub [0, 1, 2] (by decide) rfl) dX9_feed_116
        ·
          have hn_4 := bge_f (a := i_2) (b := 20) c_4 (by omega) (by omega)
          refine lv_aload_n hx hb dX9_feed_62 rfl (lv_at hl 1 rfl) ?_
          refine va_get (D := D) (ci := 9) (v := .ref mTape) (C := RX9) (T := TX9) (N := 42) hx hb hts iuX9_feed_X9 hown hK hP 0 rfl rfl 4 (by decide) (htw (.fieldLink RX9 20 "MergeJudgeModel" "tape" "[B") (List.mem_of_getElem? (i := 2) rfl)) (fun _ h9 => h9) rfl dX9_feed_63 ?_
          refine lv_aload_n hx hb dX9_feed_66 rfl (lv_at hl 1 rfl) ?_
          refine va_get (D := D) (ci := 9) (v := .int (nI zTaped)) (C := RX9) (T := TX9) (N := 42) hx hb hts iuX9_feed_X9 hown hK hP 0 rfl rfl 5 (by decide) (htw (.fieldLink RX9 99 "MergeJudgeModel" "taped" "I") (List.mem_of_getElem? (i := 0) rfl)) (fun _ h9 => h9) rfl dX9_feed_67 ?_
          refine lv_iload hx hb dX9_feed_70 (lv_at hl 0 rfl) ?_
          refine lv_iadd hx hb dX9_feed_72 ?_
          refine cf_i (nI (zTaped + i_2)) (nI_add zTaped i_2) ?_
          refine lv_aload_n hx hb dX9_feed_73 rfl (lv_at hl 1 rfl) ?_
          refine va_get (D := D) (ci := 9) (v := .ref mFive) (C := RX9) (T := TX9) (N := 42) hx hb hts iuX9_feed_X9 hown hK hP 0 rfl rfl 6 (by decide) (htw (.fieldLink RX9 24 "MergeJudgeModel" "five" "[I") (List.mem_of_getElem? (i := 1) rfl)) (fun _ h9 => h9) rfl dX9_feed_74 ?_
          refine lv_iload hx hb dX9_feed_77 (lv_at hl 0 rfl) ?_
          refine lv_iconst (v := 4) hx hb dX9_feed_79 (by decide) ?_
          refine lv_idiv hx hb dX9_feed_80 (by decide) ?_
          refine cf_i (nI (i_2 / 4)) (pk_div (a := i_2) (d := 4) (by omega) (by omega) (by omega)) ?_
          refine va_iald hx hb hK hP 2 1 rfl rfl (vp_in_nI (by omega) (by omega)) dX9_feed_81 ?_
          rw [nI_clamp (by omega)]
          refine lv_bipush (v := 24) hx hb dX9_feed_82 (by decide) ?_
          refine lv_bipush (v := 8) hx hb dX9_feed_84 (by decide) ?_
          refine lv_iload hx hb dX9_feed_86 (lv_at hl 0 rfl) ?_
          refine lv_iconst (v := 4) hx hb dX9_feed_88 (by decide) ?_
          refine lv_irem hx hb dX9_feed_89 (by decide) ?_
          refine cf_i (nI (i_2 % 4)) (rem_nI (a := i_2) (d := 4) (by omega) (by omega) (by omega)) ?_
          refine lv_imul hx hb dX9_feed_90 ?_
          refine cf_i (nI (8 * (i_2 % 4))) (pk_mul 8 (i_2 % 4)) ?_
          refine lv_isub hx hb dX9_feed_91 ?_
          refine cf_i (nI (24 - (8 * (i_2 % 4)))) (pk_sub (a := 24) (b := 8 * (i_2 % 4)) (by omega)) ?_
          refine lv_ishr hx hb dX9_feed_92 ?_
          refine lv_i2b (v := ((((upd (upd (upd (upd (upd gFive 0 x1) 1 x2) 2 x3) 3 x4) 4 x5) (i_2 / 4)) >>> ((nI (24 - (8 * (i_2 % 4)))) &&& 31)).toInt8.toInt32)) hx hb dX9_feed_93 rfl ?_
          refine va_bast hx hb hK hP hD hS 1 0 rfl rfl (vp_in_nI (by omega) (by omega)) dX9_feed_94 (fun H locs hP hD hS => ?_)
          have hP : va_P D vwCl [(b0, .inr (9, [.int zThrown, .ref mWorld, .ref mImages, .ref mHasImage, .ref mTape, .int (nI zTaped), .ref mFive, .int (nI zSize), .int (nI zAt), .int (nI zFrom), .int zToken, .int zValue, .int zFaultKind, .int zFaultPlace, .ref mFresh, .ref mMergedBy, .int zLawNow, .int zLockedNow, .int zDroppedNow, .ref mIsValid, .ref mGoes, .ref mFarNow, .ref mFreeNow, .ref mIsPair, .ref mHitsBy, .int zBreakMany, .int zLeastOps, .int zLeastBase, .int zLeastFirst, .int zLeastSecond, .int zBestLocks, .int zInEach, .int zFitMany, .int zFitFirst, .ref mWorthBy, .long zOftenAll, .long zOftenSafe, .long zOftenValid, .ref mMany, .ref mWidth, .ref mNumbers, .ref mMoving])), (mTape, .inl (cs 0, 400, .inl (upd m0_2 ((nI (zTaped + i_2)).toNatClampNeg) (vp_nar .byte ((((upd (upd (upd (upd (upd gFive 0 x1) 1 x2) 2 x3) 3 x4) 4 x5) (i_2 / 4)) >>> ((nI (24 - (8 * (i_2 % 4)))) &&& 31)).toInt8.toInt32))))), (mFive, .inl (cs 1, 5, .inl (upd (upd (upd (upd (upd gFive 0 x1) 1 x2) 2 x3) 3 x4) 4 x5)))] H := hP
          have hD : va_D A [(b0, .inr (9, [.int zThrown, .ref mWorld, .ref mImages, .ref mHasImage, .ref mTape, .int (nI zTaped), .ref mFive, .int (nI zSize), .int (nI zAt), .int (nI zFrom), .int zToken, .int zValue, .int zFaultKind, .int zFaultPlace, .ref mFresh, .ref mMergedBy, .int zLawNow, .int zLockedNow, .int zDroppedNow, .ref mIsValid, .ref mGoes, .ref mFarNow, .ref mFreeNow, .ref mIsPair, .ref mHitsBy, .int zBreakMany, .int zLeastOps, .int zLeastBase, .int zLeastFirst, .int zLeastSecond, .int zBestLocks, .int zInEach, .int zFitMany, .int zFitFirst, .ref mWorthBy, .long zOftenAll, .long zOftenSafe, .long zOftenValid, .ref mMany, .ref mWidth, .ref mNumbers, .ref mMoving])), (mTape, .inl (cs 0, 400, .inl (upd m0_2 ((nI (zTaped + i_2)).toNatClampNeg) (vp_nar .byte ((((upd (upd (upd (upd (upd gFive 0 x1) 1 x2) 2 x3) 3 x4) 4 x5) (i_2 / 4)) >>> ((nI (24 - (8 * (i_2 % 4)))) &&& 31)).toInt8.toInt32))))), (mFive, .inl (cs 1, 5, .inl (upd (upd (upd (upd (upd gFive 0 x1) 1 x2) 2 x3) 3 x4) 4 x5)))] := hD
          refine lv_iinc (v := (nI (i_2 + 1))) (lv' := [(6, .int (nI (i_2 + 1))), (0, .ref b0), (1, .int x1), (2, .int x2), (3, .int x3), (4, .int x4), (5, .int x5)]) hx hb dX9_feed_95 hl (k := 0) rfl (nI_1 _) (by decide) rfl (fun ls hl => ?_)
          refine lv_goto (tgt := 55) hx hb dX9_feed_98 (by decide) ?_
          exact ih_lp_3 (i_2 + 1) (upd m0_2 ((nI (zTaped + i_2)).toNatClampNeg) (vp_nar .byte ((((upd (upd (upd (upd (upd gFive 0 x1) 1 x2) 2 x3) 3 x4) 4 x5) (i_2 / 4)) >>> ((nI (24 - (8 * (i_2 % 4)))) &&& 31)).toInt8.toInt32))) H locs ls (by omega) (fb_s hv0_2 (by omega)) (by omega) (hP.sub [0, 1, 2] rfl) (hD.sub [0, 1, 2] (by decide) rfl) hS (lv_sub hl [0, 1, 2, 3, 4, 5, 6] rfl)
    exact lp_3 _ 0 gTape H locs ls (by omega) fb_0 (Nat.lt_succ_self _) (hP.sub [0, 1, 2] rfl) (hD.sub [0, 1, 2] (by decide) rfl) hS (lv_sub hl [0, 1, 2, 3, 4, 5, 6] rfl)
  ·
    have hn_1 := ble_f (a := zTaped + 20) (b := 400) c_1 (by omega) (by omega)
    refine lv_iconst (v := (-1)) hx hb dX9_feed_13 (by decide) ?_
    exact ret_i hx hb hr hlk hS (Nat.le_of_ble_eq_true rfl) (Nat.le_of_ble_eq_true rfl) (zTaped, gTape, gFive) (⟨(by first | omega | (dsimp only; omega)), (fd_n (by omega)).1, (fd_n (by omega)).2, (fdb_n (by omega))⟩) (hP.sub [0, 1, 2] rfl) (hD.sub [0, 1, 2] (by decide) rfl) dX9_feed_14

set_option maxHeartbeats 4000000 in
set_option maxRecDepth 100000 in
theorem k_X8_fault_f (l : Launch) (D : va_G) (cs : Nat → ClassId) (sz : Nat) (a0 : Nat) (x1 : Int32) (aT : Nat) (aD : Nat) (aO : Nat) (aR : Nat) (aS : Nat) (aJ : Nat) (aC : Nat) (xi : Nat) (xk : Nat) (xl : Nat) (rt : Int32) (rn : Int32) (rp : Int32) (rk : Int32) (rf : Int32) (rs : Nat) (ra : Nat)  : Mi l D cs yX8_fault W_X8_fault 0 0 0 0 [.ref a0, .int x1] [(a0, .inr (8, [.ref aT, .ref aD, .ref aO, .ref aR, .ref aS, .ref aJ, .ref aC, .ref xi, .ref xk, .ref xl])), (aR, .inr (4, [.ref aT, .ref aD, .int rt, .int (nI rs), .int (nI ra), .int rn, .int rp, .int rk, .int rf]))] sz (fun (r : Int32) (u : Unit) => (r = ftr x1 rk rf)) (fun (u : Unit) => [(a0, .inr (8, [.ref aT, .ref aD, .ref aO, .ref aR, .ref aS, .ref aJ, .ref aC, .ref xi, .ref xk, .ref xl])), (aR, .inr (4, [.ref aT, .ref aD, .int rt, .int (nI rs), .int (nI ra), .int rn, .int rp, .int rk, .int rf]))]) := by
  refine ent (D := D) (cs := cs) (y := yX8_fault) (ws := W_X8_fault) (As := [.ref a0, .int x1]) (W0 := [(a0, .inr (8, [.ref aT, .ref aD, .ref aO, .ref aR, .ref aS, .ref aJ, .ref aC, .ref xi, .ref xk, .ref xl])), (aR, .inr (4, [.ref aT, .ref aD, .int rt, .int (nI rs), .int (nI ra), .int rn, .int rp, .int rk, .int rf]))]) (Qx := fun A => va_Qi (fun (r : Int32) (u : Unit) => (r = ftr x1 rk rf)) (mpost D A (fun (u : Unit) => [(a0, .inr (8, [.ref aT, .ref aD, .ref aO, .ref aR, .ref aS, .ref aJ, .ref aC, .ref xi, .ref xk, .ref xl])), (aR, .inr (4, [.ref aT, .ref aD, .int rt, .int (nI rs), .int (nI ra), .int rn, .int rp, .int rk, .int rf]))])) A) (maxL := 2) (ret := (some .int)) (by decide) rfl (Nat.le_of_ble_eq_true rfl) ?_
  intro p e s m below meth c A ls hx hb hr hml hlk hown hts hin hK hE hP hD hA hS hl
  have hl : lv_has ls 2 [(0, .ref a0), (1, .int x1)] := hl
  generalize hHe : s.heap = H at hP
  have hS : va_S A s.heap H [] := hHe ▸ hS
  generalize hLe : ([] : List Loc) = locs at hS ⊢
  have htw : ∀ w ∈ O_X8_fault, w.before ([.ref a0, .int x1] : List Value).toArray s = true := fun w h => hts w (List.mem_cons_of_mem _ (List.mem_append_left _ h))
  have hFix := (⟨hx, hb, hml, hown, hts⟩ : CallFix p m c _ _ s _ _ _)
  refine lv_iload_n hx hb dX8_fault_0 rfl (lv_at hl 1 rfl) ?_
  refine lv_topi (fun y_1 ey_1 => ?_)
  by_cases hs_1_0 : y_1 = 0
  ·
    subst hs_1_0
    refine lv_lookup (off := 27) (tgt := 28) hx hb dX8_fault_1 (by decide) (by decide) (by decide) ?_
    refine lv_aload_n hx hb dX8_fault_28 rfl (lv_at hl 0 rfl) ?_
    refine va_get (D := D) (ci := 8) (v := .ref aR) (C := RX8) (T := TX8) (N := 10) hx hb hts iuX8_fault_X8 hown hK hP 0 rfl rfl 3 (by decide) (htw (.fieldLink RX8 31 "MergeJudge" "reader" "LMergeJudge$Reader;") (List.mem_of_getElem? (i := 0) rfl)) (fun _ h9 => h9) rfl dX8_fault_29 ?_
    refine va_get (D := D) (ci := 4) (v := .int rk) (C := RX4) (T := TX4) (N := 9) hx hb hts iuX8_fault_X4 hown hK hP 1 rfl rfl 7 (by decide) (htw (.fieldLink RX8 94 "MergeJudge$Reader" "faultKind" "I") (List.mem_of_getElem? (i := 1) rfl)) (fun _ h9 => h9) rfl dX8_fault_32 ?_
    exact ret_i hx hb hr hlk hS (Nat.le_of_ble_eq_true rfl) (Nat.le_of_ble_eq_true rfl) () ((by rw [← ey_1]; exact ftr_0)) (hP.sub [0, 1] rfl) (hD.sub [0, 1] (by decide) rfl) dX8_fault_35
  ·
    by_cases hs_1_1 : y_1 = 1
    ·
      subst hs_1_1
      refine lv_lookup (off := 35) (tgt := 36) hx hb dX8_fault_1 (by decide) (by decide) (by decide) ?_
      refine lv_aload_n hx hb dX8_fault_36 rfl (lv_at hl 0 rfl) ?_
      refine va_get (D := D) (ci := 8) (v := .ref aR) (C := RX8) (T := TX8) (N := 10) hx hb hts iuX8_fault_X8 hown hK hP 0 rfl rfl 3 (by decide) (htw (.fieldLink RX8 31 "MergeJudge" "reader" "LMergeJudge$Reader;") (List.mem_of_getElem? (i := 0) rfl)) (fun _ h9 => h9) rfl dX8_fault_37 ?_
      refine va_get (D := D) (ci := 4) (v := .int rf) (C := RX4) (T := TX4) (N := 9) hx hb hts iuX8_fault_X4 hown hK hP 1 rfl rfl 8 (by decide) (htw (.fieldLink RX8 97 "MergeJudge$Reader" "faultPlace" "I") (List.mem_of_getElem? (i := 2) rfl)) (fun _ h9 => h9) rfl dX8_fault_40 ?_
      exact ret_i hx hb hr hlk hS (Nat.le_of_ble_eq_true rfl) (Nat.le_of_ble_eq_true rfl) () ((by rw [← ey_1]; exact ftr_1)) (hP.sub [0, 1] rfl) (hD.sub [0, 1] (by decide) rfl) dX8_fault_43
    ·
      refine lv_lookup (off := 43) (tgt := 44) hx hb dX8_fault_1 (by decide) (show Op.lookupswitch.offset [(0, 27), (1, 35)] 43 y_1.toInt = 43 from ((lv_osw hs_1_0 (by decide))).trans (lv_osw hs_1_1 (by decide))) (by decide) ?_
      refine lv_iconst (v := (-1)) hx hb dX8_fault_44 (by decide) ?_
      exact ret_i hx hb hr hlk hS (Nat.le_of_ble_eq_true rfl) (Nat.le_of_ble_eq_true rfl) () ((ftr_n (fun e9 => hs_1_0 (ey_1.trans e9)) (fun e9 => hs_1_1 (ey_1.trans e9)))) (hP.sub [0, 1] rfl) (hD.sub [0, 1] (by decide) rfl) dX8_fault_45

set_option maxHeartbeats 4000000 in
set_option maxRecDepth 100000 in
theorem k_X9_fault_f (l : Launch) (D : va_G) (cs : Nat → ClassId) (sz : Nat) (b0 : Nat) (x1 : Int32) (zThrown : Int32) (mWorld : Nat) (mImages : Nat) (mHasImage : Nat) (mTape : Nat) (mFive : Nat) (zToken : Int32) (zValue : Int32) (zFaultKind : Int32) (zFaultPlace : Int32) (mFresh : Nat) (mMergedBy : Nat) (zLawNow : Int32) (zLockedNow : Int32) (zDroppedNow : Int32) (mIsValid : Nat) (mGoes : Nat) (mFarNow : Nat) (mFreeNow : Nat) (mIsPair : Nat) (mHitsBy : Nat) (zBreakMany : Int32) (zLeastOps : Int32) (zLeastBase : Int32) (zLeastFirst : Int32) (zLeastSecond : Int32) (zBestLocks : Int32) (zInEach : Int32) (zFitMany : Int32) (zFitFirst : Int32) (mWorthBy : Nat) (zOftenAll : Int64) (zOftenSafe : Int64) (zOftenValid : Int64) (mMany : Nat) (mWidth : Nat) (mNumbers : Nat) (mMoving : Nat) (zTaped : Nat) (zSize : Nat) (zAt : Nat) (zFrom : Nat) (hzt : zTaped ≤ 400) (hzs : zSize ≤ 400) : Mi l D cs yX9_fault W_X9_fault 0 0 0 0 [.ref b0, .int x1] [(b0, .inr (9, [.int zThrown, .ref mWorld, .ref mImages, .ref mHasImage, .ref mTape, .int (nI zTaped), .ref mFive, .int (nI zSize), .int (nI zAt), .int (nI zFrom), .int zToken, .int zValue, .int zFaultKind, .int zFaultPlace, .ref mFresh, .ref mMergedBy, .int zLawNow, .int zLockedNow, .int zDroppedNow, .ref mIsValid, .ref mGoes, .ref mFarNow, .ref mFreeNow, .ref mIsPair, .ref mHitsBy, .int zBreakMany, .int zLeastOps, .int zLeastBase, .int zLeastFirst, .int zLeastSecond, .int zBestLocks, .int zInEach, .int zFitMany, .int zFitFirst, .ref mWorthBy, .long zOftenAll, .long zOftenSafe, .long zOftenValid, .ref mMany, .ref mWidth, .ref mNumbers, .ref mMoving]))] sz (fun (r : Int32) (u : Unit) => (r = ftr x1 zFaultKind zFaultPlace)) (fun (u : Unit) => [(b0, .inr (9, [.int zThrown, .ref mWorld, .ref mImages, .ref mHasImage, .ref mTape, .int (nI zTaped), .ref mFive, .int (nI zSize), .int (nI zAt), .int (nI zFrom), .int zToken, .int zValue, .int zFaultKind, .int zFaultPlace, .ref mFresh, .ref mMergedBy, .int zLawNow, .int zLockedNow, .int zDroppedNow, .ref mIsValid, .ref mGoes, .ref mFarNow, .ref mFreeNow, .ref mIsPair, .ref mHitsBy, .int zBreakMany, .int zLeastOps, .int zLeastBase, .int zLeastFirst, .int zLeastSecond, .int zBestLocks, .int zInEach, .int zFitMany, .int zFitFirst, .ref mWorthBy, .long zOftenAll, .long zOftenSafe, .long zOftenValid, .ref mMany, .ref mWidth, .ref mNumbers, .ref mMoving]))]) := by
  refine ent (D := D) (cs := cs) (y := yX9_fault) (ws := W_X9_fault) (As := [.ref b0, .int x1]) (W0 := [(b0, .inr (9, [.int zThrown, .ref mWorld, .ref mImages, .ref mHasImage, .ref mTape, .int (nI zTaped), .ref mFive, .int (nI zSize), .int (nI zAt), .int (nI zFrom), .int zToken, .int zValue, .int zFaultKind, .int zFaultPlace, .ref mFresh, .ref mMergedBy, .int zLawNow, .int zLockedNow, .int zDroppedNow, .ref mIsValid, .ref mGoes, .ref mFarNow, .ref mFreeNow, .ref mIsPair, .ref mHitsBy, .int zBreakMany, .int zLeastOps, .int zLeastBase, .int zLeastFirst, .int zLeastSecond, .int zBestLocks, .int zInEach, .int zFitMany, .int zFitFirst, .ref mWorthBy, .long zOftenAll, .long zOftenSafe, .long zOftenValid, .ref mMany, .ref mWidth, .ref mNumbers, .ref mMoving]))]) (Qx := fun A => va_Qi (fun (r : Int32) (u : Unit) => (r = ftr x1 zFaultKind zFaultPlace)) (mpost D A (fun (u : Unit) => [(b0, .inr (9, [.int zThrown, .ref mWorld, .ref mImages, .ref mHasImage, .ref mTape, .int (nI zTaped), .ref mFive, .int (nI zSize), .int (nI zAt), .int (nI zFrom), .int zToken, .int zValue, .int zFaultKind, .int zFaultPlace, .ref mFresh, .ref mMergedBy, .int zLawNow, .int zLockedNow, .int zDroppedNow, .ref mIsValid, .ref mGoes, .ref mFarNow, .ref mFreeNow, .ref mIsPair, .ref mHitsBy, .int zBreakMany, .int zLeastOps, .int zLeastBase, .int zLeastFirst, .int zLeastSecond, .int zBestLocks, .int zInEach, .int zFitMany, .int zFitFirst, .ref mWorthBy, .long zOftenAll, .long zOftenSafe, .long zOftenValid, .ref mMany, .ref mWidth, .ref mNumbers, .ref mMoving]))])) A) (maxL := 2) (ret := (some .int)) (by decide) rfl (Nat.le_of_ble_eq_true rfl) ?_
  intro p e s m below meth c A ls hx hb hr hml hlk hown hts hin hK hE hP hD hA hS hl
  have hl : lv_has ls 2 [(0, .ref b0), (1, .int x1)] := hl
  generalize hHe : s.heap = H at hP
  have hS : va_S A s.heap H [] := hHe ▸ hS
  generalize hLe : ([] : List Loc) = locs at hS ⊢
  have htw : ∀ w ∈ O_X9_fault, w.before ([.ref b0, .int x1] : List Value).toArray s = true := fun w h => hts w (List.mem_cons_of_mem _ (List.mem_append_left _ h))
  have hFix := (⟨hx, hb, hml, hown, hts⟩ : CallFix p m c _ _ s _ _ _)
  refine lv_iload_n hx hb dX9_fault_0 rfl (lv_at hl 1 rfl) ?_
  refine lv_if_ne (tgt := 11) hx hb dX9_fault_1 (by decide) (fun c_1 => ?_) (fun c_1 => ?_)
  ·
    refine lv_iload_n hx hb dX9_fault_11 rfl (lv_at hl 1 rfl) ?_
    refine lv_iconst (v := 1) hx hb dX9_fault_12 (by decide) ?_
    refine lv_icmp_ne (tgt := 23) hx hb dX9_fault_13 (by decide) (fun c_2 => ?_) (fun c_2 => ?_)
    ·
      refine lv_iconst (v := (-1)) hx hb dX9_fault_23 (by decide) ?_
      exact ret_i hx hb hr hlk hS (Nat.le_of_ble_eq_true rfl) (Nat.le_of_ble_eq_true rfl) () ((ftr_n c_1 c_2)) (hP.sub [0] rfl) (hD.sub [0] (by decide) rfl) dX9_fault_24
    ·
      refine lv_aload_n hx hb dX9_fault_16 rfl (lv_at hl 0 rfl) ?_
      refine va_get (D := D) (ci := 9) (v := .int zFaultPlace) (C := RX9) (T := TX9) (N := 42) hx hb hts iuX9_fault_X9 hown hK hP 0 rfl rfl 13 (by decide) (htw (.fieldLink RX9 27 "MergeJudgeModel" "faultPlace" "I") (List.mem_of_getElem? (i := 1) rfl)) (fun _ h9 => h9) rfl dX9_fault_17 ?_
      refine lv_goto (tgt := 24) hx hb dX9_fault_20 (by decide) ?_
      exact ret_i hx hb hr hlk hS (Nat.le_of_ble_eq_true rfl) (Nat.le_of_ble_eq_true rfl) () ((by rw [c_2]; exact ftr_1)) (hP.sub [0] rfl) (hD.sub [0] (by decide) rfl) dX9_fault_24
  ·
    refine lv_aload_n hx hb dX9_fault_4 rfl (lv_at hl 0 rfl) ?_
    refine va_get (D := D) (ci := 9) (v := .int zFaultKind) (C := RX9) (T := TX9) (N := 42) hx hb hts iuX9_fault_X9 hown hK hP 0 rfl rfl 12 (by decide) (htw (.fieldLink RX9 136 "MergeJudgeModel" "faultKind" "I") (List.mem_of_getElem? (i := 0) rfl)) (fun _ h9 => h9) rfl dX9_fault_5 ?_
    refine lv_goto (tgt := 24) hx hb dX9_fault_8 (by decide) ?_
    exact ret_i hx hb hr hlk hS (Nat.le_of_ble_eq_true rfl) (Nat.le_of_ble_eq_true rfl) () ((by rw [c_1]; exact ftr_0)) (hP.sub [0] rfl) (hD.sub [0] (by decide) rfl) dX9_fault_24
