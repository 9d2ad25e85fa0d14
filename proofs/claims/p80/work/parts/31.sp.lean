set_option maxHeartbeats 4000000 in
set_option maxRecDepth 100000 in
theorem k_X6_digit (l : Launch) (D : va_G) (cs : Nat → ClassId) (sz : Nat) (aS : Nat) (sta : Int32) (ce : Int32) (sw : Int64) (s1 : Nat) (s2 : Nat) (s3 : Nat) (s4 : Nat) (fa : Nat → Int32) (zs : Nat) (sc : Nat) (st : Nat) (hzs : zs ≤ 64) (hsc : sc ≤ 3) (hst : st ≤ 3) : Mi l D cs yX6_digit W_X6_digit 0 0 0 0 [.ref aS, .int sta, .int ce] [(aS, .inr (6, [.int (nI zs), .int (nI sc), .int (nI st), .long sw, .ref s1, .ref s2, .ref s3, .ref s4])), (s2, .inl (cs 1, 64, .inl fa))] sz (fun (r : Int32) (u : Nat) => ((r = nI u ∧ u < 4))) (fun (u : Nat) => [(aS, .inr (6, [.int (nI zs), .int (nI sc), .int (nI st), .long sw, .ref s1, .ref s2, .ref s3, .ref s4])), (s2, .inl (cs 1, 64, .inl fa))]) := by
  refine ent (D := D) (cs := cs) (y := yX6_digit) (ws := W_X6_digit) (As := [.ref aS, .int sta, .int ce]) (W0 := [(aS, .inr (6, [.int (nI zs), .int (nI sc), .int (nI st), .long sw, .ref s1, .ref s2, .ref s3, .ref s4])), (s2, .inl (cs 1, 64, .inl fa))]) (Qx := fun A => va_Qi (fun (r : Int32) (u : Nat) => ((r = nI u ∧ u < 4))) (mpost D A (fun (u : Nat) => [(aS, .inr (6, [.int (nI zs), .int (nI sc), .int (nI st), .long sw, .ref s1, .ref s2, .ref s3, .ref s4])), (s2, .inl (cs 1, 64, .inl fa))])) A) (maxL := 3) (ret := (some .int)) (by decide) rfl (Nat.le_of_ble_eq_true rfl) ?_
  intro p e s m below meth c A ls hx hb hr hml hlk hown hts hin hK hE hP hD hA hS hl
  have hl : lv_has ls 3 [(0, .ref aS), (1, .int sta), (2, .int ce)] := hl
  generalize hHe : s.heap = H at hP
  have hS : va_S A s.heap H [] := hHe ▸ hS
  generalize hLe : ([] : List Loc) = locs at hS ⊢
  have htw : ∀ w ∈ O_X6_digit, w.before ([.ref aS, .int sta, .int ce] : List Value).toArray s = true := fun w h => hts w (List.mem_cons_of_mem _ (List.mem_append_left _ h))
  have hFix := (⟨hx, hb, hml, hown, hts⟩ : CallFix p m c _ _ s _ _ _)
  refine lv_iload_n hx hb dX6_digit_0 rfl (lv_at hl 1 rfl) ?_
  refine lv_if_lt (tgt := 10) hx hb dX6_digit_1 (by decide) (fun c_1 => ?_) (fun c_1 => ?_)
  ·
    refine lv_iconst (v := 0) hx hb dX6_digit_10 (by decide) ?_
    exact ret_i hx hb hr hlk hS (Nat.le_of_ble_eq_true rfl) (Nat.le_of_ble_eq_true rfl) (0) (⟨rfl, (by omega)⟩) (hP.sub [0, 1] rfl) (hD.sub [0, 1] (by decide) rfl) dX6_digit_11
  ·
    refine lv_iload_n hx hb dX6_digit_4 rfl (lv_at hl 1 rfl) ?_
    refine lv_bipush (v := 64) hx hb dX6_digit_5 (by decide) ?_
    refine lv_icmp_lt (tgt := 12) hx hb dX6_digit_7 (by decide) (fun c_2 => ?_) (fun c_2 => ?_)
    ·
      obtain ⟨j_3, hj_3, rfl⟩ := ex_nat (n := 64) c_1 c_2 (by omega)
      refine lv_aload_n hx hb dX6_digit_12 rfl (lv_at hl 0 rfl) ?_
      refine va_get (D := D) (ci := 6) (v := .ref s2) (C := RX6) (T := TX6) (N := 8) hx hb hts iuX6_digit_X6 hown hK hP 0 rfl rfl 5 (by decide) (htw (.fieldLink RX6 29 "MergeJudge$Space" "packed" "[I") (List.mem_of_getElem? (i := 0) rfl)) (fun _ h9 => h9) rfl dX6_digit_13 ?_
      refine lv_iload_n hx hb dX6_digit_16 rfl (lv_at hl 1 rfl) ?_
      refine va_iald hx hb hK hP 1 1 rfl rfl (vp_in_nI (by omega) (by omega)) dX6_digit_17 ?_
      rw [nI_clamp (by omega)]
      refine lv_bipush (v := 6) hx hb dX6_digit_18 (by decide) ?_
      refine lv_iload_n hx hb dX6_digit_20 rfl (lv_at hl 2 rfl) ?_
      refine lv_imul hx hb dX6_digit_21 ?_
      refine lv_ishr hx hb dX6_digit_22 ?_
      refine lv_iconst (v := 3) hx hb dX6_digit_23 (by decide) ?_
      refine lv_iand hx hb dX6_digit_24 ?_
      obtain ⟨j_4, hj_4, ej_4⟩ := pk_andE ((fa j_3) >>> (((6 : Int32) * ce) &&& 31)) (m := 3) 2 (by decide)
      replace hj_4 : j_4 < 4 := hj_4
      refine cf_i (nI j_4) ej_4 ?_
      exact ret_i hx hb hr hlk hS (Nat.le_of_ble_eq_true rfl) (Nat.le_of_ble_eq_true rfl) (j_4) (⟨rfl, (by omega)⟩) (hP.sub [0, 1] rfl) (hD.sub [0, 1] (by decide) rfl) dX6_digit_25
    ·
      refine lv_iconst (v := 0) hx hb dX6_digit_10 (by decide) ?_
      exact ret_i hx hb hr hlk hS (Nat.le_of_ble_eq_true rfl) (Nat.le_of_ble_eq_true rfl) (0) (⟨rfl, (by omega)⟩) (hP.sub [0, 1] rfl) (hD.sub [0, 1] (by decide) rfl) dX6_digit_11

set_option maxHeartbeats 4000000 in
set_option maxRecDepth 100000 in
theorem k_X6_digit_f (l : Launch) (D : va_G) (cs : Nat → ClassId) (sz : Nat) (aS : Nat) (sg : Nat) (ce : Nat) (sw : Int64) (s1 : Nat) (s2 : Nat) (s3 : Nat) (s4 : Nat) (fa : Nat → Int32) (zs : Nat) (sc : Nat) (st : Nat) (hzs : zs ≤ 64) (hsc : sc ≤ 3) (hst : st ≤ 3) (ha_sg : sg < (st + 1) ^ sc) (ha_ce : ce < 3) (h1 : 1 ≤ st) (hpk : PKD fa st sc) (hc : ce < sc) : Mi l D cs yX6_digit W_X6_digit 0 0 0 0 [.ref aS, .int (nI sg), .int (nI ce)] [(aS, .inr (6, [.int (nI zs), .int (nI sc), .int (nI st), .long sw, .ref s1, .ref s2, .ref s3, .ref s4])), (s2, .inl (cs 1, 64, .inl fa))] sz (fun (r : Int32) (u : Nat) => ((r = nI u ∧ u = dgt (st + 1) ce sg))) (fun (u : Nat) => [(aS, .inr (6, [.int (nI zs), .int (nI sc), .int (nI st), .long sw, .ref s1, .ref s2, .ref s3, .ref s4])), (s2, .inl (cs 1, 64, .inl fa))]) := by
  refine ent (D := D) (cs := cs) (y := yX6_digit) (ws := W_X6_digit) (As := [.ref aS, .int (nI sg), .int (nI ce)]) (W0 := [(aS, .inr (6, [.int (nI zs), .int (nI sc), .int (nI st), .long sw, .ref s1, .ref s2, .ref s3, .ref s4])), (s2, .inl (cs 1, 64, .inl fa))]) (Qx := fun A => va_Qi (fun (r : Int32) (u : Nat) => ((r = nI u ∧ u = dgt (st + 1) ce sg))) (mpost D A (fun (u : Nat) => [(aS, .inr (6, [.int (nI zs), .int (nI sc), .int (nI st), .long sw, .ref s1, .ref s2, .ref s3, .ref s4])), (s2, .inl (cs 1, 64, .inl fa))])) A) (maxL := 3) (ret := (some .int)) (by decide) rfl (Nat.le_of_ble_eq_true rfl) ?_
  intro p e s m below meth c A ls hx hb hr hml hlk hown hts hin hK hE hP hD hA hS hl
  have hl : lv_has ls 3 [(0, .ref aS), (1, .int (nI sg)), (2, .int (nI ce))] := hl
  generalize hHe : s.heap = H at hP
  have hS : va_S A s.heap H [] := hHe ▸ hS
  generalize hLe : ([] : List Loc) = locs at hS ⊢
  have htw : ∀ w ∈ O_X6_digit, w.before ([.ref aS, .int (nI sg), .int (nI ce)] : List Value).toArray s = true := fun w h => hts w (List.mem_cons_of_mem _ (List.mem_append_left _ h))
  have hFix := (⟨hx, hb, hml, hown, hts⟩ : CallFix p m c _ _ s _ _ _)
  have h64 := pow_le64 (tp := st) (n := sc) (by omega) (by omega)
  refine lv_iload_n hx hb dX6_digit_0 rfl (lv_at hl 1 rfl) ?_
  refine lv_if_lt (tgt := 10) hx hb dX6_digit_1 (by decide) (fun h9 => False.elim (nneg_l0 (a := sg) h9 (by omega) (by decide))) (fun _ => ?_)
  refine lv_iload_n hx hb dX6_digit_4 rfl (lv_at hl 1 rfl) ?_
  refine lv_bipush (v := 64) hx hb dX6_digit_5 (by decide) ?_
  refine lv_icmp_lt (tgt := 12) hx hb dX6_digit_7 (by decide) (fun c_2 => ?_) (fun c_2 => False.elim (absurd (blt_f (a := sg) (b := 64) c_2 (by omega) (by omega)) (by omega)))
  refine lv_aload_n hx hb dX6_digit_12 rfl (lv_at hl 0 rfl) ?_
  refine va_get (D := D) (ci := 6) (v := .ref s2) (C := RX6) (T := TX6) (N := 8) hx hb hts iuX6_digit_X6 hown hK hP 0 rfl rfl 5 (by decide) (htw (.fieldLink RX6 29 "MergeJudge$Space" "packed" "[I") (List.mem_of_getElem? (i := 0) rfl)) (fun _ h9 => h9) rfl dX6_digit_13 ?_
  refine lv_iload_n hx hb dX6_digit_16 rfl (lv_at hl 1 rfl) ?_
  refine va_iald hx hb hK hP 1 1 rfl rfl (vp_in_nI (by omega) (by omega)) dX6_digit_17 ?_
  rw [nI_clamp (by omega)]
  refine lv_bipush (v := 6) hx hb dX6_digit_18 (by decide) ?_
  refine lv_iload_n hx hb dX6_digit_20 rfl (lv_at hl 2 rfl) ?_
  refine lv_imul hx hb dX6_digit_21 ?_
  refine cf_i (nI (6 * ce)) (pk_mul 6 ce) ?_
  refine lv_ishr hx hb dX6_digit_22 ?_
  refine lv_iconst (v := 3) hx hb dX6_digit_23 (by decide) ?_
  refine lv_iand hx hb dX6_digit_24 ?_
  have hdg_25 := (pk_dig (by omega) (by omega) (by omega) (by assumption) (by assumption) : (pkF (st + 1) sc sg >>> (nI (6 * ce) &&& 31)) &&& 3 = nI (dgt (st + 1) ce sg))
  rw [← hpk _ ha_sg] at hdg_25
  refine cf_i (nI (dgt (st + 1) ce sg)) hdg_25 ?_
  exact ret_i hx hb hr hlk hS (Nat.le_of_ble_eq_true rfl) (Nat.le_of_ble_eq_true rfl) (dgt (st + 1) ce sg) (⟨rfl, rfl⟩) (hP.sub [0, 1] rfl) (hD.sub [0, 1] (by decide) rfl) dX6_digit_25

set_option maxHeartbeats 4000000 in
set_option maxRecDepth 100000 in
theorem k_X6_shifted (l : Launch) (D : va_G) (cs : Nat → ClassId) (sz : Nat) (aS : Nat) (ce : Int32) (y : Int32) (sg : Nat) (sw : Int64) (s1 : Nat) (s2 : Nat) (s3 : Nat) (s4 : Nat) (fp : Nat → Int32) (fa : Nat → Int32) (zs : Nat) (sc : Nat) (st : Nat) (hzs : zs ≤ 64) (hsc : sc ≤ 3) (hst : st ≤ 3) (ha_sg : sg < (st + 1) ^ sc) (h1 : 1 ≤ st) (hpk : PKD fa st sc) (hpl : PLC fp st sc) : Mi l D cs yX6_shifted W_X6_shifted 1 22 0 0 [.ref aS, .int (nI sg), .int ce, .int y] [(aS, .inr (6, [.int (nI zs), .int (nI sc), .int (nI st), .long sw, .ref s1, .ref s2, .ref s3, .ref s4])), (s1, .inl (cs 1, 3, .inl fp)), (s2, .inl (cs 1, 64, .inl fa))] sz (fun (r : Int32) (u : Nat) => ((r = (-1) ∧ True) ∨ (r = nI u ∧ u < (st + 1) ^ sc))) (fun (u : Nat) => [(aS, .inr (6, [.int (nI zs), .int (nI sc), .int (nI st), .long sw, .ref s1, .ref s2, .ref s3, .ref s4])), (s1, .inl (cs 1, 3, .inl fp)), (s2, .inl (cs 1, 64, .inl fa))]) := by
  refine ent (D := D) (cs := cs) (y := yX6_shifted) (ws := W_X6_shifted) (As := [.ref aS, .int (nI sg), .int ce, .int y]) (W0 := [(aS, .inr (6, [.int (nI zs), .int (nI sc), .int (nI st), .long sw, .ref s1, .ref s2, .ref s3, .ref s4])), (s1, .inl (cs 1, 3, .inl fp)), (s2, .inl (cs 1, 64, .inl fa))]) (Qx := fun A => va_Qi (fun (r : Int32) (u : Nat) => ((r = (-1) ∧ True) ∨ (r = nI u ∧ u < (st + 1) ^ sc))) (mpost D A (fun (u : Nat) => [(aS, .inr (6, [.int (nI zs), .int (nI sc), .int (nI st), .long sw, .ref s1, .ref s2, .ref s3, .ref s4])), (s1, .inl (cs 1, 3, .inl fp)), (s2, .inl (cs 1, 64, .inl fa))])) A) (maxL := 5) (ret := (some .int)) (by decide) rfl (Nat.le_of_ble_eq_true rfl) ?_
  intro p e s m below meth c A ls hx hb hr hml hlk hown hts hin hK hE hP hD hA hS hl
  have hl : lv_has ls 5 [(0, .ref aS), (1, .int (nI sg)), (2, .int ce), (3, .int y)] := hl
  generalize hHe : s.heap = H at hP
  have hS : va_S A s.heap H [] := hHe ▸ hS
  generalize hLe : ([] : List Loc) = locs at hS ⊢
  have htw : ∀ w ∈ O_X6_shifted, w.before ([.ref aS, .int (nI sg), .int ce, .int y] : List Value).toArray s = true := fun w h => hts w (List.mem_cons_of_mem _ (List.mem_append_left _ h))
  have hFix := (⟨hx, hb, hml, hown, hts⟩ : CallFix p m c _ _ s _ _ _)
  have h64 := pow_le64 (tp := st) (n := sc) (by omega) (by omega)
  refine lv_iload_n hx hb dX6_shifted_0 rfl (lv_at hl 2 rfl) ?_
  refine lv_if_lt (tgt := 12) hx hb dX6_shifted_1 (by decide) (fun c_1 => ?_) (fun c_1 => ?_)
  ·
    refine lv_iconst (v := (-1)) hx hb dX6_shifted_12 (by decide) ?_
    exact ret_i hx hb hr hlk hS (Nat.le_of_ble_eq_true rfl) (Nat.le_of_ble_eq_true rfl) (0) (Or.inl ⟨rfl, trivial⟩) (hP.sub [0, 1, 2] rfl) (hD.sub [0, 1, 2] (by decide) rfl) dX6_shifted_13
  ·
    refine lv_iload_n hx hb dX6_shifted_4 rfl (lv_at hl 2 rfl) ?_
    refine lv_aload_n hx hb dX6_shifted_5 rfl (lv_at hl 0 rfl) ?_
    refine va_get (D := D) (ci := 6) (v := .int (nI sc)) (C := RX6) (T := TX6) (N := 8) hx hb hts iuX6_shifted_X6 hown hK hP 0 rfl rfl 1 (by decide) (htw (.fieldLink RX6 15 "MergeJudge$Space" "cells" "I") (List.mem_of_getElem? (i := 0) rfl)) (fun _ h9 => h9) rfl dX6_shifted_6 ?_
    refine lv_icmp_lt (tgt := 14) hx hb dX6_shifted_9 (by decide) (fun c_2 => ?_) (fun c_2 => ?_)
    ·
      obtain ⟨j_3, hj_3, rfl⟩ := ex_nat c_1 c_2 (by omega)
      refine lv_aload_n hx hb dX6_shifted_14 rfl (lv_at hl 0 rfl) ?_
      refine lv_iload_n hx hb dX6_shifted_15 rfl (lv_at hl 1 rfl) ?_
      refine lv_iload_n hx hb dX6_shifted_16 rfl (lv_at hl 2 rfl) ?_
      refine aft_i (wr := [(s1, .inl (cs 1, 3, .inl fp))]) hP hD hS hA [0, 2] [1] rfl rfl (by decide) (by decide) (run_v (As := [.int (nI sg), .int (nI j_3)]) (rest := []) hFix hK hE hP hD [0, 2] (k_X6_digit_f l D cs _ aS sg j_3 sw s1 s2 s3 s4 fa zs sc st (by first | assumption | decide | omega) (by first | assumption | decide | omega) (by first | assumption | decide | omega) (by first | assumption | decide | omega) (by first | assumption | decide | omega) (by first | assumption | decide | omega) (by first | assumption | decide | omega) (by first | assumption | decide | omega)) (cwV 2 hts gc_X6_shifted_76_X6_digit rfl rfl rfl (by decide +kernel) ⟨Nat.le_of_ble_eq_true rfl, Nat.le_of_ble_eq_true rfl⟩) rfl (by decide) rfl rfl rfl hl.1 rfl (Nat.le_of_ble_eq_true rfl) dX6_shifted_17 ⟨Nat.le_of_ble_eq_true rfl, Nat.le_of_ble_eq_true rfl⟩) (fun r_4 u_4 H locs hq_4 hP hD hS => ?_)
      obtain ⟨j_4, rfl⟩ : ∃ z, z = u_4 := ⟨_, rfl⟩
      have hP : va_P D vwCl [(s1, .inl (cs 1, 3, .inl fp)), (aS, .inr (6, [.int (nI zs), .int (nI sc), .int (nI st), .long sw, .ref s1, .ref s2, .ref s3, .ref s4])), (s2, .inl (cs 1, 64, .inl fa))] H := hP
      have hD : va_D A [(s1, .inl (cs 1, 3, .inl fp)), (aS, .inr (6, [.int (nI zs), .int (nI sc), .int (nI st), .long sw, .ref s1, .ref s2, .ref s3, .ref s4])), (s2, .inl (cs 1, 64, .inl fa))] := hD
      replace hq_4 : ((r_4 = nI j_4 ∧ j_4 = dgt (st + 1) j_3 sg)) := hq_4
      obtain ⟨rfl, hq_4⟩ := hq_4
      ·
        refine lv_iload_n hx hb dX6_shifted_20 rfl (lv_at hl 3 rfl) ?_
        refine lv_iadd hx hb dX6_shifted_21 ?_
        refine lv_istore (lv' := [(4, .int ((nI j_4) + y)), (0, .ref aS), (1, .int (nI sg)), (2, .int (nI j_3)), (3, .int y)]) hx hb dX6_shifted_22 hl (by decide) rfl (fun ls hl => ?_)
        refine lv_iload hx hb dX6_shifted_24 (lv_at hl 0 rfl) ?_
        refine lv_if_lt (tgt := 38) hx hb dX6_shifted_26 (by decide) (fun c_5 => ?_) (fun c_5 => ?_)
        ·
          refine lv_iconst (v := (-1)) hx hb dX6_shifted_38 (by decide) ?_
          refine lv_goto (tgt := 52) hx hb dX6_shifted_39 (by decide) ?_
          exact ret_i hx hb hr hlk hS (Nat.le_of_ble_eq_true rfl) (Nat.le_of_ble_eq_true rfl) (0) (Or.inl ⟨rfl, trivial⟩) (hP.sub [1, 0, 2] rfl) (hD.sub [1, 0, 2] (by decide) rfl) dX6_shifted_52
        ·
          refine lv_iload hx hb dX6_shifted_29 (lv_at hl 0 rfl) ?_
          refine lv_aload_n hx hb dX6_shifted_31 rfl (lv_at hl 1 rfl) ?_
          refine va_get (D := D) (ci := 6) (v := .int (nI st)) (C := RX6) (T := TX6) (N := 8) hx hb hts iuX6_shifted_X6 hown hK hP 1 rfl rfl 2 (by decide) (htw (.fieldLink RX6 18 "MergeJudge$Space" "top" "I") (List.mem_of_getElem? (i := 5) rfl)) (fun _ h9 => h9) rfl dX6_shifted_32 ?_
          refine lv_icmp_le (tgt := 42) hx hb dX6_shifted_35 (by decide) (fun c_6 => ?_) (fun c_6 => ?_)
          ·
            refine lv_iload_n hx hb dX6_shifted_42 rfl (lv_at hl 2 rfl) ?_
            refine lv_iload_n hx hb dX6_shifted_43 rfl (lv_at hl 4 rfl) ?_
            refine lv_aload_n hx hb dX6_shifted_44 rfl (lv_at hl 1 rfl) ?_
            refine va_get (D := D) (ci := 6) (v := .ref s1) (C := RX6) (T := TX6) (N := 8) hx hb hts iuX6_shifted_X6 hown hK hP 1 rfl rfl 4 (by decide) (htw (.fieldLink RX6 25 "MergeJudge$Space" "place" "[I") (List.mem_of_getElem? (i := 6) rfl)) (fun _ h9 => h9) rfl dX6_shifted_45 ?_
            refine lv_iload_n hx hb dX6_shifted_48 rfl (lv_at hl 3 rfl) ?_
            refine va_iald hx hb hK hP 0 1 rfl rfl (vp_in_nI (by omega) (by omega)) dX6_shifted_49 ?_
            rw [nI_clamp (by omega)]
            refine lv_imul hx hb dX6_shifted_50 ?_
            refine lv_iadd hx hb dX6_shifted_51 ?_
            obtain ⟨j_7, hj_7, ej_7⟩ := shf h1 (by omega) (by omega) ha_sg (by assumption) hq_4 c_5 c_6 (hpl _ (by assumption))
            refine cf_i (nI j_7) ej_7 ?_
            exact ret_i hx hb hr hlk hS (Nat.le_of_ble_eq_true rfl) (Nat.le_of_ble_eq_true rfl) (j_7) (Or.inr (⟨rfl, (by assumption)⟩)) (hP.sub [1, 0, 2] rfl) (hD.sub [1, 0, 2] (by decide) rfl) dX6_shifted_52
          ·
            refine lv_iconst (v := (-1)) hx hb dX6_shifted_38 (by decide) ?_
            refine lv_goto (tgt := 52) hx hb dX6_shifted_39 (by decide) ?_
            exact ret_i hx hb hr hlk hS (Nat.le_of_ble_eq_true rfl) (Nat.le_of_ble_eq_true rfl) (0) (Or.inl ⟨rfl, trivial⟩) (hP.sub [1, 0, 2] rfl) (hD.sub [1, 0, 2] (by decide) rfl) dX6_shifted_52
    ·
      refine lv_iconst (v := (-1)) hx hb dX6_shifted_12 (by decide) ?_
      exact ret_i hx hb hr hlk hS (Nat.le_of_ble_eq_true rfl) (Nat.le_of_ble_eq_true rfl) (0) (Or.inl ⟨rfl, trivial⟩) (hP.sub [0, 1, 2] rfl) (hD.sub [0, 1, 2] (by decide) rfl) dX6_shifted_13

set_option maxHeartbeats 4000000 in
set_option maxRecDepth 100000 in
theorem k_X6_resultOf (l : Launch) (D : va_G) (cs : Nat → ClassId) (sz : Nat) (aS : Nat) (h2 : Nat) (f : Nat) (sg : Nat) (sw : Int64) (s1 : Nat) (s2 : Nat) (s3 : Nat) (s4 : Nat) (fp : Nat → Int32) (fa : Nat → Int32) (gr : Nat → Int32) (zs : Nat) (sc : Nat) (st : Nat) (hzs : zs ≤ 64) (hsc : sc ≤ 3) (hst : st ≤ 3) (ha_f : f < 17) (ha_sg : sg < (st + 1) ^ sc) (h1 : 1 ≤ st) (hpk : PKD fa st sc) (hpl : PLC fp st sc) : Mi l D cs yX6_resultOf W_X6_resultOf 2 46 0 0 [.ref aS, .ref h2, .int (nI f), .int (nI sg)] [(aS, .inr (6, [.int (nI zs), .int (nI sc), .int (nI st), .long sw, .ref s1, .ref s2, .ref s3, .ref s4])), (s1, .inl (cs 1, 3, .inl fp)), (s2, .inl (cs 1, 64, .inl fa)), (h2, .inl (cs 1, 20, .inl gr))] sz (fun (r : Int32) (u : Nat) => ((r = (-1) ∧ True) ∨ (r = nI u ∧ u < (st + 1) ^ sc))) (fun (u : Nat) => [(aS, .inr (6, [.int (nI zs), .int (nI sc), .int (nI st), .long sw, .ref s1, .ref s2, .ref s3, .ref s4])), (s1, .inl (cs 1, 3, .inl fp)), (s2, .inl (cs 1, 64, .inl fa)), (h2, .inl (cs 1, 20, .inl gr))]) := by
  refine ent (D := D) (cs := cs) (y := yX6_resultOf) (ws := W_X6_resultOf) (As := [.ref aS, .ref h2, .int (nI f), .int (nI sg)]) (W0 := [(aS, .inr (6, [.int (nI zs), .int (nI sc), .int (nI st), .long sw, .ref s1, .ref s2, .ref s3, .ref s4])), (s1, .inl (cs 1, 3, .inl fp)), (s2, .inl (cs 1, 64, .inl fa)), (h2, .inl (cs 1, 20, .inl gr))]) (Qx := fun A => va_Qi (fun (r : Int32) (u : Nat) => ((r = (-1) ∧ True) ∨ (r = nI u ∧ u < (st + 1) ^ sc))) (mpost D A (fun (u : Nat) => [(aS, .inr (6, [.int (nI zs), .int (nI sc), .int (nI st), .long sw, .ref s1, .ref s2, .ref s3, .ref s4])), (s1, .inl (cs 1, 3, .inl fp)), (s2, .inl (cs 1, 64, .inl fa)), (h2, .inl (cs 1, 20, .inl gr))])) A) (maxL := 7) (ret := (some .int)) (by decide) rfl (Nat.le_of_ble_eq_true rfl) ?_
  intro p e s m below meth c A ls hx hb hr hml hlk hown hts hin hK hE hP hD hA hS hl
  have hl : lv_has ls 7 [(0, .ref aS), (1, .ref h2), (2, .int (nI f)), (3, .int (nI sg))] := hl
  generalize hHe : s.heap = H at hP
  have hS : va_S A s.heap H [] := hHe ▸ hS
  generalize hLe : ([] : List Loc) = locs at hS ⊢
  have htw : ∀ w ∈ O_X6_resultOf, w.before ([.ref aS, .ref h2, .int (nI f), .int (nI sg)] : List Value).toArray s = true := fun w h => hts w (List.mem_cons_of_mem _ (List.mem_append_left _ h))
  have hFix := (⟨hx, hb, hml, hown, hts⟩ : CallFix p m c _ _ s _ _ _)
  have h64 := pow_le64 (tp := st) (n := sc) (by omega) (by omega)
  refine lv_aload_n hx hb dX6_resultOf_0 rfl (lv_at hl 1 rfl) ?_
  refine lv_iload_n hx hb dX6_resultOf_1 rfl (lv_at hl 2 rfl) ?_
  refine lv_iconst (v := 1) hx hb dX6_resultOf_2 (by decide) ?_
  refine lv_iadd hx hb dX6_resultOf_3 ?_
  refine cf_i (nI (f + 1)) (nI_add f 1) ?_
  refine va_iald hx hb hK hP 3 1 rfl rfl (vp_in_nI (by omega) (by omega)) dX6_resultOf_4 ?_
  rw [nI_clamp (by omega)]
  refine lv_istore (lv' := [(4, .int (gr (f + 1))), (0, .ref aS), (1, .ref h2), (2, .int (nI f)), (3, .int (nI sg))]) hx hb dX6_resultOf_5 hl (by decide) rfl (fun ls hl => ?_)
  refine lv_aload_n hx hb dX6_resultOf_7 rfl (lv_at hl 2 rfl) ?_
  refine lv_iload_n hx hb dX6_resultOf_8 rfl (lv_at hl 3 rfl) ?_
  refine lv_iconst (v := 2) hx hb dX6_resultOf_9 (by decide) ?_
  refine lv_iadd hx hb dX6_resultOf_10 ?_
  refine cf_i (nI (f + 2)) (nI_add f 2) ?_
  refine va_iald hx hb hK hP 3 1 rfl rfl (vp_in_nI (by omega) (by omega)) dX6_resultOf_11 ?_
  rw [nI_clamp (by omega)]
  refine lv_istore (lv' := [(5, .int (gr (f + 2))), (4, .int (gr (f + 1))), (0, .ref aS), (1, .ref h2), (2, .int (nI f)), (3, .int (nI sg))]) hx hb dX6_resultOf_12 hl (by decide) rfl (fun ls hl => ?_)
  refine lv_aload_n hx hb dX6_resultOf_14 rfl (lv_at hl 3 rfl) ?_
  refine lv_iload_n hx hb dX6_resultOf_15 rfl (lv_at hl 4 rfl) ?_
  refine va_iald hx hb hK hP 3 1 rfl rfl (vp_in_nI (by omega) (by omega)) dX6_resultOf_16 ?_
  rw [nI_clamp (by omega)]
  refine lv_topi (fun y_1 ey_1 => ?_)
  by_cases hs_1_0 : y_1 = 0
  ·
    subst hs_1_0
    refine lv_tableIn (off := 27) (tgt := 44) hx hb dX6_resultOf_17 (by decide) (by decide) (by decide) (by decide) ?_
    refine lv_aload_n hx hb dX6_resultOf_44 rfl (lv_at hl 2 rfl) ?_
    refine lv_iload_n hx hb dX6_resultOf_45 rfl (lv_at hl 5 rfl) ?_
    refine lv_iload hx hb dX6_resultOf_46 (lv_at hl 1 rfl) ?_
    refine lv_iload hx hb dX6_resultOf_48 (lv_at hl 0 rfl) ?_
    refine aft_i (wr := [(h2, .inl (cs 1, 20, .inl gr))]) hP hD hS hA [0, 1, 2] [3] rfl rfl (by decide) (by decide) (run_v (As := [.int (nI sg), .int (gr (f + 1)), .int (gr (f + 2))]) (rest := []) hFix hK hE hP hD [0, 1, 2] (k_X6_shifted l D cs _ aS (gr (f + 1)) (gr (f + 2)) sg sw s1 s2 s3 s4 fp fa zs sc st (by first | assumption | decide | omega) (by first | assumption | decide | omega) (by first | assumption | decide | omega) (by first | assumption | decide | omega) (by first | assumption | decide | omega) (by first | assumption | decide | omega) (by first | assumption | decide | omega)) (cwV 3 hts gc_X6_resultOf_80_X6_shifted rfl rfl rfl (by decide +kernel) ⟨Nat.le_of_ble_eq_true rfl, Nat.le_of_ble_eq_true rfl⟩) rfl (by decide) rfl rfl rfl hl.1 rfl (Nat.le_of_ble_eq_true rfl) dX6_resultOf_50 ⟨Nat.le_of_ble_eq_true rfl, Nat.le_of_ble_eq_true rfl⟩) (fun r_2 u_2 H locs hq_2 hP hD hS => ?_)
    obtain ⟨j_2, rfl⟩ : ∃ z, z = u_2 := ⟨_, rfl⟩
    have hP : va_P D vwCl [(h2, .inl (cs 1, 20, .inl gr)), (aS, .inr (6, [.int (nI zs), .int (nI sc), .int (nI st), .long sw, .ref s1, .ref s2, .ref s3, .ref s4])), (s1, .inl (cs 1, 3, .inl fp)), (s2, .inl (cs 1, 64, .inl fa))] H := hP
    have hD : va_D A [(h2, .inl (cs 1, 20, .inl gr)), (aS, .inr (6, [.int (nI zs), .int (nI sc), .int (nI st), .long sw, .ref s1, .ref s2, .ref s3, .ref s4])), (s1, .inl (cs 1, 3, .inl fp)), (s2, .inl (cs 1, 64, .inl fa))] := hD
    replace hq_2 : ((r_2 = (-1) ∧ True) ∨ (r_2 = nI j_2 ∧ j_2 < (st + 1) ^ sc)) := hq_2
    rcases hq_2 with ⟨rfl, hq_2⟩ | ⟨rfl, hq_2⟩
    ·
      exact ret_i hx hb hr hlk hS (Nat.le_of_ble_eq_true rfl) (Nat.le_of_ble_eq_true rfl) (0) (Or.inl ⟨rfl, trivial⟩) (hP.sub [1, 2, 3, 0] rfl) (hD.sub [1, 2, 3, 0] (by decide) rfl) dX6_resultOf_53
    ·
      exact ret_i hx hb hr hlk hS (Nat.le_of_ble_eq_true rfl) (Nat.le_of_ble_eq_true rfl) (j_2) (Or.inr (⟨rfl, (by assumption)⟩)) (hP.sub [1, 2, 3, 0] rfl) (hD.sub [1, 2, 3, 0] (by decide) rfl) dX6_resultOf_53
  ·
    by_cases hs_1_1 : y_1 = 1
    ·
      subst hs_1_1
      refine lv_tableIn (off := 37) (tgt := 54) hx hb dX6_resultOf_17 (by decide) (by decide) (by decide) (by decide) ?_
      refine lv_aload_n hx hb dX6_resultOf_54 rfl (lv_at hl 2 rfl) ?_
      refine lv_iload_n hx hb dX6_resultOf_55 rfl (lv_at hl 5 rfl) ?_
      refine lv_iload hx hb dX6_resultOf_56 (lv_at hl 1 rfl) ?_
      refine lv_iload hx hb dX6_resultOf_58 (lv_at hl 0 rfl) ?_
      refine lv_ineg hx hb dX6_resultOf_60 ?_
      refine aft_i (wr := [(h2, .inl (cs 1, 20, .inl gr))]) hP hD hS hA [0, 1, 2] [3] rfl rfl (by decide) (by decide) (run_v (As := [.int (nI sg), .int (gr (f + 1)), .int (-(gr (f + 2)))]) (rest := []) hFix hK hE hP hD [0, 1, 2] (k_X6_shifted l D cs _ aS (gr (f + 1)) (-(gr (f + 2))) sg sw s1 s2 s3 s4 fp fa zs sc st (by first | assumption | decide | omega) (by first | assumption | decide | omega) (by first | assumption | decide | omega) (by first | assumption | decide | omega) (by first | assumption | decide | omega) (by first | assumption | decide | omega) (by first | assumption | decide | omega)) (cwV 3 hts gc_X6_resultOf_80_X6_shifted rfl rfl rfl (by decide +kernel) ⟨Nat.le_of_ble_eq_true rfl, Nat.le_of_ble_eq_true rfl⟩) rfl (by decide) rfl rfl rfl hl.1 rfl (Nat.le_of_ble_eq_true rfl) dX6_resultOf_61 ⟨Nat.le_of_ble_eq_true rfl, Nat.le_of_ble_eq_true rfl⟩) (fun r_3 u_3 H locs hq_3 hP hD hS => ?_)
      obtain ⟨j_3, rfl⟩ : ∃ z, z = u_3 := ⟨_, rfl⟩
      have hP : va_P D vwCl [(h2, .inl (cs 1, 20, .inl gr)), (aS, .inr (6, [.int (nI zs), .int (nI sc), .int (nI st), .long sw, .ref s1, .ref s2, .ref s3, .ref s4])), (s1, .inl (cs 1, 3, .inl fp)), (s2, .inl (cs 1, 64, .inl fa))] H := hP
      have hD : va_D A [(h2, .inl (cs 1, 20, .inl gr)), (aS, .inr (6, [.int (nI zs), .int (nI sc), .int (nI st), .long sw, .ref s1, .ref s2, .ref s3, .ref s4])), (s1, .inl (cs 1, 3, .inl fp)), (s2, .inl (cs 1, 64, .inl fa))] := hD
      replace hq_3 : ((r_3 = (-1) ∧ True) ∨ (r_3 = nI j_3 ∧ j_3 < (st + 1) ^ sc)) := hq_3
      rcases hq_3 with ⟨rfl, hq_3⟩ | ⟨rfl, hq_3⟩
      ·
        exact ret_i hx hb hr hlk hS (Nat.le_of_ble_eq_true rfl) (Nat.le_of_ble_eq_true rfl) (0) (Or.inl ⟨rfl, trivial⟩) (hP.sub [1, 2, 3, 0] rfl) (hD.sub [1, 2, 3, 0] (by decide) rfl) dX6_resultOf_64
      ·
        exact ret_i hx hb hr hlk hS (Nat.le_of_ble_eq_true rfl) (Nat.le_of_ble_eq_true rfl) (j_3) (Or.inr (⟨rfl, (by assumption)⟩)) (hP.sub [1, 2, 3, 0] rfl) (hD.sub [1, 2, 3, 0] (by decide) rfl) dX6_resultOf_64
    ·
      by_cases hs_1_2 : y_1 = 2
      ·
        subst hs_1_2
        refine lv_tableIn (off := 48) (tgt := 65) hx hb dX6_resultOf_17 (by decide) (by decide) (by decide) (by decide) ?_
        refine lv_aload_n hx hb dX6_resultOf_65 rfl (lv_at hl 2 rfl) ?_
        refine lv_iload_n hx hb dX6_resultOf_66 rfl (lv_at hl 5 rfl) ?_
        refine lv_iload hx hb dX6_resultOf_67 (lv_at hl 1 rfl) ?_
        refine lv_iload hx hb dX6_resultOf_69 (lv_at hl 0 rfl) ?_
        refine lv_aload_n hx hb dX6_resultOf_71 rfl (lv_at hl 2 rfl) ?_
        refine lv_iload_n hx hb dX6_resultOf_72 rfl (lv_at hl 5 rfl) ?_
        refine lv_iload hx hb dX6_resultOf_73 (lv_at hl 1 rfl) ?_
        refine aft_i (wr := [(s1, .inl (cs 1, 3, .inl fp)), (h2, .inl (cs 1, 20, .inl gr))]) hP hD hS hA [0, 2] [1, 3] rfl rfl (by decide) (by decide) (run_v (As := [.int (nI sg), .int (gr (f + 1))]) (rest := [.int (gr (f + 2)), .int (gr (f + 1)), .int (nI sg), .ref aS]) hFix hK hE hP hD [0, 2] (k_X6_digit l D cs _ aS (nI sg) (gr (f + 1)) sw s1 s2 s3 s4 fa zs sc st (by first | assumption | decide | omega) (by first | assumption | decide | omega) (by first | assumption | decide | omega)) (cwV 2 hts gc_X6_resultOf_76_X6_digit rfl rfl rfl (by decide +kernel) ⟨Nat.le_of_ble_eq_true rfl, Nat.le_of_ble_eq_true rfl⟩) rfl (by decide) rfl rfl rfl hl.1 rfl (Nat.le_of_ble_eq_true rfl) dX6_resultOf_75 ⟨Nat.le_of_ble_eq_true rfl, Nat.le_of_ble_eq_true rfl⟩) (fun r_4 u_4 H locs hq_4 hP hD hS => ?_)
        obtain ⟨j_4, rfl⟩ : ∃ z, z = u_4 := ⟨_, rfl⟩
        have hP : va_P D vwCl [(s1, .inl (cs 1, 3, .inl fp)), (h2, .inl (cs 1, 20, .inl gr)), (aS, .inr (6, [.int (nI zs), .int (nI sc), .int (nI st), .long sw, .ref s1, .ref s2, .ref s3, .ref s4])), (s2, .inl (cs 1, 64, .inl fa))] H := hP
        have hD : va_D A [(s1, .inl (cs 1, 3, .inl fp)), (h2, .inl (cs 1, 20, .inl gr)), (aS, .inr (6, [.int (nI zs), .int (nI sc), .int (nI st), .long sw, .ref s1, .ref s2, .ref s3, .ref s4])), (s2, .inl (cs 1, 64, .inl fa))] := hD
        replace hq_4 : ((r_4 = nI j_4 ∧ j_4 < 4)) := hq_4
        obtain ⟨rfl, hq_4⟩ := hq_4
        ·
          refine lv_isub hx hb dX6_resultOf_78 ?_
          refine aft_i (wr := [(h2, .inl (cs 1, 20, .inl gr))]) hP hD hS hA [2, 0, 3] [1] rfl rfl (by decide) (by decide) (run_v (As := [.int (nI sg), .int (gr (f + 1)), .int ((gr (f + 2)) - (nI j_4))]) (rest := []) hFix hK hE hP hD [2, 0, 3] (k_X6_shifted l D cs _ aS (gr (f + 1)) ((gr (f + 2)) - (nI j_4)) sg sw s1 s2 s3 s4 fp fa zs sc st (by first | assumption | decide | omega) (by first | assumption | decide | omega) (by first | assumption | decide | omega) (by first | assumption | decide | omega) (by first | assumption | decide | omega) (by first | assumption | decide | omega) (by first | assumption | decide | omega)) (cwV 3 hts gc_X6_resultOf_80_X6_shifted rfl rfl rfl (by decide +kernel) ⟨Nat.le_of_ble_eq_true rfl, Nat.le_of_ble_eq_true rfl⟩) rfl (by decide) rfl rfl rfl hl.1 rfl (Nat.le_of_ble_eq_true rfl) dX6_resultOf_79 ⟨Nat.le_of_ble_eq_true rfl, Nat.le_of_ble_eq_true rfl⟩) (fun r_5 u_5 H locs hq_5 hP hD hS => ?_)
          obtain ⟨j_5, rfl⟩ : ∃ z, z = u_5 := ⟨_, rfl⟩
          have hP : va_P D vwCl [(h2, .inl (cs 1, 20, .inl gr)), (aS, .inr (6, [.int (nI zs), .int (nI sc), .int (nI st), .long sw, .ref s1, .ref s2, .ref s3, .ref s4])), (s1, .inl (cs 1, 3, .inl fp)), (s2, .inl (cs 1, 64, .inl fa))] H := hP
          have hD : va_D A [(h2, .inl (cs 1, 20, .inl gr)), (aS, .inr (6, [.int (nI zs), .int (nI sc), .int (nI st), .long sw, .ref s1, .ref s2, .ref s3, .ref s4])), (s1, .inl (cs 1, 3, .inl fp)), (s2, .inl (cs 1, 64, .inl fa))] := hD
          replace hq_5 : ((r_5 = (-1) ∧ True) ∨ (r_5 = nI j_5 ∧ j_5 < (st + 1) ^ sc)) := hq_5
          rcases hq_5 with ⟨rfl, hq_5⟩ | ⟨rfl, hq_5⟩
          ·
            exact ret_i hx hb hr hlk hS (Nat.le_of_ble_eq_true rfl) (Nat.le_of_ble_eq_true rfl) (0) (Or.inl ⟨rfl, trivial⟩) (hP.sub [1, 2, 3, 0] rfl) (hD.sub [1, 2, 3, 0] (by decide) rfl) dX6_resultOf_82
          ·
            exact ret_i hx hb hr hlk hS (Nat.le_of_ble_eq_true rfl) (Nat.le_of_ble_eq_true rfl) (j_5) (Or.inr (⟨rfl, (by assumption)⟩)) (hP.sub [1, 2, 3, 0] rfl) (hD.sub [1, 2, 3, 0] (by decide) rfl) dX6_resultOf_82
      ·
        have fhs_1_0 : ¬ y_1.toInt = 0 := fun e9 => hs_1_0 (i32_toInt_inj (y := 0) (e9.trans (by decide)))
        have fhs_1_1 : ¬ y_1.toInt = 1 := fun e9 => hs_1_1 (i32_toInt_inj (y := 1) (e9.trans (by decide)))
        have fhs_1_2 : ¬ y_1.toInt = 2 := fun e9 => hs_1_2 (i32_toInt_inj (y := 2) (e9.trans (by decide)))
        refine lv_tableOut (tgt := 83) hx hb dX6_resultOf_17 (by omega) (by decide) ?_
        refine lv_aload_n hx hb dX6_resultOf_83 rfl (lv_at hl 2 rfl) ?_
        refine lv_iload_n hx hb dX6_resultOf_84 rfl (lv_at hl 5 rfl) ?_
        refine lv_iload hx hb dX6_resultOf_85 (lv_at hl 1 rfl) ?_
        refine lv_aload_n hx hb dX6_resultOf_87 rfl (lv_at hl 3 rfl) ?_
        refine lv_iload_n hx hb dX6_resultOf_88 rfl (lv_at hl 4 rfl) ?_
        refine lv_iconst (v := 3) hx hb dX6_resultOf_89 (by decide) ?_
        refine lv_iadd hx hb dX6_resultOf_90 ?_
        refine cf_i (nI (f + 3)) (nI_add f 3) ?_
        refine va_iald hx hb hK hP 3 1 rfl rfl (vp_in_nI (by omega) (by omega)) dX6_resultOf_91 ?_
        rw [nI_clamp (by omega)]
        refine lv_ineg hx hb dX6_resultOf_92 ?_
        refine aft_i (wr := [(h2, .inl (cs 1, 20, .inl gr))]) hP hD hS hA [0, 1, 2] [3] rfl rfl (by decide) (by decide) (run_v (As := [.int (nI sg), .int (gr (f + 1)), .int (-(gr (f + 3)))]) (rest := []) hFix hK hE hP hD [0, 1, 2] (k_X6_shifted l D cs _ aS (gr (f + 1)) (-(gr (f + 3))) sg sw s1 s2 s3 s4 fp fa zs sc st (by first | assumption | decide | omega) (by first | assumption | decide | omega) (by first | assumption | decide | omega) (by first | assumption | decide | omega) (by first | assumption | decide | omega) (by first | assumption | decide | omega) (by first | assumption | decide | omega)) (cwV 3 hts gc_X6_resultOf_80_X6_shifted rfl rfl rfl (by decide +kernel) ⟨Nat.le_of_ble_eq_true rfl, Nat.le_of_ble_eq_true rfl⟩) rfl (by decide) rfl rfl rfl hl.1 rfl (Nat.le_of_ble_eq_true rfl) dX6_resultOf_93 ⟨Nat.le_of_ble_eq_true rfl, Nat.le_of_ble_eq_true rfl⟩) (fun r_6 u_6 H locs hq_6 hP hD hS => ?_)
        obtain ⟨j_6, rfl⟩ : ∃ z, z = u_6 := ⟨_, rfl⟩
        have hP : va_P D vwCl [(h2, .inl (cs 1, 20, .inl gr)), (aS, .inr (6, [.int (nI zs), .int (nI sc), .int (nI st), .long sw, .ref s1, .ref s2, .ref s3, .ref s4])), (s1, .inl (cs 1, 3, .inl fp)), (s2, .inl (cs 1, 64, .inl fa))] H := hP
        have hD : va_D A [(h2, .inl (cs 1, 20, .inl gr)), (aS, .inr (6, [.int (nI zs), .int (nI sc), .int (nI st), .long sw, .ref s1, .ref s2, .ref s3, .ref s4])), (s1, .inl (cs 1, 3, .inl fp)), (s2, .inl (cs 1, 64, .inl fa))] := hD
        replace hq_6 : ((r_6 = (-1) ∧ True) ∨ (r_6 = nI j_6 ∧ j_6 < (st + 1) ^ sc)) := hq_6
        rcases hq_6 with ⟨rfl, hq_6⟩ | ⟨rfl, hq_6⟩
        ·
          refine lv_istore (lv' := [(6, .int (-1)), (5, .int (gr (f + 2))), (4, .int (gr (f + 1))), (0, .ref aS), (1, .ref h2), (2, .int (nI f)), (3, .int (nI sg))]) hx hb dX6_resultOf_96 hl (by decide) rfl (fun ls hl => ?_)
          refine lv_iload hx hb dX6_resultOf_98 (lv_at hl 0 rfl) ?_
          refine lv_iconst (v := (-1)) hx hb dX6_resultOf_100 (by decide) ?_
          refine lv_icmp_ne (tgt := 108) hx hb dX6_resultOf_101 (by decide) (fun h9 => absurd h9 (by decide)) (fun _ => ?_)
          refine lv_iconst (v := (-1)) hx hb dX6_resultOf_104 (by decide) ?_
          refine lv_goto (tgt := 121) hx hb dX6_resultOf_105 (by decide) ?_
          exact ret_i hx hb hr hlk hS (Nat.le_of_ble_eq_true rfl) (Nat.le_of_ble_eq_true rfl) (0) (Or.inl ⟨rfl, trivial⟩) (hP.sub [1, 2, 3, 0] rfl) (hD.sub [1, 2, 3, 0] (by decide) rfl) dX6_resultOf_121
        ·
          refine lv_istore (lv' := [(6, .int (nI j_6)), (5, .int (gr (f + 2))), (4, .int (gr (f + 1))), (0, .ref aS), (1, .ref h2), (2, .int (nI f)), (3, .int (nI sg))]) hx hb dX6_resultOf_96 hl (by decide) rfl (fun ls hl => ?_)
          refine lv_iload hx hb dX6_resultOf_98 (lv_at hl 0 rfl) ?_
          refine lv_iconst (v := (-1)) hx hb dX6_resultOf_100 (by decide) ?_
          refine lv_icmp_ne (tgt := 108) hx hb dX6_resultOf_101 (by decide) (fun _ => ?_) (fun h9 => False.elim (nneg_ne (a := j_6) h9 (by omega) (by decide)))
          refine lv_aload_n hx hb dX6_resultOf_108 rfl (lv_at hl 3 rfl) ?_
          refine lv_iload hx hb dX6_resultOf_109 (lv_at hl 0 rfl) ?_
          refine lv_iload hx hb dX6_resultOf_111 (lv_at hl 1 rfl) ?_
          refine lv_aload_n hx hb dX6_resultOf_113 rfl (lv_at hl 4 rfl) ?_
          refine lv_iload_n hx hb dX6_resultOf_114 rfl (lv_at hl 5 rfl) ?_
          refine lv_iconst (v := 3) hx hb dX6_resultOf_115 (by decide) ?_
          refine lv_iadd hx hb dX6_resultOf_116 ?_
          refine cf_i (nI (f + 3)) (nI_add f 3) ?_
          refine va_iald hx hb hK hP 0 1 rfl rfl (vp_in_nI (by omega) (by omega)) dX6_resultOf_117 ?_
          rw [nI_clamp (by omega)]
          refine aft_i (wr := [(h2, .inl (cs 1, 20, .inl gr))]) hP hD hS hA [1, 2, 3] [0] rfl rfl (by decide) (by decide) (run_v (As := [.int (nI j_6), .int (gr (f + 2)), .int (gr (f + 3))]) (rest := []) hFix hK hE hP hD [1, 2, 3] (k_X6_shifted l D cs _ aS (gr (f + 2)) (gr (f + 3)) j_6 sw s1 s2 s3 s4 fp fa zs sc st (by first | assumption | decide | omega) (by first | assumption | decide | omega) (by first | assumption | decide | omega) (by first | assumption | decide | omega) (by first | assumption | decide | omega) (by first | assumption | decide | omega) (by first | assumption | decide | omega)) (cwV 3 hts gc_X6_resultOf_80_X6_shifted rfl rfl rfl (by decide +kernel) ⟨Nat.le_of_ble_eq_true rfl, Nat.le_of_ble_eq_true rfl⟩) rfl (by decide) rfl rfl rfl hl.1 rfl (Nat.le_of_ble_eq_true rfl) dX6_resultOf_118 ⟨Nat.le_of_ble_eq_true rfl, Nat.le_of_ble_eq_true rfl⟩) (fun r_8 u_8 H locs hq_8 hP hD hS => ?_)
          obtain ⟨j_8, rfl⟩ : ∃ z, z = u_8 := ⟨_, rfl⟩
          have hP : va_P D vwCl [(h2, .inl (cs 1, 20, .inl gr)), (aS, .inr (6, [.int (nI zs), .int (nI sc), .int (nI st), .long sw, .ref s1, .ref s2, .ref s3, .ref s4])), (s1, .inl (cs 1, 3, .inl fp)), (s2, .inl (cs 1, 64, .inl fa))] H := hP
          have hD : va_D A [(h2, .inl (cs 1, 20, .inl gr)), (aS, .inr (6, [.int (nI zs), .int (nI sc), .int (nI st), .long sw, .ref s1, .ref s2, .ref s3, .ref s4])), (s1, .inl (cs 1, 3, .inl fp)), (s2, .inl (cs 1, 64, .inl fa))] := hD
          replace hq_8 : ((r_8 = (-1) ∧ True) ∨ (r_8 = nI j_8 ∧ j_8 < (st + 1) ^ sc)) := hq_8
          rcases hq_8 with ⟨rfl, hq_8⟩ | ⟨rfl, hq_8⟩
          ·
            exact ret_i hx hb hr hlk hS (Nat.le_of_ble_eq_true rfl) (Nat.le_of_ble_eq_true rfl) (0) (Or.inl ⟨rfl, trivial⟩) (hP.sub [1, 2, 3, 0] rfl) (hD.sub [1, 2, 3, 0] (by decide) rfl) dX6_resultOf_121
          ·
            exact ret_i hx hb hr hlk hS (Nat.le_of_ble_eq_true rfl) (Nat.le_of_ble_eq_true rfl) (j_8) (Or.inr (⟨rfl, (by assumption)⟩)) (hP.sub [1, 2, 3, 0] rfl) (hD.sub [1, 2, 3, 0] (by decide) rfl) dX6_resultOf_121

set_option maxHeartbeats 4000000 in
set_option maxRecDepth 100000 in
theorem k_X6_holdsRow (l : Launch) (D : va_G) (cs : Nat → ClassId) (sz : Nat) (aS : Nat) (h2 : Nat) (sta : Int32) (f : Nat) (sw : Int64) (s1 : Nat) (s2 : Nat) (s3 : Nat) (s4 : Nat) (fa : Nat → Int32) (gr : Nat → Int32) (zs : Nat) (sc : Nat) (st : Nat) (hzs : zs ≤ 64) (hsc : sc ≤ 3) (hst : st ≤ 3) (ha_f : f < 21) : Mi l D cs yX6_holdsRow W_X6_holdsRow 1 22 0 0 [.ref aS, .ref h2, .int (nI f), .int sta] [(aS, .inr (6, [.int (nI zs), .int (nI sc), .int (nI st), .long sw, .ref s1, .ref s2, .ref s3, .ref s4])), (s2, .inl (cs 1, 64, .inl fa)), (h2, .inl (cs 1, 25, .inl gr))] sz (fun (r : Int32) (u : Unit) => ((r = 1 ∧ True) ∨ (r = 0 ∧ True))) (fun (u : Unit) => [(aS, .inr (6, [.int (nI zs), .int (nI sc), .int (nI st), .long sw, .ref s1, .ref s2, .ref s3, .ref s4])), (s2, .inl (cs 1, 64, .inl fa)), (h2, .inl (cs 1, 25, .inl gr))]) := by
  refine ent (D := D) (cs := cs) (y := yX6_holdsRow) (ws := W_X6_holdsRow) (As := [.ref aS, .ref h2, .int (nI f), .int sta]) (W0 := [(aS, .inr (6, [.int (nI zs), .int (nI sc), .int (nI st), .long sw, .ref s1, .ref s2, .ref s3, .ref s4])), (s2, .inl (cs 1, 64, .inl fa)), (h2, .inl (cs 1, 25, .inl gr))]) (Qx := fun A => va_Qi (fun (r : Int32) (u : Unit) => ((r = 1 ∧ True) ∨ (r = 0 ∧ True))) (mpost D A (fun (u : Unit) => [(aS, .inr (6, [.int (nI zs), .int (nI sc), .int (nI st), .long sw, .ref s1, .ref s2, .ref s3, .ref s4])), (s2, .inl (cs 1, 64, .inl fa)), (h2, .inl (cs 1, 25, .inl gr))])) A) (maxL := 7) (ret := (some .boolean)) (by decide) rfl (Nat.le_of_ble_eq_true rfl) ?_
  intro p e s m below meth c A ls hx hb hr hml hlk hown hts hin hK hE hP hD hA hS hl
  have hl : lv_has ls 7 [(0, .ref aS), (1, .ref h2), (2, .int (nI f)), (3, .int sta)] := hl
  generalize hHe : s.heap = H at hP
  have hS : va_S A s.heap H [] := hHe ▸ hS
  generalize hLe : ([] : List Loc) = locs at hS ⊢
  have htw : ∀ w ∈ O_X6_holdsRow, w.before ([.ref aS, .ref h2, .int (nI f), .int sta] : List Value).toArray s = true := fun w h => hts w (List.mem_cons_of_mem _ (List.mem_append_left _ h))
  have hFix := (⟨hx, hb, hml, hown, hts⟩ : CallFix p m c _ _ s _ _ _)
  refine lv_aload_n hx hb dX6_holdsRow_0 rfl (lv_at hl 0 rfl) ?_
  refine lv_iload_n hx hb dX6_holdsRow_1 rfl (lv_at hl 3 rfl) ?_
  refine lv_aload_n hx hb dX6_holdsRow_2 rfl (lv_at hl 1 rfl) ?_
  refine lv_iload_n hx hb dX6_holdsRow_3 rfl (lv_at hl 2 rfl) ?_
  refine lv_iconst (v := 1) hx hb dX6_holdsRow_4 (by decide) ?_
  refine lv_iadd hx hb dX6_holdsRow_5 ?_
  refine cf_i (nI (f + 1)) (nI_add f 1) ?_
  refine va_iald hx hb hK hP 2 1 rfl rfl (vp_in_nI (by omega) (by omega)) dX6_holdsRow_6 ?_
  rw [nI_clamp (by omega)]
  refine aft_i (wr := [(h2, .inl (cs 1, 25, .inl gr))]) hP hD hS hA [0, 1] [2] rfl rfl (by decide) (by decide) (run_v (As := [.int sta, .int (gr (f + 1))]) (rest := []) hFix hK hE hP hD [0, 1] (k_X6_digit l D cs _ aS sta (gr (f + 1)) sw s1 s2 s3 s4 fa zs sc st (by first | assumption | decide | omega) (by first | assumption | decide | omega) (by first | assumption | decide | omega)) (cwV 2 hts gc_X6_holdsRow_76_X6_digit rfl rfl rfl (by decide +kernel) ⟨Nat.le_of_ble_eq_true rfl, Nat.le_of_ble_eq_true rfl⟩) rfl (by decide) rfl rfl rfl hl.1 rfl (Nat.le_of_ble_eq_true rfl) dX6_holdsRow_7 ⟨Nat.le_of_ble_eq_true rfl, Nat.le_of_ble_eq_true rfl⟩) (fun r_1 u_1 H locs hq_1 hP hD hS => ?_)
  obtain ⟨j_1, rfl⟩ : ∃ z, z = u_1 := ⟨_, rfl⟩
  have hP : va_P D vwCl [(h2, .inl (cs 1, 25, .inl gr)), (aS, .inr (6, [.int (nI zs), .int (nI sc), .int (nI st), .long sw, .ref s1, .ref s2, .ref s3, .ref s4])), (s2, .inl (cs 1, 64, .inl fa))] H := hP
  have hD : va_D A [(h2, .inl (cs 1, 25, .inl gr)), (aS, .inr (6, [.int (nI zs), .int (nI sc), .int (nI st), .long sw, .ref s1, .ref s2, .ref s3, .ref s4])), (s2, .inl (cs 1, 64, .inl fa))] := hD
  replace hq_1 : ((r_1 = nI j_1 ∧ j_1 < 4)) := hq_1
  obtain ⟨rfl, hq_1⟩ := hq_1
  ·
    refine lv_istore (lv' := [(4, .int (nI j_1)), (0, .ref aS), (1, .ref h2), (2, .int (nI f)), (3, .int sta)]) hx hb dX6_holdsRow_10 hl (by decide) rfl (fun ls hl => ?_)
    refine lv_aload_n hx hb dX6_holdsRow_12 rfl (lv_at hl 2 rfl) ?_
    refine lv_iload_n hx hb dX6_holdsRow_13 rfl (lv_at hl 3 rfl) ?_
    refine lv_iconst (v := 2) hx hb dX6_holdsRow_14 (by decide) ?_
    refine lv_iadd hx hb dX6_holdsRow_15 ?_
    refine cf_i (nI (f + 2)) (nI_add f 2) ?_
    refine va_iald hx hb hK hP 0 1 rfl rfl (vp_in_nI (by omega) (by omega)) dX6_holdsRow_16 ?_
    rw [nI_clamp (by omega)]
    refine lv_istore (lv' := [(5, .int (gr (f + 2))), (4, .int (nI j_1)), (0, .ref aS), (1, .ref h2), (2, .int (nI f)), (3, .int sta)]) hx hb dX6_holdsRow_17 hl (by decide) rfl (fun ls hl => ?_)
    refine lv_aload_n hx hb dX6_holdsRow_19 rfl (lv_at hl 3 rfl) ?_
    refine lv_iload_n hx hb dX6_holdsRow_20 rfl (lv_at hl 4 rfl) ?_
    refine lv_iconst (v := 3) hx hb dX6_holdsRow_21 (by decide) ?_
    refine lv_iadd hx hb dX6_holdsRow_22 ?_
    refine cf_i (nI (f + 3)) (nI_add f 3) ?_
    refine va_iald hx hb hK hP 0 1 rfl rfl (vp_in_nI (by omega) (by omega)) dX6_holdsRow_23 ?_
    rw [nI_clamp (by omega)]
    refine lv_istore (lv' := [(6, .int (gr (f + 3))), (5, .int (gr (f + 2))), (4, .int (nI j_1)), (0, .ref aS), (1, .ref h2), (2, .int (nI f)), (3, .int sta)]) hx hb dX6_holdsRow_24 hl (by decide) rfl (fun ls hl => ?_)
    refine lv_aload_n hx hb dX6_holdsRow_26 rfl (lv_at hl 4 rfl) ?_
    refine lv_iload_n hx hb dX6_holdsRow_27 rfl (lv_at hl 5 rfl) ?_
    refine va_iald hx hb hK hP 0 1 rfl rfl (vp_in_nI (by omega) (by omega)) dX6_holdsRow_28 ?_
    rw [nI_clamp (by omega)]
    refine lv_topi (fun y_2 ey_2 => ?_)
    by_cases hs_2_0 : y_2 = 0
    ·
      subst hs_2_0
      refine lv_tableIn (off := 35) (tgt := 64) hx hb dX6_holdsRow_29 (by decide) (by decide) (by decide) (by decide) ?_
      refine lv_iload hx hb dX6_holdsRow_64 (lv_at hl 2 rfl) ?_
      refine lv_iload hx hb dX6_holdsRow_66 (lv_at hl 1 rfl) ?_
      refine lv_icmp_gt (tgt := 75) hx hb dX6_holdsRow_68 (by decide) (fun c_3 => ?_) (fun c_3 => ?_)
      ·
        refine lv_iconst (v := 0) hx hb dX6_holdsRow_75 (by decide) ?_
        exact ret_z hx hb hr hlk hS (Nat.le_of_ble_eq_true rfl) (Nat.le_of_ble_eq_true rfl) (by decide) () (Or.inr (⟨rfl, trivial⟩)) (hP.sub [1, 2, 0] rfl) (hD.sub [1, 2, 0] (by decide) rfl) dX6_holdsRow_76
      ·
        have hn_3 := bgtv_f (i := j_1) (t := gr (f + 2)) c_3 (by omega)
        refine lv_iconst (v := 1) hx hb dX6_holdsRow_71 (by decide) ?_
        refine lv_goto (tgt := 76) hx hb dX6_holdsRow_72 (by decide) ?_
        exact ret_z hx hb hr hlk hS (Nat.le_of_ble_eq_true rfl) (Nat.le_of_ble_eq_true rfl) (by decide) () (Or.inl ⟨rfl, trivial⟩) (hP.sub [1, 2, 0] rfl) (hD.sub [1, 2, 0] (by decide) rfl) dX6_holdsRow_76
    ·
      by_cases hs_2_1 : y_2 = 1
      ·
        subst hs_2_1
        refine lv_tableIn (off := 48) (tgt := 77) hx hb dX6_holdsRow_29 (by decide) (by decide) (by decide) (by decide) ?_
        refine lv_iload hx hb dX6_holdsRow_77 (lv_at hl 2 rfl) ?_
        refine lv_iload hx hb dX6_holdsRow_79 (lv_at hl 1 rfl) ?_
        refine lv_icmp_lt (tgt := 88) hx hb dX6_holdsRow_81 (by decide) (fun c_4 => ?_) (fun c_4 => ?_)
        ·
          refine lv_iconst (v := 0) hx hb dX6_holdsRow_88 (by decide) ?_
          exact ret_z hx hb hr hlk hS (Nat.le_of_ble_eq_true rfl) (Nat.le_of_ble_eq_true rfl) (by decide) () (Or.inr (⟨rfl, trivial⟩)) (hP.sub [1, 2, 0] rfl) (hD.sub [1, 2, 0] (by decide) rfl) dX6_holdsRow_89
        ·
          refine lv_iconst (v := 1) hx hb dX6_holdsRow_84 (by decide) ?_
          refine lv_goto (tgt := 89) hx hb dX6_holdsRow_85 (by decide) ?_
          exact ret_z hx hb hr hlk hS (Nat.le_of_ble_eq_true rfl) (Nat.le_of_ble_eq_true rfl) (by decide) () (Or.inl ⟨rfl, trivial⟩) (hP.sub [1, 2, 0] rfl) (hD.sub [1, 2, 0] (by decide) rfl) dX6_holdsRow_89
      ·
        by_cases hs_2_2 : y_2 = 2
        ·
          subst hs_2_2
          refine lv_tableIn (off := 61) (tgt := 90) hx hb dX6_holdsRow_29 (by decide) (by decide) (by decide) (by decide) ?_
          refine lv_iload hx hb dX6_holdsRow_90 (lv_at hl 2 rfl) ?_
          refine lv_aload_n hx hb dX6_holdsRow_92 rfl (lv_at hl 3 rfl) ?_
          refine lv_iload_n hx hb dX6_holdsRow_93 rfl (lv_at hl 6 rfl) ?_
          refine lv_iload hx hb dX6_holdsRow_94 (lv_at hl 1 rfl) ?_
          refine aft_i (wr := [(h2, .inl (cs 1, 25, .inl gr))]) hP hD hS hA [1, 2] [0] rfl rfl (by decide) (by decide) (run_v (As := [.int sta, .int (gr (f + 2))]) (rest := [.int (nI j_1)]) hFix hK hE hP hD [1, 2] (k_X6_digit l D cs _ aS sta (gr (f + 2)) sw s1 s2 s3 s4 fa zs sc st (by first | assumption | decide | omega) (by first | assumption | decide | omega) (by first | assumption | decide | omega)) (cwV 2 hts gc_X6_holdsRow_76_X6_digit rfl rfl rfl (by decide +kernel) ⟨Nat.le_of_ble_eq_true rfl, Nat.le_of_ble_eq_true rfl⟩) rfl (by decide) rfl rfl rfl hl.1 rfl (Nat.le_of_ble_eq_true rfl) dX6_holdsRow_96 ⟨Nat.le_of_ble_eq_true rfl, Nat.le_of_ble_eq_true rfl⟩) (fun r_5 u_5 H locs hq_5 hP hD hS => ?_)
          obtain ⟨j_5, rfl⟩ : ∃ z, z = u_5 := ⟨_, rfl⟩
          have hP : va_P D vwCl [(h2, .inl (cs 1, 25, .inl gr)), (aS, .inr (6, [.int (nI zs), .int (nI sc), .int (nI st), .long sw, .ref s1, .ref s2, .ref s3, .ref s4])), (s2, .inl (cs 1, 64, .inl fa))] H := hP
          have hD : va_D A [(h2, .inl (cs 1, 25, .inl gr)), (aS, .inr (6, [.int (nI zs), .int (nI sc), .int (nI st), .long sw, .ref s1, .ref s2, .ref s3, .ref s4])), (s2, .inl (cs 1, 64, .inl fa))] := hD
          replace hq_5 : ((r_5 = nI j_5 ∧ j_5 < 4)) := hq_5
          obtain ⟨rfl, hq_5⟩ := hq_5
          ·
            refine lv_icmp_eq (tgt := 106) hx hb dX6_holdsRow_99 (by decide) (fun c_6 => ?_) (fun c_6 => ?_)
            ·
              have hn_6 := beq_t (a := j_1) (b := j_5) c_6 (by omega) (by omega)
              refine lv_iconst (v := 0) hx hb dX6_holdsRow_106 (by decide) ?_
              exact ret_z hx hb hr hlk hS (Nat.le_of_ble_eq_true rfl) (Nat.le_of_ble_eq_true rfl) (by decide) () (Or.inr (⟨rfl, trivial⟩)) (hP.sub [1, 2, 0] rfl) (hD.sub [1, 2, 0] (by decide) rfl) dX6_holdsRow_107
            ·
              have hn_6 := beq_f (a := j_1) (b := j_5) c_6 (by omega) (by omega)
              refine lv_iconst (v := 1) hx hb dX6_holdsRow_102 (by decide) ?_
              refine lv_goto (tgt := 107) hx hb dX6_holdsRow_103 (by decide) ?_
              exact ret_z hx hb hr hlk hS (Nat.le_of_ble_eq_true rfl) (Nat.le_of_ble_eq_true rfl) (by decide) () (Or.inl ⟨rfl, trivial⟩) (hP.sub [1, 2, 0] rfl) (hD.sub [1, 2, 0] (by decide) rfl) dX6_holdsRow_107
        ·
          by_cases hs_2_3 : y_2 = 3
          ·
            subst hs_2_3
            refine lv_tableIn (off := 79) (tgt := 108) hx hb dX6_holdsRow_29 (by decide) (by decide) (by decide) (by decide) ?_
            refine lv_iload hx hb dX6_holdsRow_108 (lv_at hl 2 rfl) ?_
            refine lv_aload_n hx hb dX6_holdsRow_110 rfl (lv_at hl 3 rfl) ?_
            refine lv_iload_n hx hb dX6_holdsRow_111 rfl (lv_at hl 6 rfl) ?_
            refine lv_iload hx hb dX6_holdsRow_112 (lv_at hl 1 rfl) ?_
            refine aft_i (wr := [(h2, .inl (cs 1, 25, .inl gr))]) hP hD hS hA [1, 2] [0] rfl rfl (by decide) (by decide) (run_v (As := [.int sta, .int (gr (f + 2))]) (rest := [.int (nI j_1)]) hFix hK hE hP hD [1, 2] (k_X6_digit l D cs _ aS sta (gr (f + 2)) sw s1 s2 s3 s4 fa zs sc st (by first | assumption | decide | omega) (by first | assumption | decide | omega) (by first | assumption | decide | omega)) (cwV 2 hts gc_X6_holdsRow_76_X6_digit rfl rfl rfl (by decide +kernel) ⟨Nat.le_of_ble_eq_true rfl, Nat.le_of_ble_eq_true rfl⟩) rfl (by decide) rfl rfl rfl hl.1 rfl (Nat.le_of_ble_eq_true rfl) dX6_holdsRow_114 ⟨Nat.le_of_ble_eq_true rfl, Nat.le_of_ble_eq_true rfl⟩) (fun r_7 u_7 H locs hq_7 hP hD hS => ?_)
            obtain ⟨j_7, rfl⟩ : ∃ z, z = u_7 := ⟨_, rfl⟩
            have hP : va_P D vwCl [(h2, .inl (cs 1, 25, .inl gr)), (aS, .inr (6, [.int (nI zs), .int (nI sc), .int (nI st), .long sw, .ref s1, .ref s2, .ref s3, .ref s4])), (s2, .inl (cs 1, 64, .inl fa))] H := hP
            have hD : va_D A [(h2, .inl (cs 1, 25, .inl gr)), (aS, .inr (6, [.int (nI zs), .int (nI sc), .int (nI st), .long sw, .ref s1, .ref s2, .ref s3, .ref s4])), (s2, .inl (cs 1, 64, .inl fa))] := hD
            replace hq_7 : ((r_7 = nI j_7 ∧ j_7 < 4)) := hq_7
            obtain ⟨rfl, hq_7⟩ := hq_7
            ·
              refine lv_iadd hx hb dX6_holdsRow_117 ?_
              refine cf_i (nI (j_1 + j_7)) (nI_add j_1 j_7) ?_
              refine lv_iload hx hb dX6_holdsRow_118 (lv_at hl 0 rfl) ?_
              refine lv_icmp_gt (tgt := 127) hx hb dX6_holdsRow_120 (by decide) (fun c_8 => ?_) (fun c_8 => ?_)
              ·
                refine lv_iconst (v := 0) hx hb dX6_holdsRow_127 (by decide) ?_
                exact ret_z hx hb hr hlk hS (Nat.le_of_ble_eq_true rfl) (Nat.le_of_ble_eq_true rfl) (by decide) () (Or.inr (⟨rfl, trivial⟩)) (hP.sub [1, 2, 0] rfl) (hD.sub [1, 2, 0] (by decide) rfl) dX6_holdsRow_128
              ·
                have hn_8 := bgtv_f (i := j_1 + j_7) (t := gr (f + 3)) c_8 (by omega)
                refine lv_iconst (v := 1) hx hb dX6_holdsRow_123 (by decide) ?_
                refine lv_goto (tgt := 128) hx hb dX6_holdsRow_124 (by decide) ?_
                exact ret_z hx hb hr hlk hS (Nat.le_of_ble_eq_true rfl) (Nat.le_of_ble_eq_true rfl) (by decide) () (Or.inl ⟨rfl, trivial⟩) (hP.sub [1, 2, 0] rfl) (hD.sub [1, 2, 0] (by decide) rfl) dX6_holdsRow_128
          ·
            by_cases hs_2_4 : y_2 = 4
            ·
              subst hs_2_4
              refine lv_tableIn (off := 100) (tgt := 129) hx hb dX6_holdsRow_29 (by decide) (by decide) (by decide) (by decide) ?_
              refine lv_iload hx hb dX6_holdsRow_129 (lv_at hl 2 rfl) ?_
              refine lv_aload_n hx hb dX6_holdsRow_131 rfl (lv_at hl 3 rfl) ?_
              refine lv_iload_n hx hb dX6_holdsRow_132 rfl (lv_at hl 6 rfl) ?_
              refine lv_iload hx hb dX6_holdsRow_133 (lv_at hl 1 rfl) ?_
              refine aft_i (wr := [(h2, .inl (cs 1, 25, .inl gr))]) hP hD hS hA [1, 2] [0] rfl rfl (by decide) (by decide) (run_v (As := [.int sta, .int (gr (f + 2))]) (rest := [.int (nI j_1)]) hFix hK hE hP hD [1, 2] (k_X6_digit l D cs _ aS sta (gr (f + 2)) sw s1 s2 s3 s4 fa zs sc st (by first | assumption | decide | omega) (by first | assumption | decide | omega) (by first | assumption | decide | omega)) (cwV 2 hts gc_X6_holdsRow_76_X6_digit rfl rfl rfl (by decide +kernel) ⟨Nat.le_of_ble_eq_true rfl, Nat.le_of_ble_eq_true rfl⟩) rfl (by decide) rfl rfl rfl hl.1 rfl (Nat.le_of_ble_eq_true rfl) dX6_holdsRow_135 ⟨Nat.le_of_ble_eq_true rfl, Nat.le_of_ble_eq_true rfl⟩) (fun r_9 u_9 H locs hq_9 hP hD hS => ?_)
              obtain ⟨j_9, rfl⟩ : ∃ z, z = u_9 := ⟨_, rfl⟩
              have hP : va_P D vwCl [(h2, .inl (cs 1, 25, .inl gr)), (aS, .inr (6, [.int (nI zs), .int (nI sc), .int (nI st), .long sw, .ref s1, .ref s2, .ref s3, .ref s4])), (s2, .inl (cs 1, 64, .inl fa))] H := hP
              have hD : va_D A [(h2, .inl (cs 1, 25, .inl gr)), (aS, .inr (6, [.int (nI zs), .int (nI sc), .int (nI st), .long sw, .ref s1, .ref s2, .ref s3, .ref s4])), (s2, .inl (cs 1, 64, .inl fa))] := hD
              replace hq_9 : ((r_9 = nI j_9 ∧ j_9 < 4)) := hq_9
              obtain ⟨rfl, hq_9⟩ := hq_9
              ·
                refine lv_icmp_gt (tgt := 145) hx hb dX6_holdsRow_138 (by decide) (fun c_10 => ?_) (fun c_10 => ?_)
                ·
                  have hn_10 := bgt_t (a := j_1) (b := j_9) c_10 (by omega) (by omega)
                  refine lv_iconst (v := 0) hx hb dX6_holdsRow_145 (by decide) ?_
                  exact ret_z hx hb hr hlk hS (Nat.le_of_ble_eq_true rfl) (Nat.le_of_ble_eq_true rfl) (by decide) () (Or.inr (⟨rfl, trivial⟩)) (hP.sub [1, 2, 0] rfl) (hD.sub [1, 2, 0] (by decide) rfl) dX6_holdsRow_146
                ·
                  have hn_10 := bgt_f (a := j_1) (b := j_9) c_10 (by omega) (by omega)
                  refine lv_iconst (v := 1) hx hb dX6_holdsRow_141 (by decide) ?_
                  refine lv_goto (tgt := 146) hx hb dX6_holdsRow_142 (by decide) ?_
                  exact ret_z hx hb hr hlk hS (Nat.le_of_ble_eq_true rfl) (Nat.le_of_ble_eq_true rfl) (by decide) () (Or.inl ⟨rfl, trivial⟩) (hP.sub [1, 2, 0] rfl) (hD.sub [1, 2, 0] (by decide) rfl) dX6_holdsRow_146
            ·
              have fhs_2_0 : ¬ y_2.toInt = 0 := fun e9 => hs_2_0 (i32_toInt_inj (y := 0) (e9.trans (by decide)))
              have fhs_2_1 : ¬ y_2.toInt = 1 := fun e9 => hs_2_1 (i32_toInt_inj (y := 1) (e9.trans (by decide)))
              have fhs_2_2 : ¬ y_2.toInt = 2 := fun e9 => hs_2_2 (i32_toInt_inj (y := 2) (e9.trans (by decide)))
              have fhs_2_3 : ¬ y_2.toInt = 3 := fun e9 => hs_2_3 (i32_toInt_inj (y := 3) (e9.trans (by decide)))
              have fhs_2_4 : ¬ y_2.toInt = 4 := fun e9 => hs_2_4 (i32_toInt_inj (y := 4) (e9.trans (by decide)))
              refine lv_tableOut (tgt := 147) hx hb dX6_holdsRow_29 (by omega) (by decide) ?_
              refine lv_iload hx hb dX6_holdsRow_147 (lv_at hl 2 rfl) ?_
              refine lv_iload hx hb dX6_holdsRow_149 (lv_at hl 1 rfl) ?_
              refine lv_icmp_lt (tgt := 169) hx hb dX6_holdsRow_151 (by decide) (fun c_11 => ?_) (fun c_11 => ?_)
              ·
                refine lv_iconst (v := 1) hx hb dX6_holdsRow_169 (by decide) ?_
                refine lv_goto (tgt := 174) hx hb dX6_holdsRow_170 (by decide) ?_
                exact ret_z hx hb hr hlk hS (Nat.le_of_ble_eq_true rfl) (Nat.le_of_ble_eq_true rfl) (by decide) () (Or.inl ⟨rfl, trivial⟩) (hP.sub [1, 2, 0] rfl) (hD.sub [1, 2, 0] (by decide) rfl) dX6_holdsRow_174
              ·
                refine lv_aload_n hx hb dX6_holdsRow_154 rfl (lv_at hl 3 rfl) ?_
                refine lv_iload_n hx hb dX6_holdsRow_155 rfl (lv_at hl 6 rfl) ?_
                refine lv_iload hx hb dX6_holdsRow_156 (lv_at hl 0 rfl) ?_
                refine aft_i (wr := [(h2, .inl (cs 1, 25, .inl gr))]) hP hD hS hA [1, 2] [0] rfl rfl (by decide) (by decide) (run_v (As := [.int sta, .int (gr (f + 3))]) (rest := []) hFix hK hE hP hD [1, 2] (k_X6_digit l D cs _ aS sta (gr (f + 3)) sw s1 s2 s3 s4 fa zs sc st (by first | assumption | decide | omega) (by first | assumption | decide | omega) (by first | assumption | decide | omega)) (cwV 2 hts gc_X6_holdsRow_76_X6_digit rfl rfl rfl (by decide +kernel) ⟨Nat.le_of_ble_eq_true rfl, Nat.le_of_ble_eq_true rfl⟩) rfl (by decide) rfl rfl rfl hl.1 rfl (Nat.le_of_ble_eq_true rfl) dX6_holdsRow_158 ⟨Nat.le_of_ble_eq_true rfl, Nat.le_of_ble_eq_true rfl⟩) (fun r_12 u_12 H locs hq_12 hP hD hS => ?_)
                obtain ⟨j_12, rfl⟩ : ∃ z, z = u_12 := ⟨_, rfl⟩
                have hP : va_P D vwCl [(h2, .inl (cs 1, 25, .inl gr)), (aS, .inr (6, [.int (nI zs), .int (nI sc), .int (nI st), .long sw, .ref s1, .ref s2, .ref s3, .ref s4])), (s2, .inl (cs 1, 64, .inl fa))] H := hP
                have hD : va_D A [(h2, .inl (cs 1, 25, .inl gr)), (aS, .inr (6, [.int (nI zs), .int (nI sc), .int (nI st), .long sw, .ref s1, .ref s2, .ref s3, .ref s4])), (s2, .inl (cs 1, 64, .inl fa))] := hD
                replace hq_12 : ((r_12 = nI j_12 ∧ j_12 < 4)) := hq_12
                obtain ⟨rfl, hq_12⟩ := hq_12
                ·
                  refine lv_aload_n hx hb dX6_holdsRow_161 rfl (lv_at hl 4 rfl) ?_
                  refine lv_iload_n hx hb dX6_holdsRow_162 rfl (lv_at hl 5 rfl) ?_
                  refine lv_iconst (v := 4) hx hb dX6_holdsRow_163 (by decide) ?_
                  refine lv_iadd hx hb dX6_holdsRow_164 ?_
                  refine cf_i (nI (f + 4)) (nI_add f 4) ?_
                  refine va_iald hx hb hK hP 0 1 rfl rfl (vp_in_nI (by omega) (by omega)) dX6_holdsRow_165 ?_
                  rw [nI_clamp (by omega)]
                  refine lv_icmp_lt (tgt := 173) hx hb dX6_holdsRow_166 (by decide) (fun c_13 => ?_) (fun c_13 => ?_)
                  ·
                    refine lv_iconst (v := 0) hx hb dX6_holdsRow_173 (by decide) ?_
                    exact ret_z hx hb hr hlk hS (Nat.le_of_ble_eq_true rfl) (Nat.le_of_ble_eq_true rfl) (by decide) () (Or.inr (⟨rfl, trivial⟩)) (hP.sub [1, 2, 0] rfl) (hD.sub [1, 2, 0] (by decide) rfl) dX6_holdsRow_174
                  ·
                    refine lv_iconst (v := 1) hx hb dX6_holdsRow_169 (by decide) ?_
                    refine lv_goto (tgt := 174) hx hb dX6_holdsRow_170 (by decide) ?_
                    exact ret_z hx hb hr hlk hS (Nat.le_of_ble_eq_true rfl) (Nat.le_of_ble_eq_true rfl) (by decide) () (Or.inl ⟨rfl, trivial⟩) (hP.sub [1, 2, 0] rfl) (hD.sub [1, 2, 0] (by decide) rfl) dX6_holdsRow_174

set_option maxHeartbeats 4000000 in
set_option maxRecDepth 100000 in
theorem k_X6_holdersOf (l : Launch) (D : va_G) (cs : Nat → ClassId) (sz : Nat) (aS : Nat) (h2 : Nat) (f : Nat) (sw : Int64) (s1 : Nat) (s2 : Nat) (s3 : Nat) (s4 : Nat) (fa : Nat → Int32) (gr : Nat → Int32) (zs : Nat) (sc : Nat) (st : Nat) (hzs : zs ≤ 64) (hsc : sc ≤ 3) (hst : st ≤ 3) (ha_f : f < 21) : Ml l D cs yX6_holdersOf W_X6_holdersOf 2 48 0 0 [.ref aS, .ref h2, .int (nI f)] [(aS, .inr (6, [.int (nI zs), .int (nI sc), .int (nI st), .long sw, .ref s1, .ref s2, .ref s3, .ref s4])), (s2, .inl (cs 1, 64, .inl fa)), (h2, .inl (cs 1, 25, .inl gr))] sz (fun (r : Int64) (u : Unit) => True) (fun (u : Unit) => [(aS, .inr (6, [.int (nI zs), .int (nI sc), .int (nI st), .long sw, .ref s1, .ref s2, .ref s3, .ref s4])), (s2, .inl (cs 1, 64, .inl fa)), (h2, .inl (cs 1, 25, .inl gr))]) := by
  refine ent (D := D) (cs := cs) (y := yX6_holdersOf) (ws := W_X6_holdersOf) (As := [.ref aS, .ref h2, .int (nI f)]) (W0 := [(aS, .inr (6, [.int (nI zs), .int (nI sc), .int (nI st), .long sw, .ref s1, .ref s2, .ref s3, .ref s4])), (s2, .inl (cs 1, 64, .inl fa)), (h2, .inl (cs 1, 25, .inl gr))]) (Qx := fun A => va_Ql (fun (r : Int64) (u : Unit) => True) (mpost D A (fun (u : Unit) => [(aS, .inr (6, [.int (nI zs), .int (nI sc), .int (nI st), .long sw, .ref s1, .ref s2, .ref s3, .ref s4])), (s2, .inl (cs 1, 64, .inl fa)), (h2, .inl (cs 1, 25, .inl gr))])) A) (maxL := 6) (ret := (some .long)) (by decide) rfl (Nat.le_of_ble_eq_true rfl) ?_
  intro p e s m below meth c A ls hx hb hr hml hlk hown hts hin hK hE hP hD hA hS hl
  have hl : lv_has ls 6 [(0, .ref aS), (1, .ref h2), (2, .int (nI f))] := hl
  generalize hHe : s.heap = H at hP
  have hS : va_S A s.heap H [] := hHe ▸ hS
  generalize hLe : ([] : List Loc) = locs at hS ⊢
  have htw : ∀ w ∈ O_X6_holdersOf, w.before ([.ref aS, .ref h2, .int (nI f)] : List Value).toArray s = true := fun w h => hts w (List.mem_cons_of_mem _ (List.mem_append_left _ h))
  have hFix := (⟨hx, hb, hml, hown, hts⟩ : CallFix p m c _ _ s _ _ _)
  refine lv_lconst (v := 0) hx hb dX6_holdersOf_0 (by decide) ?_
  refine lv_lstore_n (lv' := [(3, .long 0), (0, .ref aS), (1, .ref h2), (2, .int (nI f))]) hx hb dX6_holdersOf_1 rfl hl (by decide) rfl (fun ls hl => ?_)
  refine lv_iconst (v := 0) hx hb dX6_holdersOf_2 (by decide) ?_
  refine lv_istore (lv' := [(5, .int 0), (3, .long 0), (0, .ref aS), (1, .ref h2), (2, .int (nI f))]) hx hb dX6_holdersOf_3 hl (by decide) rfl (fun ls hl => ?_)
  have lp_2 : ∀ (nfu : Nat) (i_1 : Nat) (v3_1 : Int64) (H : Heap) (locs : List Loc) (ls : Array Slot) (hi_1 : i_1 ≤ zs), zs - i_1 < nfu → va_P D vwCl [(aS, .inr (6, [.int (nI zs), .int (nI sc), .int (nI st), .long sw, .ref s1, .ref s2, .ref s3, .ref s4])), (s2, .inl (cs 1, 64, .inl fa)), (h2, .inl (cs 1, 25, .inl gr))] H → va_D A [(aS, .inr (6, [.int (nI zs), .int (nI sc), .int (nI st), .long sw, .ref s1, .ref s2, .ref s3, .ref s4])), (s2, .inl (cs 1, 64, .inl fa)), (h2, .inl (cs 1, 25, .inl gr))] → va_S A s.heap H locs → lv_has ls 6 [(5, .int (nI i_1)), (3, .long v3_1), (0, .ref aS), (1, .ref h2), (2, .int (nI f))] → W p l e (mRm 2 0 0 48) s m ([.ref aS, .ref h2, .int (nI f)] : List Value).toArray below meth c H locs 0 0 (MQ below (va_Ql (fun (r : Int64) (u : Unit) => True) (mpost D A (fun (u : Unit) => [(aS, .inr (6, [.int (nI zs), .int (nI sc), .int (nI st), .long sw, .ref s1, .ref s2, .ref s3, .ref s4])), (s2, .inl (cs 1, 64, .inl fa)), (h2, .inl (cs 1, 25, .inl gr))])) A) ([.ref aS, .ref h2, .int (nI f)] : List Value).toArray s 0 0 A) (F0 m 5 ls []) := by
    intro nfu
    induction nfu with
    | zero => intro i_1 v3_1 H locs ls hi_1 hmu; exact absurd hmu (Nat.not_lt_zero _)
    | succ nfu ih =>
      intro i_1 v3_1 H locs ls hi_1 hmu hP hD hS hl
      have ih_lp_2 := @ih
      refine lv_iload hx hb dX6_holdersOf_5 (lv_at hl 0 rfl) ?_
      refine lv_aload_n hx hb dX6_holdersOf_7 rfl (lv_at hl 2 rfl) ?_
      refine va_get (D := D) (ci := 6) (v := .int (nI zs)) (C := RX6) (T := TX6) (N := 8) hx hb hts iuX6_holdersOf_X6 hown hK hP 0 rfl rfl 0 (by decide) (htw (.fieldLink RX6 9 "MergeJudge$Space" "size" "I") (List.mem_of_getElem? (i := 0) rfl)) (fun _ h9 => h9) rfl dX6_holdersOf_8 ?_
      refine lv_icmp_ge (tgt := 38) hx hb dX6_holdersOf_11 (by decide) (fun c_3 => ?_) (fun c_3 => ?_)
      ·
        have hn_3 := bge_t (a := i_1) (b := zs) c_3 (by omega) (by omega)
        refine lv_lload_n hx hb dX6_holdersOf_38 rfl (lv_at hl 1 rfl) ?_
        exact ret_l hx hb hr hlk hS (Nat.le_of_ble_eq_true rfl) (Nat.le_of_ble_eq_true rfl) () (trivial) (hP.sub [0, 1, 2] rfl) (hD.sub [0, 1, 2] (by decide) rfl) dX6_holdersOf_39
      ·
        have hn_3 := bge_f (a := i_1) (b := zs) c_3 (by omega) (by omega)
        refine lv_aload_n hx hb dX6_holdersOf_14 rfl (lv_at hl 2 rfl) ?_
        refine lv_aload_n hx hb dX6_holdersOf_15 rfl (lv_at hl 3 rfl) ?_
        refine lv_iload_n hx hb dX6_holdersOf_16 rfl (lv_at hl 4 rfl) ?_
        refine lv_iload hx hb dX6_holdersOf_17 (lv_at hl 0 rfl) ?_
        refine aft_i (wr := []) hP hD hS hA [0, 1, 2] [] rfl rfl (by decide) (by decide) (run_v (As := [.ref h2, .int (nI f), .int (nI i_1)]) (rest := []) hFix hK hE hP hD [0, 1, 2] (k_X6_holdsRow l D cs _ aS h2 (nI i_1) f sw s1 s2 s3 s4 fa gr zs sc st (by first | assumption | decide | omega) (by first | assumption | decide | omega) (by first | assumption | decide | omega) (by first | assumption | decide | omega)) (cwV 3 hts gc_X6_holdersOf_72_X6_holdsRow rfl rfl rfl (by decide +kernel) ⟨Nat.le_of_ble_eq_true rfl, Nat.le_of_ble_eq_true rfl⟩) rfl (by decide) rfl rfl rfl hl.1 rfl (Nat.le_of_ble_eq_true rfl) dX6_holdersOf_19 ⟨Nat.le_of_ble_eq_true rfl, Nat.le_of_ble_eq_true rfl⟩) (fun r_4 u_4 H locs hq_4 hP hD hS => ?_)
        have hP : va_P D vwCl [(aS, .inr (6, [.int (nI zs), .int (nI sc), .int (nI st), .long sw, .ref s1, .ref s2, .ref s3, .ref s4])), (s2, .inl (cs 1, 64, .inl fa)), (h2, .inl (cs 1, 25, .inl gr))] H := hP
        have hD : va_D A [(aS, .inr (6, [.int (nI zs), .int (nI sc), .int (nI st), .long sw, .ref s1, .ref s2, .ref s3, .ref s4])), (s2, .inl (cs 1, 64, .inl fa)), (h2, .inl (cs 1, 25, .inl gr))] := hD
        replace hq_4 : ((r_4 = 1 ∧ True) ∨ (r_4 = 0 ∧ True)) := hq_4
        rcases hq_4 with ⟨rfl, hq_4⟩ | ⟨rfl, hq_4⟩
        ·
          refine lv_if_eq (tgt := 32) hx hb dX6_holdersOf_22 (by decide) (fun h9 => absurd h9 (by decide)) (fun _ => ?_)
          refine lv_lload_n hx hb dX6_holdersOf_25 rfl (lv_at hl 1 rfl) ?_
          refine lv_lconst (v := 1) hx hb dX6_holdersOf_26 (by decide) ?_
          refine lv_iload hx hb dX6_holdersOf_27 (lv_at hl 0 rfl) ?_
          refine lv_lshl (v := (1 : Int64) <<< ((nI i_1).toInt64 &&& 63)) hx hb dX6_holdersOf_29 rfl ?_
          refine lv_lor hx hb dX6_holdersOf_30 ?_
          refine lv_lstore_n (lv' := [(3, .long (v3_1 ||| ((1 : Int64) <<< ((nI i_1).toInt64 &&& 63)))), (5, .int (nI i_1)), (0, .ref aS), (1, .ref h2), (2, .int (nI f))]) hx hb dX6_holdersOf_31 rfl hl (by decide) rfl (fun ls hl => ?_)
          refine lv_iinc (v := (nI (i_1 + 1))) (lv' := [(5, .int (nI (i_1 + 1))), (3, .long (v3_1 ||| ((1 : Int64) <<< ((nI i_1).toInt64 &&& 63)))), (0, .ref aS), (1, .ref h2), (2, .int (nI f))]) hx hb dX6_holdersOf_32 hl (k := 1) rfl (nI_1 _) (by decide) rfl (fun ls hl => ?_)
          refine lv_goto (tgt := 5) hx hb dX6_holdersOf_35 (by decide) ?_
          exact ih_lp_2 (i_1 + 1) (v3_1 ||| ((1 : Int64) <<< ((nI i_1).toInt64 &&& 63))) H locs ls (by omega) (by omega) (hP.sub [0, 1, 2] rfl) (hD.sub [0, 1, 2] (by decide) rfl) hS (lv_sub hl [0, 1, 2, 3, 4] rfl)
        ·
          refine lv_if_eq (tgt := 32) hx hb dX6_holdersOf_22 (by decide) (fun _ => ?_) (fun h9 => absurd h9 (by decide))
          refine lv_iinc (v := (nI (i_1 + 1))) (lv' := [(5, .int (nI (i_1 + 1))), (3, .long v3_1), (0, .ref aS), (1, .ref h2), (2, .int (nI f))]) hx hb dX6_holdersOf_32 hl (k := 0) rfl (nI_1 _) (by decide) rfl (fun ls hl => ?_)
          refine lv_goto (tgt := 5) hx hb dX6_holdersOf_35 (by decide) ?_
          exact ih_lp_2 (i_1 + 1) v3_1 H locs ls (by omega) (by omega) (hP.sub [0, 1, 2] rfl) (hD.sub [0, 1, 2] (by decide) rfl) hS (lv_sub hl [0, 1, 2, 3, 4] rfl)
  exact lp_2 _ 0 0 H locs ls (by omega) (Nat.lt_succ_self _) (hP.sub [0, 1, 2] rfl) (hD.sub [0, 1, 2] (by decide) rfl) hS (lv_sub hl [0, 1, 2, 3, 4] rfl)

set_option maxHeartbeats 4000000 in
set_option maxRecDepth 100000 in
theorem k_X6_cellsApart (l : Launch) (D : va_G) (cs : Nat → ClassId) (sz : Nat) (aS : Nat) (sta : Int32) (stb : Int32) (sw : Int64) (s1 : Nat) (s2 : Nat) (s3 : Nat) (s4 : Nat) (fa : Nat → Int32) (zs : Nat) (sc : Nat) (st : Nat) (hzs : zs ≤ 64) (hsc : sc ≤ 3) (hst : st ≤ 3) : Mi l D cs yX6_cellsApart W_X6_cellsApart 1 22 0 0 [.ref aS, .int sta, .int stb] [(aS, .inr (6, [.int (nI zs), .int (nI sc), .int (nI st), .long sw, .ref s1, .ref s2, .ref s3, .ref s4])), (s2, .inl (cs 1, 64, .inl fa))] sz (fun (r : Int32) (u : Unit) => True) (fun (u : Unit) => [(aS, .inr (6, [.int (nI zs), .int (nI sc), .int (nI st), .long sw, .ref s1, .ref s2, .ref s3, .ref s4])), (s2, .inl (cs 1, 64, .inl fa))]) := by
  refine ent (D := D) (cs := cs) (y := yX6_cellsApart) (ws := W_X6_cellsApart) (As := [.ref aS, .int sta, .int stb]) (W0 := [(aS, .inr (6, [.int (nI zs), .int (nI sc), .int (nI st), .long sw, .ref s1, .ref s2, .ref s3, .ref s4])), (s2, .inl (cs 1, 64, .inl fa))]) (Qx := fun A => va_Qi (fun (r : Int32) (u : Unit) => True) (mpost D A (fun (u : Unit) => [(aS, .inr (6, [.int (nI zs), .int (nI sc), .int (nI st), .long sw, .ref s1, .ref s2, .ref s3, .ref s4])), (s2, .inl (cs 1, 64, .inl fa))])) A) (maxL := 5) (ret := (some .int)) (by decide) rfl (Nat.le_of_ble_eq_true rfl) ?_
  intro p e s m below meth c A ls hx hb hr hml hlk hown hts hin hK hE hP hD hA hS hl
  have hl : lv_has ls 5 [(0, .ref aS), (1, .int sta), (2, .int stb)] := hl
  generalize hHe : s.heap = H at hP
  have hS : va_S A s.heap H [] := hHe ▸ hS
  generalize hLe : ([] : List Loc) = locs at hS ⊢
  have htw : ∀ w ∈ O_X6_cellsApart, w.before ([.ref aS, .int sta, .int stb] : List Value).toArray s = true := fun w h => hts w (List.mem_cons_of_mem _ (List.mem_append_left _ h))
  have hFix := (⟨hx, hb, hml, hown, hts⟩ : CallFix p m c _ _ s _ _ _)
  refine lv_iconst (v := 0) hx hb dX6_cellsApart_0 (by decide) ?_
  refine lv_istore_n (lv' := [(3, .int 0), (0, .ref aS), (1, .int sta), (2, .int stb)]) hx hb dX6_cellsApart_1 rfl hl (by decide) rfl (fun ls hl => ?_)
  refine lv_iconst (v := 0) hx hb dX6_cellsApart_2 (by decide) ?_
  refine lv_istore (lv' := [(4, .int 0), (3, .int 0), (0, .ref aS), (1, .int sta), (2, .int stb)]) hx hb dX6_cellsApart_3 hl (by decide) rfl (fun ls hl => ?_)
  have lp_2 : ∀ (nfu : Nat) (i_1 : Nat) (v3_1 : Int32) (H : Heap) (locs : List Loc) (ls : Array Slot) (hi_1 : i_1 ≤ sc), sc - i_1 < nfu → va_P D vwCl [(aS, .inr (6, [.int (nI zs), .int (nI sc), .int (nI st), .long sw, .ref s1, .ref s2, .ref s3, .ref s4])), (s2, .inl (cs 1, 64, .inl fa))] H → va_D A [(aS, .inr (6, [.int (nI zs), .int (nI sc), .int (nI st), .long sw, .ref s1, .ref s2, .ref s3, .ref s4])), (s2, .inl (cs 1, 64, .inl fa))] → va_S A s.heap H locs → lv_has ls 5 [(4, .int (nI i_1)), (3, .int v3_1), (0, .ref aS), (1, .int sta), (2, .int stb)] → W p l e (mRm 1 0 0 22) s m ([.ref aS, .int sta, .int stb] : List Value).toArray below meth c H locs 0 0 (MQ below (va_Qi (fun (r : Int32) (u : Unit) => True) (mpost D A (fun (u : Unit) => [(aS, .inr (6, [.int (nI zs), .int (nI sc), .int (nI st), .long sw, .ref s1, .ref s2, .ref s3, .ref s4])), (s2, .inl (cs 1, 64, .inl fa))])) A) ([.ref aS, .int sta, .int stb] : List Value).toArray s 0 0 A) (F0 m 5 ls []) := by
    intro nfu
    induction nfu with
    | zero => intro i_1 v3_1 H locs ls hi_1 hmu; exact absurd hmu (Nat.not_lt_zero _)
    | succ nfu ih =>
      intro i_1 v3_1 H locs ls hi_1 hmu hP hD hS hl
      have ih_lp_2 := @ih
      refine lv_iload hx hb dX6_cellsApart_5 (lv_at hl 0 rfl) ?_
      refine lv_aload_n hx hb dX6_cellsApart_7 rfl (lv_at hl 2 rfl) ?_
      refine va_get (D := D) (ci := 6) (v := .int (nI sc)) (C := RX6) (T := TX6) (N := 8) hx hb hts iuX6_cellsApart_X6 hown hK hP 0 rfl rfl 1 (by decide) (htw (.fieldLink RX6 15 "MergeJudge$Space" "cells" "I") (List.mem_of_getElem? (i := 0) rfl)) (fun _ h9 => h9) rfl dX6_cellsApart_8 ?_
      refine lv_icmp_ge (tgt := 40) hx hb dX6_cellsApart_11 (by decide) (fun c_3 => ?_) (fun c_3 => ?_)
      ·
        have hn_3 := bge_t (a := i_1) (b := sc) c_3 (by omega) (by omega)
        refine lv_iload_n hx hb dX6_cellsApart_40 rfl (lv_at hl 1 rfl) ?_
        exact ret_i hx hb hr hlk hS (Nat.le_of_ble_eq_true rfl) (Nat.le_of_ble_eq_true rfl) () (trivial) (hP.sub [0, 1] rfl) (hD.sub [0, 1] (by decide) rfl) dX6_cellsApart_41
      ·
        have hn_3 := bge_f (a := i_1) (b := sc) c_3 (by omega) (by omega)
        refine lv_aload_n hx hb dX6_cellsApart_14 rfl (lv_at hl 2 rfl) ?_
        refine lv_iload_n hx hb dX6_cellsApart_15 rfl (lv_at hl 3 rfl) ?_
        refine lv_iload hx hb dX6_cellsApart_16 (lv_at hl 0 rfl) ?_
        refine aft_i (wr := []) hP hD hS hA [0, 1] [] rfl rfl (by decide) (by decide) (run_v (As := [.int sta, .int (nI i_1)]) (rest := []) hFix hK hE hP hD [0, 1] (k_X6_digit l D cs _ aS sta (nI i_1) sw s1 s2 s3 s4 fa zs sc st (by first | assumption | decide | omega) (by first | assumption | decide | omega) (by first | assumption | decide | omega)) (cwV 2 hts gc_X6_cellsApart_76_X6_digit rfl rfl rfl (by decide +kernel) ⟨Nat.le_of_ble_eq_true rfl, Nat.le_of_ble_eq_true rfl⟩) rfl (by decide) rfl rfl rfl hl.1 rfl (Nat.le_of_ble_eq_true rfl) dX6_cellsApart_18 ⟨Nat.le_of_ble_eq_true rfl, Nat.le_of_ble_eq_true rfl⟩) (fun r_4 u_4 H locs hq_4 hP hD hS => ?_)
        obtain ⟨j_4, rfl⟩ : ∃ z, z = u_4 := ⟨_, rfl⟩
        have hP : va_P D vwCl [(aS, .inr (6, [.int (nI zs), .int (nI sc), .int (nI st), .long sw, .ref s1, .ref s2, .ref s3, .ref s4])), (s2, .inl (cs 1, 64, .inl fa))] H := hP
        have hD : va_D A [(aS, .inr (6, [.int (nI zs), .int (nI sc), .int (nI st), .long sw, .ref s1, .ref s2, .ref s3, .ref s4])), (s2, .inl (cs 1, 64, .inl fa))] := hD
        replace hq_4 : ((r_4 = nI j_4 ∧ j_4 < 4)) := hq_4
        obtain ⟨rfl, hq_4⟩ := hq_4
        ·
          refine lv_aload_n hx hb dX6_cellsApart_21 rfl (lv_at hl 2 rfl) ?_
          refine lv_iload_n hx hb dX6_cellsApart_22 rfl (lv_at hl 4 rfl) ?_
          refine lv_iload hx hb dX6_cellsApart_23 (lv_at hl 0 rfl) ?_
          refine aft_i (wr := []) hP hD hS hA [0, 1] [] rfl rfl (by decide) (by decide) (run_v (As := [.int stb, .int (nI i_1)]) (rest := [.int (nI j_4)]) hFix hK hE hP hD [0, 1] (k_X6_digit l D cs _ aS stb (nI i_1) sw s1 s2 s3 s4 fa zs sc st (by first | assumption | decide | omega) (by first | assumption | decide | omega) (by first | assumption | decide | omega)) (cwV 2 hts gc_X6_cellsApart_76_X6_digit rfl rfl rfl (by decide +kernel) ⟨Nat.le_of_ble_eq_true rfl, Nat.le_of_ble_eq_true rfl⟩) rfl (by decide) rfl rfl rfl hl.1 rfl (Nat.le_of_ble_eq_true rfl) dX6_cellsApart_25 ⟨Nat.le_of_ble_eq_true rfl, Nat.le_of_ble_eq_true rfl⟩) (fun r_5 u_5 H locs hq_5 hP hD hS => ?_)
          obtain ⟨j_5, rfl⟩ : ∃ z, z = u_5 := ⟨_, rfl⟩
          have hP : va_P D vwCl [(aS, .inr (6, [.int (nI zs), .int (nI sc), .int (nI st), .long sw, .ref s1, .ref s2, .ref s3, .ref s4])), (s2, .inl (cs 1, 64, .inl fa))] H := hP
          have hD : va_D A [(aS, .inr (6, [.int (nI zs), .int (nI sc), .int (nI st), .long sw, .ref s1, .ref s2, .ref s3, .ref s4])), (s2, .inl (cs 1, 64, .inl fa))] := hD
          replace hq_5 : ((r_5 = nI j_5 ∧ j_5 < 4)) := hq_5
          obtain ⟨rfl, hq_5⟩ := hq_5
          ·
            refine lv_icmp_eq (tgt := 34) hx hb dX6_cellsApart_28 (by decide) (fun c_6 => ?_) (fun c_6 => ?_)
            ·
              have hn_6 := beq_t (a := j_4) (b := j_5) c_6 (by omega) (by omega)
              refine lv_iinc (v := (nI (i_1 + 1))) (lv' := [(4, .int (nI (i_1 + 1))), (3, .int v3_1), (0, .ref aS), (1, .int sta), (2, .int stb)]) hx hb dX6_cellsApart_34 hl (k := 0) rfl (nI_1 _) (by decide) rfl (fun ls hl => ?_)
              refine lv_goto (tgt := 5) hx hb dX6_cellsApart_37 (by decide) ?_
              exact ih_lp_2 (i_1 + 1) v3_1 H locs ls (by omega) (by omega) (hP.sub [0, 1] rfl) (hD.sub [0, 1] (by decide) rfl) hS (lv_sub hl [0, 1, 2, 3, 4] rfl)
            ·
              have hn_6 := beq_f (a := j_4) (b := j_5) c_6 (by omega) (by omega)
              refine lv_iinc (v := (v3_1 + Int32.ofInt 1)) (lv' := [(3, .int (v3_1 + Int32.ofInt 1)), (4, .int (nI i_1)), (0, .ref aS), (1, .int sta), (2, .int stb)]) hx hb dX6_cellsApart_31 hl (k := 1) rfl rfl (by decide) rfl (fun ls hl => ?_)
              refine lv_iinc (v := (nI (i_1 + 1))) (lv' := [(4, .int (nI (i_1 + 1))), (3, .int (v3_1 + Int32.ofInt 1)), (0, .ref aS), (1, .int sta), (2, .int stb)]) hx hb dX6_cellsApart_34 hl (k := 1) rfl (nI_1 _) (by decide) rfl (fun ls hl => ?_)
              refine lv_goto (tgt := 5) hx hb dX6_cellsApart_37 (by decide) ?_
              exact ih_lp_2 (i_1 + 1) (v3_1 + Int32.ofInt 1) H locs ls (by omega) (by omega) (hP.sub [0, 1] rfl) (hD.sub [0, 1] (by decide) rfl) hS (lv_sub hl [0, 1, 2, 3, 4] rfl)
  exact lp_2 _ 0 0 H locs ls (by omega) (Nat.lt_succ_self _) (hP.sub [0, 1] rfl) (hD.sub [0, 1] (by decide) rfl) hS (lv_sub hl [0, 1, 2, 3, 4] rfl)

set_option maxHeartbeats 4000000 in
set_option maxRecDepth 100000 in
theorem k_X6_packedOf (l : Launch) (D : va_G) (cs : Nat → ClassId) (sz : Nat) (aS : Nat) (sg : Nat) (sw : Int64) (s1 : Nat) (s2 : Nat) (s3 : Nat) (s4 : Nat) (zs : Nat) (sc : Nat) (st : Nat) (hzs : zs ≤ 64) (hsc : sc ≤ 3) (hst : st ≤ 3) (ha_sg : sg < 64) : Mi l D cs yX6_packedOf W_X6_packedOf 0 0 0 0 [.ref aS, .int (nI sg)] [(aS, .inr (6, [.int (nI zs), .int (nI sc), .int (nI st), .long sw, .ref s1, .ref s2, .ref s3, .ref s4]))] sz (fun (r : Int32) (u : Unit) => r = pkF (st + 1) sc sg) (fun (u : Unit) => [(aS, .inr (6, [.int (nI zs), .int (nI sc), .int (nI st), .long sw, .ref s1, .ref s2, .ref s3, .ref s4]))]) := by
  refine ent (D := D) (cs := cs) (y := yX6_packedOf) (ws := W_X6_packedOf) (As := [.ref aS, .int (nI sg)]) (W0 := [(aS, .inr (6, [.int (nI zs), .int (nI sc), .int (nI st), .long sw, .ref s1, .ref s2, .ref s3, .ref s4]))]) (Qx := fun A => va_Qi (fun (r : Int32) (u : Unit) => r = pkF (st + 1) sc sg) (mpost D A (fun (u : Unit) => [(aS, .inr (6, [.int (nI zs), .int (nI sc), .int (nI st), .long sw, .ref s1, .ref s2, .ref s3, .ref s4]))])) A) (maxL := 5) (ret := (some .int)) (by decide) rfl (Nat.le_of_ble_eq_true rfl) ?_
  intro p e s m below meth c A ls hx hb hr hml hlk hown hts hin hK hE hP hD hA hS hl
  have hl : lv_has ls 5 [(0, .ref aS), (1, .int (nI sg))] := hl
  generalize hHe : s.heap = H at hP
  have hS : va_S A s.heap H [] := hHe ▸ hS
  generalize hLe : ([] : List Loc) = locs at hS ⊢
  have htw : ∀ w ∈ O_X6_packedOf, w.before ([.ref aS, .int (nI sg)] : List Value).toArray s = true := fun w h => hts w (List.mem_cons_of_mem _ (List.mem_append_left _ h))
  have hFix := (⟨hx, hb, hml, hown, hts⟩ : CallFix p m c _ _ s _ _ _)
  refine lv_iconst (v := 0) hx hb dX6_packedOf_0 (by decide) ?_
  refine lv_istore_n (lv' := [(2, .int 0), (0, .ref aS), (1, .int (nI sg))]) hx hb dX6_packedOf_1 rfl hl (by decide) rfl (fun ls hl => ?_)
  refine lv_iload_n hx hb dX6_packedOf_2 rfl (lv_at hl 2 rfl) ?_
  refine lv_istore_n (lv' := [(3, .int (nI sg)), (2, .int 0), (0, .ref aS), (1, .int (nI sg))]) hx hb dX6_packedOf_3 rfl hl (by decide) rfl (fun ls hl => ?_)
  refine lv_iconst (v := 0) hx hb dX6_packedOf_4 (by decide) ?_
  refine lv_istore (lv' := [(4, .int 0), (3, .int (nI sg)), (2, .int 0), (0, .ref aS), (1, .int (nI sg))]) hx hb dX6_packedOf_5 hl (by decide) rfl (fun ls hl => ?_)
  have lp_2 : ∀ (nfu : Nat) (i_1 : Nat) (v3_1 : Nat) (v2_1 : Int32) (H : Heap) (locs : List Loc) (ls : Array Slot) (hi_1 : i_1 ≤ sc) (hv0_1 : v2_1 = pkF (st + 1) i_1 sg) (hv1_1 : v3_1 = sg / (st + 1) ^ i_1) (hv2_1 : v3_1 ≤ sg), sc - i_1 < nfu → va_P D vwCl [(aS, .inr (6, [.int (nI zs), .int (nI sc), .int (nI st), .long sw, .ref s1, .ref s2, .ref s3, .ref s4]))] H → va_D A [(aS, .inr (6, [.int (nI zs), .int (nI sc), .int (nI st), .long sw, .ref s1, .ref s2, .ref s3, .ref s4]))] → va_S A s.heap H locs → lv_has ls 5 [(4, .int (nI i_1)), (3, .int (nI v3_1)), (2, .int v2_1), (0, .ref aS), (1, .int (nI sg))] → W p l e (mRm 0 0 0 0) s m ([.ref aS, .int (nI sg)] : List Value).toArray below meth c H locs 0 0 (MQ below (va_Qi (fun (r : Int32) (u : Unit) => r = pkF (st + 1) sc sg) (mpost D A (fun (u : Unit) => [(aS, .inr (6, [.int (nI zs), .int (nI sc), .int (nI st), .long sw, .ref s1, .ref s2, .ref s3, .ref s4]))])) A) ([.ref aS, .int (nI sg)] : List Value).toArray s 0 0 A) (F0 m 7 ls []) := by
    intro nfu
    induction nfu with
    | zero => intro i_1 v3_1 v2_1 H locs ls hi_1 hv0_1 hv1_1 hv2_1 hmu; exact absurd hmu (Nat.not_lt_zero _)
    | succ nfu ih =>
      intro i_1 v3_1 v2_1 H locs ls hi_1 hv0_1 hv1_1 hv2_1 hmu hP hD hS hl
      have ih_lp_2 := @ih
      refine lv_iload hx hb dX6_packedOf_7 (lv_at hl 0 rfl) ?_
      refine lv_aload_n hx hb dX6_packedOf_9 rfl (lv_at hl 3 rfl) ?_
      refine va_get (D := D) (ci := 6) (v := .int (nI sc)) (C := RX6) (T := TX6) (N := 8) hx hb hts iuX6_packedOf_X6 hown hK hP 0 rfl rfl 1 (by decide) (htw (.fieldLink RX6 15 "MergeJudge$Space" "cells" "I") (List.mem_of_getElem? (i := 0) rfl)) (fun _ h9 => h9) rfl dX6_packedOf_10 ?_
      refine lv_icmp_ge (tgt := 48) hx hb dX6_packedOf_13 (by decide) (fun c_3 => ?_) (fun c_3 => ?_)
      ·
        have hn_3 := bge_t (a := i_1) (b := sc) c_3 (by omega) (by omega)
        refine lv_iload_n hx hb dX6_packedOf_48 rfl (lv_at hl 2 rfl) ?_
        exact ret_i hx hb hr hlk hS (Nat.le_of_ble_eq_true rfl) (Nat.le_of_ble_eq_true rfl) () ((by rw [hv0_1, show i_1 = sc by omega])) (hP.sub [0] rfl) (hD.sub [0] (by decide) rfl) dX6_packedOf_49
      ·
        have hn_3 := bge_f (a := i_1) (b := sc) c_3 (by omega) (by omega)
        refine lv_iload_n hx hb dX6_packedOf_16 rfl (lv_at hl 2 rfl) ?_
        refine lv_iload_n hx hb dX6_packedOf_17 rfl (lv_at hl 1 rfl) ?_
        refine lv_aload_n hx hb dX6_packedOf_18 rfl (lv_at hl 3 rfl) ?_
        refine va_get (D := D) (ci := 6) (v := .int (nI st)) (C := RX6) (T := TX6) (N := 8) hx hb hts iuX6_packedOf_X6 hown hK hP 0 rfl rfl 2 (by decide) (htw (.fieldLink RX6 18 "MergeJudge$Space" "top" "I") (List.mem_of_getElem? (i := 1) rfl)) (fun _ h9 => h9) rfl dX6_packedOf_19 ?_
        refine lv_iconst (v := 1) hx hb dX6_packedOf_22 (by decide) ?_
        refine lv_iadd hx hb dX6_packedOf_23 ?_
        refine cf_i (nI (st + 1)) (nI_add st 1) ?_
        refine lv_irem hx hb dX6_packedOf_24 (ne0_nI (by omega) (by omega)) ?_
        refine cf_i (nI (v3_1 % (st + 1))) (rem_nI (a := v3_1) (d := st + 1) (by omega) (by omega) (by omega)) ?_
        refine lv_bipush (v := 6) hx hb dX6_packedOf_25 (by decide) ?_
        refine lv_iload hx hb dX6_packedOf_27 (lv_at hl 0 rfl) ?_
        refine lv_imul hx hb dX6_packedOf_29 ?_
        refine cf_i (nI (6 * i_1)) (pk_mul 6 i_1) ?_
        refine lv_ishl hx hb dX6_packedOf_30 ?_
        refine lv_ior hx hb dX6_packedOf_31 ?_
        refine lv_istore_n (lv' := [(2, .int (v2_1 ||| ((nI (v3_1 % (st + 1))) <<< ((nI (6 * i_1)) &&& 31)))), (4, .int (nI i_1)), (3, .int (nI v3_1)), (0, .ref aS), (1, .int (nI sg))]) hx hb dX6_packedOf_32 rfl hl (by decide) rfl (fun ls hl => ?_)
        refine lv_iload_n hx hb dX6_packedOf_33 rfl (lv_at hl 2 rfl) ?_
        refine lv_aload_n hx hb dX6_packedOf_34 rfl (lv_at hl 3 rfl) ?_
        refine va_get (D := D) (ci := 6) (v := .int (nI st)) (C := RX6) (T := TX6) (N := 8) hx hb hts iuX6_packedOf_X6 hown hK hP 0 rfl rfl 2 (by decide) (htw (.fieldLink RX6 18 "MergeJudge$Space" "top" "I") (List.mem_of_getElem? (i := 1) rfl)) (fun _ h9 => h9) rfl dX6_packedOf_35 ?_
        refine lv_iconst (v := 1) hx hb dX6_packedOf_38 (by decide) ?_
        refine lv_iadd hx hb dX6_packedOf_39 ?_
        refine cf_i (nI (st + 1)) (nI_add st 1) ?_
        refine lv_idiv hx hb dX6_packedOf_40 (ne0_nI (by omega) (by omega)) ?_
        refine cf_i (nI (v3_1 / (st + 1))) (pk_div (a := v3_1) (d := st + 1) (by omega) (by omega) (by omega)) ?_
        refine lv_istore_n (lv' := [(3, .int (nI (v3_1 / (st + 1)))), (2, .int (v2_1 ||| ((nI (v3_1 % (st + 1))) <<< ((nI (6 * i_1)) &&& 31)))), (4, .int (nI i_1)), (0, .ref aS), (1, .int (nI sg))]) hx hb dX6_packedOf_41 rfl hl (by decide) rfl (fun ls hl => ?_)
        refine lv_iinc (v := (nI (i_1 + 1))) (lv' := [(4, .int (nI (i_1 + 1))), (3, .int (nI (v3_1 / (st + 1)))), (2, .int (v2_1 ||| ((nI (v3_1 % (st + 1))) <<< ((nI (6 * i_1)) &&& 31)))), (0, .ref aS), (1, .int (nI sg))]) hx hb dX6_packedOf_42 hl (k := 2) rfl (nI_1 _) (by decide) rfl (fun ls hl => ?_)
        refine lv_goto (tgt := 7) hx hb dX6_packedOf_45 (by decide) ?_
        exact ih_lp_2 (i_1 + 1) (v3_1 / (st + 1)) (v2_1 ||| ((nI (v3_1 % (st + 1))) <<< ((nI (6 * i_1)) &&& 31))) H locs ls (by omega) (pk_step hv0_1 hv1_1) (dv_s hv1_1) (Nat.le_trans (Nat.div_le_self _ _) (by assumption)) (by omega) (hP.sub [0] rfl) (hD.sub [0] (by decide) rfl) hS (lv_sub hl [0, 1, 2, 3, 4] rfl)
  exact lp_2 _ 0 sg 0 H locs ls (by omega) rfl (by rw [Nat.pow_zero, Nat.div_one]) (by omega) (Nat.lt_succ_self _) (hP.sub [0] rfl) (hD.sub [0] (by decide) rfl) hS (lv_sub hl [0, 1, 2, 3, 4] rfl)

set_option maxHeartbeats 4000000 in
set_option maxRecDepth 100000 in
theorem k_X6_load (l : Launch) (D : va_G) (cs : Nat → ClassId) (sz : Nat) (aS : Nat) (h1 : Nat) (sw : Int64) (s1 : Nat) (s2 : Nat) (s3 : Nat) (s4 : Nat) (fp : Nat → Int32) (fa : Nat → Int32) (fh : Nat → Int64) (fr : Nat → Int32) (qli : Int32) (qlw : Int32) (qod : Int32) (qdr : Int32) (qlo : Int32) (qr0 : Nat) (qr1 : Nat) (qr2 : Nat) (qr3 : Nat) (qr4 : Nat) (qf1 : Nat → Int32) (qf2 : Nat → Int32) (zs : Nat) (sc : Nat) (st : Nat) (qtp : Nat) (qnc : Nat) (qnr : Nat) (qno : Nat) (qna : Nat) (hzs : zs ≤ 64) (hsc : sc ≤ 3) (hst : st ≤ 3) (hres : RES fr) (hqtp : qtp ≤ 3) (hqnc : qnc ≤ 3) (hqnr : qnr ≤ 5) (hqno : qno ≤ 5) (hqna : qna ≤ 20) : Mv l D cs yX6_load W_X6_load 3 73 0 0 [.ref aS, .ref h1] [(aS, .inr (6, [.int (nI zs), .int (nI sc), .int (nI st), .long sw, .ref s1, .ref s2, .ref s3, .ref s4])), (s1, .inl (cs 1, 3, .inl fp)), (s2, .inl (cs 1, 64, .inl fa)), (s3, .inl (cs 2, 5, .inr (.inl fh))), (s4, .inl (cs 1, 320, .inl fr)), (h1, .inr (0, [.int qli, .int (nI qtp), .int qlw, .int qod, .int (nI qnc), .int (nI qnr), .int (nI qno), .int (nI qna), .int qdr, .int qlo, .ref qr0, .ref qr1, .ref qr2, .ref qr3, .ref qr4])), (qr1, .inl (cs 1, 25, .inl qf1)), (qr2, .inl (cs 1, 20, .inl qf2))] sz (fun (u : Nat × Nat × Nat × Int64 × (Nat → Int32) × (Nat → Int32) × (Nat → Int64) × (Nat → Int32)) => (u.1 ≤ 64) ∧ (u.2.1 ≤ 3) ∧ (u.2.2.1 ≤ 3) ∧ (RES u.2.2.2.2.2.2.2)) (fun (u : Nat × Nat × Nat × Int64 × (Nat → Int32) × (Nat → Int32) × (Nat → Int64) × (Nat → Int32)) => [(aS, .inr (6, [.int (nI u.1), .int (nI u.2.1), .int (nI u.2.2.1), .long u.2.2.2.1, .ref s1, .ref s2, .ref s3, .ref s4])), (s1, .inl (cs 1, 3, .inl u.2.2.2.2.1)), (s2, .inl (cs 1, 64, .inl u.2.2.2.2.2.1)), (s3, .inl (cs 2, 5, .inr (.inl u.2.2.2.2.2.2.1))), (s4, .inl (cs 1, 320, .inl u.2.2.2.2.2.2.2)), (h1, .inr (0, [.int qli, .int (nI qtp), .int qlw, .int qod, .int (nI qnc), .int (nI qnr), .int (nI qno), .int (nI qna), .int qdr, .int qlo, .ref qr0, .ref qr1, .ref qr2, .ref qr3, .ref qr4])), (qr1, .inl (cs 1, 25, .inl qf1)), (qr2, .inl (cs 1, 20, .inl qf2))]) := by
  refine ent (D := D) (cs := cs) (y := yX6_load) (ws := W_X6_load) (As := [.ref aS, .ref h1]) (W0 := [(aS, .inr (6, [.int (nI zs), .int (nI sc), .int (nI st), .long sw, .ref s1, .ref s2, .ref s3, .ref s4])), (s1, .inl (cs 1, 3, .inl fp)), (s2, .inl (cs 1, 64, .inl fa)), (s3, .inl (cs 2, 5, .inr (.inl fh))), (s4, .inl (cs 1, 320, .inl fr)), (h1, .inr (0, [.int qli, .int (nI qtp), .int qlw, .int qod, .int (nI qnc), .int (nI qnr), .int (nI qno), .int (nI qna), .int qdr, .int qlo, .ref qr0, .ref qr1, .ref qr2, .ref qr3, .ref qr4])), (qr1, .inl (cs 1, 25, .inl qf1)), (qr2, .inl (cs 1, 20, .inl qf2))]) (Qx := fun A => va_Qv (fun (u : Nat × Nat × Nat × Int64 × (Nat → Int32) × (Nat → Int32) × (Nat → Int64) × (Nat → Int32)) => (u.1 ≤ 64) ∧ (u.2.1 ≤ 3) ∧ (u.2.2.1 ≤ 3) ∧ (RES u.2.2.2.2.2.2.2)) (mpost D A (fun (u : Nat × Nat × Nat × Int64 × (Nat → Int32) × (Nat → Int32) × (Nat → Int64) × (Nat → Int32)) => [(aS, .inr (6, [.int (nI u.1), .int (nI u.2.1), .int (nI u.2.2.1), .long u.2.2.2.1, .ref s1, .ref s2, .ref s3, .ref s4])), (s1, .inl (cs 1, 3, .inl u.2.2.2.2.1)), (s2, .inl (cs 1, 64, .inl u.2.2.2.2.2.1)), (s3, .inl (cs 2, 5, .inr (.inl u.2.2.2.2.2.2.1))), (s4, .inl (cs 1, 320, .inl u.2.2.2.2.2.2.2)), (h1, .inr (0, [.int qli, .int (nI qtp), .int qlw, .int qod, .int (nI qnc), .int (nI qnr), .int (nI qno), .int (nI qna), .int qdr, .int qlo, .ref qr0, .ref qr1, .ref qr2, .ref qr3, .ref qr4])), (qr1, .inl (cs 1, 25, .inl qf1)), (qr2, .inl (cs 1, 20, .inl qf2))])) A) (maxL := 5) (ret := none) (by decide) rfl (Nat.le_of_ble_eq_true rfl) ?_
  intro p e s m below meth c A ls hx hb hr hml hlk hown hts hin hK hE hP hD hA hS hl
  have hl : lv_has ls 5 [(0, .ref aS), (1, .ref h1)] := hl
  generalize hHe : s.heap = H at hP
  have hS : va_S A s.heap H [] := hHe ▸ hS
  generalize hLe : ([] : List Loc) = locs at hS ⊢
  have htw : ∀ w ∈ O_X6_load, w.before ([.ref aS, .ref h1] : List Value).toArray s = true := fun w h => hts w (List.mem_cons_of_mem _ (List.mem_append_left _ h))
  have hFix := (⟨hx, hb, hml, hown, hts⟩ : CallFix p m c _ _ s _ _ _)
  refine lv_aload_n hx hb dX6_load_0 rfl (lv_at hl 0 rfl) ?_
  refine lv_iconst (v := 0) hx hb dX6_load_1 (by decide) ?_
  refine va_put (D := D) (ci := 6) (v := .int 0) (ty := .int) (C := RX6) (T := TX6) (N := 8) hx hb hts iuX6_load_X6 tyX6 tyX6_ok nmX6 hown hK hP hD hS 0 rfl rfl 0 (by decide) (htw (.fieldLink RX6 9 "MergeJudge$Space" "size" "I") (List.mem_of_getElem? (i := 0) rfl)) (fun _ h9 => h9) rfl (by decide +kernel) rfl rfl (Nat.le_of_ble_eq_true rfl) dX6_load_2 (fun H locs hP hD hS => ?_)
  have hP : va_P D vwCl [(aS, .inr (6, [.int 0, .int (nI sc), .int (nI st), .long sw, .ref s1, .ref s2, .ref s3, .ref s4])), (s1, .inl (cs 1, 3, .inl fp)), (s2, .inl (cs 1, 64, .inl fa)), (s3, .inl (cs 2, 5, .inr (.inl fh))), (s4, .inl (cs 1, 320, .inl fr)), (h1, .inr (0, [.int qli, .int (nI qtp), .int qlw, .int qod, .int (nI qnc), .int (nI qnr), .int (nI qno), .int (nI qna), .int qdr, .int qlo, .ref qr0, .ref qr1, .ref qr2, .ref qr3, .ref qr4])), (qr1, .inl (cs 1, 25, .inl qf1)), (qr2, .inl (cs 1, 20, .inl qf2))] H := hP
  have hD : va_D A [(aS, .inr (6, [.int 0, .int (nI sc), .int (nI st), .long sw, .ref s1, .ref s2, .ref s3, .ref s4])), (s1, .inl (cs 1, 3, .inl fp)), (s2, .inl (cs 1, 64, .inl fa)), (s3, .inl (cs 2, 5, .inr (.inl fh))), (s4, .inl (cs 1, 320, .inl fr)), (h1, .inr (0, [.int qli, .int (nI qtp), .int qlw, .int qod, .int (nI qnc), .int (nI qnr), .int (nI qno), .int (nI qna), .int qdr, .int qlo, .ref qr0, .ref qr1, .ref qr2, .ref qr3, .ref qr4])), (qr1, .inl (cs 1, 25, .inl qf1)), (qr2, .inl (cs 1, 20, .inl qf2))] := hD
  refine lv_aload_n hx hb dX6_load_5 rfl (lv_at hl 0 rfl) ?_
  refine lv_lconst (v := 0) hx hb dX6_load_6 (by decide) ?_
  refine va_put (D := D) (ci := 6) (v := .long 0) (ty := .long) (C := RX6) (T := TX6) (N := 8) hx hb hts iuX6_load_X6 tyX6 tyX6_ok nmX6 hown hK hP hD hS 0 rfl rfl 3 (by decide) (htw (.fieldLink RX6 21 "MergeJudge$Space" "whole" "J") (List.mem_of_getElem? (i := 1) rfl)) (fun _ h9 => h9) rfl (by decide +kernel) rfl rfl (Nat.le_of_ble_eq_true rfl) dX6_load_7 (fun H locs hP hD hS => ?_)
  have hP : va_P D vwCl [(aS, .inr (6, [.int 0, .int (nI sc), .int (nI st), .long 0, .ref s1, .ref s2, .ref s3, .ref s4])), (s1, .inl (cs 1, 3, .inl fp)), (s2, .inl (cs 1, 64, .inl fa)), (s3, .inl (cs 2, 5, .inr (.inl fh))), (s4, .inl (cs 1, 320, .inl fr)), (h1, .inr (0, [.int qli, .int (nI qtp), .int qlw, .int qod, .int (nI qnc), .int (nI qnr), .int (nI qno), .int (nI qna), .int qdr, .int qlo, .ref qr0, .ref qr1, .ref qr2, .ref qr3, .ref qr4])), (qr1, .inl (cs 1, 25, .inl qf1)), (qr2, .inl (cs 1, 20, .inl qf2))] H := hP
  have hD : va_D A [(aS, .inr (6, [.int 0, .int (nI sc), .int (nI st), .long 0, .ref s1, .ref s2, .ref s3, .ref s4])), (s1, .inl (cs 1, 3, .inl fp)), (s2, .inl (cs 1, 64, .inl fa)), (s3, .inl (cs 2, 5, .inr (.inl fh))), (s4, .inl (cs 1, 320, .inl fr)), (h1, .inr (0, [.int qli, .int (nI qtp), .int qlw, .int qod, .int (nI qnc), .int (nI qnr), .int (nI qno), .int (nI qna), .int qdr, .int qlo, .ref qr0, .ref qr1, .ref qr2, .ref qr3, .ref qr4])), (qr1, .inl (cs 1, 25, .inl qf1)), (qr2, .inl (cs 1, 20, .inl qf2))] := hD
  refine lv_aload_n hx hb dX6_load_10 rfl (lv_at hl 0 rfl) ?_
  refine lv_aload_n hx hb dX6_load_11 rfl (lv_at hl 1 rfl) ?_
  refine va_get (D := D) (ci := 0) (v := .int (nI qnc)) (C := RX0) (T := TX0) (N := 15) hx hb hts iuX6_load_X0 hown hK hP 5 rfl rfl 4 (by decide) (htw (.fieldLink RX6 39 "MergeJudge$Base" "cells" "I") (List.mem_of_getElem? (i := 2) rfl)) (fun _ h9 => h9) rfl dX6_load_12 ?_
  refine va_put (D := D) (ci := 6) (v := .int (nI qnc)) (ty := .int) (C := RX6) (T := TX6) (N := 8) hx hb hts iuX6_load_X6 tyX6 tyX6_ok nmX6 hown hK hP hD hS 0 rfl rfl 1 (by decide) (htw (.fieldLink RX6 15 "MergeJudge$Space" "cells" "I") (List.mem_of_getElem? (i := 3) rfl)) (fun _ h9 => h9) rfl (by decide +kernel) rfl rfl (Nat.le_of_ble_eq_true rfl) dX6_load_15 (fun H locs hP hD hS => ?_)
  have hP : va_P D vwCl [(aS, .inr (6, [.int 0, .int (nI qnc), .int (nI st), .long 0, .ref s1, .ref s2, .ref s3, .ref s4])), (s1, .inl (cs 1, 3, .inl fp)), (s2, .inl (cs 1, 64, .inl fa)), (s3, .inl (cs 2, 5, .inr (.inl fh))), (s4, .inl (cs 1, 320, .inl fr)), (h1, .inr (0, [.int qli, .int (nI qtp), .int qlw, .int qod, .int (nI qnc), .int (nI qnr), .int (nI qno), .int (nI qna), .int qdr, .int qlo, .ref qr0, .ref qr1, .ref qr2, .ref qr3, .ref qr4])), (qr1, .inl (cs 1, 25, .inl qf1)), (qr2, .inl (cs 1, 20, .inl qf2))] H := hP
  have hD : va_D A [(aS, .inr (6, [.int 0, .int (nI qnc), .int (nI st), .long 0, .ref s1, .ref s2, .ref s3, .ref s4])), (s1, .inl (cs 1, 3, .inl fp)), (s2, .inl (cs 1, 64, .inl fa)), (s3, .inl (cs 2, 5, .inr (.inl fh))), (s4, .inl (cs 1, 320, .inl fr)), (h1, .inr (0, [.int qli, .int (nI qtp), .int qlw, .int qod, .int (nI qnc), .int (nI qnr), .int (nI qno), .int (nI qna), .int qdr, .int qlo, .ref qr0, .ref qr1, .ref qr2, .ref qr3, .ref qr4])), (qr1, .inl (cs 1, 25, .inl qf1)), (qr2, .inl (cs 1, 20, .inl qf2))] := hD
  refine lv_aload_n hx hb dX6_load_18 rfl (lv_at hl 0 rfl) ?_
  refine lv_aload_n hx hb dX6_load_19 rfl (lv_at hl 1 rfl) ?_
  refine va_get (D := D) (ci := 0) (v := .int (nI qtp)) (C := RX0) (T := TX0) (N := 15) hx hb hts iuX6_load_X0 hown hK hP 5 rfl rfl 1 (by decide) (htw (.fieldLink RX6 42 "MergeJudge$Base" "top" "I") (List.mem_of_getElem? (i := 4) rfl)) (fun _ h9 => h9) rfl dX6_load_20 ?_
  refine va_put (D := D) (ci := 6) (v := .int (nI qtp)) (ty := .int) (C := RX6) (T := TX6) (N := 8) hx hb hts iuX6_load_X6 tyX6 tyX6_ok nmX6 hown hK hP hD hS 0 rfl rfl 2 (by decide) (htw (.fieldLink RX6 18 "MergeJudge$Space" "top" "I") (List.mem_of_getElem? (i := 5) rfl)) (fun _ h9 => h9) rfl (by decide +kernel) rfl rfl (Nat.le_of_ble_eq_true rfl) dX6_load_23 (fun H locs hP hD hS => ?_)
  have hP : va_P D vwCl [(aS, .inr (6, [.int 0, .int (nI qnc), .int (nI qtp), .long 0, .ref s1, .ref s2, .ref s3, .ref s4])), (s1, .inl (cs 1, 3, .inl fp)), (s2, .inl (cs 1, 64, .inl fa)), (s3, .inl (cs 2, 5, .inr (.inl fh))), (s4, .inl (cs 1, 320, .inl fr)), (h1, .inr (0, [.int qli, .int (nI qtp), .int qlw, .int qod, .int (nI qnc), .int (nI qnr), .int (nI qno), .int (nI qna), .int qdr, .int qlo, .ref qr0, .ref qr1, .ref qr2, .ref qr3, .ref qr4])), (qr1, .inl (cs 1, 25, .inl qf1)), (qr2, .inl (cs 1, 20, .inl qf2))] H := hP
  have hD : va_D A [(aS, .inr (6, [.int 0, .int (nI qnc), .int (nI qtp), .long 0, .ref s1, .ref s2, .ref s3, .ref s4])), (s1, .inl (cs 1, 3, .inl fp)), (s2, .inl (cs 1, 64, .inl fa)), (s3, .inl (cs 2, 5, .inr (.inl fh))), (s4, .inl (cs 1, 320, .inl fr)), (h1, .inr (0, [.int qli, .int (nI qtp), .int qlw, .int qod, .int (nI qnc), .int (nI qnr), .int (nI qno), .int (nI qna), .int qdr, .int qlo, .ref qr0, .ref qr1, .ref qr2, .ref qr3, .ref qr4])), (qr1, .inl (cs 1, 25, .inl qf1)), (qr2, .inl (cs 1, 20, .inl qf2))] := hD
  refine lv_aload_n hx hb dX6_load_26 rfl (lv_at hl 1 rfl) ?_
  refine va_get (D := D) (ci := 0) (v := .int qli) (C := RX0) (T := TX0) (N := 15) hx hb hts iuX6_load_X0 hown hK hP 5 rfl rfl 0 (by decide) (htw (.fieldLink RX6 43 "MergeJudge$Base" "lines" "I") (List.mem_of_getElem? (i := 6) rfl)) (fun _ h9 => h9) rfl dX6_load_27 ?_
  refine lv_if_eq (tgt := 41) hx hb dX6_load_30 (by decide) (fun c_1 => ?_) (fun c_1 => ?_)
  ·
    exact ret_v hx hb hr hlk hS (Nat.le_of_ble_eq_true rfl) (Nat.le_of_ble_eq_true rfl) (0, qnc, qtp, 0, fp, fa, fh, fr) (⟨(by omega), (by omega), (by omega), (by assumption)⟩) (hP.sub [0, 1, 2, 3, 4, 5, 6, 7] rfl) (hD.sub [0, 1, 2, 3, 4, 5, 6, 7] (by decide) rfl) dX6_load_41
  ·
    refine lv_aload_n hx hb dX6_load_33 rfl (lv_at hl 0 rfl) ?_
    refine va_get (D := D) (ci := 6) (v := .int (nI qtp)) (C := RX6) (T := TX6) (N := 8) hx hb hts iuX6_load_X6 hown hK hP 0 rfl rfl 2 (by decide) (htw (.fieldLink RX6 18 "MergeJudge$Space" "top" "I") (List.mem_of_getElem? (i := 5) rfl)) (fun _ h9 => h9) rfl dX6_load_34 ?_
    refine lv_iconst (v := 1) hx hb dX6_load_37 (by decide) ?_
    refine lv_icmp_ge (tgt := 42) hx hb dX6_load_38 (by decide) (fun c_2 => ?_) (fun c_2 => ?_)
    ·
      have hn_2 := bge_t (a := qtp) (b := 1) c_2 (by omega) (by omega)
      refine lv_iconst (v := 1) hx hb dX6_load_42 (by decide) ?_
      refine lv_istore_n (lv' := [(2, .int 1), (0, .ref aS), (1, .ref h1)]) hx hb dX6_load_43 rfl hl (by decide) rfl (fun ls hl => ?_)
      refine lv_iconst (v := 0) hx hb dX6_load_44 (by decide) ?_
      refine lv_istore_n (lv' := [(3, .int 0), (2, .int 1), (0, .ref aS), (1, .ref h1)]) hx hb dX6_load_45 rfl hl (by decide) rfl (fun ls hl => ?_)
      have lp_4 : ∀ (nfu : Nat) (i_3 : Nat) (v2_3 : Nat) (m0_3 : Nat → Int32) (H : Heap) (locs : List Loc) (ls : Array Slot) (hi_3 : i_3 ≤ qnc) (hv0_3 : v2_3 = (qtp + 1) ^ i_3) (hv1_3 : PLC m0_3 qtp i_3), qnc - i_3 < nfu → va_P D vwCl [(aS, .inr (6, [.int 0, .int (nI qnc), .int (nI qtp), .long 0, .ref s1, .ref s2, .ref s3, .ref s4])), (s1, .inl (cs 1, 3, .inl m0_3)), (s2, .inl (cs 1, 64, .inl fa)), (s3, .inl (cs 2, 5, .inr (.inl fh))), (s4, .inl (cs 1, 320, .inl fr)), (h1, .inr (0, [.int qli, .int (nI qtp), .int qlw, .int qod, .int (nI qnc), .int (nI qnr), .int (nI qno), .int (nI qna), .int qdr, .int qlo, .ref qr0, .ref qr1, .ref qr2, .ref qr3, .ref qr4])), (qr1, .inl (cs 1, 25, .inl qf1)), (qr2, .inl (cs 1, 20, .inl qf2))] H → va_D A [(aS, .inr (6, [.int 0, .int (nI qnc), .int (nI qtp), .long 0, .ref s1, .ref s2, .ref s3, .ref s4])), (s1, .inl (cs 1, 3, .inl m0_3)), (s2, .inl (cs 1, 64, .inl fa)), (s3, .inl (cs 2, 5, .inr (.inl fh))), (s4, .inl (cs 1, 320, .inl fr)), (h1, .inr (0, [.int qli, .int (nI qtp), .int qlw, .int qod, .int (nI qnc), .int (nI qnr), .int (nI qno), .int (nI qna), .int qdr, .int qlo, .ref qr0, .ref qr1, .ref qr2, .ref qr3, .ref qr4])), (qr1, .inl (cs 1, 25, .inl qf1)), (qr2, .inl (cs 1, 20, .inl qf2))] → va_S A s.heap H locs → lv_has ls 5 [(3, .int (nI i_3)), (2, .int (nI v2_3)), (0, .ref aS), (1, .ref h1)] → W p l e (mRm 3 0 0 73) s m ([.ref aS, .ref h1] : List Value).toArray below meth c H locs 0 0 (MQ below (va_Qv (fun (u : Nat × Nat × Nat × Int64 × (Nat → Int32) × (Nat → Int32) × (Nat → Int64) × (Nat → Int32)) => (u.1 ≤ 64) ∧ (u.2.1 ≤ 3) ∧ (u.2.2.1 ≤ 3) ∧ (RES u.2.2.2.2.2.2.2)) (mpost D A (fun (u : Nat × Nat × Nat × Int64 × (Nat → Int32) × (Nat → Int32) × (Nat → Int64) × (Nat → Int32)) => [(aS, .inr (6, [.int (nI u.1), .int (nI u.2.1), .int (nI u.2.2.1), .long u.2.2.2.1, .ref s1, .ref s2, .ref s3, .ref s4])), (s1, .inl (cs 1, 3, .inl u.2.2.2.2.1)), (s2, .inl (cs 1, 64, .inl u.2.2.2.2.2.1)), (s3, .inl (cs 2, 5, .inr (.inl u.2.2.2.2.2.2.1))), (s4, .inl (cs 1, 320, .inl u.2.2.2.2.2.2.2)), (h1, .inr (0, [.int qli, .int (nI qtp), .int qlw, .int qod, .int (nI qnc), .int (nI qnr), .int (nI qno), .int (nI qna), .int qdr, .int qlo, .ref qr0, .ref qr1, .ref qr2, .ref qr3, .ref qr4])), (qr1, .inl (cs 1, 25, .inl qf1)), (qr2, .inl (cs 1, 20, .inl qf2))])) A) ([.ref aS, .ref h1] : List Value).toArray s 0 0 A) (F0 m 46 ls []) := by
        intro nfu
        induction nfu with
        | zero => intro i_3 v2_3 m0_3 H locs ls hi_3 hv0_3 hv1_3 hmu; exact absurd hmu (Nat.not_lt_zero _)
        | succ nfu ih =>
          intro i_3 v2_3 m0_3 H locs ls hi_3 hv0_3 hv1_3 hmu hP hD hS hl
          have ih_lp_4 := @ih
          refine lv_iload_n hx hb dX6_load_46 rfl (lv_at hl 0 rfl) ?_
          refine lv_aload_n hx hb dX6_load_47 rfl (lv_at hl 2 rfl) ?_
          refine va_get (D := D) (ci := 6) (v := .int (nI qnc)) (C := RX6) (T := TX6) (N := 8) hx hb hts iuX6_load_X6 hown hK hP 0 rfl rfl 1 (by decide) (htw (.fieldLink RX6 15 "MergeJudge$Space" "cells" "I") (List.mem_of_getElem? (i := 3) rfl)) (fun _ h9 => h9) rfl dX6_load_48 ?_
          refine lv_icmp_ge (tgt := 76) hx hb dX6_load_51 (by decide) (fun c_5 => ?_) (fun c_5 => ?_)
          ·
            have hn_5 := bge_t (a := i_3) (b := qnc) c_5 (by omega) (by omega)
            have hzz : v2_3 = (qtp + 1) ^ qnc := by rw [hv0_3, show i_3 = qnc by omega]
            have hz64 : v2_3 ≤ 64 := by rw [hzz]; exact pow_le64 (by omega) (by omega)
            have hpl9 : PLC m0_3 qtp qnc := by have e9 := hv1_3; rw [show i_3 = qnc by omega] at e9; exact e9
            refine lv_aload_n hx hb dX6_load_76 rfl (lv_at hl 2 rfl) ?_
            refine lv_iload_n hx hb dX6_load_77 rfl (lv_at hl 1 rfl) ?_
            refine va_put (D := D) (ci := 6) (v := .int (nI v2_3)) (ty := .int) (C := RX6) (T := TX6) (N := 8) hx hb hts iuX6_load_X6 tyX6 tyX6_ok nmX6 hown hK hP hD hS 0 rfl rfl 0 (by decide) (htw (.fieldLink RX6 9 "MergeJudge$Space" "size" "I") (List.mem_of_getElem? (i := 0) rfl)) (fun _ h9 => h9) rfl (by decide +kernel) rfl rfl (Nat.le_of_ble_eq_true rfl) dX6_load_78 (fun H locs hP hD hS => ?_)
            have hP : va_P D vwCl [(aS, .inr (6, [.int (nI v2_3), .int (nI qnc), .int (nI qtp), .long 0, .ref s1, .ref s2, .ref s3, .ref s4])), (s1, .inl (cs 1, 3, .inl m0_3)), (s2, .inl (cs 1, 64, .inl fa)), (s3, .inl (cs 2, 5, .inr (.inl fh))), (s4, .inl (cs 1, 320, .inl fr)), (h1, .inr (0, [.int qli, .int (nI qtp), .int qlw, .int qod, .int (nI qnc), .int (nI qnr), .int (nI qno), .int (nI qna), .int qdr, .int qlo, .ref qr0, .ref qr1, .ref qr2, .ref qr3, .ref qr4])), (qr1, .inl (cs 1, 25, .inl qf1)), (qr2, .inl (cs 1, 20, .inl qf2))] H := hP
            have hD : va_D A [(aS, .inr (6, [.int (nI v2_3), .int (nI qnc), .int (nI qtp), .long 0, .ref s1, .ref s2, .ref s3, .ref s4])), (s1, .inl (cs 1, 3, .inl m0_3)), (s2, .inl (cs 1, 64, .inl fa)), (s3, .inl (cs 2, 5, .inr (.inl fh))), (s4, .inl (cs 1, 320, .inl fr)), (h1, .inr (0, [.int qli, .int (nI qtp), .int qlw, .int qod, .int (nI qnc), .int (nI qnr), .int (nI qno), .int (nI qna), .int qdr, .int qlo, .ref qr0, .ref qr1, .ref qr2, .ref qr3, .ref qr4])), (qr1, .inl (cs 1, 25, .inl qf1)), (qr2, .inl (cs 1, 20, .inl qf2))] := hD
            refine lv_aload_n hx hb dX6_load_81 rfl (lv_at hl 2 rfl) ?_
            refine lv_aload_n hx hb dX6_load_82 rfl (lv_at hl 2 rfl) ?_
            refine va_get (D := D) (ci := 6) (v := .int (nI v2_3)) (C := RX6) (T := TX6) (N := 8) hx hb hts iuX6_load_X6 hown hK hP 0 rfl rfl 0 (by decide) (htw (.fieldLink RX6 9 "MergeJudge$Space" "size" "I") (List.mem_of_getElem? (i := 0) rfl)) (fun _ h9 => h9) rfl dX6_load_83 ?_
            refine lv_bipush (v := 64) hx hb dX6_load_86 (by decide) ?_
            refine lv_icmp_lt (tgt := 97) hx hb dX6_load_88 (by decide) (fun c_6 => ?_) (fun c_6 => ?_)
            ·
              have hn_6 := blt_t (a := v2_3) (b := 64) c_6 (by omega) (by omega)
              refine lv_lconst (v := 1) hx hb dX6_load_97 (by decide) ?_
              refine lv_aload_n hx hb dX6_load_98 rfl (lv_at hl 2 rfl) ?_
              refine va_get (D := D) (ci := 6) (v := .int (nI v2_3)) (C := RX6) (T := TX6) (N := 8) hx hb hts iuX6_load_X6 hown hK hP 0 rfl rfl 0 (by decide) (htw (.fieldLink RX6 9 "MergeJudge$Space" "size" "I") (List.mem_of_getElem? (i := 0) rfl)) (fun _ h9 => h9) rfl dX6_load_99 ?_
              refine lv_lshl (v := (1 : Int64) <<< ((nI v2_3).toInt64 &&& 63)) hx hb dX6_load_102 rfl ?_
              refine lv_lconst (v := 1) hx hb dX6_load_103 (by decide) ?_
              refine lv_lsub hx hb dX6_load_104 ?_
              refine va_put (D := D) (ci := 6) (v := .long (((1 : Int64) <<< ((nI v2_3).toInt64 &&& 63)) - (1 : Int64))) (ty := .long) (C := RX6) (T := TX6) (N := 8) hx hb hts iuX6_load_X6 tyX6 tyX6_ok nmX6 hown hK hP hD hS 0 rfl rfl 3 (by decide) (htw (.fieldLink RX6 21 "MergeJudge$Space" "whole" "J") (List.mem_of_getElem? (i := 1) rfl)) (fun _ h9 => h9) rfl (by decide +kernel) rfl rfl (Nat.le_of_ble_eq_true rfl) dX6_load_105 (fun H locs hP hD hS => ?_)
              have hP : va_P D vwCl [(aS, .inr (6, [.int (nI v2_3), .int (nI qnc), .int (nI qtp), .long (((1 : Int64) <<< ((nI v2_3).toInt64 &&& 63)) - (1 : Int64)), .ref s1, .ref s2, .ref s3, .ref s4])), (s1, .inl (cs 1, 3, .inl m0_3)), (s2, .inl (cs 1, 64, .inl fa)), (s3, .inl (cs 2, 5, .inr (.inl fh))), (s4, .inl (cs 1, 320, .inl fr)), (h1, .inr (0, [.int qli, .int (nI qtp), .int qlw, .int qod, .int (nI qnc), .int (nI qnr), .int (nI qno), .int (nI qna), .int qdr, .int qlo, .ref qr0, .ref qr1, .ref qr2, .ref qr3, .ref qr4])), (qr1, .inl (cs 1, 25, .inl qf1)), (qr2, .inl (cs 1, 20, .inl qf2))] H := hP
              have hD : va_D A [(aS, .inr (6, [.int (nI v2_3), .int (nI qnc), .int (nI qtp), .long (((1 : Int64) <<< ((nI v2_3).toInt64 &&& 63)) - (1 : Int64)), .ref s1, .ref s2, .ref s3, .ref s4])), (s1, .inl (cs 1, 3, .inl m0_3)), (s2, .inl (cs 1, 64, .inl fa)), (s3, .inl (cs 2, 5, .inr (.inl fh))), (s4, .inl (cs 1, 320, .inl fr)), (h1, .inr (0, [.int qli, .int (nI qtp), .int qlw, .int qod, .int (nI qnc), .int (nI qnr), .int (nI qno), .int (nI qna), .int qdr, .int qlo, .ref qr0, .ref qr1, .ref qr2, .ref qr3, .ref qr4])), (qr1, .inl (cs 1, 25, .inl qf1)), (qr2, .inl (cs 1, 20, .inl qf2))] := hD
              refine lv_iconst (v := 0) hx hb dX6_load_108 (by decide) ?_
              refine lv_istore_n (lv' := [(3, .int 0), (2, .int (nI v2_3)), (0, .ref aS), (1, .ref h1)]) hx hb dX6_load_109 rfl hl (by decide) rfl (fun ls hl => ?_)
              have lp_8 : ∀ (nfu : Nat) (i_7 : Nat) (m0_7 : Nat → Int32) (H : Heap) (locs : List Loc) (ls : Array Slot) (hi_7 : i_7 ≤ v2_3) (hv0_7 : ∀ k, k < i_7 → m0_7 k = pkF (qtp + 1) qnc k), v2_3 - i_7 < nfu → va_P D vwCl [(aS, .inr (6, [.int (nI v2_3), .int (nI qnc), .int (nI qtp), .long (((1 : Int64) <<< ((nI v2_3).toInt64 &&& 63)) - (1 : Int64)), .ref s1, .ref s2, .ref s3, .ref s4])), (s1, .inl (cs 1, 3, .inl m0_3)), (s2, .inl (cs 1, 64, .inl m0_7)), (s3, .inl (cs 2, 5, .inr (.inl fh))), (s4, .inl (cs 1, 320, .inl fr)), (h1, .inr (0, [.int qli, .int (nI qtp), .int qlw, .int qod, .int (nI qnc), .int (nI qnr), .int (nI qno), .int (nI qna), .int qdr, .int qlo, .ref qr0, .ref qr1, .ref qr2, .ref qr3, .ref qr4])), (qr1, .inl (cs 1, 25, .inl qf1)), (qr2, .inl (cs 1, 20, .inl qf2))] H → va_D A [(aS, .inr (6, [.int (nI v2_3), .int (nI qnc), .int (nI qtp), .long (((1 : Int64) <<< ((nI v2_3).toInt64 &&& 63)) - (1 : Int64)), .ref s1, .ref s2, .ref s3, .ref s4])), (s1, .inl (cs 1, 3, .inl m0_3)), (s2, .inl (cs 1, 64, .inl m0_7)), (s3, .inl (cs 2, 5, .inr (.inl fh))), (s4, .inl (cs 1, 320, .inl fr)), (h1, .inr (0, [.int qli, .int (nI qtp), .int qlw, .int qod, .int (nI qnc), .int (nI qnr), .int (nI qno), .int (nI qna), .int qdr, .int qlo, .ref qr0, .ref qr1, .ref qr2, .ref qr3, .ref qr4])), (qr1, .inl (cs 1, 25, .inl qf1)), (qr2, .inl (cs 1, 20, .inl qf2))] → va_S A s.heap H locs → lv_has ls 5 [(3, .int (nI i_7)), (2, .int (nI v2_3)), (0, .ref aS), (1, .ref h1)] → W p l e (mRm 3 0 0 73) s m ([.ref aS, .ref h1] : List Value).toArray below meth c H locs 0 0 (MQ below (va_Qv (fun (u : Nat × Nat × Nat × Int64 × (Nat → Int32) × (Nat → Int32) × (Nat → Int64) × (Nat → Int32)) => (u.1 ≤ 64) ∧ (u.2.1 ≤ 3) ∧ (u.2.2.1 ≤ 3) ∧ (RES u.2.2.2.2.2.2.2)) (mpost D A (fun (u : Nat × Nat × Nat × Int64 × (Nat → Int32) × (Nat → Int32) × (Nat → Int64) × (Nat → Int32)) => [(aS, .inr (6, [.int (nI u.1), .int (nI u.2.1), .int (nI u.2.2.1), .long u.2.2.2.1, .ref s1, .ref s2, .ref s3, .ref s4])), (s1, .inl (cs 1, 3, .inl u.2.2.2.2.1)), (s2, .inl (cs 1, 64, .inl u.2.2.2.2.2.1)), (s3, .inl (cs 2, 5, .inr (.inl u.2.2.2.2.2.2.1))), (s4, .inl (cs 1, 320, .inl u.2.2.2.2.2.2.2)), (h1, .inr (0, [.int qli, .int (nI qtp), .int qlw, .int qod, .int (nI qnc), .int (nI qnr), .int (nI qno), .int (nI qna), .int qdr, .int qlo, .ref qr0, .ref qr1, .ref qr2, .ref qr3, .ref qr4])), (qr1, .inl (cs 1, 25, .inl qf1)), (qr2, .inl (cs 1, 20, .inl qf2))])) A) ([.ref aS, .ref h1] : List Value).toArray s 0 0 A) (F0 m 110 ls []) := by
                intro nfu
                induction nfu with
                | zero => intro i_7 m0_7 H locs ls hi_7 hv0_7 hmu; exact absurd hmu (Nat.not_lt_zero _)
                | succ nfu ih =>
                  intro i_7 m0_7 H locs ls hi_7 hv0_7 hmu hP hD hS hl
                  have ih_lp_8 := @ih
                  refine lv_iload_n hx hb dX6_load_110 rfl (lv_at hl 0 rfl) ?_
                  refine lv_aload_n hx hb dX6_load_111 rfl (lv_at hl 2 rfl) ?_
                  refine va_get (D := D) (ci := 6) (v := .int (nI v2_3)) (C := RX6) (T := TX6) (N := 8) hx hb hts iuX6_load_X6 hown hK hP 0 rfl rfl 0 (by decide) (htw (.fieldLink RX6 9 "MergeJudge$Space" "size" "I") (List.mem_of_getElem? (i := 0) rfl)) (fun _ h9 => h9) rfl dX6_load_112 ?_
                  refine lv_icmp_ge (tgt := 135) hx hb dX6_load_115 (by decide) (fun c_9 => ?_) (fun c_9 => ?_)
                  ·
                    have hn_9 := bge_t (a := i_7) (b := v2_3) c_9 (by omega) (by omega)
                    have hpk9 : PKD m0_7 qtp qnc := fun k hk => hv0_7 k (by omega)
                    refine lv_iconst (v := 0) hx hb dX6_load_135 (by decide) ?_
                    refine lv_istore_n (lv' := [(3, .int 0), (2, .int (nI v2_3)), (0, .ref aS), (1, .ref h1)]) hx hb dX6_load_136 rfl hl (by decide) rfl (fun ls hl => ?_)
                    have lp_11 : ∀ (nfu : Nat) (i_10 : Nat) (m0_10 : Nat → Int64) (H : Heap) (locs : List Loc) (ls : Array Slot) (hi_10 : i_10 ≤ qnr), qnr - i_10 < nfu → va_P D vwCl [(aS, .inr (6, [.int (nI v2_3), .int (nI qnc), .int (nI qtp), .long (((1 : Int64) <<< ((nI v2_3).toInt64 &&& 63)) - (1 : Int64)), .ref s1, .ref s2, .ref s3, .ref s4])), (s1, .inl (cs 1, 3, .inl m0_3)), (s2, .inl (cs 1, 64, .inl m0_7)), (s3, .inl (cs 2, 5, .inr (.inl m0_10))), (s4, .inl (cs 1, 320, .inl fr)), (h1, .inr (0, [.int qli, .int (nI qtp), .int qlw, .int qod, .int (nI qnc), .int (nI qnr), .int (nI qno), .int (nI qna), .int qdr, .int qlo, .ref qr0, .ref qr1, .ref qr2, .ref qr3, .ref qr4])), (qr1, .inl (cs 1, 25, .inl qf1)), (qr2, .inl (cs 1, 20, .inl qf2))] H → va_D A [(aS, .inr (6, [.int (nI v2_3), .int (nI qnc), .int (nI qtp), .long (((1 : Int64) <<< ((nI v2_3).toInt64 &&& 63)) - (1 : Int64)), .ref s1, .ref s2, .ref s3, .ref s4])), (s1, .inl (cs 1, 3, .inl m0_3)), (s2, .inl (cs 1, 64, .inl m0_7)), (s3, .inl (cs 2, 5, .inr (.inl m0_10))), (s4, .inl (cs 1, 320, .inl fr)), (h1, .inr (0, [.int qli, .int (nI qtp), .int qlw, .int qod, .int (nI qnc), .int (nI qnr), .int (nI qno), .int (nI qna), .int qdr, .int qlo, .ref qr0, .ref qr1, .ref qr2, .ref qr3, .ref qr4])), (qr1, .inl (cs 1, 25, .inl qf1)), (qr2, .inl (cs 1, 20, .inl qf2))] → va_S A s.heap H locs → lv_has ls 5 [(3, .int (nI i_10)), (2, .int (nI v2_3)), (0, .ref aS), (1, .ref h1)] → W p l e (mRm 3 0 0 73) s m ([.ref aS, .ref h1] : List Value).toArray below meth c H locs 0 0 (MQ below (va_Qv (fun (u : Nat × Nat × Nat × Int64 × (Nat → Int32) × (Nat → Int32) × (Nat → Int64) × (Nat → Int32)) => (u.1 ≤ 64) ∧ (u.2.1 ≤ 3) ∧ (u.2.2.1 ≤ 3) ∧ (RES u.2.2.2.2.2.2.2)) (mpost D A (fun (u : Nat × Nat × Nat × Int64 × (Nat → Int32) × (Nat → Int32) × (Nat → Int64) × (Nat → Int32)) => [(aS, .inr (6, [.int (nI u.1), .int (nI u.2.1), .int (nI u.2.2.1), .long u.2.2.2.1, .ref s1, .ref s2, .ref s3, .ref s4])), (s1, .inl (cs 1, 3, .inl u.2.2.2.2.1)), (s2, .inl (cs 1, 64, .inl u.2.2.2.2.2.1)), (s3, .inl (cs 2, 5, .inr (.inl u.2.2.2.2.2.2.1))), (s4, .inl (cs 1, 320, .inl u.2.2.2.2.2.2.2)), (h1, .inr (0, [.int qli, .int (nI qtp), .int qlw, .int qod, .int (nI qnc), .int (nI qnr), .int (nI qno), .int (nI qna), .int qdr, .int qlo, .ref qr0, .ref qr1, .ref qr2, .ref qr3, .ref qr4])), (qr1, .inl (cs 1, 25, .inl qf1)), (qr2, .inl (cs 1, 20, .inl qf2))])) A) ([.ref aS, .ref h1] : List Value).toArray s 0 0 A) (F0 m 137 ls []) := by
                      intro nfu
                      induction nfu with
                      | zero => intro i_10 m0_10 H locs ls hi_10 hmu; exact absurd hmu (Nat.not_lt_zero _)
                      | succ nfu ih =>
                        intro i_10 m0_10 H locs ls hi_10 hmu hP hD hS hl
                        have ih_lp_11 := @ih
                        refine lv_iload_n hx hb dX6_load_137 rfl (lv_at hl 0 rfl) ?_
                        refine lv_aload_n hx hb dX6_load_138 rfl (lv_at hl 3 rfl) ?_
                        refine va_get (D := D) (ci := 0) (v := .int (nI qnr)) (C := RX0) (T := TX0) (N := 15) hx hb hts iuX6_load_X0 hown hK hP 5 rfl rfl 5 (by decide) (htw (.fieldLink RX6 52 "MergeJudge$Base" "rules" "I") (List.mem_of_getElem? (i := 14) rfl)) (fun _ h9 => h9) rfl dX6_load_139 ?_
                        refine lv_icmp_ge (tgt := 168) hx hb dX6_load_142 (by decide) (fun c_12 => ?_) (fun c_12 => ?_)
                        ·
                          have hn_12 := bge_t (a := i_10) (b := qnr) c_12 (by omega) (by omega)
                          refine lv_iconst (v := 0) hx hb dX6_load_168 (by decide) ?_
                          refine lv_istore_n (lv' := [(3, .int 0), (2, .int (nI v2_3)), (0, .ref aS), (1, .ref h1)]) hx hb dX6_load_169 rfl hl (by decide) rfl (fun ls hl => ?_)
                          have lp_14 : ∀ (nfu : Nat) (i_13 : Nat) (m0_13 : Nat → Int32) (H : Heap) (locs : List Loc) (ls : Array Slot) (hi_13 : i_13 ≤ qno) (hv0_13 : RES m0_13), qno - i_13 < nfu → va_P D vwCl [(aS, .inr (6, [.int (nI v2_3), .int (nI qnc), .int (nI qtp), .long (((1 : Int64) <<< ((nI v2_3).toInt64 &&& 63)) - (1 : Int64)), .ref s1, .ref s2, .ref s3, .ref s4])), (s1, .inl (cs 1, 3, .inl m0_3)), (s2, .inl (cs 1, 64, .inl m0_7)), (s3, .inl (cs 2, 5, .inr (.inl m0_10))), (s4, .inl (cs 1, 320, .inl m0_13)), (h1, .inr (0, [.int qli, .int (nI qtp), .int qlw, .int qod, .int (nI qnc), .int (nI qnr), .int (nI qno), .int (nI qna), .int qdr, .int qlo, .ref qr0, .ref qr1, .ref qr2, .ref qr3, .ref qr4])), (qr1, .inl (cs 1, 25, .inl qf1)), (qr2, .inl (cs 1, 20, .inl qf2))] H → va_D A [(aS, .inr (6, [.int (nI v2_3), .int (nI qnc), .int (nI qtp), .long (((1 : Int64) <<< ((nI v2_3).toInt64 &&& 63)) - (1 : Int64)), .ref s1, .ref s2, .ref s3, .ref s4])), (s1, .inl (cs 1, 3, .inl m0_3)), (s2, .inl (cs 1, 64, .inl m0_7)), (s3, .inl (cs 2, 5, .inr (.inl m0_10))), (s4, .inl (cs 1, 320, .inl m0_13)), (h1, .inr (0, [.int qli, .int (nI qtp), .int qlw, .int qod, .int (nI qnc), .int (nI qnr), .int (nI qno), .int (nI qna), .int qdr, .int qlo, .ref qr0, .ref qr1, .ref qr2, .ref qr3, .ref qr4])), (qr1, .inl (cs 1, 25, .inl qf1)), (qr2, .inl (cs 1, 20, .inl qf2))] → va_S A s.heap H locs → lv_has ls 5 [(3, .int (nI i_13)), (2, .int (nI v2_3)), (0, .ref aS), (1, .ref h1)] → W p l e (mRm 3 0 0 73) s m ([.ref aS, .ref h1] : List Value).toArray below meth c H locs 0 0 (MQ below (va_Qv (fun (u : Nat × Nat × Nat × Int64 × (Nat → Int32) × (Nat → Int32) × (Nat → Int64) × (Nat → Int32)) => (u.1 ≤ 64) ∧ (u.2.1 ≤ 3) ∧ (u.2.2.1 ≤ 3) ∧ (RES u.2.2.2.2.2.2.2)) (mpost D A (fun (u : Nat × Nat × Nat × Int64 × (Nat → Int32) × (Nat → Int32) × (Nat → Int64) × (Nat → Int32)) => [(aS, .inr (6, [.int (nI u.1), .int (nI u.2.1), .int (nI u.2.2.1), .long u.2.2.2.1, .ref s1, .ref s2, .ref s3, .ref s4])), (s1, .inl (cs 1, 3, .inl u.2.2.2.2.1)), (s2, .inl (cs 1, 64, .inl u.2.2.2.2.2.1)), (s3, .inl (cs 2, 5, .inr (.inl u.2.2.2.2.2.2.1))), (s4, .inl (cs 1, 320, .inl u.2.2.2.2.2.2.2)), (h1, .inr (0, [.int qli, .int (nI qtp), .int qlw, .int qod, .int (nI qnc), .int (nI qnr), .int (nI qno), .int (nI qna), .int qdr, .int qlo, .ref qr0, .ref qr1, .ref qr2, .ref qr3, .ref qr4])), (qr1, .inl (cs 1, 25, .inl qf1)), (qr2, .inl (cs 1, 20, .inl qf2))])) A) ([.ref aS, .ref h1] : List Value).toArray s 0 0 A) (F0 m 170 ls []) := by
                            intro nfu
                            induction nfu with
                            | zero => intro i_13 m0_13 H locs ls hi_13 hv0_13 hmu; exact absurd hmu (Nat.not_lt_zero _)
                            | succ nfu ih =>
                              intro i_13 m0_13 H locs ls hi_13 hv0_13 hmu hP hD hS hl
                              have ih_lp_14 := @ih
                              refine lv_iload_n hx hb dX6_load_170 rfl (lv_at hl 0 rfl) ?_
                              refine lv_aload_n hx hb dX6_load_171 rfl (lv_at hl 3 rfl) ?_
                              refine va_get (D := D) (ci := 0) (v := .int (nI qno)) (C := RX0) (T := TX0) (N := 15) hx hb hts iuX6_load_X0 hown hK hP 5 rfl rfl 6 (by decide) (htw (.fieldLink RX6 62 "MergeJudge$Base" "ops" "I") (List.mem_of_getElem? (i := 20) rfl)) (fun _ h9 => h9) rfl dX6_load_172 ?_
                              refine lv_icmp_ge (tgt := 227) hx hb dX6_load_175 (by decide) (fun c_15 => ?_) (fun c_15 => ?_)
                              ·
                                have hn_15 := bge_t (a := i_13) (b := qno) c_15 (by omega) (by omega)
                                exact ret_v hx hb hr hlk hS (Nat.le_of_ble_eq_true rfl) (Nat.le_of_ble_eq_true rfl) (v2_3, qnc, qtp, ((1 : Int64) <<< ((nI v2_3).toInt64 &&& 63)) - (1 : Int64), m0_3, m0_7, m0_10, m0_13) (⟨(by omega), (by omega), (by omega), (by assumption)⟩) (hP.sub [0, 1, 2, 3, 4, 5, 6, 7] rfl) (hD.sub [0, 1, 2, 3, 4, 5, 6, 7] (by decide) rfl) dX6_load_227
                              ·
                                have hn_15 := bge_f (a := i_13) (b := qno) c_15 (by omega) (by omega)
                                refine lv_iconst (v := 0) hx hb dX6_load_178 (by decide) ?_
                                refine lv_istore (lv' := [(4, .int 0), (3, .int (nI i_13)), (2, .int (nI v2_3)), (0, .ref aS), (1, .ref h1)]) hx hb dX6_load_179 hl (by decide) rfl (fun ls hl => ?_)
                                have lp_17 : ∀ (nfu : Nat) (i_16 : Nat) (m0_16 : Nat → Int32) (H : Heap) (locs : List Loc) (ls : Array Slot) (hi_16 : i_16 ≤ v2_3) (hv0_16 : RES m0_16), v2_3 - i_16 < nfu → va_P D vwCl [(aS, .inr (6, [.int (nI v2_3), .int (nI qnc), .int (nI qtp), .long (((1 : Int64) <<< ((nI v2_3).toInt64 &&& 63)) - (1 : Int64)), .ref s1, .ref s2, .ref s3, .ref s4])), (s1, .inl (cs 1, 3, .inl m0_3)), (s2, .inl (cs 1, 64, .inl m0_7)), (s3, .inl (cs 2, 5, .inr (.inl m0_10))), (s4, .inl (cs 1, 320, .inl m0_16)), (h1, .inr (0, [.int qli, .int (nI qtp), .int qlw, .int qod, .int (nI qnc), .int (nI qnr), .int (nI qno), .int (nI qna), .int qdr, .int qlo, .ref qr0, .ref qr1, .ref qr2, .ref qr3, .ref qr4])), (qr1, .inl (cs 1, 25, .inl qf1)), (qr2, .inl (cs 1, 20, .inl qf2))] H → va_D A [(aS, .inr (6, [.int (nI v2_3), .int (nI qnc), .int (nI qtp), .long (((1 : Int64) <<< ((nI v2_3).toInt64 &&& 63)) - (1 : Int64)), .ref s1, .ref s2, .ref s3, .ref s4])), (s1, .inl (cs 1, 3, .inl m0_3)), (s2, .inl (cs 1, 64, .inl m0_7)), (s3, .inl (cs 2, 5, .inr (.inl m0_10))), (s4, .inl (cs 1, 320, .inl m0_16)), (h1, .inr (0, [.int qli, .int (nI qtp), .int qlw, .int qod, .int (nI qnc), .int (nI qnr), .int (nI qno), .int (nI qna), .int qdr, .int qlo, .ref qr0, .ref qr1, .ref qr2, .ref qr3, .ref qr4])), (qr1, .inl (cs 1, 25, .inl qf1)), (qr2, .inl (cs 1, 20, .inl qf2))] → va_S A s.heap H locs → lv_has ls 5 [(4, .int (nI i_16)), (3, .int (nI i_13)), (2, .int (nI v2_3)), (0, .ref aS), (1, .ref h1)] → W p l e (mRm 3 0 0 73) s m ([.ref aS, .ref h1] : List Value).toArray below meth c H locs 0 0 (MQ below (va_Qv (fun (u : Nat × Nat × Nat × Int64 × (Nat → Int32) × (Nat → Int32) × (Nat → Int64) × (Nat → Int32)) => (u.1 ≤ 64) ∧ (u.2.1 ≤ 3) ∧ (u.2.2.1 ≤ 3) ∧ (RES u.2.2.2.2.2.2.2)) (mpost D A (fun (u : Nat × Nat × Nat × Int64 × (Nat → Int32) × (Nat → Int32) × (Nat → Int64) × (Nat → Int32)) => [(aS, .inr (6, [.int (nI u.1), .int (nI u.2.1), .int (nI u.2.2.1), .long u.2.2.2.1, .ref s1, .ref s2, .ref s3, .ref s4])), (s1, .inl (cs 1, 3, .inl u.2.2.2.2.1)), (s2, .inl (cs 1, 64, .inl u.2.2.2.2.2.1)), (s3, .inl (cs 2, 5, .inr (.inl u.2.2.2.2.2.2.1))), (s4, .inl (cs 1, 320, .inl u.2.2.2.2.2.2.2)), (h1, .inr (0, [.int qli, .int (nI qtp), .int qlw, .int qod, .int (nI qnc), .int (nI qnr), .int (nI qno), .int (nI qna), .int qdr, .int qlo, .ref qr0, .ref qr1, .ref qr2, .ref qr3, .ref qr4])), (qr1, .inl (cs 1, 25, .inl qf1)), (qr2, .inl (cs 1, 20, .inl qf2))])) A) ([.ref aS, .ref h1] : List Value).toArray s 0 0 A) (F0 m 181 ls []) := by
                                  intro nfu
                                  induction nfu with
                                  | zero => intro i_16 m0_16 H locs ls hi_16 hv0_16 hmu; exact absurd hmu (Nat.not_lt_zero _)
                                  | succ nfu ih =>
                                    intro i_16 m0_16 H locs ls hi_16 hv0_16 hmu hP hD hS hl
                                    have ih_lp_17 := @ih
                                    refine lv_iload hx hb dX6_load_181 (lv_at hl 0 rfl) ?_
                                    refine lv_aload_n hx hb dX6_load_183 rfl (lv_at hl 3 rfl) ?_
                                    refine va_get (D := D) (ci := 6) (v := .int (nI v2_3)) (C := RX6) (T := TX6) (N := 8) hx hb hts iuX6_load_X6 hown hK hP 0 rfl rfl 0 (by decide) (htw (.fieldLink RX6 9 "MergeJudge$Space" "size" "I") (List.mem_of_getElem? (i := 0) rfl)) (fun _ h9 => h9) rfl dX6_load_184 ?_
                                    refine lv_icmp_ge (tgt := 221) hx hb dX6_load_187 (by decide) (fun c_18 => ?_) (fun c_18 => ?_)
                                    ·
                                      have hn_18 := bge_t (a := i_16) (b := v2_3) c_18 (by omega) (by omega)
                                      refine lv_iinc (v := (nI (i_13 + 1))) (lv' := [(3, .int (nI (i_13 + 1))), (4, .int (nI i_16)), (2, .int (nI v2_3)), (0, .ref aS), (1, .ref h1)]) hx hb dX6_load_221 hl (k := 1) rfl (nI_1 _) (by decide) rfl (fun ls hl => ?_)
                                      refine lv_goto (tgt := 170) hx hb dX6_load_224 (by decide) ?_
                                      exact ih_lp_14 (i_13 + 1) m0_16 H locs ls (by omega) (by first | assumption | exact res_n (by assumption) | exact res_j (by assumption) (by omega)) (by omega) (hP.sub [0, 1, 2, 3, 4, 5, 6, 7] rfl) (hD.sub [0, 1, 2, 3, 4, 5, 6, 7] (by decide) rfl) hS (lv_sub hl [0, 2, 3, 4] rfl)
                                    ·
                                      have hn_18 := bge_f (a := i_16) (b := v2_3) c_18 (by omega) (by omega)
                                      refine lv_aload_n hx hb dX6_load_190 rfl (lv_at hl 3 rfl) ?_
                                      refine va_get (D := D) (ci := 6) (v := .ref s4) (C := RX6) (T := TX6) (N := 8) hx hb hts iuX6_load_X6 hown hK hP 0 rfl rfl 7 (by decide) (htw (.fieldLink RX6 36 "MergeJudge$Space" "results" "[I") (List.mem_of_getElem? (i := 21) rfl)) (fun _ h9 => h9) rfl dX6_load_191 ?_
                                      refine lv_iload_n hx hb dX6_load_194 rfl (lv_at hl 1 rfl) ?_
                                      refine lv_bipush (v := 64) hx hb dX6_load_195 (by decide) ?_
                                      refine lv_imul hx hb dX6_load_197 ?_
                                      refine cf_i (nI (i_13 * 64)) (pk_mul i_13 64) ?_
                                      refine lv_iload hx hb dX6_load_198 (lv_at hl 0 rfl) ?_
                                      refine lv_iadd hx hb dX6_load_200 ?_
                                      refine cf_i (nI ((i_13 * 64) + i_16)) (nI_add (i_13 * 64) i_16) ?_
                                      refine lv_aload_n hx hb dX6_load_201 rfl (lv_at hl 3 rfl) ?_
                                      refine lv_aload_n hx hb dX6_load_202 rfl (lv_at hl 4 rfl) ?_
                                      refine va_get (D := D) (ci := 0) (v := .ref qr2) (C := RX0) (T := TX0) (N := 15) hx hb hts iuX6_load_X0 hown hK hP 5 rfl rfl 12 (by decide) (htw (.fieldLink RX6 65 "MergeJudge$Base" "opRows" "[I") (List.mem_of_getElem? (i := 22) rfl)) (fun _ h9 => h9) rfl dX6_load_203 ?_
                                      refine lv_iload_n hx hb dX6_load_206 rfl (lv_at hl 1 rfl) ?_
                                      refine lv_iconst (v := 4) hx hb dX6_load_207 (by decide) ?_
                                      refine lv_imul hx hb dX6_load_208 ?_
                                      refine cf_i (nI (i_13 * 4)) (pk_mul i_13 4) ?_
                                      refine lv_iload hx hb dX6_load_209 (lv_at hl 0 rfl) ?_
                                      refine aft_i (wr := [(s3, .inl (cs 2, 5, .inr (.inl m0_10))), (s4, .inl (cs 1, 320, .inl m0_16)), (h1, .inr (0, [.int qli, .int (nI qtp), .int qlw, .int qod, .int (nI qnc), .int (nI qnr), .int (nI qno), .int (nI qna), .int qdr, .int qlo, .ref qr0, .ref qr1, .ref qr2, .ref qr3, .ref qr4])), (qr1, .inl (cs 1, 25, .inl qf1))]) hP hD hS hA [0, 1, 2, 7] [3, 4, 5, 6] rfl rfl (by decide) (by decide) (run_v (As := [.ref qr2, .int (nI (i_13 * 4)), .int (nI i_16)]) (rest := [.int (nI ((i_13 * 64) + i_16)), .ref s4]) hFix hK hE hP hD [0, 1, 2, 7] (k_X6_resultOf l D cs _ aS qr2 (i_13 * 4) i_16 (((1 : Int64) <<< ((nI v2_3).toInt64 &&& 63)) - (1 : Int64)) s1 s2 s3 s4 m0_3 m0_7 qf2 v2_3 qnc qtp (by first | assumption | decide | omega) (by first | assumption | decide | omega) (by first | assumption | decide | omega) (by first | assumption | decide | omega) (by first | assumption | decide | omega) (by first | assumption | decide | omega) (by first | assumption | decide | omega) (by first | assumption | decide | omega)) (cwV 3 hts gc_X6_load_68_X6_resultOf rfl rfl rfl (by decide +kernel) ⟨Nat.le_of_ble_eq_true rfl, Nat.le_of_ble_eq_true rfl⟩) rfl (by decide) rfl rfl rfl hl.1 rfl (Nat.le_of_ble_eq_true rfl) dX6_load_211 ⟨Nat.le_of_ble_eq_true rfl, Nat.le_of_ble_eq_true rfl⟩) (fun r_19 u_19 H locs hq_19 hP hD hS => ?_)
                                      obtain ⟨j_19, rfl⟩ : ∃ z, z = u_19 := ⟨_, rfl⟩
                                      have hP : va_P D vwCl [(s3, .inl (cs 2, 5, .inr (.inl m0_10))), (s4, .inl (cs 1, 320, .inl m0_16)), (h1, .inr (0, [.int qli, .int (nI qtp), .int qlw, .int qod, .int (nI qnc), .int (nI qnr), .int (nI qno), .int (nI qna), .int qdr, .int qlo, .ref qr0, .ref qr1, .ref qr2, .ref qr3, .ref qr4])), (qr1, .inl (cs 1, 25, .inl qf1)), (aS, .inr (6, [.int (nI v2_3), .int (nI qnc), .int (nI qtp), .long (((1 : Int64) <<< ((nI v2_3).toInt64 &&& 63)) - (1 : Int64)), .ref s1, .ref s2, .ref s3, .ref s4])), (s1, .inl (cs 1, 3, .inl m0_3)), (s2, .inl (cs 1, 64, .inl m0_7)), (qr2, .inl (cs 1, 20, .inl qf2))] H := hP
                                      have hD : va_D A [(s3, .inl (cs 2, 5, .inr (.inl m0_10))), (s4, .inl (cs 1, 320, .inl m0_16)), (h1, .inr (0, [.int qli, .int (nI qtp), .int qlw, .int qod, .int (nI qnc), .int (nI qnr), .int (nI qno), .int (nI qna), .int qdr, .int qlo, .ref qr0, .ref qr1, .ref qr2, .ref qr3, .ref qr4])), (qr1, .inl (cs 1, 25, .inl qf1)), (aS, .inr (6, [.int (nI v2_3), .int (nI qnc), .int (nI qtp), .long (((1 : Int64) <<< ((nI v2_3).toInt64 &&& 63)) - (1 : Int64)), .ref s1, .ref s2, .ref s3, .ref s4])), (s1, .inl (cs 1, 3, .inl m0_3)), (s2, .inl (cs 1, 64, .inl m0_7)), (qr2, .inl (cs 1, 20, .inl qf2))] := hD
                                      replace hq_19 : ((r_19 = (-1) ∧ True) ∨ (r_19 = nI j_19 ∧ j_19 < (qtp + 1) ^ qnc)) := hq_19
                                      rcases hq_19 with ⟨rfl, hq_19⟩ | ⟨rfl, hq_19⟩
                                      ·
                                        refine va_iast hx hb hK hP hD hS 1 1 rfl rfl (vp_in_nI (by omega) (by omega)) dX6_load_214 (fun H locs hP hD hS => ?_)
                                        have hP : va_P D vwCl [(s3, .inl (cs 2, 5, .inr (.inl m0_10))), (s4, .inl (cs 1, 320, .inl (upd m0_16 ((nI ((i_13 * 64) + i_16)).toNatClampNeg) (-1)))), (h1, .inr (0, [.int qli, .int (nI qtp), .int qlw, .int qod, .int (nI qnc), .int (nI qnr), .int (nI qno), .int (nI qna), .int qdr, .int qlo, .ref qr0, .ref qr1, .ref qr2, .ref qr3, .ref qr4])), (qr1, .inl (cs 1, 25, .inl qf1)), (aS, .inr (6, [.int (nI v2_3), .int (nI qnc), .int (nI qtp), .long (((1 : Int64) <<< ((nI v2_3).toInt64 &&& 63)) - (1 : Int64)), .ref s1, .ref s2, .ref s3, .ref s4])), (s1, .inl (cs 1, 3, .inl m0_3)), (s2, .inl (cs 1, 64, .inl m0_7)), (qr2, .inl (cs 1, 20, .inl qf2))] H := hP
                                        have hD : va_D A [(s3, .inl (cs 2, 5, .inr (.inl m0_10))), (s4, .inl (cs 1, 320, .inl (upd m0_16 ((nI ((i_13 * 64) + i_16)).toNatClampNeg) (-1)))), (h1, .inr (0, [.int qli, .int (nI qtp), .int qlw, .int qod, .int (nI qnc), .int (nI qnr), .int (nI qno), .int (nI qna), .int qdr, .int qlo, .ref qr0, .ref qr1, .ref qr2, .ref qr3, .ref qr4])), (qr1, .inl (cs 1, 25, .inl qf1)), (aS, .inr (6, [.int (nI v2_3), .int (nI qnc), .int (nI qtp), .long (((1 : Int64) <<< ((nI v2_3).toInt64 &&& 63)) - (1 : Int64)), .ref s1, .ref s2, .ref s3, .ref s4])), (s1, .inl (cs 1, 3, .inl m0_3)), (s2, .inl (cs 1, 64, .inl m0_7)), (qr2, .inl (cs 1, 20, .inl qf2))] := hD
                                        refine lv_iinc (v := (nI (i_16 + 1))) (lv' := [(4, .int (nI (i_16 + 1))), (3, .int (nI i_13)), (2, .int (nI v2_3)), (0, .ref aS), (1, .ref h1)]) hx hb dX6_load_215 hl (k := 0) rfl (nI_1 _) (by decide) rfl (fun ls hl => ?_)
                                        refine lv_goto (tgt := 181) hx hb dX6_load_218 (by decide) ?_
                                        exact ih_lp_17 (i_16 + 1) (upd m0_16 ((nI ((i_13 * 64) + i_16)).toNatClampNeg) (-1)) H locs ls (by omega) (by first | assumption | exact res_n (by assumption) | exact res_j (by assumption) (by omega)) (by omega) (hP.sub [4, 5, 6, 0, 1, 2, 3, 7] rfl) (hD.sub [4, 5, 6, 0, 1, 2, 3, 7] (by decide) rfl) hS (lv_sub hl [0, 1, 2, 3, 4] rfl)
                                      ·
                                        refine va_iast hx hb hK hP hD hS 1 1 rfl rfl (vp_in_nI (by omega) (by omega)) dX6_load_214 (fun H locs hP hD hS => ?_)
                                        have hP : va_P D vwCl [(s3, .inl (cs 2, 5, .inr (.inl m0_10))), (s4, .inl (cs 1, 320, .inl (upd m0_16 ((nI ((i_13 * 64) + i_16)).toNatClampNeg) (nI j_19)))), (h1, .inr (0, [.int qli, .int (nI qtp), .int qlw, .int qod, .int (nI qnc), .int (nI qnr), .int (nI qno), .int (nI qna), .int qdr, .int qlo, .ref qr0, .ref qr1, .ref qr2, .ref qr3, .ref qr4])), (qr1, .inl (cs 1, 25, .inl qf1)), (aS, .inr (6, [.int (nI v2_3), .int (nI qnc), .int (nI qtp), .long (((1 : Int64) <<< ((nI v2_3).toInt64 &&& 63)) - (1 : Int64)), .ref s1, .ref s2, .ref s3, .ref s4])), (s1, .inl (cs 1, 3, .inl m0_3)), (s2, .inl (cs 1, 64, .inl m0_7)), (qr2, .inl (cs 1, 20, .inl qf2))] H := hP
                                        have hD : va_D A [(s3, .inl (cs 2, 5, .inr (.inl m0_10))), (s4, .inl (cs 1, 320, .inl (upd m0_16 ((nI ((i_13 * 64) + i_16)).toNatClampNeg) (nI j_19)))), (h1, .inr (0, [.int qli, .int (nI qtp), .int qlw, .int qod, .int (nI qnc), .int (nI qnr), .int (nI qno), .int (nI qna), .int qdr, .int qlo, .ref qr0, .ref qr1, .ref qr2, .ref qr3, .ref qr4])), (qr1, .inl (cs 1, 25, .inl qf1)), (aS, .inr (6, [.int (nI v2_3), .int (nI qnc), .int (nI qtp), .long (((1 : Int64) <<< ((nI v2_3).toInt64 &&& 63)) - (1 : Int64)), .ref s1, .ref s2, .ref s3, .ref s4])), (s1, .inl (cs 1, 3, .inl m0_3)), (s2, .inl (cs 1, 64, .inl m0_7)), (qr2, .inl (cs 1, 20, .inl qf2))] := hD
                                        refine lv_iinc (v := (nI (i_16 + 1))) (lv' := [(4, .int (nI (i_16 + 1))), (3, .int (nI i_13)), (2, .int (nI v2_3)), (0, .ref aS), (1, .ref h1)]) hx hb dX6_load_215 hl (k := 0) rfl (nI_1 _) (by decide) rfl (fun ls hl => ?_)
                                        refine lv_goto (tgt := 181) hx hb dX6_load_218 (by decide) ?_
                                        exact ih_lp_17 (i_16 + 1) (upd m0_16 ((nI ((i_13 * 64) + i_16)).toNatClampNeg) (nI j_19)) H locs ls (by omega) (by first | assumption | exact res_n (by assumption) | exact res_j (by assumption) (by omega)) (by omega) (hP.sub [4, 5, 6, 0, 1, 2, 3, 7] rfl) (hD.sub [4, 5, 6, 0, 1, 2, 3, 7] (by decide) rfl) hS (lv_sub hl [0, 1, 2, 3, 4] rfl)
                                exact lp_17 _ 0 m0_13 H locs ls (by omega) (by first | assumption | omega) (Nat.lt_succ_self _) (hP.sub [0, 1, 2, 3, 4, 5, 6, 7] rfl) (hD.sub [0, 1, 2, 3, 4, 5, 6, 7] (by decide) rfl) hS (lv_sub hl [0, 1, 2, 3, 4] rfl)
                          exact lp_14 _ 0 fr H locs ls (by omega) (by first | assumption | omega) (Nat.lt_succ_self _) (hP.sub [0, 1, 2, 3, 4, 5, 6, 7] rfl) (hD.sub [0, 1, 2, 3, 4, 5, 6, 7] (by decide) rfl) hS (lv_sub hl [0, 1, 2, 3] rfl)
                        ·
                          have hn_12 := bge_f (a := i_10) (b := qnr) c_12 (by omega) (by omega)
                          refine lv_aload_n hx hb dX6_load_145 rfl (lv_at hl 2 rfl) ?_
                          refine va_get (D := D) (ci := 6) (v := .ref s3) (C := RX6) (T := TX6) (N := 8) hx hb hts iuX6_load_X6 hown hK hP 0 rfl rfl 6 (by decide) (htw (.fieldLink RX6 32 "MergeJudge$Space" "holding" "[J") (List.mem_of_getElem? (i := 15) rfl)) (fun _ h9 => h9) rfl dX6_load_146 ?_
                          refine lv_iload_n hx hb dX6_load_149 rfl (lv_at hl 0 rfl) ?_
                          refine lv_aload_n hx hb dX6_load_150 rfl (lv_at hl 2 rfl) ?_
                          refine lv_aload_n hx hb dX6_load_151 rfl (lv_at hl 3 rfl) ?_
                          refine va_get (D := D) (ci := 0) (v := .ref qr1) (C := RX0) (T := TX0) (N := 15) hx hb hts iuX6_load_X0 hown hK hP 5 rfl rfl 11 (by decide) (htw (.fieldLink RX6 55 "MergeJudge$Base" "ruleRows" "[I") (List.mem_of_getElem? (i := 16) rfl)) (fun _ h9 => h9) rfl dX6_load_152 ?_
                          refine lv_iload_n hx hb dX6_load_155 rfl (lv_at hl 0 rfl) ?_
                          refine lv_iconst (v := 5) hx hb dX6_load_156 (by decide) ?_
                          refine lv_imul hx hb dX6_load_157 ?_
                          refine cf_i (nI (i_10 * 5)) (pk_mul i_10 5) ?_
                          refine aft_l (wr := [(s1, .inl (cs 1, 3, .inl m0_3)), (s3, .inl (cs 2, 5, .inr (.inl m0_10))), (s4, .inl (cs 1, 320, .inl fr)), (h1, .inr (0, [.int qli, .int (nI qtp), .int qlw, .int qod, .int (nI qnc), .int (nI qnr), .int (nI qno), .int (nI qna), .int qdr, .int qlo, .ref qr0, .ref qr1, .ref qr2, .ref qr3, .ref qr4])), (qr2, .inl (cs 1, 20, .inl qf2))]) hP hD hS hA [0, 2, 6] [1, 3, 4, 5, 7] rfl rfl (by decide) (by decide) (run_v (As := [.ref qr1, .int (nI (i_10 * 5))]) (rest := [.int (nI i_10), .ref s3]) hFix hK hE hP hD [0, 2, 6] (k_X6_holdersOf l D cs _ aS qr1 (i_10 * 5) (((1 : Int64) <<< ((nI v2_3).toInt64 &&& 63)) - (1 : Int64)) s1 s2 s3 s4 m0_7 qf1 v2_3 qnc qtp (by first | assumption | decide | omega) (by first | assumption | decide | omega) (by first | assumption | decide | omega) (by first | assumption | decide | omega)) (cwV 2 hts gc_X6_load_58_X6_holdersOf rfl rfl rfl (by decide +kernel) ⟨Nat.le_of_ble_eq_true rfl, Nat.le_of_ble_eq_true rfl⟩) rfl (by decide) rfl rfl rfl hl.1 rfl (Nat.le_of_ble_eq_true rfl) dX6_load_158 ⟨Nat.le_of_ble_eq_true rfl, Nat.le_of_ble_eq_true rfl⟩) (fun r_20 u_20 H locs hq_20 hP hD hS => ?_)
                          have hP : va_P D vwCl [(s1, .inl (cs 1, 3, .inl m0_3)), (s3, .inl (cs 2, 5, .inr (.inl m0_10))), (s4, .inl (cs 1, 320, .inl fr)), (h1, .inr (0, [.int qli, .int (nI qtp), .int qlw, .int qod, .int (nI qnc), .int (nI qnr), .int (nI qno), .int (nI qna), .int qdr, .int qlo, .ref qr0, .ref qr1, .ref qr2, .ref qr3, .ref qr4])), (qr2, .inl (cs 1, 20, .inl qf2)), (aS, .inr (6, [.int (nI v2_3), .int (nI qnc), .int (nI qtp), .long (((1 : Int64) <<< ((nI v2_3).toInt64 &&& 63)) - (1 : Int64)), .ref s1, .ref s2, .ref s3, .ref s4])), (s2, .inl (cs 1, 64, .inl m0_7)), (qr1, .inl (cs 1, 25, .inl qf1))] H := hP
                          have hD : va_D A [(s1, .inl (cs 1, 3, .inl m0_3)), (s3, .inl (cs 2, 5, .inr (.inl m0_10))), (s4, .inl (cs 1, 320, .inl fr)), (h1, .inr (0, [.int qli, .int (nI qtp), .int qlw, .int qod, .int (nI qnc), .int (nI qnr), .int (nI qno), .int (nI qna), .int qdr, .int qlo, .ref qr0, .ref qr1, .ref qr2, .ref qr3, .ref qr4])), (qr2, .inl (cs 1, 20, .inl qf2)), (aS, .inr (6, [.int (nI v2_3), .int (nI qnc), .int (nI qtp), .long (((1 : Int64) <<< ((nI v2_3).toInt64 &&& 63)) - (1 : Int64)), .ref s1, .ref s2, .ref s3, .ref s4])), (s2, .inl (cs 1, 64, .inl m0_7)), (qr1, .inl (cs 1, 25, .inl qf1))] := hD
                          refine va_last hx hb hK hP hD hS 1 2 rfl rfl (vp_in_nI (by omega) (by omega)) dX6_load_161 (fun H locs hP hD hS => ?_)
                          have hP : va_P D vwCl [(s1, .inl (cs 1, 3, .inl m0_3)), (s3, .inl (cs 2, 5, .inr (.inl (vp_updL m0_10 ((nI i_10).toNatClampNeg) r_20)))), (s4, .inl (cs 1, 320, .inl fr)), (h1, .inr (0, [.int qli, .int (nI qtp), .int qlw, .int qod, .int (nI qnc), .int (nI qnr), .int (nI qno), .int (nI qna), .int qdr, .int qlo, .ref qr0, .ref qr1, .ref qr2, .ref qr3, .ref qr4])), (qr2, .inl (cs 1, 20, .inl qf2)), (aS, .inr (6, [.int (nI v2_3), .int (nI qnc), .int (nI qtp), .long (((1 : Int64) <<< ((nI v2_3).toInt64 &&& 63)) - (1 : Int64)), .ref s1, .ref s2, .ref s3, .ref s4])), (s2, .inl (cs 1, 64, .inl m0_7)), (qr1, .inl (cs 1, 25, .inl qf1))] H := hP
                          have hD : va_D A [(s1, .inl (cs 1, 3, .inl m0_3)), (s3, .inl (cs 2, 5, .inr (.inl (vp_updL m0_10 ((nI i_10).toNatClampNeg) r_20)))), (s4, .inl (cs 1, 320, .inl fr)), (h1, .inr (0, [.int qli, .int (nI qtp), .int qlw, .int qod, .int (nI qnc), .int (nI qnr), .int (nI qno), .int (nI qna), .int qdr, .int qlo, .ref qr0, .ref qr1, .ref qr2, .ref qr3, .ref qr4])), (qr2, .inl (cs 1, 20, .inl qf2)), (aS, .inr (6, [.int (nI v2_3), .int (nI qnc), .int (nI qtp), .long (((1 : Int64) <<< ((nI v2_3).toInt64 &&& 63)) - (1 : Int64)), .ref s1, .ref s2, .ref s3, .ref s4])), (s2, .inl (cs 1, 64, .inl m0_7)), (qr1, .inl (cs 1, 25, .inl qf1))] := hD
                          refine lv_iinc (v := (nI (i_10 + 1))) (lv' := [(3, .int (nI (i_10 + 1))), (2, .int (nI v2_3)), (0, .ref aS), (1, .ref h1)]) hx hb dX6_load_162 hl (k := 0) rfl (nI_1 _) (by decide) rfl (fun ls hl => ?_)
                          refine lv_goto (tgt := 137) hx hb dX6_load_165 (by decide) ?_
                          exact ih_lp_11 (i_10 + 1) (vp_updL m0_10 ((nI i_10).toNatClampNeg) r_20) H locs ls (by omega) (by omega) (hP.sub [5, 0, 6, 1, 2, 3, 7, 4] rfl) (hD.sub [5, 0, 6, 1, 2, 3, 7, 4] (by decide) rfl) hS (lv_sub hl [0, 1, 2, 3] rfl)
                    exact lp_11 _ 0 fh H locs ls (by omega) (Nat.lt_succ_self _) (hP.sub [0, 1, 2, 3, 4, 5, 6, 7] rfl) (hD.sub [0, 1, 2, 3, 4, 5, 6, 7] (by decide) rfl) hS (lv_sub hl [0, 1, 2, 3] rfl)
                  ·
                    have hn_9 := bge_f (a := i_7) (b := v2_3) c_9 (by omega) (by omega)
                    refine lv_aload_n hx hb dX6_load_118 rfl (lv_at hl 2 rfl) ?_
                    refine va_get (D := D) (ci := 6) (v := .ref s2) (C := RX6) (T := TX6) (N := 8) hx hb hts iuX6_load_X6 hown hK hP 0 rfl rfl 5 (by decide) (htw (.fieldLink RX6 29 "MergeJudge$Space" "packed" "[I") (List.mem_of_getElem? (i := 9) rfl)) (fun _ h9 => h9) rfl dX6_load_119 ?_
                    refine lv_iload_n hx hb dX6_load_122 rfl (lv_at hl 0 rfl) ?_
                    refine lv_aload_n hx hb dX6_load_123 rfl (lv_at hl 2 rfl) ?_
                    refine lv_iload_n hx hb dX6_load_124 rfl (lv_at hl 0 rfl) ?_
                    refine aft_i (wr := [(s1, .inl (cs 1, 3, .inl m0_3)), (s2, .inl (cs 1, 64, .inl m0_7)), (s3, .inl (cs 2, 5, .inr (.inl fh))), (s4, .inl (cs 1, 320, .inl fr)), (h1, .inr (0, [.int qli, .int (nI qtp), .int qlw, .int qod, .int (nI qnc), .int (nI qnr), .int (nI qno), .int (nI qna), .int qdr, .int qlo, .ref qr0, .ref qr1, .ref qr2, .ref qr3, .ref qr4])), (qr1, .inl (cs 1, 25, .inl qf1)), (qr2, .inl (cs 1, 20, .inl qf2))]) hP hD hS hA [0] [1, 2, 3, 4, 5, 6, 7] rfl rfl (by decide) (by decide) (run_v (As := [.int (nI i_7)]) (rest := [.int (nI i_7), .ref s2]) hFix hK hE hP hD [0] (k_X6_packedOf l D cs _ aS i_7 (((1 : Int64) <<< ((nI v2_3).toInt64 &&& 63)) - (1 : Int64)) s1 s2 s3 s4 v2_3 qnc qtp (by first | assumption | decide | omega) (by first | assumption | decide | omega) (by first | assumption | decide | omega) (by first | assumption | decide | omega)) (cwV 1 hts gc_X6_load_48_X6_packedOf rfl rfl rfl (by decide +kernel) ⟨Nat.le_of_ble_eq_true rfl, Nat.le_of_ble_eq_true rfl⟩) rfl (by decide) rfl rfl rfl hl.1 rfl (Nat.le_of_ble_eq_true rfl) dX6_load_125 ⟨Nat.le_of_ble_eq_true rfl, Nat.le_of_ble_eq_true rfl⟩) (fun r_21 u_21 H locs hq_21 hP hD hS => ?_)
                    have hP : va_P D vwCl [(s1, .inl (cs 1, 3, .inl m0_3)), (s2, .inl (cs 1, 64, .inl m0_7)), (s3, .inl (cs 2, 5, .inr (.inl fh))), (s4, .inl (cs 1, 320, .inl fr)), (h1, .inr (0, [.int qli, .int (nI qtp), .int qlw, .int qod, .int (nI qnc), .int (nI qnr), .int (nI qno), .int (nI qna), .int qdr, .int qlo, .ref qr0, .ref qr1, .ref qr2, .ref qr3, .ref qr4])), (qr1, .inl (cs 1, 25, .inl qf1)), (qr2, .inl (cs 1, 20, .inl qf2)), (aS, .inr (6, [.int (nI v2_3), .int (nI qnc), .int (nI qtp), .long (((1 : Int64) <<< ((nI v2_3).toInt64 &&& 63)) - (1 : Int64)), .ref s1, .ref s2, .ref s3, .ref s4]))] H := hP
                    have hD : va_D A [(s1, .inl (cs 1, 3, .inl m0_3)), (s2, .inl (cs 1, 64, .inl m0_7)), (s3, .inl (cs 2, 5, .inr (.inl fh))), (s4, .inl (cs 1, 320, .inl fr)), (h1, .inr (0, [.int qli, .int (nI qtp), .int qlw, .int qod, .int (nI qnc), .int (nI qnr), .int (nI qno), .int (nI qna), .int qdr, .int qlo, .ref qr0, .ref qr1, .ref qr2, .ref qr3, .ref qr4])), (qr1, .inl (cs 1, 25, .inl qf1)), (qr2, .inl (cs 1, 20, .inl qf2)), (aS, .inr (6, [.int (nI v2_3), .int (nI qnc), .int (nI qtp), .long (((1 : Int64) <<< ((nI v2_3).toInt64 &&& 63)) - (1 : Int64)), .ref s1, .ref s2, .ref s3, .ref s4]))] := hD
                    replace hq_21 : r_21 = pkF (qtp + 1) qnc i_7 := hq_21
                    subst hq_21
                    refine va_iast hx hb hK hP hD hS 1 1 rfl rfl (vp_in_nI (by omega) (by omega)) dX6_load_128 (fun H locs hP hD hS => ?_)
                    have hP : va_P D vwCl [(s1, .inl (cs 1, 3, .inl m0_3)), (s2, .inl (cs 1, 64, .inl (upd m0_7 ((nI i_7).toNatClampNeg) (pkF (qtp + 1) qnc i_7)))), (s3, .inl (cs 2, 5, .inr (.inl fh))), (s4, .inl (cs 1, 320, .inl fr)), (h1, .inr (0, [.int qli, .int (nI qtp), .int qlw, .int qod, .int (nI qnc), .int (nI qnr), .int (nI qno), .int (nI qna), .int qdr, .int qlo, .ref qr0, .ref qr1, .ref qr2, .ref qr3, .ref qr4])), (qr1, .inl (cs 1, 25, .inl qf1)), (qr2, .inl (cs 1, 20, .inl qf2)), (aS, .inr (6, [.int (nI v2_3), .int (nI qnc), .int (nI qtp), .long (((1 : Int64) <<< ((nI v2_3).toInt64 &&& 63)) - (1 : Int64)), .ref s1, .ref s2, .ref s3, .ref s4]))] H := hP
                    have hD : va_D A [(s1, .inl (cs 1, 3, .inl m0_3)), (s2, .inl (cs 1, 64, .inl (upd m0_7 ((nI i_7).toNatClampNeg) (pkF (qtp + 1) qnc i_7)))), (s3, .inl (cs 2, 5, .inr (.inl fh))), (s4, .inl (cs 1, 320, .inl fr)), (h1, .inr (0, [.int qli, .int (nI qtp), .int qlw, .int qod, .int (nI qnc), .int (nI qnr), .int (nI qno), .int (nI qna), .int qdr, .int qlo, .ref qr0, .ref qr1, .ref qr2, .ref qr3, .ref qr4])), (qr1, .inl (cs 1, 25, .inl qf1)), (qr2, .inl (cs 1, 20, .inl qf2)), (aS, .inr (6, [.int (nI v2_3), .int (nI qnc), .int (nI qtp), .long (((1 : Int64) <<< ((nI v2_3).toInt64 &&& 63)) - (1 : Int64)), .ref s1, .ref s2, .ref s3, .ref s4]))] := hD
                    refine lv_iinc (v := (nI (i_7 + 1))) (lv' := [(3, .int (nI (i_7 + 1))), (2, .int (nI v2_3)), (0, .ref aS), (1, .ref h1)]) hx hb dX6_load_129 hl (k := 0) rfl (nI_1 _) (by decide) rfl (fun ls hl => ?_)
                    refine lv_goto (tgt := 110) hx hb dX6_load_132 (by decide) ?_
                    exact ih_lp_8 (i_7 + 1) (upd m0_7 ((nI i_7).toNatClampNeg) (pkF (qtp + 1) qnc i_7)) H locs ls (by omega) (pkd_put hv0_7 (by omega) rfl) (by omega) (hP.sub [7, 0, 1, 2, 3, 4, 5, 6] rfl) (hD.sub [7, 0, 1, 2, 3, 4, 5, 6] (by decide) rfl) hS (lv_sub hl [0, 1, 2, 3] rfl)
              exact lp_8 _ 0 fa H locs ls (by omega) (fun k hk => absurd hk (Nat.not_lt_zero k)) (Nat.lt_succ_self _) (hP.sub [0, 1, 2, 3, 4, 5, 6, 7] rfl) (hD.sub [0, 1, 2, 3, 4, 5, 6, 7] (by decide) rfl) hS (lv_sub hl [0, 1, 2, 3] rfl)
            ·
              have hn_6 := blt_f (a := v2_3) (b := 64) c_6 (by omega) (by omega)
              refine lv_ldc2 (v := (-1)) hx hb hown (htw (.constantLong RX6 46 (-1)) (List.mem_of_getElem? (i := 8) rfl)) dX6_load_91 ?_
              refine lv_goto (tgt := 105) hx hb dX6_load_94 (by decide) ?_
              refine va_put (D := D) (ci := 6) (v := .long (-1)) (ty := .long) (C := RX6) (T := TX6) (N := 8) hx hb hts iuX6_load_X6 tyX6 tyX6_ok nmX6 hown hK hP hD hS 0 rfl rfl 3 (by decide) (htw (.fieldLink RX6 21 "MergeJudge$Space" "whole" "J") (List.mem_of_getElem? (i := 1) rfl)) (fun _ h9 => h9) rfl (by decide +kernel) rfl rfl (Nat.le_of_ble_eq_true rfl) dX6_load_105 (fun H locs hP hD hS => ?_)
              have hP : va_P D vwCl [(aS, .inr (6, [.int (nI v2_3), .int (nI qnc), .int (nI qtp), .long (-1), .ref s1, .ref s2, .ref s3, .ref s4])), (s1, .inl (cs 1, 3, .inl m0_3)), (s2, .inl (cs 1, 64, .inl fa)), (s3, .inl (cs 2, 5, .inr (.inl fh))), (s4, .inl (cs 1, 320, .inl fr)), (h1, .inr (0, [.int qli, .int (nI qtp), .int qlw, .int qod, .int (nI qnc), .int (nI qnr), .int (nI qno), .int (nI qna), .int qdr, .int qlo, .ref qr0, .ref qr1, .ref qr2, .ref qr3, .ref qr4])), (qr1, .inl (cs 1, 25, .inl qf1)), (qr2, .inl (cs 1, 20, .inl qf2))] H := hP
              have hD : va_D A [(aS, .inr (6, [.int (nI v2_3), .int (nI qnc), .int (nI qtp), .long (-1), .ref s1, .ref s2, .ref s3, .ref s4])), (s1, .inl (cs 1, 3, .inl m0_3)), (s2, .inl (cs 1, 64, .inl fa)), (s3, .inl (cs 2, 5, .inr (.inl fh))), (s4, .inl (cs 1, 320, .inl fr)), (h1, .inr (0, [.int qli, .int (nI qtp), .int qlw, .int qod, .int (nI qnc), .int (nI qnr), .int (nI qno), .int (nI qna), .int qdr, .int qlo, .ref qr0, .ref qr1, .ref qr2, .ref qr3, .ref qr4])), (qr1, .inl (cs 1, 25, .inl qf1)), (qr2, .inl (cs 1, 20, .inl qf2))] := hD
              refine lv_iconst (v := 0) hx hb dX6_load_108 (by decide) ?_
              refine lv_istore_n (lv' := [(3, .int 0), (2, .int (nI v2_3)), (0, .ref aS), (1, .ref h1)]) hx hb dX6_load_109 rfl hl (by decide) rfl (fun ls hl => ?_)
              have lp_23 : ∀ (nfu : Nat) (i_22 : Nat) (m0_22 : Nat → Int32) (H : Heap) (locs : List Loc) (ls : Array Slot) (hi_22 : i_22 ≤ v2_3) (hv0_22 : ∀ k, k < i_22 → m0_22 k = pkF (qtp + 1) qnc k), v2_3 - i_22 < nfu → va_P D vwCl [(aS, .inr (6, [.int (nI v2_3), .int (nI qnc), .int (nI qtp), .long (-1), .ref s1, .ref s2, .ref s3, .ref s4])), (s1, .inl (cs 1, 3, .inl m0_3)), (s2, .inl (cs 1, 64, .inl m0_22)), (s3, .inl (cs 2, 5, .inr (.inl fh))), (s4, .inl (cs 1, 320, .inl fr)), (h1, .inr (0, [.int qli, .int (nI qtp), .int qlw, .int qod, .int (nI qnc), .int (nI qnr), .int (nI qno), .int (nI qna), .int qdr, .int qlo, .ref qr0, .ref qr1, .ref qr2, .ref qr3, .ref qr4])), (qr1, .inl (cs 1, 25, .inl qf1)), (qr2, .inl (cs 1, 20, .inl qf2))] H → va_D A [(aS, .inr (6, [.int (nI v2_3), .int (nI qnc), .int (nI qtp), .long (-1), .ref s1, .ref s2, .ref s3, .ref s4])), (s1, .inl (cs 1, 3, .inl m0_3)), (s2, .inl (cs 1, 64, .inl m0_22)), (s3, .inl (cs 2, 5, .inr (.inl fh))), (s4, .inl (cs 1, 320, .inl fr)), (h1, .inr (0, [.int qli, .int (nI qtp), .int qlw, .int qod, .int (nI qnc), .int (nI qnr), .int (nI qno), .int (nI qna), .int qdr, .int qlo, .ref qr0, .ref qr1, .ref qr2, .ref qr3, .ref qr4])), (qr1, .inl (cs 1, 25, .inl qf1)), (qr2, .inl (cs 1, 20, .inl qf2))] → va_S A s.heap H locs → lv_has ls 5 [(3, .int (nI i_22)), (2, .int (nI v2_3)), (0, .ref aS), (1, .ref h1)] → W p l e (mRm 3 0 0 73) s m ([.ref aS, .ref h1] : List Value).toArray below meth c H locs 0 0 (MQ below (va_Qv (fun (u : Nat × Nat × Nat × Int64 × (Nat → Int32) × (Nat → Int32) × (Nat → Int64) × (Nat → Int32)) => (u.1 ≤ 64) ∧ (u.2.1 ≤ 3) ∧ (u.2.2.1 ≤ 3) ∧ (RES u.2.2.2.2.2.2.2)) (mpost D A (fun (u : Nat × Nat × Nat × Int64 × (Nat → Int32) × (Nat → Int32) × (Nat → Int64) × (Nat → Int32)) => [(aS, .inr (6, [.int (nI u.1), .int (nI u.2.1), .int (nI u.2.2.1), .long u.2.2.2.1, .ref s1, .ref s2, .ref s3, .ref s4])), (s1, .inl (cs 1, 3, .inl u.2.2.2.2.1)), (s2, .inl (cs 1, 64, .inl u.2.2.2.2.2.1)), (s3, .inl (cs 2, 5, .inr (.inl u.2.2.2.2.2.2.1))), (s4, .inl (cs 1, 320, .inl u.2.2.2.2.2.2.2)), (h1, .inr (0, [.int qli, .int (nI qtp), .int qlw, .int qod, .int (nI qnc), .int (nI qnr), .int (nI qno), .int (nI qna), .int qdr, .int qlo, .ref qr0, .ref qr1, .ref qr2, .ref qr3, .ref qr4])), (qr1, .inl (cs 1, 25, .inl qf1)), (qr2, .inl (cs 1, 20, .inl qf2))])) A) ([.ref aS, .ref h1] : List Value).toArray s 0 0 A) (F0 m 110 ls []) := by
                intro nfu
                induction nfu with
                | zero => intro i_22 m0_22 H locs ls hi_22 hv0_22 hmu; exact absurd hmu (Nat.not_lt_zero _)
                | succ nfu ih =>
                  intro i_22 m0_22 H locs ls hi_22 hv0_22 hmu hP hD hS hl
                  have ih_lp_23 := @ih
                  refine lv_iload_n hx hb dX6_load_110 rfl (lv_at hl 0 rfl) ?_
                  refine lv_aload_n hx hb dX6_load_111 rfl (lv_at hl 2 rfl) ?_
                  refine va_get (D := D) (ci := 6) (v := .int (nI v2_3)) (C := RX6) (T := TX6) (N := 8) hx hb hts iuX6_load_X6 hown hK hP 0 rfl rfl 0 (by decide) (htw (.fieldLink RX6 9 "MergeJudge$Space" "size" "I") (List.mem_of_getElem? (i := 0) rfl)) (fun _ h9 => h9) rfl dX6_load_112 ?_
                  refine lv_icmp_ge (tgt := 135) hx hb dX6_load_115 (by decide) (fun c_24 => ?_) (fun c_24 => ?_)
                  ·
                    have hn_24 := bge_t (a := i_22) (b := v2_3) c_24 (by omega) (by omega)
                    have hpk9 : PKD m0_22 qtp qnc := fun k hk => hv0_22 k (by omega)
                    refine lv_iconst (v := 0) hx hb dX6_load_135 (by decide) ?_
                    refine lv_istore_n (lv' := [(3, .int 0), (2, .int (nI v2_3)), (0, .ref aS), (1, .ref h1)]) hx hb dX6_load_136 rfl hl (by decide) rfl (fun ls hl => ?_)
                    have lp_26 : ∀ (nfu : Nat) (i_25 : Nat) (m0_25 : Nat → Int64) (H : Heap) (locs : List Loc) (ls : Array Slot) (hi_25 : i_25 ≤ qnr), qnr - i_25 < nfu → va_P D vwCl [(aS, .inr (6, [.int (nI v2_3), .int (nI qnc), .int (nI qtp), .long (-1), .ref s1, .ref s2, .ref s3, .ref s4])), (s1, .inl (cs 1, 3, .inl m0_3)), (s2, .inl (cs 1, 64, .inl m0_22)), (s3, .inl (cs 2, 5, .inr (.inl m0_25))), (s4, .inl (cs 1, 320, .inl fr)), (h1, .inr (0, [.int qli, .int (nI qtp), .int qlw, .int qod, .int (nI qnc), .int (nI qnr), .int (nI qno), .int (nI qna), .int qdr, .int qlo, .ref qr0, .ref qr1, .ref qr2, .ref qr3, .ref qr4])), (qr1, .inl (cs 1, 25, .inl qf1)), (qr2, .inl (cs 1, 20, .inl qf2))] H → va_D A [(aS, .inr (6, [.int (nI v2_3), .int (nI qnc), .int (nI qtp), .long (-1), .ref s1, .ref s2, .ref s3, .ref s4])), (s1, .inl (cs 1, 3, .inl m0_3)), (s2, .inl (cs 1, 64, .inl m0_22)), (s3, .inl (cs 2, 5, .inr (.inl m0_25))), (s4, .inl (cs 1, 320, .inl fr)), (h1, .inr (0, [.int qli, .int (nI qtp), .int qlw, .int qod, .int (nI qnc), .int (nI qnr), .int (nI qno), .int (nI qna), .int qdr, .int qlo, .ref qr0, .ref qr1, .ref qr2, .ref qr3, .ref qr4])), (qr1, .inl (cs 1, 25, .inl qf1)), (qr2, .inl (cs 1, 20, .inl qf2))] → va_S A s.heap H locs → lv_has ls 5 [(3, .int (nI i_25)), (2, .int (nI v2_3)), (0, .ref aS), (1, .ref h1)] → W p l e (mRm 3 0 0 73) s m ([.ref aS, .ref h1] : List Value).toArray below meth c H locs 0 0 (MQ below (va_Qv (fun (u : Nat × Nat × Nat × Int64 × (Nat → Int32) × (Nat → Int32) × (Nat → Int64) × (Nat → Int32)) => (u.1 ≤ 64) ∧ (u.2.1 ≤ 3) ∧ (u.2.2.1 ≤ 3) ∧ (RES u.2.2.2.2.2.2.2)) (mpost D A (fun (u : Nat × Nat × Nat × Int64 × (Nat → Int32) × (Nat → Int32) × (Nat → Int64) × (Nat → Int32)) => [(aS, .inr (6, [.int (nI u.1), .int (nI u.2.1), .int (nI u.2.2.1), .long u.2.2.2.1, .ref s1, .ref s2, .ref s3, .ref s4])), (s1, .inl (cs 1, 3, .inl u.2.2.2.2.1)), (s2, .inl (cs 1, 64, .inl u.2.2.2.2.2.1)), (s3, .inl (cs 2, 5, .inr (.inl u.2.2.2.2.2.2.1))), (s4, .inl (cs 1, 320, .inl u.2.2.2.2.2.2.2)), (h1, .inr (0, [.int qli, .int (nI qtp), .int qlw, .int qod, .int (nI qnc), .int (nI qnr), .int (nI qno), .int (nI qna), .int qdr, .int qlo, .ref qr0, .ref qr1, .ref qr2, .ref qr3, .ref qr4])), (qr1, .inl (cs 1, 25, .inl qf1)), (qr2, .inl (cs 1, 20, .inl qf2))])) A) ([.ref aS, .ref h1] : List Value).toArray s 0 0 A) (F0 m 137 ls []) := by
                      intro nfu
                      induction nfu with
                      | zero => intro i_25 m0_25 H locs ls hi_25 hmu; exact absurd hmu (Nat.not_lt_zero _)
                      | succ nfu ih =>
                        intro i_25 m0_25 H locs ls hi_25 hmu hP hD hS hl
                        have ih_lp_26 := @ih
                        refine lv_iload_n hx hb dX6_load_137 rfl (lv_at hl 0 rfl) ?_
                        refine lv_aload_n hx hb dX6_load_138 rfl (lv_at hl 3 rfl) ?_
                        refine va_get (D := D) (ci := 0) (v := .int (nI qnr)) (C := RX0) (T := TX0) (N := 15) hx hb hts iuX6_load_X0 hown hK hP 5 rfl rfl 5 (by decide) (htw (.fieldLink RX6 52 "MergeJudge$Base" "rules" "I") (List.mem_of_getElem? (i := 14) rfl)) (fun _ h9 => h9) rfl dX6_load_139 ?_
                        refine lv_icmp_ge (tgt := 168) hx hb dX6_load_142 (by decide) (fun c_27 => ?_) (fun c_27 => ?_)
                        ·
                          have hn_27 := bge_t (a := i_25) (b := qnr) c_27 (by omega) (by omega)
                          refine lv_iconst (v := 0) hx hb dX6_load_168 (by decide) ?_
                          refine lv_istore_n (lv' := [(3, .int 0), (2, .int (nI v2_3)), (0, .ref aS), (1, .ref h1)]) hx hb dX6_load_169 rfl hl (by decide) rfl (fun ls hl => ?_)
                          have lp_29 : ∀ (nfu : Nat) (i_28 : Nat) (m0_28 : Nat → Int32) (H : Heap) (locs : List Loc) (ls : Array Slot) (hi_28 : i_28 ≤ qno) (hv0_28 : RES m0_28), qno - i_28 < nfu → va_P D vwCl [(aS, .inr (6, [.int (nI v2_3), .int (nI qnc), .int (nI qtp), .long (-1), .ref s1, .ref s2, .ref s3, .ref s4])), (s1, .inl (cs 1, 3, .inl m0_3)), (s2, .inl (cs 1, 64, .inl m0_22)), (s3, .inl (cs 2, 5, .inr (.inl m0_25))), (s4, .inl (cs 1, 320, .inl m0_28)), (h1, .inr (0, [.int qli, .int (nI qtp), .int qlw, .int qod, .int (nI qnc), .int (nI qnr), .int (nI qno), .int (nI qna), .int qdr, .int qlo, .ref qr0, .ref qr1, .ref qr2, .ref qr3, .ref qr4])), (qr1, .inl (cs 1, 25, .inl qf1)), (qr2, .inl (cs 1, 20, .inl qf2))] H → va_D A [(aS, .inr (6, [.int (nI v2_3), .int (nI qnc), .int (nI qtp), .long (-1), .ref s1, .ref s2, .ref s3, .ref s4])), (s1, .inl (cs 1, 3, .inl m0_3)), (s2, .inl (cs 1, 64, .inl m0_22)), (s3, .inl (cs 2, 5, .inr (.inl m0_25))), (s4, .inl (cs 1, 320, .inl m0_28)), (h1, .inr (0, [.int qli, .int (nI qtp), .int qlw, .int qod, .int (nI qnc), .int (nI qnr), .int (nI qno), .int (nI qna), .int qdr, .int qlo, .ref qr0, .ref qr1, .ref qr2, .ref qr3, .ref qr4])), (qr1, .inl (cs 1, 25, .inl qf1)), (qr2, .inl (cs 1, 20, .inl qf2))] → va_S A s.heap H locs → lv_has ls 5 [(3, .int (nI i_28)), (2, .int (nI v2_3)), (0, .ref aS), (1, .ref h1)] → W p l e (mRm 3 0 0 73) s m ([.ref aS, .ref h1] : List Value).toArray below meth c H locs 0 0 (MQ below (va_Qv (fun (u : Nat × Nat × Nat × Int64 × (Nat → Int32) × (Nat → Int32) × (Nat → Int64) × (Nat → Int32)) => (u.1 ≤ 64) ∧ (u.2.1 ≤ 3) ∧ (u.2.2.1 ≤ 3) ∧ (RES u.2.2.2.2.2.2.2)) (mpost D A (fun (u : Nat × Nat × Nat × Int64 × (Nat → Int32) × (Nat → Int32) × (Nat → Int64) × (Nat → Int32)) => [(aS, .inr (6, [.int (nI u.1), .int (nI u.2.1), .int (nI u.2.2.1), .long u.2.2.2.1, .ref s1, .ref s2, .ref s3, .ref s4])), (s1, .inl (cs 1, 3, .inl u.2.2.2.2.1)), (s2, .inl (cs 1, 64, .inl u.2.2.2.2.2.1)), (s3, .inl (cs 2, 5, .inr (.inl u.2.2.2.2.2.2.1))), (s4, .inl (cs 1, 320, .inl u.2.2.2.2.2.2.2)), (h1, .inr (0, [.int qli, .int (nI qtp), .int qlw, .int qod, .int (nI qnc), .int (nI qnr), .int (nI qno), .int (nI qna), .int qdr, .int qlo, .ref qr0, .ref qr1, .ref qr2, .ref qr3, .ref qr4])), (qr1, .inl (cs 1, 25, .inl qf1)), (qr2, .inl (cs 1, 20, .inl qf2))])) A) ([.ref aS, .ref h1] : List Value).toArray s 0 0 A) (F0 m 170 ls []) := by
                            intro nfu
                            induction nfu with
                            | zero => intro i_28 m0_28 H locs ls hi_28 hv0_28 hmu; exact absurd hmu (Nat.not_lt_zero _)
                            | succ nfu ih =>
                              intro i_28 m0_28 H locs ls hi_28 hv0_28 hmu hP hD hS hl
                              have ih_lp_29 := @ih
                              refine lv_iload_n hx hb dX6_load_170 rfl (lv_at hl 0 rfl) ?_
                              refine lv_aload_n hx hb dX6_load_171 rfl (lv_at hl 3 rfl) ?_
                              refine va_get (D := D) (ci := 0) (v := .int (nI qno)) (C := RX0) (T := TX0) (N := 15) hx hb hts iuX6_load_X0 hown hK hP 5 rfl rfl 6 (by decide) (htw (.fieldLink RX6 62 "MergeJudge$Base" "ops" "I") (List.mem_of_getElem? (i := 20) rfl)) (fun _ h9 => h9) rfl dX6_load_172 ?_
                              refine lv_icmp_ge (tgt := 227) hx hb dX6_load_175 (by decide) (fun c_30 => ?_) (fun c_30 => ?_)
                              ·
                                have hn_30 := bge_t (a := i_28) (b := qno) c_30 (by omega) (by omega)
                                exact ret_v hx hb hr hlk hS (Nat.le_of_ble_eq_true rfl) (Nat.le_of_ble_eq_true rfl) (v2_3, qnc, qtp, (-1), m0_3, m0_22, m0_25, m0_28) (⟨(by omega), (by omega), (by omega), (by assumption)⟩) (hP.sub [0, 1, 2, 3, 4, 5, 6, 7] rfl) (hD.sub [0, 1, 2, 3, 4, 5, 6, 7] (by decide) rfl) dX6_load_227
                              ·
                                have hn_30 := bge_f (a := i_28) (b := qno) c_30 (by omega) (by omega)
                                refine lv_iconst (v := 0) hx hb dX6_load_178 (by decide) ?_
                                refine lv_istore (lv' := [(4, .int 0), (3, .int (nI i_28)), (2, .int (nI v2_3)), (0, .ref aS), (1, .ref h1)]) hx hb dX6_load_179 hl (by decide) rfl (fun ls hl => ?_)
                                have lp_32 : ∀ (nfu : Nat) (i_31 : Nat) (m0_31 : Nat → Int32) (H : Heap) (locs : List Loc) (ls : Array Slot) (hi_31 : i_31 ≤ v2_3) (hv0_31 : RES m0_31), v2_3 - i_31 < nfu → va_P D vwCl [(aS, .inr (6, [.int (nI v2_3), .int (nI qnc), .int (nI qtp), .long (-1), .ref s1, .ref s2, .ref s3, .ref s4])), (s1, .inl (cs 1, 3, .inl m0_3)), (s2, .inl (cs 1, 64, .inl m0_22)), (s3, .inl (cs 2, 5, .inr (.inl m0_25))), (s4, .inl (cs 1, 320, .inl m0_31)), (h1, .inr (0, [.int qli, .int (nI qtp), .int qlw, .int qod, .int (nI qnc), .int (nI qnr), .int (nI qno), .int (nI qna), .int qdr, .int qlo, .ref qr0, .ref qr1, .ref qr2, .ref qr3, .ref qr4])), (qr1, .inl (cs 1, 25, .inl qf1)), (qr2, .inl (cs 1, 20, .inl qf2))] H → va_D A [(aS, .inr (6, [.int (nI v2_3), .int (nI qnc), .int (nI qtp), .long (-1), .ref s1, .ref s2, .ref s3, .ref s4])), (s1, .inl (cs 1, 3, .inl m0_3)), (s2, .inl (cs 1, 64, .inl m0_22)), (s3, .inl (cs 2, 5, .inr (.inl m0_25))), (s4, .inl (cs 1, 320, .inl m0_31)), (h1, .inr (0, [.int qli, .int (nI qtp), .int qlw, .int qod, .int (nI qnc), .int (nI qnr), .int (nI qno), .int (nI qna), .int qdr, .int qlo, .ref qr0, .ref qr1, .ref qr2, .ref qr3, .ref qr4])), (qr1, .inl (cs 1, 25, .inl qf1)), (qr2, .inl (cs 1, 20, .inl qf2))] → va_S A s.heap H locs → lv_has ls 5 [(4, .int (nI i_31)), (3, .int (nI i_28)), (2, .int (nI v2_3)), (0, .ref aS), (1, .ref h1)] → W p l e (mRm 3 0 0 73) s m ([.ref aS, .ref h1] : List Value).toArray below meth c H locs 0 0 (MQ below (va_Qv (fun (u : Nat × Nat × Nat × Int64 × (Nat → Int32) × (Nat → Int32) × (Nat → Int64) × (Nat → Int32)) => (u.1 ≤ 64) ∧ (u.2.1 ≤ 3) ∧ (u.2.2.1 ≤ 3) ∧ (RES u.2.2.2.2.2.2.2)) (mpost D A (fun (u : Nat × Nat × Nat × Int64 × (Nat → Int32) × (Nat → Int32) × (Nat → Int64) × (Nat → Int32)) => [(aS, .inr (6, [.int (nI u.1), .int (nI u.2.1), .int (nI u.2.2.1), .long u.2.2.2.1, .ref s1, .ref s2, .ref s3, .ref s4])), (s1, .inl (cs 1, 3, .inl u.2.2.2.2.1)), (s2, .inl (cs 1, 64, .inl u.2.2.2.2.2.1)), (s3, .inl (cs 2, 5, .inr (.inl u.2.2.2.2.2.2.1))), (s4, .inl (cs 1, 320, .inl u.2.2.2.2.2.2.2)), (h1, .inr (0, [.int qli, .int (nI qtp), .int qlw, .int qod, .int (nI qnc), .int (nI qnr), .int (nI qno), .int (nI qna), .int qdr, .int qlo, .ref qr0, .ref qr1, .ref qr2, .ref qr3, .ref qr4])), (qr1, .inl (cs 1, 25, .inl qf1)), (qr2, .inl (cs 1, 20, .inl qf2))])) A) ([.ref aS, .ref h1] : List Value).toArray s 0 0 A) (F0 m 181 ls []) := by
                                  intro nfu
                                  induction nfu with
                                  | zero => intro i_31 m0_31 H locs ls hi_31 hv0_31 hmu; exact absurd hmu (Nat.not_lt_zero _)
                                  | succ nfu ih =>
                                    intro i_31 m0_31 H locs ls hi_31 hv0_31 hmu hP hD hS hl
                                    have ih_lp_32 := @ih
                                    refine lv_iload hx hb dX6_load_181 (lv_at hl 0 rfl) ?_
                                    refine lv_aload_n hx hb dX6_load_183 rfl (lv_at hl 3 rfl) ?_
                                    refine va_get (D := D) (ci := 6) (v := .int (nI v2_3)) (C := RX6) (T := TX6) (N := 8) hx hb hts iuX6_load_X6 hown hK hP 0 rfl rfl 0 (by decide) (htw (.fieldLink RX6 9 "MergeJudge$Space" "size" "I") (List.mem_of_getElem? (i := 0) rfl)) (fun _ h9 => h9) rfl dX6_load_184 ?_
                                    refine lv_icmp_ge (tgt := 221) hx hb dX6_load_187 (by decide) (fun c_33 => ?_) (fun c_33 => ?_)
                                    ·
                                      have hn_33 := bge_t (a := i_31) (b := v2_3) c_33 (by omega) (by omega)
                                      refine lv_iinc (v := (nI (i_28 + 1))) (lv' := [(3, .int (nI (i_28 + 1))), (4, .int (nI i_31)), (2, .int (nI v2_3)), (0, .ref aS), (1, .ref h1)]) hx hb dX6_load_221 hl (k := 1) rfl (nI_1 _) (by decide) rfl (fun ls hl => ?_)
                                      refine lv_goto (tgt := 170) hx hb dX6_load_224 (by decide) ?_
                                      exact ih_lp_29 (i_28 + 1) m0_31 H locs ls (by omega) (by first | assumption | exact res_n (by assumption) | exact res_j (by assumption) (by omega)) (by omega) (hP.sub [0, 1, 2, 3, 4, 5, 6, 7] rfl) (hD.sub [0, 1, 2, 3, 4, 5, 6, 7] (by decide) rfl) hS (lv_sub hl [0, 2, 3, 4] rfl)
                                    ·
                                      have hn_33 := bge_f (a := i_31) (b := v2_3) c_33 (by omega) (by omega)
                                      refine lv_aload_n hx hb dX6_load_190 rfl (lv_at hl 3 rfl) ?_
                                      refine va_get (D := D) (ci := 6) (v := .ref s4) (C := RX6) (T := TX6) (N := 8) hx hb hts iuX6_load_X6 hown hK hP 0 rfl rfl 7 (by decide) (htw (.fieldLink RX6 36 "MergeJudge$Space" "results" "[I") (List.mem_of_getElem? (i := 21) rfl)) (fun _ h9 => h9) rfl dX6_load_191 ?_
                                      refine lv_iload_n hx hb dX6_load_194 rfl (lv_at hl 1 rfl) ?_
                                      refine lv_bipush (v := 64) hx hb dX6_load_195 (by decide) ?_
                                      refine lv_imul hx hb dX6_load_197 ?_
                                      refine cf_i (nI (i_28 * 64)) (pk_mul i_28 64) ?_
                                      refine lv_iload hx hb dX6_load_198 (lv_at hl 0 rfl) ?_
                                      refine lv_iadd hx hb dX6_load_200 ?_
                                      refine cf_i (nI ((i_28 * 64) + i_31)) (nI_add (i_28 * 64) i_31) ?_
                                      refine lv_aload_n hx hb dX6_load_201 rfl (lv_at hl 3 rfl) ?_
                                      refine lv_aload_n hx hb dX6_load_202 rfl (lv_at hl 4 rfl) ?_
                                      refine va_get (D := D) (ci := 0) (v := .ref qr2) (C := RX0) (T := TX0) (N := 15) hx hb hts iuX6_load_X0 hown hK hP 5 rfl rfl 12 (by decide) (htw (.fieldLink RX6 65 "MergeJudge$Base" "opRows" "[I") (List.mem_of_getElem? (i := 22) rfl)) (fun _ h9 => h9) rfl dX6_load_203 ?_
                                      refine lv_iload_n hx hb dX6_load_206 rfl (lv_at hl 1 rfl) ?_
                                      refine lv_iconst (v := 4) hx hb dX6_load_207 (by decide) ?_
                                      refine lv_imul hx hb dX6_load_208 ?_
                                      refine cf_i (nI (i_28 * 4)) (pk_mul i_28 4) ?_
                                      refine lv_iload hx hb dX6_load_209 (lv_at hl 0 rfl) ?_
                                      refine aft_i (wr := [(s3, .inl (cs 2, 5, .inr (.inl m0_25))), (s4, .inl (cs 1, 320, .inl m0_31)), (h1, .inr (0, [.int qli, .int (nI qtp), .int qlw, .int qod, .int (nI qnc), .int (nI qnr), .int (nI qno), .int (nI qna), .int qdr, .int qlo, .ref qr0, .ref qr1, .ref qr2, .ref qr3, .ref qr4])), (qr1, .inl (cs 1, 25, .inl qf1))]) hP hD hS hA [0, 1, 2, 7] [3, 4, 5, 6] rfl rfl (by decide) (by decide) (run_v (As := [.ref qr2, .int (nI (i_28 * 4)), .int (nI i_31)]) (rest := [.int (nI ((i_28 * 64) + i_31)), .ref s4]) hFix hK hE hP hD [0, 1, 2, 7] (k_X6_resultOf l D cs _ aS qr2 (i_28 * 4) i_31 (-1) s1 s2 s3 s4 m0_3 m0_22 qf2 v2_3 qnc qtp (by first | assumption | decide | omega) (by first | assumption | decide | omega) (by first | assumption | decide | omega) (by first | assumption | decide | omega) (by first | assumption | decide | omega) (by first | assumption | decide | omega) (by first | assumption | decide | omega) (by first | assumption | decide | omega)) (cwV 3 hts gc_X6_load_68_X6_resultOf rfl rfl rfl (by decide +kernel) ⟨Nat.le_of_ble_eq_true rfl, Nat.le_of_ble_eq_true rfl⟩) rfl (by decide) rfl rfl rfl hl.1 rfl (Nat.le_of_ble_eq_true rfl) dX6_load_211 ⟨Nat.le_of_ble_eq_true rfl, Nat.le_of_ble_eq_true rfl⟩) (fun r_34 u_34 H locs hq_34 hP hD hS => ?_)
                                      obtain ⟨j_34, rfl⟩ : ∃ z, z = u_34 := ⟨_, rfl⟩
                                      have hP : va_P D vwCl [(s3, .inl (cs 2, 5, .inr (.inl m0_25))), (s4, .inl (cs 1, 320, .inl m0_31)), (h1, .inr (0, [.int qli, .int (nI qtp), .int qlw, .int qod, .int (nI qnc), .int (nI qnr), .int (nI qno), .int (nI qna), .int qdr, .int qlo, .ref qr0, .ref qr1, .ref qr2, .ref qr3, .ref qr4])), (qr1, .inl (cs 1, 25, .inl qf1)), (aS, .inr (6, [.int (nI v2_3), .int (nI qnc), .int (nI qtp), .long (-1), .ref s1, .ref s2, .ref s3, .ref s4])), (s1, .inl (cs 1, 3, .inl m0_3)), (s2, .inl (cs 1, 64, .inl m0_22)), (qr2, .inl (cs 1, 20, .inl qf2))] H := hP
                                      have hD : va_D A [(s3, .inl (cs 2, 5, .inr (.inl m0_25))), (s4, .inl (cs 1, 320, .inl m0_31)), (h1, .inr (0, [.int qli, .int (nI qtp), .int qlw, .int qod, .int (nI qnc), .int (nI qnr), .int (nI qno), .int (nI qna), .int qdr, .int qlo, .ref qr0, .ref qr1, .ref qr2, .ref qr3, .ref qr4])), (qr1, .inl (cs 1, 25, .inl qf1)), (aS, .inr (6, [.int (nI v2_3), .int (nI qnc), .int (nI qtp), .long (-1), .ref s1, .ref s2, .ref s3, .ref s4])), (s1, .inl (cs 1, 3, .inl m0_3)), (s2, .inl (cs 1, 64, .inl m0_22)), (qr2, .inl (cs 1, 20, .inl qf2))] := hD
                                      replace hq_34 : ((r_34 = (-1) ∧ True) ∨ (r_34 = nI j_34 ∧ j_34 < (qtp + 1) ^ qnc)) := hq_34
                                      rcases hq_34 with ⟨rfl, hq_34⟩ | ⟨rfl, hq_34⟩
                                      ·
                                        refine va_iast hx hb hK hP hD hS 1 1 rfl rfl (vp_in_nI (by omega) (by omega)) dX6_load_214 (fun H locs hP hD hS => ?_)
                                        have hP : va_P D vwCl [(s3, .inl (cs 2, 5, .inr (.inl m0_25))), (s4, .inl (cs 1, 320, .inl (upd m0_31 ((nI ((i_28 * 64) + i_31)).toNatClampNeg) (-1)))), (h1, .inr (0, [.int qli, .int (nI qtp), .int qlw, .int qod, .int (nI qnc), .int (nI qnr), .int (nI qno), .int (nI qna), .int qdr, .int qlo, .ref qr0, .ref qr1, .ref qr2, .ref qr3, .ref qr4])), (qr1, .inl (cs 1, 25, .inl qf1)), (aS, .inr (6, [.int (nI v2_3), .int (nI qnc), .int (nI qtp), .long (-1), .ref s1, .ref s2, .ref s3, .ref s4])), (s1, .inl (cs 1, 3, .inl m0_3)), (s2, .inl (cs 1, 64, .inl m0_22)), (qr2, .inl (cs 1, 20, .inl qf2))] H := hP
                                        have hD : va_D A [(s3, .inl (cs 2, 5, .inr (.inl m0_25))), (s4, .inl (cs 1, 320, .inl (upd m0_31 ((nI ((i_28 * 64) + i_31)).toNatClampNeg) (-1)))), (h1, .inr (0, [.int qli, .int (nI qtp), .int qlw, .int qod, .int (nI qnc), .int (nI qnr), .int (nI qno), .int (nI qna), .int qdr, .int qlo, .ref qr0, .ref qr1, .ref qr2, .ref qr3, .ref qr4])), (qr1, .inl (cs 1, 25, .inl qf1)), (aS, .inr (6, [.int (nI v2_3), .int (nI qnc), .int (nI qtp), .long (-1), .ref s1, .ref s2, .ref s3, .ref s4])), (s1, .inl (cs 1, 3, .inl m0_3)), (s2, .inl (cs 1, 64, .inl m0_22)), (qr2, .inl (cs 1, 20, .inl qf2))] := hD
                                        refine lv_iinc (v := (nI (i_31 + 1))) (lv' := [(4, .int (nI (i_31 + 1))), (3, .int (nI i_28)), (2, .int (nI v2_3)), (0, .ref aS), (1, .ref h1)]) hx hb dX6_load_215 hl (k := 0) rfl (nI_1 _) (by decide) rfl (fun ls hl => ?_)
                                        refine lv_goto (tgt := 181) hx hb dX6_load_218 (by decide) ?_
                                        exact ih_lp_32 (i_31 + 1) (upd m0_31 ((nI ((i_28 * 64) + i_31)).toNatClampNeg) (-1)) H locs ls (by omega) (by first | assumption | exact res_n (by assumption) | exact res_j (by assumption) (by omega)) (by omega) (hP.sub [4, 5, 6, 0, 1, 2, 3, 7] rfl) (hD.sub [4, 5, 6, 0, 1, 2, 3, 7] (by decide) rfl) hS (lv_sub hl [0, 1, 2, 3, 4] rfl)
                                      ·
                                        refine va_iast hx hb hK hP hD hS 1 1 rfl rfl (vp_in_nI (by omega) (by omega)) dX6_load_214 (fun H locs hP hD hS => ?_)
                                        have hP : va_P D vwCl [(s3, .inl (cs 2, 5, .inr (.inl m0_25))), (s4, .inl (cs 1, 320, .inl (upd m0_31 ((nI ((i_28 * 64) + i_31)).toNatClampNeg) (nI j_34)))), (h1, .inr (0, [.int qli, .int (nI qtp), .int qlw, .int qod, .int (nI qnc), .int (nI qnr), .int (nI qno), .int (nI qna), .int qdr, .int qlo, .ref qr0, .ref qr1, .ref qr2, .ref qr3, .ref qr4])), (qr1, .inl (cs 1, 25, .inl qf1)), (aS, .inr (6, [.int (nI v2_3), .int (nI qnc), .int (nI qtp), .long (-1), .ref s1, .ref s2, .ref s3, .ref s4])), (s1, .inl (cs 1, 3, .inl m0_3)), (s2, .inl (cs 1, 64, .inl m0_22)), (qr2, .inl (cs 1, 20, .inl qf2))] H := hP
                                        have hD : va_D A [(s3, .inl (cs 2, 5, .inr (.inl m0_25))), (s4, .inl (cs 1, 320, .inl (upd m0_31 ((nI ((i_28 * 64) + i_31)).toNatClampNeg) (nI j_34)))), (h1, .inr (0, [.int qli, .int (nI qtp), .int qlw, .int qod, .int (nI qnc), .int (nI qnr), .int (nI qno), .int (nI qna), .int qdr, .int qlo, .ref qr0, .ref qr1, .ref qr2, .ref qr3, .ref qr4])), (qr1, .inl (cs 1, 25, .inl qf1)), (aS, .inr (6, [.int (nI v2_3), .int (nI qnc), .int (nI qtp), .long (-1), .ref s1, .ref s2, .ref s3, .ref s4])), (s1, .inl (cs 1, 3, .inl m0_3)), (s2, .inl (cs 1, 64, .inl m0_22)), (qr2, .inl (cs 1, 20, .inl qf2))] := hD
                                        refine lv_iinc (v := (nI (i_31 + 1))) (lv' := [(4, .int (nI (i_31 + 1))), (3, .int (nI i_28)), (2, .int (nI v2_3)), (0, .ref aS), (1, .ref h1)]) hx hb dX6_load_215 hl (k := 0) rfl (nI_1 _) (by decide) rfl (fun ls hl => ?_)
                                        refine lv_goto (tgt := 181) hx hb dX6_load_218 (by decide) ?_
                                        exact ih_lp_32 (i_31 + 1) (upd m0_31 ((nI ((i_28 * 64) + i_31)).toNatClampNeg) (nI j_34)) H locs ls (by omega) (by first | assumption | exact res_n (by assumption) | exact res_j (by assumption) (by omega)) (by omega) (hP.sub [4, 5, 6, 0, 1, 2, 3, 7] rfl) (hD.sub [4, 5, 6, 0, 1, 2, 3, 7] (by decide) rfl) hS (lv_sub hl [0, 1, 2, 3, 4] rfl)
                                exact lp_32 _ 0 m0_28 H locs ls (by omega) (by first | assumption | omega) (Nat.lt_succ_self _) (hP.sub [0, 1, 2, 3, 4, 5, 6, 7] rfl) (hD.sub [0, 1, 2, 3, 4, 5, 6, 7] (by decide) rfl) hS (lv_sub hl [0, 1, 2, 3, 4] rfl)
                          exact lp_29 _ 0 fr H locs ls (by omega) (by first | assumption | omega) (Nat.lt_succ_self _) (hP.sub [0, 1, 2, 3, 4, 5, 6, 7] rfl) (hD.sub [0, 1, 2, 3, 4, 5, 6, 7] (by decide) rfl) hS (lv_sub hl [0, 1, 2, 3] rfl)
                        ·
                          have hn_27 := bge_f (a := i_25) (b := qnr) c_27 (by omega) (by omega)
                          refine lv_aload_n hx hb dX6_load_145 rfl (lv_at hl 2 rfl) ?_
                          refine va_get (D := D) (ci := 6) (v := .ref s3) (C := RX6) (T := TX6) (N := 8) hx hb hts iuX6_load_X6 hown hK hP 0 rfl rfl 6 (by decide) (htw (.fieldLink RX6 32 "MergeJudge$Space" "holding" "[J") (List.mem_of_getElem? (i := 15) rfl)) (fun _ h9 => h9) rfl dX6_load_146 ?_
                          refine lv_iload_n hx hb dX6_load_149 rfl (lv_at hl 0 rfl) ?_
                          refine lv_aload_n hx hb dX6_load_150 rfl (lv_at hl 2 rfl) ?_
                          refine lv_aload_n hx hb dX6_load_151 rfl (lv_at hl 3 rfl) ?_
                          refine va_get (D := D) (ci := 0) (v := .ref qr1) (C := RX0) (T := TX0) (N := 15) hx hb hts iuX6_load_X0 hown hK hP 5 rfl rfl 11 (by decide) (htw (.fieldLink RX6 55 "MergeJudge$Base" "ruleRows" "[I") (List.mem_of_getElem? (i := 16) rfl)) (fun _ h9 => h9) rfl dX6_load_152 ?_
                          refine lv_iload_n hx hb dX6_load_155 rfl (lv_at hl 0 rfl) ?_
                          refine lv_iconst (v := 5) hx hb dX6_load_156 (by decide) ?_
                          refine lv_imul hx hb dX6_load_157 ?_
                          refine cf_i (nI (i_25 * 5)) (pk_mul i_25 5) ?_
                          refine aft_l (wr := [(s1, .inl (cs 1, 3, .inl m0_3)), (s3, .inl (cs 2, 5, .inr (.inl m0_25))), (s4, .inl (cs 1, 320, .inl fr)), (h1, .inr (0, [.int qli, .int (nI qtp), .int qlw, .int qod, .int (nI qnc), .int (nI qnr), .int (nI qno), .int (nI qna), .int qdr, .int qlo, .ref qr0, .ref qr1, .ref qr2, .ref qr3, .ref qr4])), (qr2, .inl (cs 1, 20, .inl qf2))]) hP hD hS hA [0, 2, 6] [1, 3, 4, 5, 7] rfl rfl (by decide) (by decide) (run_v (As := [.ref qr1, .int (nI (i_25 * 5))]) (rest := [.int (nI i_25), .ref s3]) hFix hK hE hP hD [0, 2, 6] (k_X6_holdersOf l D cs _ aS qr1 (i_25 * 5) (-1) s1 s2 s3 s4 m0_22 qf1 v2_3 qnc qtp (by first | assumption | decide | omega) (by first | assumption | decide | omega) (by first | assumption | decide | omega) (by first | assumption | decide | omega)) (cwV 2 hts gc_X6_load_58_X6_holdersOf rfl rfl rfl (by decide +kernel) ⟨Nat.le_of_ble_eq_true rfl, Nat.le_of_ble_eq_true rfl⟩) rfl (by decide) rfl rfl rfl hl.1 rfl (Nat.le_of_ble_eq_true rfl) dX6_load_158 ⟨Nat.le_of_ble_eq_true rfl, Nat.le_of_ble_eq_true rfl⟩) (fun r_35 u_35 H locs hq_35 hP hD hS => ?_)
                          have hP : va_P D vwCl [(s1, .inl (cs 1, 3, .inl m0_3)), (s3, .inl (cs 2, 5, .inr (.inl m0_25))), (s4, .inl (cs 1, 320, .inl fr)), (h1, .inr (0, [.int qli, .int (nI qtp), .int qlw, .int qod, .int (nI qnc), .int (nI qnr), .int (nI qno), .int (nI qna), .int qdr, .int qlo, .ref qr0, .ref qr1, .ref qr2, .ref qr3, .ref qr4])), (qr2, .inl (cs 1, 20, .inl qf2)), (aS, .inr (6, [.int (nI v2_3), .int (nI qnc), .int (nI qtp), .long (-1), .ref s1, .ref s2, .ref s3, .ref s4])), (s2, .inl (cs 1, 64, .inl m0_22)), (qr1, .inl (cs 1, 25, .inl qf1))] H := hP
                          have hD : va_D A [(s1, .inl (cs 1, 3, .inl m0_3)), (s3, .inl (cs 2, 5, .inr (.inl m0_25))), (s4, .inl (cs 1, 320, .inl fr)), (h1, .inr (0, [.int qli, .int (nI qtp), .int qlw, .int qod, .int (nI qnc), .int (nI qnr), .int (nI qno), .int (nI qna), .int qdr, .int qlo, .ref qr0, .ref qr1, .ref qr2, .ref qr3, .ref qr4])), (qr2, .inl (cs 1, 20, .inl qf2)), (aS, .inr (6, [.int (nI v2_3), .int (nI qnc), .int (nI qtp), .long (-1), .ref s1, .ref s2, .ref s3, .ref s4])), (s2, .inl (cs 1, 64, .inl m0_22)), (qr1, .inl (cs 1, 25, .inl qf1))] := hD
                          refine va_last hx hb hK hP hD hS 1 2 rfl rfl (vp_in_nI (by omega) (by omega)) dX6_load_161 (fun H locs hP hD hS => ?_)
                          have hP : va_P D vwCl [(s1, .inl (cs 1, 3, .inl m0_3)), (s3, .inl (cs 2, 5, .inr (.inl (vp_updL m0_25 ((nI i_25).toNatClampNeg) r_35)))), (s4, .inl (cs 1, 320, .inl fr)), (h1, .inr (0, [.int qli, .int (nI qtp), .int qlw, .int qod, .int (nI qnc), .int (nI qnr), .int (nI qno), .int (nI qna), .int qdr, .int qlo, .ref qr0, .ref qr1, .ref qr2, .ref qr3, .ref qr4])), (qr2, .inl (cs 1, 20, .inl qf2)), (aS, .inr (6, [.int (nI v2_3), .int (nI qnc), .int (nI qtp), .long (-1), .ref s1, .ref s2, .ref s3, .ref s4])), (s2, .inl (cs 1, 64, .inl m0_22)), (qr1, .inl (cs 1, 25, .inl qf1))] H := hP
                          have hD : va_D A [(s1, .inl (cs 1, 3, .inl m0_3)), (s3, .inl (cs 2, 5, .inr (.inl (vp_updL m0_25 ((nI i_25).toNatClampNeg) r_35)))), (s4, .inl (cs 1, 320, .inl fr)), (h1, .inr (0, [.int qli, .int (nI qtp), .int qlw, .int qod, .int (nI qnc), .int (nI qnr), .int (nI qno), .int (nI qna), .int qdr, .int qlo, .ref qr0, .ref qr1, .ref qr2, .ref qr3, .ref qr4])), (qr2, .inl (cs 1, 20, .inl qf2)), (aS, .inr (6, [.int (nI v2_3), .int (nI qnc), .int (nI qtp), .long (-1), .ref s1, .ref s2, .ref s3, .ref s4])), (s2, .inl (cs 1, 64, .inl m0_22)), (qr1, .inl (cs 1, 25, .inl qf1))] := hD
                          refine lv_iinc (v := (nI (i_25 + 1))) (lv' := [(3, .int (nI (i_25 + 1))), (2, .int (nI v2_3)), (0, .ref aS), (1, .ref h1)]) hx hb dX6_load_162 hl (k := 0) rfl (nI_1 _) (by decide) rfl (fun ls hl => ?_)
                          refine lv_goto (tgt := 137) hx hb dX6_load_165 (by decide) ?_
                          exact ih_lp_26 (i_25 + 1) (vp_updL m0_25 ((nI i_25).toNatClampNeg) r_35) H locs ls (by omega) (by omega) (hP.sub [5, 0, 6, 1, 2, 3, 7, 4] rfl) (hD.sub [5, 0, 6, 1, 2, 3, 7, 4] (by decide) rfl) hS (lv_sub hl [0, 1, 2, 3] rfl)
                    exact lp_26 _ 0 fh H locs ls (by omega) (Nat.lt_succ_self _) (hP.sub [0, 1, 2, 3, 4, 5, 6, 7] rfl) (hD.sub [0, 1, 2, 3, 4, 5, 6, 7] (by decide) rfl) hS (lv_sub hl [0, 1, 2, 3] rfl)
                  ·
                    have hn_24 := bge_f (a := i_22) (b := v2_3) c_24 (by omega) (by omega)
                    refine lv_aload_n hx hb dX6_load_118 rfl (lv_at hl 2 rfl) ?_
                    refine va_get (D := D) (ci := 6) (v := .ref s2) (C := RX6) (T := TX6) (N := 8) hx hb hts iuX6_load_X6 hown hK hP 0 rfl rfl 5 (by decide) (htw (.fieldLink RX6 29 "MergeJudge$Space" "packed" "[I") (List.mem_of_getElem? (i := 9) rfl)) (fun _ h9 => h9) rfl dX6_load_119 ?_
                    refine lv_iload_n hx hb dX6_load_122 rfl (lv_at hl 0 rfl) ?_
                    refine lv_aload_n hx hb dX6_load_123 rfl (lv_at hl 2 rfl) ?_
                    refine lv_iload_n hx hb dX6_load_124 rfl (lv_at hl 0 rfl) ?_
                    refine aft_i (wr := [(s1, .inl (cs 1, 3, .inl m0_3)), (s2, .inl (cs 1, 64, .inl m0_22)), (s3, .inl (cs 2, 5, .inr (.inl fh))), (s4, .inl (cs 1, 320, .inl fr)), (h1, .inr (0, [.int qli, .int (nI qtp), .int qlw, .int qod, .int (nI qnc), .int (nI qnr), .int (nI qno), .int (nI qna), .int qdr, .int qlo, .ref qr0, .ref qr1, .ref qr2, .ref qr3, .ref qr4])), (qr1, .inl (cs 1, 25, .inl qf1)), (qr2, .inl (cs 1, 20, .inl qf2))]) hP hD hS hA [0] [1, 2, 3, 4, 5, 6, 7] rfl rfl (by decide) (by decide) (run_v (As := [.int (nI i_22)]) (rest := [.int (nI i_22), .ref s2]) hFix hK hE hP hD [0] (k_X6_packedOf l D cs _ aS i_22 (-1) s1 s2 s3 s4 v2_3 qnc qtp (by first | assumption | decide | omega) (by first | assumption | decide | omega) (by first | assumption | decide | omega) (by first | assumption | decide | omega)) (cwV 1 hts gc_X6_load_48_X6_packedOf rfl rfl rfl (by decide +kernel) ⟨Nat.le_of_ble_eq_true rfl, Nat.le_of_ble_eq_true rfl⟩) rfl (by decide) rfl rfl rfl hl.1 rfl (Nat.le_of_ble_eq_true rfl) dX6_load_125 ⟨Nat.le_of_ble_eq_true rfl, Nat.le_of_ble_eq_true rfl⟩) (fun r_36 u_36 H locs hq_36 hP hD hS => ?_)
                    have hP : va_P D vwCl [(s1, .inl (cs 1, 3, .inl m0_3)), (s2, .inl (cs 1, 64, .inl m0_22)), (s3, .inl (cs 2, 5, .inr (.inl fh))), (s4, .inl (cs 1, 320, .inl fr)), (h1, .inr (0, [.int qli, .int (nI qtp), .int qlw, .int qod, .int (nI qnc), .int (nI qnr), .int (nI qno), .int (nI qna), .int qdr, .int qlo, .ref qr0, .ref qr1, .ref qr2, .ref qr3, .ref qr4])), (qr1, .inl (cs 1, 25, .inl qf1)), (qr2, .inl (cs 1, 20, .inl qf2)), (aS, .inr (6, [.int (nI v2_3), .int (nI qnc), .int (nI qtp), .long (-1), .ref s1, .ref s2, .ref s3, .ref s4]))] H := hP
                    have hD : va_D A [(s1, .inl (cs 1, 3, .inl m0_3)), (s2, .inl (cs 1, 64, .inl m0_22)), (s3, .inl (cs 2, 5, .inr (.inl fh))), (s4, .inl (cs 1, 320, .inl fr)), (h1, .inr (0, [.int qli, .int (nI qtp), .int qlw, .int qod, .int (nI qnc), .int (nI qnr), .int (nI qno), .int (nI qna), .int qdr, .int qlo, .ref qr0, .ref qr1, .ref qr2, .ref qr3, .ref qr4])), (qr1, .inl (cs 1, 25, .inl qf1)), (qr2, .inl (cs 1, 20, .inl qf2)), (aS, .inr (6, [.int (nI v2_3), .int (nI qnc), .int (nI qtp), .long (-1), .ref s1, .ref s2, .ref s3, .ref s4]))] := hD
                    replace hq_36 : r_36 = pkF (qtp + 1) qnc i_22 := hq_36
                    subst hq_36
                    refine va_iast hx hb hK hP hD hS 1 1 rfl rfl (vp_in_nI (by omega) (by omega)) dX6_load_128 (fun H locs hP hD hS => ?_)
                    have hP : va_P D vwCl [(s1, .inl (cs 1, 3, .inl m0_3)), (s2, .inl (cs 1, 64, .inl (upd m0_22 ((nI i_22).toNatClampNeg) (pkF (qtp + 1) qnc i_22)))), (s3, .inl (cs 2, 5, .inr (.inl fh))), (s4, .inl (cs 1, 320, .inl fr)), (h1, .inr (0, [.int qli, .int (nI qtp), .int qlw, .int qod, .int (nI qnc), .int (nI qnr), .int (nI qno), .int (nI qna), .int qdr, .int qlo, .ref qr0, .ref qr1, .ref qr2, .ref qr3, .ref qr4])), (qr1, .inl (cs 1, 25, .inl qf1)), (qr2, .inl (cs 1, 20, .inl qf2)), (aS, .inr (6, [.int (nI v2_3), .int (nI qnc), .int (nI qtp), .long (-1), .ref s1, .ref s2, .ref s3, .ref s4]))] H := hP
                    have hD : va_D A [(s1, .inl (cs 1, 3, .inl m0_3)), (s2, .inl (cs 1, 64, .inl (upd m0_22 ((nI i_22).toNatClampNeg) (pkF (qtp + 1) qnc i_22)))), (s3, .inl (cs 2, 5, .inr (.inl fh))), (s4, .inl (cs 1, 320, .inl fr)), (h1, .inr (0, [.int qli, .int (nI qtp), .int qlw, .int qod, .int (nI qnc), .int (nI qnr), .int (nI qno), .int (nI qna), .int qdr, .int qlo, .ref qr0, .ref qr1, .ref qr2, .ref qr3, .ref qr4])), (qr1, .inl (cs 1, 25, .inl qf1)), (qr2, .inl (cs 1, 20, .inl qf2)), (aS, .inr (6, [.int (nI v2_3), .int (nI qnc), .int (nI qtp), .long (-1), .ref s1, .ref s2, .ref s3, .ref s4]))] := hD
                    refine lv_iinc (v := (nI (i_22 + 1))) (lv' := [(3, .int (nI (i_22 + 1))), (2, .int (nI v2_3)), (0, .ref aS), (1, .ref h1)]) hx hb dX6_load_129 hl (k := 0) rfl (nI_1 _) (by decide) rfl (fun ls hl => ?_)
                    refine lv_goto (tgt := 110) hx hb dX6_load_132 (by decide) ?_
                    exact ih_lp_23 (i_22 + 1) (upd m0_22 ((nI i_22).toNatClampNeg) (pkF (qtp + 1) qnc i_22)) H locs ls (by omega) (pkd_put hv0_22 (by omega) rfl) (by omega) (hP.sub [7, 0, 1, 2, 3, 4, 5, 6] rfl) (hD.sub [7, 0, 1, 2, 3, 4, 5, 6] (by decide) rfl) hS (lv_sub hl [0, 1, 2, 3] rfl)
              exact lp_23 _ 0 fa H locs ls (by omega) (fun k hk => absurd hk (Nat.not_lt_zero k)) (Nat.lt_succ_self _) (hP.sub [0, 1, 2, 3, 4, 5, 6, 7] rfl) (hD.sub [0, 1, 2, 3, 4, 5, 6, 7] (by decide) rfl) hS (lv_sub hl [0, 1, 2, 3] rfl)
          ·
            have hn_5 := bge_f (a := i_3) (b := qnc) c_5 (by omega) (by omega)
            refine lv_aload_n hx hb dX6_load_54 rfl (lv_at hl 2 rfl) ?_
            refine va_get (D := D) (ci := 6) (v := .ref s1) (C := RX6) (T := TX6) (N := 8) hx hb hts iuX6_load_X6 hown hK hP 0 rfl rfl 4 (by decide) (htw (.fieldLink RX6 25 "MergeJudge$Space" "place" "[I") (List.mem_of_getElem? (i := 7) rfl)) (fun _ h9 => h9) rfl dX6_load_55 ?_
            refine lv_iload_n hx hb dX6_load_58 rfl (lv_at hl 0 rfl) ?_
            refine lv_iload_n hx hb dX6_load_59 rfl (lv_at hl 1 rfl) ?_
            refine va_iast hx hb hK hP hD hS 1 1 rfl rfl (vp_in_nI (by omega) (by omega)) dX6_load_60 (fun H locs hP hD hS => ?_)
            have hP : va_P D vwCl [(aS, .inr (6, [.int 0, .int (nI qnc), .int (nI qtp), .long 0, .ref s1, .ref s2, .ref s3, .ref s4])), (s1, .inl (cs 1, 3, .inl (upd m0_3 ((nI i_3).toNatClampNeg) (nI v2_3)))), (s2, .inl (cs 1, 64, .inl fa)), (s3, .inl (cs 2, 5, .inr (.inl fh))), (s4, .inl (cs 1, 320, .inl fr)), (h1, .inr (0, [.int qli, .int (nI qtp), .int qlw, .int qod, .int (nI qnc), .int (nI qnr), .int (nI qno), .int (nI qna), .int qdr, .int qlo, .ref qr0, .ref qr1, .ref qr2, .ref qr3, .ref qr4])), (qr1, .inl (cs 1, 25, .inl qf1)), (qr2, .inl (cs 1, 20, .inl qf2))] H := hP
            have hD : va_D A [(aS, .inr (6, [.int 0, .int (nI qnc), .int (nI qtp), .long 0, .ref s1, .ref s2, .ref s3, .ref s4])), (s1, .inl (cs 1, 3, .inl (upd m0_3 ((nI i_3).toNatClampNeg) (nI v2_3)))), (s2, .inl (cs 1, 64, .inl fa)), (s3, .inl (cs 2, 5, .inr (.inl fh))), (s4, .inl (cs 1, 320, .inl fr)), (h1, .inr (0, [.int qli, .int (nI qtp), .int qlw, .int qod, .int (nI qnc), .int (nI qnr), .int (nI qno), .int (nI qna), .int qdr, .int qlo, .ref qr0, .ref qr1, .ref qr2, .ref qr3, .ref qr4])), (qr1, .inl (cs 1, 25, .inl qf1)), (qr2, .inl (cs 1, 20, .inl qf2))] := hD
            refine lv_iload_n hx hb dX6_load_61 rfl (lv_at hl 1 rfl) ?_
            refine lv_aload_n hx hb dX6_load_62 rfl (lv_at hl 2 rfl) ?_
            refine va_get (D := D) (ci := 6) (v := .int (nI qtp)) (C := RX6) (T := TX6) (N := 8) hx hb hts iuX6_load_X6 hown hK hP 0 rfl rfl 2 (by decide) (htw (.fieldLink RX6 18 "MergeJudge$Space" "top" "I") (List.mem_of_getElem? (i := 5) rfl)) (fun _ h9 => h9) rfl dX6_load_63 ?_
            refine lv_iconst (v := 1) hx hb dX6_load_66 (by decide) ?_
            refine lv_iadd hx hb dX6_load_67 ?_
            refine cf_i (nI (qtp + 1)) (nI_add qtp 1) ?_
            refine lv_imul hx hb dX6_load_68 ?_
            refine cf_i (nI (v2_3 * (qtp + 1))) (pk_mul v2_3 (qtp + 1)) ?_
            refine lv_istore_n (lv' := [(2, .int (nI (v2_3 * (qtp + 1)))), (3, .int (nI i_3)), (0, .ref aS), (1, .ref h1)]) hx hb dX6_load_69 rfl hl (by decide) rfl (fun ls hl => ?_)
            refine lv_iinc (v := (nI (i_3 + 1))) (lv' := [(3, .int (nI (i_3 + 1))), (2, .int (nI (v2_3 * (qtp + 1)))), (0, .ref aS), (1, .ref h1)]) hx hb dX6_load_70 hl (k := 1) rfl (nI_1 _) (by decide) rfl (fun ls hl => ?_)
            refine lv_goto (tgt := 46) hx hb dX6_load_73 (by decide) ?_
            exact ih_lp_4 (i_3 + 1) (v2_3 * (qtp + 1)) (upd m0_3 ((nI i_3).toNatClampNeg) (nI v2_3)) H locs ls (by omega) (pw_s hv0_3) (plc_put hv1_3 (by omega) hv0_3) (by omega) (hP.sub [0, 1, 2, 3, 4, 5, 6, 7] rfl) (hD.sub [0, 1, 2, 3, 4, 5, 6, 7] (by decide) rfl) hS (lv_sub hl [0, 1, 2, 3] rfl)
      exact lp_4 _ 0 1 fp H locs ls (by omega) (Nat.pow_zero _).symm (fun k hk => absurd hk (Nat.not_lt_zero k)) (Nat.lt_succ_self _) (hP.sub [0, 1, 2, 3, 4, 5, 6, 7] rfl) (hD.sub [0, 1, 2, 3, 4, 5, 6, 7] (by decide) rfl) hS (lv_sub hl [0, 1, 2, 3] rfl)
    ·
      have hn_2 := bge_f (a := qtp) (b := 1) c_2 (by omega) (by omega)
      exact ret_v hx hb hr hlk hS (Nat.le_of_ble_eq_true rfl) (Nat.le_of_ble_eq_true rfl) (0, qnc, qtp, 0, fp, fa, fh, fr) (⟨(by omega), (by omega), (by omega), (by assumption)⟩) (hP.sub [0, 1, 2, 3, 4, 5, 6, 7] rfl) (hD.sub [0, 1, 2, 3, 4, 5, 6, 7] (by decide) rfl) dX6_load_41
