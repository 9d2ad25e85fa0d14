set_option maxHeartbeats 4000000 in
set_option maxRecDepth 100000 in
theorem k_X4_cellKind_f (l : Launch) (D : va_G) (cs : Nat → ClassId) (sz : Nat) (aK aV : Nat → Nat) (aR : Nat) (aT : Nat) (aD : Nat) (rt : Int32) (rn : Int32) (rp : Int32) (rk : Int32) (rf : Int32) (tb : Nat) (ft : Nat → Int32) (rs : Nat) (ra : Nat) (nt : Nat) (hnt : nt ≤ 400) (hrt : ra ≤ nt) (hrs : rs ≤ ra) (htk : TKc ft nt rs ra rt rn) : Si l D cs aK aV yX4_cellKind W_X4_cellKind 5 107 0 0 [.ref aR] [(aR, .inr (4, [.ref aT, .ref aD, .int rt, .int (nI rs), .int (nI ra), .int rn, .int rp, .int rk, .int rf])), (aT, .inr (7, [.ref tb, .int (nI nt)])), (tb, .inl (cs 0, 400, .inl ft))] sz (fun (r : Int32) (u : Unit) => ((r = (-1) ∧ kdS ft nt rs [5, 6, 7, 8] = 4) ∨ (r = 0 ∧ kdS ft nt rs [5, 6, 7, 8] = 0) ∨ (r = 1 ∧ kdS ft nt rs [5, 6, 7, 8] = 1) ∨ (r = 2 ∧ kdS ft nt rs [5, 6, 7, 8] = 2) ∨ (r = 3 ∧ kdS ft nt rs [5, 6, 7, 8] = 3))) (fun (u : Unit) => [(aR, .inr (4, [.ref aT, .ref aD, .int rt, .int (nI rs), .int (nI ra), .int rn, .int rp, .int rk, .int rf])), (aT, .inr (7, [.ref tb, .int (nI nt)])), (tb, .inl (cs 0, 400, .inl ft))]) := by
  refine entS (D := D) (cs := cs) (y := yX4_cellKind) (ws := W_X4_cellKind) (As := [.ref aR]) (W0 := [(aR, .inr (4, [.ref aT, .ref aD, .int rt, .int (nI rs), .int (nI ra), .int rn, .int rp, .int rk, .int rf])), (aT, .inr (7, [.ref tb, .int (nI nt)])), (tb, .inl (cs 0, 400, .inl ft))]) (Qx := fun A => va_Qi (fun (r : Int32) (u : Unit) => ((r = (-1) ∧ kdS ft nt rs [5, 6, 7, 8] = 4) ∨ (r = 0 ∧ kdS ft nt rs [5, 6, 7, 8] = 0) ∨ (r = 1 ∧ kdS ft nt rs [5, 6, 7, 8] = 1) ∨ (r = 2 ∧ kdS ft nt rs [5, 6, 7, 8] = 2) ∨ (r = 3 ∧ kdS ft nt rs [5, 6, 7, 8] = 3))) (mpost D A (fun (u : Unit) => [(aR, .inr (4, [.ref aT, .ref aD, .int rt, .int (nI rs), .int (nI ra), .int rn, .int rp, .int rk, .int rf])), (aT, .inr (7, [.ref tb, .int (nI nt)])), (tb, .inl (cs 0, 400, .inl ft))])) A) (maxL := 1) (ret := (some .int)) (by decide) rfl (Nat.le_of_ble_eq_true rfl) ?_
  intro p e s m below meth c A ls hx hb hr hml hlk hown hts hin hK hE hV hP hD hA hS hl
  have hl : lv_has ls 1 [(0, .ref aR)] := hl
  generalize hHe : s.heap = H at hP
  have hS : va_S A s.heap H [] := hHe ▸ hS
  generalize hLe : ([] : List Loc) = locs at hS ⊢
  have htw : ∀ w ∈ O_X4_cellKind, w.before ([.ref aR] : List Value).toArray s = true := fun w h => hts w (List.mem_cons_of_mem _ (List.mem_append_left _ h))
  have hFix := (⟨hx, hb, hml, hown, hts⟩ : CallFix p m c _ _ s _ _ _)
  refine lv_aload_n hx hb dX4_cellKind_0 rfl (lv_at hl 0 rfl) ?_
  refine va_ldcS hx hb hown (hV.2.2.2 (RX4, 143, "max", 5) (List.mem_of_getElem? (i := 5) rfl)) dX4_cellKind_1 ?_
  refine aft_i (wr := []) hP hD hS hA [0, 1, 2] [] rfl rfl (by decide) (by decide) (run_vS (As := [.ref (aK 5)]) (rest := []) hFix hK hE hV hP hD hS hA [0, 1, 2] (k_X4_isWord_f l D cs _ aK aV aR 5 aT aD rt rn rp rk rf tb ft rs ra nt (by first | assumption | decide | omega) (by first | assumption | decide | omega) (by first | assumption | decide | omega) (by first | assumption | decide | omega) (by first | assumption | decide | omega)) (cwV 1 hts gc_X4_cellKind_61_X4_isWord rfl rfl rfl (by decide +kernel) ⟨Nat.le_of_ble_eq_true rfl, Nat.le_of_ble_eq_true rfl⟩) rfl (by decide) (rcv (ci := 4) (T := TX4) (NN := 9) (wc := [(aR, .inr (4, [.ref aT, .ref aD, .int rt, .int (nI rs), .int (nI ra), .int rn, .int rp, .int rk, .int rf])), (aT, .inr (7, [.ref tb, .int (nI nt)])), (tb, .inl (cs 0, 400, .inl ft))]) hK hP [0, 1, 2] rfl rfl rfl) rfl hl.1 rfl (Nat.le_of_ble_eq_true rfl) dX4_cellKind_3 ⟨Nat.le_of_ble_eq_true rfl, Nat.le_of_ble_eq_true rfl⟩) (fun r_1 u_1 H locs hq_1 hP hD hS => ?_)
  have hP : va_P D vwCl [(aR, .inr (4, [.ref aT, .ref aD, .int rt, .int (nI rs), .int (nI ra), .int rn, .int rp, .int rk, .int rf])), (aT, .inr (7, [.ref tb, .int (nI nt)])), (tb, .inl (cs 0, 400, .inl ft))] H := hP
  have hD : va_D A [(aR, .inr (4, [.ref aT, .ref aD, .int rt, .int (nI rs), .int (nI ra), .int rn, .int rp, .int rk, .int rf])), (aT, .inr (7, [.ref tb, .int (nI nt)])), (tb, .inl (cs 0, 400, .inl ft))] := hD
  replace hq_1 : ((r_1 = 1 ∧ WD ft nt rs 5) ∨ (r_1 = 0 ∧ ¬ WD ft nt rs 5)) := hq_1
  rcases hq_1 with ⟨rfl, hq_1⟩ | ⟨rfl, hq_1⟩
  ·
    refine lv_if_eq (tgt := 13) hx hb dX4_cellKind_6 (by decide) (fun h9 => absurd h9 (by decide)) (fun _ => ?_)
    refine lv_iconst (v := 0) hx hb dX4_cellKind_9 (by decide) ?_
    refine lv_goto (tgt := 53) hx hb dX4_cellKind_10 (by decide) ?_
    exact ret_i hx hb hr hlk hS (Nat.le_of_ble_eq_true rfl) (Nat.le_of_ble_eq_true rfl) () (Or.inr (Or.inl ⟨rfl, (by rw [kd_0 hq_1])⟩)) (hP.sub [0, 1, 2] rfl) (hD.sub [0, 1, 2] (by decide) rfl) dX4_cellKind_53
  ·
    refine lv_if_eq (tgt := 13) hx hb dX4_cellKind_6 (by decide) (fun _ => ?_) (fun h9 => absurd h9 (by decide))
    refine lv_aload_n hx hb dX4_cellKind_13 rfl (lv_at hl 0 rfl) ?_
    refine va_ldcS hx hb hown (hV.2.2.2 (RX4, 145, "min", 6) (List.mem_of_getElem? (i := 6) rfl)) dX4_cellKind_14 ?_
    refine aft_i (wr := []) hP hD hS hA [0, 1, 2] [] rfl rfl (by decide) (by decide) (run_vS (As := [.ref (aK 6)]) (rest := []) hFix hK hE hV hP hD hS hA [0, 1, 2] (k_X4_isWord_f l D cs _ aK aV aR 6 aT aD rt rn rp rk rf tb ft rs ra nt (by first | assumption | decide | omega) (by first | assumption | decide | omega) (by first | assumption | decide | omega) (by first | assumption | decide | omega) (by first | assumption | decide | omega)) (cwV 1 hts gc_X4_cellKind_61_X4_isWord rfl rfl rfl (by decide +kernel) ⟨Nat.le_of_ble_eq_true rfl, Nat.le_of_ble_eq_true rfl⟩) rfl (by decide) (rcv (ci := 4) (T := TX4) (NN := 9) (wc := [(aR, .inr (4, [.ref aT, .ref aD, .int rt, .int (nI rs), .int (nI ra), .int rn, .int rp, .int rk, .int rf])), (aT, .inr (7, [.ref tb, .int (nI nt)])), (tb, .inl (cs 0, 400, .inl ft))]) hK hP [0, 1, 2] rfl rfl rfl) rfl hl.1 rfl (Nat.le_of_ble_eq_true rfl) dX4_cellKind_16 ⟨Nat.le_of_ble_eq_true rfl, Nat.le_of_ble_eq_true rfl⟩) (fun r_2 u_2 H locs hq_2 hP hD hS => ?_)
    have hP : va_P D vwCl [(aR, .inr (4, [.ref aT, .ref aD, .int rt, .int (nI rs), .int (nI ra), .int rn, .int rp, .int rk, .int rf])), (aT, .inr (7, [.ref tb, .int (nI nt)])), (tb, .inl (cs 0, 400, .inl ft))] H := hP
    have hD : va_D A [(aR, .inr (4, [.ref aT, .ref aD, .int rt, .int (nI rs), .int (nI ra), .int rn, .int rp, .int rk, .int rf])), (aT, .inr (7, [.ref tb, .int (nI nt)])), (tb, .inl (cs 0, 400, .inl ft))] := hD
    replace hq_2 : ((r_2 = 1 ∧ WD ft nt rs 6) ∨ (r_2 = 0 ∧ ¬ WD ft nt rs 6)) := hq_2
    rcases hq_2 with ⟨rfl, hq_2⟩ | ⟨rfl, hq_2⟩
    ·
      refine lv_if_eq (tgt := 26) hx hb dX4_cellKind_19 (by decide) (fun h9 => absurd h9 (by decide)) (fun _ => ?_)
      refine lv_iconst (v := 1) hx hb dX4_cellKind_22 (by decide) ?_
      refine lv_goto (tgt := 53) hx hb dX4_cellKind_23 (by decide) ?_
      exact ret_i hx hb hr hlk hS (Nat.le_of_ble_eq_true rfl) (Nat.le_of_ble_eq_true rfl) () (Or.inr (Or.inr (Or.inl ⟨rfl, (by rw [kd_s hq_1, kd_0 hq_2])⟩))) (hP.sub [0, 1, 2] rfl) (hD.sub [0, 1, 2] (by decide) rfl) dX4_cellKind_53
    ·
      refine lv_if_eq (tgt := 26) hx hb dX4_cellKind_19 (by decide) (fun _ => ?_) (fun h9 => absurd h9 (by decide))
      refine lv_aload_n hx hb dX4_cellKind_26 rfl (lv_at hl 0 rfl) ?_
      refine va_ldcS hx hb hown (hV.2.2.2 (RX4, 147, "add", 7) (List.mem_of_getElem? (i := 7) rfl)) dX4_cellKind_27 ?_
      refine aft_i (wr := []) hP hD hS hA [0, 1, 2] [] rfl rfl (by decide) (by decide) (run_vS (As := [.ref (aK 7)]) (rest := []) hFix hK hE hV hP hD hS hA [0, 1, 2] (k_X4_isWord_f l D cs _ aK aV aR 7 aT aD rt rn rp rk rf tb ft rs ra nt (by first | assumption | decide | omega) (by first | assumption | decide | omega) (by first | assumption | decide | omega) (by first | assumption | decide | omega) (by first | assumption | decide | omega)) (cwV 1 hts gc_X4_cellKind_61_X4_isWord rfl rfl rfl (by decide +kernel) ⟨Nat.le_of_ble_eq_true rfl, Nat.le_of_ble_eq_true rfl⟩) rfl (by decide) (rcv (ci := 4) (T := TX4) (NN := 9) (wc := [(aR, .inr (4, [.ref aT, .ref aD, .int rt, .int (nI rs), .int (nI ra), .int rn, .int rp, .int rk, .int rf])), (aT, .inr (7, [.ref tb, .int (nI nt)])), (tb, .inl (cs 0, 400, .inl ft))]) hK hP [0, 1, 2] rfl rfl rfl) rfl hl.1 rfl (Nat.le_of_ble_eq_true rfl) dX4_cellKind_29 ⟨Nat.le_of_ble_eq_true rfl, Nat.le_of_ble_eq_true rfl⟩) (fun r_3 u_3 H locs hq_3 hP hD hS => ?_)
      have hP : va_P D vwCl [(aR, .inr (4, [.ref aT, .ref aD, .int rt, .int (nI rs), .int (nI ra), .int rn, .int rp, .int rk, .int rf])), (aT, .inr (7, [.ref tb, .int (nI nt)])), (tb, .inl (cs 0, 400, .inl ft))] H := hP
      have hD : va_D A [(aR, .inr (4, [.ref aT, .ref aD, .int rt, .int (nI rs), .int (nI ra), .int rn, .int rp, .int rk, .int rf])), (aT, .inr (7, [.ref tb, .int (nI nt)])), (tb, .inl (cs 0, 400, .inl ft))] := hD
      replace hq_3 : ((r_3 = 1 ∧ WD ft nt rs 7) ∨ (r_3 = 0 ∧ ¬ WD ft nt rs 7)) := hq_3
      rcases hq_3 with ⟨rfl, hq_3⟩ | ⟨rfl, hq_3⟩
      ·
        refine lv_if_eq (tgt := 39) hx hb dX4_cellKind_32 (by decide) (fun h9 => absurd h9 (by decide)) (fun _ => ?_)
        refine lv_iconst (v := 2) hx hb dX4_cellKind_35 (by decide) ?_
        refine lv_goto (tgt := 53) hx hb dX4_cellKind_36 (by decide) ?_
        exact ret_i hx hb hr hlk hS (Nat.le_of_ble_eq_true rfl) (Nat.le_of_ble_eq_true rfl) () (Or.inr (Or.inr (Or.inr (Or.inl ⟨rfl, (by rw [kd_s hq_1, kd_s hq_2, kd_0 hq_3])⟩)))) (hP.sub [0, 1, 2] rfl) (hD.sub [0, 1, 2] (by decide) rfl) dX4_cellKind_53
      ·
        refine lv_if_eq (tgt := 39) hx hb dX4_cellKind_32 (by decide) (fun _ => ?_) (fun h9 => absurd h9 (by decide))
        refine lv_aload_n hx hb dX4_cellKind_39 rfl (lv_at hl 0 rfl) ?_
        refine va_ldcS hx hb hown (hV.2.2.2 (RX4, 149, "late", 8) (List.mem_of_getElem? (i := 8) rfl)) dX4_cellKind_40 ?_
        refine aft_i (wr := []) hP hD hS hA [0, 1, 2] [] rfl rfl (by decide) (by decide) (run_vS (As := [.ref (aK 8)]) (rest := []) hFix hK hE hV hP hD hS hA [0, 1, 2] (k_X4_isWord_f l D cs _ aK aV aR 8 aT aD rt rn rp rk rf tb ft rs ra nt (by first | assumption | decide | omega) (by first | assumption | decide | omega) (by first | assumption | decide | omega) (by first | assumption | decide | omega) (by first | assumption | decide | omega)) (cwV 1 hts gc_X4_cellKind_61_X4_isWord rfl rfl rfl (by decide +kernel) ⟨Nat.le_of_ble_eq_true rfl, Nat.le_of_ble_eq_true rfl⟩) rfl (by decide) (rcv (ci := 4) (T := TX4) (NN := 9) (wc := [(aR, .inr (4, [.ref aT, .ref aD, .int rt, .int (nI rs), .int (nI ra), .int rn, .int rp, .int rk, .int rf])), (aT, .inr (7, [.ref tb, .int (nI nt)])), (tb, .inl (cs 0, 400, .inl ft))]) hK hP [0, 1, 2] rfl rfl rfl) rfl hl.1 rfl (Nat.le_of_ble_eq_true rfl) dX4_cellKind_42 ⟨Nat.le_of_ble_eq_true rfl, Nat.le_of_ble_eq_true rfl⟩) (fun r_4 u_4 H locs hq_4 hP hD hS => ?_)
        have hP : va_P D vwCl [(aR, .inr (4, [.ref aT, .ref aD, .int rt, .int (nI rs), .int (nI ra), .int rn, .int rp, .int rk, .int rf])), (aT, .inr (7, [.ref tb, .int (nI nt)])), (tb, .inl (cs 0, 400, .inl ft))] H := hP
        have hD : va_D A [(aR, .inr (4, [.ref aT, .ref aD, .int rt, .int (nI rs), .int (nI ra), .int rn, .int rp, .int rk, .int rf])), (aT, .inr (7, [.ref tb, .int (nI nt)])), (tb, .inl (cs 0, 400, .inl ft))] := hD
        replace hq_4 : ((r_4 = 1 ∧ WD ft nt rs 8) ∨ (r_4 = 0 ∧ ¬ WD ft nt rs 8)) := hq_4
        rcases hq_4 with ⟨rfl, hq_4⟩ | ⟨rfl, hq_4⟩
        ·
          refine lv_if_eq (tgt := 52) hx hb dX4_cellKind_45 (by decide) (fun h9 => absurd h9 (by decide)) (fun _ => ?_)
          refine lv_iconst (v := 3) hx hb dX4_cellKind_48 (by decide) ?_
          refine lv_goto (tgt := 53) hx hb dX4_cellKind_49 (by decide) ?_
          exact ret_i hx hb hr hlk hS (Nat.le_of_ble_eq_true rfl) (Nat.le_of_ble_eq_true rfl) () (Or.inr (Or.inr (Or.inr (Or.inr (⟨rfl, (by rw [kd_s hq_1, kd_s hq_2, kd_s hq_3, kd_0 hq_4])⟩))))) (hP.sub [0, 1, 2] rfl) (hD.sub [0, 1, 2] (by decide) rfl) dX4_cellKind_53
        ·
          refine lv_if_eq (tgt := 52) hx hb dX4_cellKind_45 (by decide) (fun _ => ?_) (fun h9 => absurd h9 (by decide))
          refine lv_iconst (v := (-1)) hx hb dX4_cellKind_52 (by decide) ?_
          exact ret_i hx hb hr hlk hS (Nat.le_of_ble_eq_true rfl) (Nat.le_of_ble_eq_true rfl) () (Or.inl ⟨rfl, (by rw [kd_s hq_1, kd_s hq_2, kd_s hq_3, kd_s hq_4, kd_e])⟩) (hP.sub [0, 1, 2] rfl) (hD.sub [0, 1, 2] (by decide) rfl) dX4_cellKind_53

set_option maxHeartbeats 4000000 in
set_option maxRecDepth 100000 in
theorem k_X4_ruleKind_f (l : Launch) (D : va_G) (cs : Nat → ClassId) (sz : Nat) (aK aV : Nat → Nat) (aR : Nat) (aT : Nat) (aD : Nat) (rt : Int32) (rn : Int32) (rp : Int32) (rk : Int32) (rf : Int32) (tb : Nat) (ft : Nat → Int32) (rs : Nat) (ra : Nat) (nt : Nat) (hnt : nt ≤ 400) (hrt : ra ≤ nt) (hrs : rs ≤ ra) (htk : TKc ft nt rs ra rt rn) : Si l D cs aK aV yX4_ruleKind W_X4_ruleKind 5 107 0 0 [.ref aR] [(aR, .inr (4, [.ref aT, .ref aD, .int rt, .int (nI rs), .int (nI ra), .int rn, .int rp, .int rk, .int rf])), (aT, .inr (7, [.ref tb, .int (nI nt)])), (tb, .inl (cs 0, 400, .inl ft))] sz (fun (r : Int32) (u : Unit) => ((r = (-1) ∧ kdS ft nt rs [10, 11, 12, 13, 14, 15] = 6) ∨ (r = 0 ∧ kdS ft nt rs [10, 11, 12, 13, 14, 15] = 0) ∨ (r = 1 ∧ kdS ft nt rs [10, 11, 12, 13, 14, 15] = 1) ∨ (r = 2 ∧ kdS ft nt rs [10, 11, 12, 13, 14, 15] = 2) ∨ (r = 3 ∧ kdS ft nt rs [10, 11, 12, 13, 14, 15] = 3) ∨ (r = 4 ∧ kdS ft nt rs [10, 11, 12, 13, 14, 15] = 4) ∨ (r = 5 ∧ kdS ft nt rs [10, 11, 12, 13, 14, 15] = 5))) (fun (u : Unit) => [(aR, .inr (4, [.ref aT, .ref aD, .int rt, .int (nI rs), .int (nI ra), .int rn, .int rp, .int rk, .int rf])), (aT, .inr (7, [.ref tb, .int (nI nt)])), (tb, .inl (cs 0, 400, .inl ft))]) := by
  refine entS (D := D) (cs := cs) (y := yX4_ruleKind) (ws := W_X4_ruleKind) (As := [.ref aR]) (W0 := [(aR, .inr (4, [.ref aT, .ref aD, .int rt, .int (nI rs), .int (nI ra), .int rn, .int rp, .int rk, .int rf])), (aT, .inr (7, [.ref tb, .int (nI nt)])), (tb, .inl (cs 0, 400, .inl ft))]) (Qx := fun A => va_Qi (fun (r : Int32) (u : Unit) => ((r = (-1) ∧ kdS ft nt rs [10, 11, 12, 13, 14, 15] = 6) ∨ (r = 0 ∧ kdS ft nt rs [10, 11, 12, 13, 14, 15] = 0) ∨ (r = 1 ∧ kdS ft nt rs [10, 11, 12, 13, 14, 15] = 1) ∨ (r = 2 ∧ kdS ft nt rs [10, 11, 12, 13, 14, 15] = 2) ∨ (r = 3 ∧ kdS ft nt rs [10, 11, 12, 13, 14, 15] = 3) ∨ (r = 4 ∧ kdS ft nt rs [10, 11, 12, 13, 14, 15] = 4) ∨ (r = 5 ∧ kdS ft nt rs [10, 11, 12, 13, 14, 15] = 5))) (mpost D A (fun (u : Unit) => [(aR, .inr (4, [.ref aT, .ref aD, .int rt, .int (nI rs), .int (nI ra), .int rn, .int rp, .int rk, .int rf])), (aT, .inr (7, [.ref tb, .int (nI nt)])), (tb, .inl (cs 0, 400, .inl ft))])) A) (maxL := 1) (ret := (some .int)) (by decide) rfl (Nat.le_of_ble_eq_true rfl) ?_
  intro p e s m below meth c A ls hx hb hr hml hlk hown hts hin hK hE hV hP hD hA hS hl
  have hl : lv_has ls 1 [(0, .ref aR)] := hl
  generalize hHe : s.heap = H at hP
  have hS : va_S A s.heap H [] := hHe ▸ hS
  generalize hLe : ([] : List Loc) = locs at hS ⊢
  have htw : ∀ w ∈ O_X4_ruleKind, w.before ([.ref aR] : List Value).toArray s = true := fun w h => hts w (List.mem_cons_of_mem _ (List.mem_append_left _ h))
  have hFix := (⟨hx, hb, hml, hown, hts⟩ : CallFix p m c _ _ s _ _ _)
  refine lv_aload_n hx hb dX4_ruleKind_0 rfl (lv_at hl 0 rfl) ?_
  refine va_ldcS hx hb hown (hV.2.2.2 (RX4, 151, "most", 10) (List.mem_of_getElem? (i := 10) rfl)) dX4_ruleKind_1 ?_
  refine aft_i (wr := []) hP hD hS hA [0, 1, 2] [] rfl rfl (by decide) (by decide) (run_vS (As := [.ref (aK 10)]) (rest := []) hFix hK hE hV hP hD hS hA [0, 1, 2] (k_X4_isWord_f l D cs _ aK aV aR 10 aT aD rt rn rp rk rf tb ft rs ra nt (by first | assumption | decide | omega) (by first | assumption | decide | omega) (by first | assumption | decide | omega) (by first | assumption | decide | omega) (by first | assumption | decide | omega)) (cwV 1 hts gc_X4_ruleKind_61_X4_isWord rfl rfl rfl (by decide +kernel) ⟨Nat.le_of_ble_eq_true rfl, Nat.le_of_ble_eq_true rfl⟩) rfl (by decide) (rcv (ci := 4) (T := TX4) (NN := 9) (wc := [(aR, .inr (4, [.ref aT, .ref aD, .int rt, .int (nI rs), .int (nI ra), .int rn, .int rp, .int rk, .int rf])), (aT, .inr (7, [.ref tb, .int (nI nt)])), (tb, .inl (cs 0, 400, .inl ft))]) hK hP [0, 1, 2] rfl rfl rfl) rfl hl.1 rfl (Nat.le_of_ble_eq_true rfl) dX4_ruleKind_3 ⟨Nat.le_of_ble_eq_true rfl, Nat.le_of_ble_eq_true rfl⟩) (fun r_1 u_1 H locs hq_1 hP hD hS => ?_)
  have hP : va_P D vwCl [(aR, .inr (4, [.ref aT, .ref aD, .int rt, .int (nI rs), .int (nI ra), .int rn, .int rp, .int rk, .int rf])), (aT, .inr (7, [.ref tb, .int (nI nt)])), (tb, .inl (cs 0, 400, .inl ft))] H := hP
  have hD : va_D A [(aR, .inr (4, [.ref aT, .ref aD, .int rt, .int (nI rs), .int (nI ra), .int rn, .int rp, .int rk, .int rf])), (aT, .inr (7, [.ref tb, .int (nI nt)])), (tb, .inl (cs 0, 400, .inl ft))] := hD
  replace hq_1 : ((r_1 = 1 ∧ WD ft nt rs 10) ∨ (r_1 = 0 ∧ ¬ WD ft nt rs 10)) := hq_1
  rcases hq_1 with ⟨rfl, hq_1⟩ | ⟨rfl, hq_1⟩
  ·
    refine lv_if_eq (tgt := 11) hx hb dX4_ruleKind_6 (by decide) (fun h9 => absurd h9 (by decide)) (fun _ => ?_)
    refine lv_iconst (v := 0) hx hb dX4_ruleKind_9 (by decide) ?_
    exact ret_i hx hb hr hlk hS (Nat.le_of_ble_eq_true rfl) (Nat.le_of_ble_eq_true rfl) () (Or.inr (Or.inl ⟨rfl, (by rw [kd_0 hq_1])⟩)) (hP.sub [0, 1, 2] rfl) (hD.sub [0, 1, 2] (by decide) rfl) dX4_ruleKind_10
  ·
    refine lv_if_eq (tgt := 11) hx hb dX4_ruleKind_6 (by decide) (fun _ => ?_) (fun h9 => absurd h9 (by decide))
    refine lv_aload_n hx hb dX4_ruleKind_11 rfl (lv_at hl 0 rfl) ?_
    refine va_ldcS hx hb hown (hV.2.2.2 (RX4, 153, "least", 11) (List.mem_of_getElem? (i := 11) rfl)) dX4_ruleKind_12 ?_
    refine aft_i (wr := []) hP hD hS hA [0, 1, 2] [] rfl rfl (by decide) (by decide) (run_vS (As := [.ref (aK 11)]) (rest := []) hFix hK hE hV hP hD hS hA [0, 1, 2] (k_X4_isWord_f l D cs _ aK aV aR 11 aT aD rt rn rp rk rf tb ft rs ra nt (by first | assumption | decide | omega) (by first | assumption | decide | omega) (by first | assumption | decide | omega) (by first | assumption | decide | omega) (by first | assumption | decide | omega)) (cwV 1 hts gc_X4_ruleKind_61_X4_isWord rfl rfl rfl (by decide +kernel) ⟨Nat.le_of_ble_eq_true rfl, Nat.le_of_ble_eq_true rfl⟩) rfl (by decide) (rcv (ci := 4) (T := TX4) (NN := 9) (wc := [(aR, .inr (4, [.ref aT, .ref aD, .int rt, .int (nI rs), .int (nI ra), .int rn, .int rp, .int rk, .int rf])), (aT, .inr (7, [.ref tb, .int (nI nt)])), (tb, .inl (cs 0, 400, .inl ft))]) hK hP [0, 1, 2] rfl rfl rfl) rfl hl.1 rfl (Nat.le_of_ble_eq_true rfl) dX4_ruleKind_14 ⟨Nat.le_of_ble_eq_true rfl, Nat.le_of_ble_eq_true rfl⟩) (fun r_2 u_2 H locs hq_2 hP hD hS => ?_)
    have hP : va_P D vwCl [(aR, .inr (4, [.ref aT, .ref aD, .int rt, .int (nI rs), .int (nI ra), .int rn, .int rp, .int rk, .int rf])), (aT, .inr (7, [.ref tb, .int (nI nt)])), (tb, .inl (cs 0, 400, .inl ft))] H := hP
    have hD : va_D A [(aR, .inr (4, [.ref aT, .ref aD, .int rt, .int (nI rs), .int (nI ra), .int rn, .int rp, .int rk, .int rf])), (aT, .inr (7, [.ref tb, .int (nI nt)])), (tb, .inl (cs 0, 400, .inl ft))] := hD
    replace hq_2 : ((r_2 = 1 ∧ WD ft nt rs 11) ∨ (r_2 = 0 ∧ ¬ WD ft nt rs 11)) := hq_2
    rcases hq_2 with ⟨rfl, hq_2⟩ | ⟨rfl, hq_2⟩
    ·
      refine lv_if_eq (tgt := 22) hx hb dX4_ruleKind_17 (by decide) (fun h9 => absurd h9 (by decide)) (fun _ => ?_)
      refine lv_iconst (v := 1) hx hb dX4_ruleKind_20 (by decide) ?_
      exact ret_i hx hb hr hlk hS (Nat.le_of_ble_eq_true rfl) (Nat.le_of_ble_eq_true rfl) () (Or.inr (Or.inr (Or.inl ⟨rfl, (by rw [kd_s hq_1, kd_0 hq_2])⟩))) (hP.sub [0, 1, 2] rfl) (hD.sub [0, 1, 2] (by decide) rfl) dX4_ruleKind_21
    ·
      refine lv_if_eq (tgt := 22) hx hb dX4_ruleKind_17 (by decide) (fun _ => ?_) (fun h9 => absurd h9 (by decide))
      refine lv_aload_n hx hb dX4_ruleKind_22 rfl (lv_at hl 0 rfl) ?_
      refine va_ldcS hx hb hown (hV.2.2.2 (RX4, 155, "unlike", 12) (List.mem_of_getElem? (i := 12) rfl)) dX4_ruleKind_23 ?_
      refine aft_i (wr := []) hP hD hS hA [0, 1, 2] [] rfl rfl (by decide) (by decide) (run_vS (As := [.ref (aK 12)]) (rest := []) hFix hK hE hV hP hD hS hA [0, 1, 2] (k_X4_isWord_f l D cs _ aK aV aR 12 aT aD rt rn rp rk rf tb ft rs ra nt (by first | assumption | decide | omega) (by first | assumption | decide | omega) (by first | assumption | decide | omega) (by first | assumption | decide | omega) (by first | assumption | decide | omega)) (cwV 1 hts gc_X4_ruleKind_61_X4_isWord rfl rfl rfl (by decide +kernel) ⟨Nat.le_of_ble_eq_true rfl, Nat.le_of_ble_eq_true rfl⟩) rfl (by decide) (rcv (ci := 4) (T := TX4) (NN := 9) (wc := [(aR, .inr (4, [.ref aT, .ref aD, .int rt, .int (nI rs), .int (nI ra), .int rn, .int rp, .int rk, .int rf])), (aT, .inr (7, [.ref tb, .int (nI nt)])), (tb, .inl (cs 0, 400, .inl ft))]) hK hP [0, 1, 2] rfl rfl rfl) rfl hl.1 rfl (Nat.le_of_ble_eq_true rfl) dX4_ruleKind_25 ⟨Nat.le_of_ble_eq_true rfl, Nat.le_of_ble_eq_true rfl⟩) (fun r_3 u_3 H locs hq_3 hP hD hS => ?_)
      have hP : va_P D vwCl [(aR, .inr (4, [.ref aT, .ref aD, .int rt, .int (nI rs), .int (nI ra), .int rn, .int rp, .int rk, .int rf])), (aT, .inr (7, [.ref tb, .int (nI nt)])), (tb, .inl (cs 0, 400, .inl ft))] H := hP
      have hD : va_D A [(aR, .inr (4, [.ref aT, .ref aD, .int rt, .int (nI rs), .int (nI ra), .int rn, .int rp, .int rk, .int rf])), (aT, .inr (7, [.ref tb, .int (nI nt)])), (tb, .inl (cs 0, 400, .inl ft))] := hD
      replace hq_3 : ((r_3 = 1 ∧ WD ft nt rs 12) ∨ (r_3 = 0 ∧ ¬ WD ft nt rs 12)) := hq_3
      rcases hq_3 with ⟨rfl, hq_3⟩ | ⟨rfl, hq_3⟩
      ·
        refine lv_if_eq (tgt := 33) hx hb dX4_ruleKind_28 (by decide) (fun h9 => absurd h9 (by decide)) (fun _ => ?_)
        refine lv_iconst (v := 2) hx hb dX4_ruleKind_31 (by decide) ?_
        exact ret_i hx hb hr hlk hS (Nat.le_of_ble_eq_true rfl) (Nat.le_of_ble_eq_true rfl) () (Or.inr (Or.inr (Or.inr (Or.inl ⟨rfl, (by rw [kd_s hq_1, kd_s hq_2, kd_0 hq_3])⟩)))) (hP.sub [0, 1, 2] rfl) (hD.sub [0, 1, 2] (by decide) rfl) dX4_ruleKind_32
      ·
        refine lv_if_eq (tgt := 33) hx hb dX4_ruleKind_28 (by decide) (fun _ => ?_) (fun h9 => absurd h9 (by decide))
        refine lv_aload_n hx hb dX4_ruleKind_33 rfl (lv_at hl 0 rfl) ?_
        refine va_ldcS hx hb hown (hV.2.2.2 (RX4, 157, "sum", 13) (List.mem_of_getElem? (i := 13) rfl)) dX4_ruleKind_34 ?_
        refine aft_i (wr := []) hP hD hS hA [0, 1, 2] [] rfl rfl (by decide) (by decide) (run_vS (As := [.ref (aK 13)]) (rest := []) hFix hK hE hV hP hD hS hA [0, 1, 2] (k_X4_isWord_f l D cs _ aK aV aR 13 aT aD rt rn rp rk rf tb ft rs ra nt (by first | assumption | decide | omega) (by first | assumption | decide | omega) (by first | assumption | decide | omega) (by first | assumption | decide | omega) (by first | assumption | decide | omega)) (cwV 1 hts gc_X4_ruleKind_61_X4_isWord rfl rfl rfl (by decide +kernel) ⟨Nat.le_of_ble_eq_true rfl, Nat.le_of_ble_eq_true rfl⟩) rfl (by decide) (rcv (ci := 4) (T := TX4) (NN := 9) (wc := [(aR, .inr (4, [.ref aT, .ref aD, .int rt, .int (nI rs), .int (nI ra), .int rn, .int rp, .int rk, .int rf])), (aT, .inr (7, [.ref tb, .int (nI nt)])), (tb, .inl (cs 0, 400, .inl ft))]) hK hP [0, 1, 2] rfl rfl rfl) rfl hl.1 rfl (Nat.le_of_ble_eq_true rfl) dX4_ruleKind_36 ⟨Nat.le_of_ble_eq_true rfl, Nat.le_of_ble_eq_true rfl⟩) (fun r_4 u_4 H locs hq_4 hP hD hS => ?_)
        have hP : va_P D vwCl [(aR, .inr (4, [.ref aT, .ref aD, .int rt, .int (nI rs), .int (nI ra), .int rn, .int rp, .int rk, .int rf])), (aT, .inr (7, [.ref tb, .int (nI nt)])), (tb, .inl (cs 0, 400, .inl ft))] H := hP
        have hD : va_D A [(aR, .inr (4, [.ref aT, .ref aD, .int rt, .int (nI rs), .int (nI ra), .int rn, .int rp, .int rk, .int rf])), (aT, .inr (7, [.ref tb, .int (nI nt)])), (tb, .inl (cs 0, 400, .inl ft))] := hD
        replace hq_4 : ((r_4 = 1 ∧ WD ft nt rs 13) ∨ (r_4 = 0 ∧ ¬ WD ft nt rs 13)) := hq_4
        rcases hq_4 with ⟨rfl, hq_4⟩ | ⟨rfl, hq_4⟩
        ·
          refine lv_if_eq (tgt := 44) hx hb dX4_ruleKind_39 (by decide) (fun h9 => absurd h9 (by decide)) (fun _ => ?_)
          refine lv_iconst (v := 3) hx hb dX4_ruleKind_42 (by decide) ?_
          exact ret_i hx hb hr hlk hS (Nat.le_of_ble_eq_true rfl) (Nat.le_of_ble_eq_true rfl) () (Or.inr (Or.inr (Or.inr (Or.inr (Or.inl ⟨rfl, (by rw [kd_s hq_1, kd_s hq_2, kd_s hq_3, kd_0 hq_4])⟩))))) (hP.sub [0, 1, 2] rfl) (hD.sub [0, 1, 2] (by decide) rfl) dX4_ruleKind_43
        ·
          refine lv_if_eq (tgt := 44) hx hb dX4_ruleKind_39 (by decide) (fun _ => ?_) (fun h9 => absurd h9 (by decide))
          refine lv_aload_n hx hb dX4_ruleKind_44 rfl (lv_at hl 0 rfl) ?_
          refine va_ldcS hx hb hown (hV.2.2.2 (RX4, 159, "order", 14) (List.mem_of_getElem? (i := 14) rfl)) dX4_ruleKind_45 ?_
          refine aft_i (wr := []) hP hD hS hA [0, 1, 2] [] rfl rfl (by decide) (by decide) (run_vS (As := [.ref (aK 14)]) (rest := []) hFix hK hE hV hP hD hS hA [0, 1, 2] (k_X4_isWord_f l D cs _ aK aV aR 14 aT aD rt rn rp rk rf tb ft rs ra nt (by first | assumption | decide | omega) (by first | assumption | decide | omega) (by first | assumption | decide | omega) (by first | assumption | decide | omega) (by first | assumption | decide | omega)) (cwV 1 hts gc_X4_ruleKind_61_X4_isWord rfl rfl rfl (by decide +kernel) ⟨Nat.le_of_ble_eq_true rfl, Nat.le_of_ble_eq_true rfl⟩) rfl (by decide) (rcv (ci := 4) (T := TX4) (NN := 9) (wc := [(aR, .inr (4, [.ref aT, .ref aD, .int rt, .int (nI rs), .int (nI ra), .int rn, .int rp, .int rk, .int rf])), (aT, .inr (7, [.ref tb, .int (nI nt)])), (tb, .inl (cs 0, 400, .inl ft))]) hK hP [0, 1, 2] rfl rfl rfl) rfl hl.1 rfl (Nat.le_of_ble_eq_true rfl) dX4_ruleKind_47 ⟨Nat.le_of_ble_eq_true rfl, Nat.le_of_ble_eq_true rfl⟩) (fun r_5 u_5 H locs hq_5 hP hD hS => ?_)
          have hP : va_P D vwCl [(aR, .inr (4, [.ref aT, .ref aD, .int rt, .int (nI rs), .int (nI ra), .int rn, .int rp, .int rk, .int rf])), (aT, .inr (7, [.ref tb, .int (nI nt)])), (tb, .inl (cs 0, 400, .inl ft))] H := hP
          have hD : va_D A [(aR, .inr (4, [.ref aT, .ref aD, .int rt, .int (nI rs), .int (nI ra), .int rn, .int rp, .int rk, .int rf])), (aT, .inr (7, [.ref tb, .int (nI nt)])), (tb, .inl (cs 0, 400, .inl ft))] := hD
          replace hq_5 : ((r_5 = 1 ∧ WD ft nt rs 14) ∨ (r_5 = 0 ∧ ¬ WD ft nt rs 14)) := hq_5
          rcases hq_5 with ⟨rfl, hq_5⟩ | ⟨rfl, hq_5⟩
          ·
            refine lv_if_eq (tgt := 55) hx hb dX4_ruleKind_50 (by decide) (fun h9 => absurd h9 (by decide)) (fun _ => ?_)
            refine lv_iconst (v := 4) hx hb dX4_ruleKind_53 (by decide) ?_
            exact ret_i hx hb hr hlk hS (Nat.le_of_ble_eq_true rfl) (Nat.le_of_ble_eq_true rfl) () (Or.inr (Or.inr (Or.inr (Or.inr (Or.inr (Or.inl ⟨rfl, (by rw [kd_s hq_1, kd_s hq_2, kd_s hq_3, kd_s hq_4, kd_0 hq_5])⟩)))))) (hP.sub [0, 1, 2] rfl) (hD.sub [0, 1, 2] (by decide) rfl) dX4_ruleKind_54
          ·
            refine lv_if_eq (tgt := 55) hx hb dX4_ruleKind_50 (by decide) (fun _ => ?_) (fun h9 => absurd h9 (by decide))
            refine lv_aload_n hx hb dX4_ruleKind_55 rfl (lv_at hl 0 rfl) ?_
            refine va_ldcS hx hb hown (hV.2.2.2 (RX4, 161, "if", 15) (List.mem_of_getElem? (i := 15) rfl)) dX4_ruleKind_56 ?_
            refine aft_i (wr := []) hP hD hS hA [0, 1, 2] [] rfl rfl (by decide) (by decide) (run_vS (As := [.ref (aK 15)]) (rest := []) hFix hK hE hV hP hD hS hA [0, 1, 2] (k_X4_isWord_f l D cs _ aK aV aR 15 aT aD rt rn rp rk rf tb ft rs ra nt (by first | assumption | decide | omega) (by first | assumption | decide | omega) (by first | assumption | decide | omega) (by first | assumption | decide | omega) (by first | assumption | decide | omega)) (cwV 1 hts gc_X4_ruleKind_61_X4_isWord rfl rfl rfl (by decide +kernel) ⟨Nat.le_of_ble_eq_true rfl, Nat.le_of_ble_eq_true rfl⟩) rfl (by decide) (rcv (ci := 4) (T := TX4) (NN := 9) (wc := [(aR, .inr (4, [.ref aT, .ref aD, .int rt, .int (nI rs), .int (nI ra), .int rn, .int rp, .int rk, .int rf])), (aT, .inr (7, [.ref tb, .int (nI nt)])), (tb, .inl (cs 0, 400, .inl ft))]) hK hP [0, 1, 2] rfl rfl rfl) rfl hl.1 rfl (Nat.le_of_ble_eq_true rfl) dX4_ruleKind_58 ⟨Nat.le_of_ble_eq_true rfl, Nat.le_of_ble_eq_true rfl⟩) (fun r_6 u_6 H locs hq_6 hP hD hS => ?_)
            have hP : va_P D vwCl [(aR, .inr (4, [.ref aT, .ref aD, .int rt, .int (nI rs), .int (nI ra), .int rn, .int rp, .int rk, .int rf])), (aT, .inr (7, [.ref tb, .int (nI nt)])), (tb, .inl (cs 0, 400, .inl ft))] H := hP
            have hD : va_D A [(aR, .inr (4, [.ref aT, .ref aD, .int rt, .int (nI rs), .int (nI ra), .int rn, .int rp, .int rk, .int rf])), (aT, .inr (7, [.ref tb, .int (nI nt)])), (tb, .inl (cs 0, 400, .inl ft))] := hD
            replace hq_6 : ((r_6 = 1 ∧ WD ft nt rs 15) ∨ (r_6 = 0 ∧ ¬ WD ft nt rs 15)) := hq_6
            rcases hq_6 with ⟨rfl, hq_6⟩ | ⟨rfl, hq_6⟩
            ·
              refine lv_if_eq (tgt := 68) hx hb dX4_ruleKind_61 (by decide) (fun h9 => absurd h9 (by decide)) (fun _ => ?_)
              refine lv_iconst (v := 5) hx hb dX4_ruleKind_64 (by decide) ?_
              refine lv_goto (tgt := 69) hx hb dX4_ruleKind_65 (by decide) ?_
              exact ret_i hx hb hr hlk hS (Nat.le_of_ble_eq_true rfl) (Nat.le_of_ble_eq_true rfl) () (Or.inr (Or.inr (Or.inr (Or.inr (Or.inr (Or.inr (⟨rfl, (by rw [kd_s hq_1, kd_s hq_2, kd_s hq_3, kd_s hq_4, kd_s hq_5, kd_0 hq_6])⟩))))))) (hP.sub [0, 1, 2] rfl) (hD.sub [0, 1, 2] (by decide) rfl) dX4_ruleKind_69
            ·
              refine lv_if_eq (tgt := 68) hx hb dX4_ruleKind_61 (by decide) (fun _ => ?_) (fun h9 => absurd h9 (by decide))
              refine lv_iconst (v := (-1)) hx hb dX4_ruleKind_68 (by decide) ?_
              exact ret_i hx hb hr hlk hS (Nat.le_of_ble_eq_true rfl) (Nat.le_of_ble_eq_true rfl) () (Or.inl ⟨rfl, (by rw [kd_s hq_1, kd_s hq_2, kd_s hq_3, kd_s hq_4, kd_s hq_5, kd_s hq_6, kd_e])⟩) (hP.sub [0, 1, 2] rfl) (hD.sub [0, 1, 2] (by decide) rfl) dX4_ruleKind_69

set_option maxHeartbeats 4000000 in
set_option maxRecDepth 100000 in
theorem k_X4_opKind_f (l : Launch) (D : va_G) (cs : Nat → ClassId) (sz : Nat) (aK aV : Nat → Nat) (aR : Nat) (aT : Nat) (aD : Nat) (rt : Int32) (rn : Int32) (rp : Int32) (rk : Int32) (rf : Int32) (tb : Nat) (ft : Nat → Int32) (rs : Nat) (ra : Nat) (nt : Nat) (hnt : nt ≤ 400) (hrt : ra ≤ nt) (hrs : rs ≤ ra) (htk : TKc ft nt rs ra rt rn) : Si l D cs aK aV yX4_opKind W_X4_opKind 5 107 0 0 [.ref aR] [(aR, .inr (4, [.ref aT, .ref aD, .int rt, .int (nI rs), .int (nI ra), .int rn, .int rp, .int rk, .int rf])), (aT, .inr (7, [.ref tb, .int (nI nt)])), (tb, .inl (cs 0, 400, .inl ft))] sz (fun (r : Int32) (u : Unit) => ((r = (-1) ∧ kdS ft nt rs [21, 22, 23, 24] = 4) ∨ (r = 0 ∧ kdS ft nt rs [21, 22, 23, 24] = 0) ∨ (r = 1 ∧ kdS ft nt rs [21, 22, 23, 24] = 1) ∨ (r = 2 ∧ kdS ft nt rs [21, 22, 23, 24] = 2) ∨ (r = 3 ∧ kdS ft nt rs [21, 22, 23, 24] = 3))) (fun (u : Unit) => [(aR, .inr (4, [.ref aT, .ref aD, .int rt, .int (nI rs), .int (nI ra), .int rn, .int rp, .int rk, .int rf])), (aT, .inr (7, [.ref tb, .int (nI nt)])), (tb, .inl (cs 0, 400, .inl ft))]) := by
  refine entS (D := D) (cs := cs) (y := yX4_opKind) (ws := W_X4_opKind) (As := [.ref aR]) (W0 := [(aR, .inr (4, [.ref aT, .ref aD, .int rt, .int (nI rs), .int (nI ra), .int rn, .int rp, .int rk, .int rf])), (aT, .inr (7, [.ref tb, .int (nI nt)])), (tb, .inl (cs 0, 400, .inl ft))]) (Qx := fun A => va_Qi (fun (r : Int32) (u : Unit) => ((r = (-1) ∧ kdS ft nt rs [21, 22, 23, 24] = 4) ∨ (r = 0 ∧ kdS ft nt rs [21, 22, 23, 24] = 0) ∨ (r = 1 ∧ kdS ft nt rs [21, 22, 23, 24] = 1) ∨ (r = 2 ∧ kdS ft nt rs [21, 22, 23, 24] = 2) ∨ (r = 3 ∧ kdS ft nt rs [21, 22, 23, 24] = 3))) (mpost D A (fun (u : Unit) => [(aR, .inr (4, [.ref aT, .ref aD, .int rt, .int (nI rs), .int (nI ra), .int rn, .int rp, .int rk, .int rf])), (aT, .inr (7, [.ref tb, .int (nI nt)])), (tb, .inl (cs 0, 400, .inl ft))])) A) (maxL := 1) (ret := (some .int)) (by decide) rfl (Nat.le_of_ble_eq_true rfl) ?_
  intro p e s m below meth c A ls hx hb hr hml hlk hown hts hin hK hE hV hP hD hA hS hl
  have hl : lv_has ls 1 [(0, .ref aR)] := hl
  generalize hHe : s.heap = H at hP
  have hS : va_S A s.heap H [] := hHe ▸ hS
  generalize hLe : ([] : List Loc) = locs at hS ⊢
  have htw : ∀ w ∈ O_X4_opKind, w.before ([.ref aR] : List Value).toArray s = true := fun w h => hts w (List.mem_cons_of_mem _ (List.mem_append_left _ h))
  have hFix := (⟨hx, hb, hml, hown, hts⟩ : CallFix p m c _ _ s _ _ _)
  refine lv_aload_n hx hb dX4_opKind_0 rfl (lv_at hl 0 rfl) ?_
  refine va_ldcS hx hb hown (hV.2.2.2 (RX4, 163, "more", 21) (List.mem_of_getElem? (i := 21) rfl)) dX4_opKind_1 ?_
  refine aft_i (wr := []) hP hD hS hA [0, 1, 2] [] rfl rfl (by decide) (by decide) (run_vS (As := [.ref (aK 21)]) (rest := []) hFix hK hE hV hP hD hS hA [0, 1, 2] (k_X4_isWord_f l D cs _ aK aV aR 21 aT aD rt rn rp rk rf tb ft rs ra nt (by first | assumption | decide | omega) (by first | assumption | decide | omega) (by first | assumption | decide | omega) (by first | assumption | decide | omega) (by first | assumption | decide | omega)) (cwV 1 hts gc_X4_opKind_61_X4_isWord rfl rfl rfl (by decide +kernel) ⟨Nat.le_of_ble_eq_true rfl, Nat.le_of_ble_eq_true rfl⟩) rfl (by decide) (rcv (ci := 4) (T := TX4) (NN := 9) (wc := [(aR, .inr (4, [.ref aT, .ref aD, .int rt, .int (nI rs), .int (nI ra), .int rn, .int rp, .int rk, .int rf])), (aT, .inr (7, [.ref tb, .int (nI nt)])), (tb, .inl (cs 0, 400, .inl ft))]) hK hP [0, 1, 2] rfl rfl rfl) rfl hl.1 rfl (Nat.le_of_ble_eq_true rfl) dX4_opKind_3 ⟨Nat.le_of_ble_eq_true rfl, Nat.le_of_ble_eq_true rfl⟩) (fun r_1 u_1 H locs hq_1 hP hD hS => ?_)
  have hP : va_P D vwCl [(aR, .inr (4, [.ref aT, .ref aD, .int rt, .int (nI rs), .int (nI ra), .int rn, .int rp, .int rk, .int rf])), (aT, .inr (7, [.ref tb, .int (nI nt)])), (tb, .inl (cs 0, 400, .inl ft))] H := hP
  have hD : va_D A [(aR, .inr (4, [.ref aT, .ref aD, .int rt, .int (nI rs), .int (nI ra), .int rn, .int rp, .int rk, .int rf])), (aT, .inr (7, [.ref tb, .int (nI nt)])), (tb, .inl (cs 0, 400, .inl ft))] := hD
  replace hq_1 : ((r_1 = 1 ∧ WD ft nt rs 21) ∨ (r_1 = 0 ∧ ¬ WD ft nt rs 21)) := hq_1
  rcases hq_1 with ⟨rfl, hq_1⟩ | ⟨rfl, hq_1⟩
  ·
    refine lv_if_eq (tgt := 13) hx hb dX4_opKind_6 (by decide) (fun h9 => absurd h9 (by decide)) (fun _ => ?_)
    refine lv_iconst (v := 0) hx hb dX4_opKind_9 (by decide) ?_
    refine lv_goto (tgt := 53) hx hb dX4_opKind_10 (by decide) ?_
    exact ret_i hx hb hr hlk hS (Nat.le_of_ble_eq_true rfl) (Nat.le_of_ble_eq_true rfl) () (Or.inr (Or.inl ⟨rfl, (by rw [kd_0 hq_1])⟩)) (hP.sub [0, 1, 2] rfl) (hD.sub [0, 1, 2] (by decide) rfl) dX4_opKind_53
  ·
    refine lv_if_eq (tgt := 13) hx hb dX4_opKind_6 (by decide) (fun _ => ?_) (fun h9 => absurd h9 (by decide))
    refine lv_aload_n hx hb dX4_opKind_13 rfl (lv_at hl 0 rfl) ?_
    refine va_ldcS hx hb hown (hV.2.2.2 (RX4, 165, "less", 22) (List.mem_of_getElem? (i := 22) rfl)) dX4_opKind_14 ?_
    refine aft_i (wr := []) hP hD hS hA [0, 1, 2] [] rfl rfl (by decide) (by decide) (run_vS (As := [.ref (aK 22)]) (rest := []) hFix hK hE hV hP hD hS hA [0, 1, 2] (k_X4_isWord_f l D cs _ aK aV aR 22 aT aD rt rn rp rk rf tb ft rs ra nt (by first | assumption | decide | omega) (by first | assumption | decide | omega) (by first | assumption | decide | omega) (by first | assumption | decide | omega) (by first | assumption | decide | omega)) (cwV 1 hts gc_X4_opKind_61_X4_isWord rfl rfl rfl (by decide +kernel) ⟨Nat.le_of_ble_eq_true rfl, Nat.le_of_ble_eq_true rfl⟩) rfl (by decide) (rcv (ci := 4) (T := TX4) (NN := 9) (wc := [(aR, .inr (4, [.ref aT, .ref aD, .int rt, .int (nI rs), .int (nI ra), .int rn, .int rp, .int rk, .int rf])), (aT, .inr (7, [.ref tb, .int (nI nt)])), (tb, .inl (cs 0, 400, .inl ft))]) hK hP [0, 1, 2] rfl rfl rfl) rfl hl.1 rfl (Nat.le_of_ble_eq_true rfl) dX4_opKind_16 ⟨Nat.le_of_ble_eq_true rfl, Nat.le_of_ble_eq_true rfl⟩) (fun r_2 u_2 H locs hq_2 hP hD hS => ?_)
    have hP : va_P D vwCl [(aR, .inr (4, [.ref aT, .ref aD, .int rt, .int (nI rs), .int (nI ra), .int rn, .int rp, .int rk, .int rf])), (aT, .inr (7, [.ref tb, .int (nI nt)])), (tb, .inl (cs 0, 400, .inl ft))] H := hP
    have hD : va_D A [(aR, .inr (4, [.ref aT, .ref aD, .int rt, .int (nI rs), .int (nI ra), .int rn, .int rp, .int rk, .int rf])), (aT, .inr (7, [.ref tb, .int (nI nt)])), (tb, .inl (cs 0, 400, .inl ft))] := hD
    replace hq_2 : ((r_2 = 1 ∧ WD ft nt rs 22) ∨ (r_2 = 0 ∧ ¬ WD ft nt rs 22)) := hq_2
    rcases hq_2 with ⟨rfl, hq_2⟩ | ⟨rfl, hq_2⟩
    ·
      refine lv_if_eq (tgt := 26) hx hb dX4_opKind_19 (by decide) (fun h9 => absurd h9 (by decide)) (fun _ => ?_)
      refine lv_iconst (v := 1) hx hb dX4_opKind_22 (by decide) ?_
      refine lv_goto (tgt := 53) hx hb dX4_opKind_23 (by decide) ?_
      exact ret_i hx hb hr hlk hS (Nat.le_of_ble_eq_true rfl) (Nat.le_of_ble_eq_true rfl) () (Or.inr (Or.inr (Or.inl ⟨rfl, (by rw [kd_s hq_1, kd_0 hq_2])⟩))) (hP.sub [0, 1, 2] rfl) (hD.sub [0, 1, 2] (by decide) rfl) dX4_opKind_53
    ·
      refine lv_if_eq (tgt := 26) hx hb dX4_opKind_19 (by decide) (fun _ => ?_) (fun h9 => absurd h9 (by decide))
      refine lv_aload_n hx hb dX4_opKind_26 rfl (lv_at hl 0 rfl) ?_
      refine va_ldcS hx hb hown (hV.2.2.2 (RX4, 167, "set", 23) (List.mem_of_getElem? (i := 23) rfl)) dX4_opKind_27 ?_
      refine aft_i (wr := []) hP hD hS hA [0, 1, 2] [] rfl rfl (by decide) (by decide) (run_vS (As := [.ref (aK 23)]) (rest := []) hFix hK hE hV hP hD hS hA [0, 1, 2] (k_X4_isWord_f l D cs _ aK aV aR 23 aT aD rt rn rp rk rf tb ft rs ra nt (by first | assumption | decide | omega) (by first | assumption | decide | omega) (by first | assumption | decide | omega) (by first | assumption | decide | omega) (by first | assumption | decide | omega)) (cwV 1 hts gc_X4_opKind_61_X4_isWord rfl rfl rfl (by decide +kernel) ⟨Nat.le_of_ble_eq_true rfl, Nat.le_of_ble_eq_true rfl⟩) rfl (by decide) (rcv (ci := 4) (T := TX4) (NN := 9) (wc := [(aR, .inr (4, [.ref aT, .ref aD, .int rt, .int (nI rs), .int (nI ra), .int rn, .int rp, .int rk, .int rf])), (aT, .inr (7, [.ref tb, .int (nI nt)])), (tb, .inl (cs 0, 400, .inl ft))]) hK hP [0, 1, 2] rfl rfl rfl) rfl hl.1 rfl (Nat.le_of_ble_eq_true rfl) dX4_opKind_29 ⟨Nat.le_of_ble_eq_true rfl, Nat.le_of_ble_eq_true rfl⟩) (fun r_3 u_3 H locs hq_3 hP hD hS => ?_)
      have hP : va_P D vwCl [(aR, .inr (4, [.ref aT, .ref aD, .int rt, .int (nI rs), .int (nI ra), .int rn, .int rp, .int rk, .int rf])), (aT, .inr (7, [.ref tb, .int (nI nt)])), (tb, .inl (cs 0, 400, .inl ft))] H := hP
      have hD : va_D A [(aR, .inr (4, [.ref aT, .ref aD, .int rt, .int (nI rs), .int (nI ra), .int rn, .int rp, .int rk, .int rf])), (aT, .inr (7, [.ref tb, .int (nI nt)])), (tb, .inl (cs 0, 400, .inl ft))] := hD
      replace hq_3 : ((r_3 = 1 ∧ WD ft nt rs 23) ∨ (r_3 = 0 ∧ ¬ WD ft nt rs 23)) := hq_3
      rcases hq_3 with ⟨rfl, hq_3⟩ | ⟨rfl, hq_3⟩
      ·
        refine lv_if_eq (tgt := 39) hx hb dX4_opKind_32 (by decide) (fun h9 => absurd h9 (by decide)) (fun _ => ?_)
        refine lv_iconst (v := 2) hx hb dX4_opKind_35 (by decide) ?_
        refine lv_goto (tgt := 53) hx hb dX4_opKind_36 (by decide) ?_
        exact ret_i hx hb hr hlk hS (Nat.le_of_ble_eq_true rfl) (Nat.le_of_ble_eq_true rfl) () (Or.inr (Or.inr (Or.inr (Or.inl ⟨rfl, (by rw [kd_s hq_1, kd_s hq_2, kd_0 hq_3])⟩)))) (hP.sub [0, 1, 2] rfl) (hD.sub [0, 1, 2] (by decide) rfl) dX4_opKind_53
      ·
        refine lv_if_eq (tgt := 39) hx hb dX4_opKind_32 (by decide) (fun _ => ?_) (fun h9 => absurd h9 (by decide))
        refine lv_aload_n hx hb dX4_opKind_39 rfl (lv_at hl 0 rfl) ?_
        refine va_ldcS hx hb hown (hV.2.2.2 (RX4, 169, "move", 24) (List.mem_of_getElem? (i := 24) rfl)) dX4_opKind_40 ?_
        refine aft_i (wr := []) hP hD hS hA [0, 1, 2] [] rfl rfl (by decide) (by decide) (run_vS (As := [.ref (aK 24)]) (rest := []) hFix hK hE hV hP hD hS hA [0, 1, 2] (k_X4_isWord_f l D cs _ aK aV aR 24 aT aD rt rn rp rk rf tb ft rs ra nt (by first | assumption | decide | omega) (by first | assumption | decide | omega) (by first | assumption | decide | omega) (by first | assumption | decide | omega) (by first | assumption | decide | omega)) (cwV 1 hts gc_X4_opKind_61_X4_isWord rfl rfl rfl (by decide +kernel) ⟨Nat.le_of_ble_eq_true rfl, Nat.le_of_ble_eq_true rfl⟩) rfl (by decide) (rcv (ci := 4) (T := TX4) (NN := 9) (wc := [(aR, .inr (4, [.ref aT, .ref aD, .int rt, .int (nI rs), .int (nI ra), .int rn, .int rp, .int rk, .int rf])), (aT, .inr (7, [.ref tb, .int (nI nt)])), (tb, .inl (cs 0, 400, .inl ft))]) hK hP [0, 1, 2] rfl rfl rfl) rfl hl.1 rfl (Nat.le_of_ble_eq_true rfl) dX4_opKind_42 ⟨Nat.le_of_ble_eq_true rfl, Nat.le_of_ble_eq_true rfl⟩) (fun r_4 u_4 H locs hq_4 hP hD hS => ?_)
        have hP : va_P D vwCl [(aR, .inr (4, [.ref aT, .ref aD, .int rt, .int (nI rs), .int (nI ra), .int rn, .int rp, .int rk, .int rf])), (aT, .inr (7, [.ref tb, .int (nI nt)])), (tb, .inl (cs 0, 400, .inl ft))] H := hP
        have hD : va_D A [(aR, .inr (4, [.ref aT, .ref aD, .int rt, .int (nI rs), .int (nI ra), .int rn, .int rp, .int rk, .int rf])), (aT, .inr (7, [.ref tb, .int (nI nt)])), (tb, .inl (cs 0, 400, .inl ft))] := hD
        replace hq_4 : ((r_4 = 1 ∧ WD ft nt rs 24) ∨ (r_4 = 0 ∧ ¬ WD ft nt rs 24)) := hq_4
        rcases hq_4 with ⟨rfl, hq_4⟩ | ⟨rfl, hq_4⟩
        ·
          refine lv_if_eq (tgt := 52) hx hb dX4_opKind_45 (by decide) (fun h9 => absurd h9 (by decide)) (fun _ => ?_)
          refine lv_iconst (v := 3) hx hb dX4_opKind_48 (by decide) ?_
          refine lv_goto (tgt := 53) hx hb dX4_opKind_49 (by decide) ?_
          exact ret_i hx hb hr hlk hS (Nat.le_of_ble_eq_true rfl) (Nat.le_of_ble_eq_true rfl) () (Or.inr (Or.inr (Or.inr (Or.inr (⟨rfl, (by rw [kd_s hq_1, kd_s hq_2, kd_s hq_3, kd_0 hq_4])⟩))))) (hP.sub [0, 1, 2] rfl) (hD.sub [0, 1, 2] (by decide) rfl) dX4_opKind_53
        ·
          refine lv_if_eq (tgt := 52) hx hb dX4_opKind_45 (by decide) (fun _ => ?_) (fun h9 => absurd h9 (by decide))
          refine lv_iconst (v := (-1)) hx hb dX4_opKind_52 (by decide) ?_
          exact ret_i hx hb hr hlk hS (Nat.le_of_ble_eq_true rfl) (Nat.le_of_ble_eq_true rfl) () (Or.inl ⟨rfl, (by rw [kd_s hq_1, kd_s hq_2, kd_s hq_3, kd_s hq_4, kd_e])⟩) (hP.sub [0, 1, 2] rfl) (hD.sub [0, 1, 2] (by decide) rfl) dX4_opKind_53

set_option maxHeartbeats 4000000 in
set_option maxRecDepth 100000 in
theorem k_X4_ruleShape_0_f (l : Launch) (D : va_G) (cs : Nat → ClassId) (sz : Nat) (aK aV : Nat → Nat)   : Sr l D cs aK aV yX4_ruleShape W_X4_ruleShape 0 0 0 0 [.int 0] [] sz (fun (u : Unit) => True) (fun (u : Unit) => aK 16) (fun (u : Unit) => []) := by
  refine entS (D := D) (cs := cs) (y := yX4_ruleShape) (ws := W_X4_ruleShape) (As := [.int 0]) (W0 := []) (Qx := fun A => va_Qr (fun (u : Unit) => True) (mpostR D A (fun (u : Unit) => aK 16) (fun (u : Unit) => [])) A) (maxL := 1) (ret := (some (.object "java/lang/String"))) (by decide) rfl (Nat.le_of_ble_eq_true rfl) ?_
  intro p e s m below meth c A ls hx hb hr hml hlk hown hts hin hK hE hV hP hD hA hS hl
  have hl : lv_has ls 1 [(0, .int 0)] := hl
  generalize hHe : s.heap = H at hP
  have hS : va_S A s.heap H [] := hHe ▸ hS
  generalize hLe : ([] : List Loc) = locs at hS ⊢
  have htw : ∀ w ∈ O_X4_ruleShape, w.before ([.int 0] : List Value).toArray s = true := fun w h => hts w (List.mem_cons_of_mem _ h)
  have hFix := (⟨hx, hb, hml, hown, hts⟩ : CallFix p m c _ _ s _ _ _)
  refine lv_iload_n hx hb dX4_ruleShape_0 rfl (lv_at hl 0 rfl) ?_
  refine lv_tableIn (off := 39) (tgt := 40) hx hb dX4_ruleShape_1 (by decide) (by decide) (by decide) (by decide) ?_
  refine va_ldcS hx hb hown (hV.2.2.2 (RX4, 171, "AN", 16) (List.mem_of_getElem? (i := 16) rfl)) dX4_ruleShape_40 ?_
  exact ret_r hx hb hr hlk hS (Nat.le_of_ble_eq_true rfl) (Nat.le_of_ble_eq_true rfl) () (trivial) (rfl) (hP.sub [] rfl) (hD.sub [] (by decide) rfl) dX4_ruleShape_42

set_option maxHeartbeats 4000000 in
set_option maxRecDepth 100000 in
theorem k_X4_ruleShape_1_f (l : Launch) (D : va_G) (cs : Nat → ClassId) (sz : Nat) (aK aV : Nat → Nat)   : Sr l D cs aK aV yX4_ruleShape W_X4_ruleShape 0 0 0 0 [.int 1] [] sz (fun (u : Unit) => True) (fun (u : Unit) => aK 16) (fun (u : Unit) => []) := by
  refine entS (D := D) (cs := cs) (y := yX4_ruleShape) (ws := W_X4_ruleShape) (As := [.int 1]) (W0 := []) (Qx := fun A => va_Qr (fun (u : Unit) => True) (mpostR D A (fun (u : Unit) => aK 16) (fun (u : Unit) => [])) A) (maxL := 1) (ret := (some (.object "java/lang/String"))) (by decide) rfl (Nat.le_of_ble_eq_true rfl) ?_
  intro p e s m below meth c A ls hx hb hr hml hlk hown hts hin hK hE hV hP hD hA hS hl
  have hl : lv_has ls 1 [(0, .int 1)] := hl
  generalize hHe : s.heap = H at hP
  have hS : va_S A s.heap H [] := hHe ▸ hS
  generalize hLe : ([] : List Loc) = locs at hS ⊢
  have htw : ∀ w ∈ O_X4_ruleShape, w.before ([.int 1] : List Value).toArray s = true := fun w h => hts w (List.mem_cons_of_mem _ h)
  have hFix := (⟨hx, hb, hml, hown, hts⟩ : CallFix p m c _ _ s _ _ _)
  refine lv_iload_n hx hb dX4_ruleShape_0 rfl (lv_at hl 0 rfl) ?_
  refine lv_tableIn (off := 39) (tgt := 40) hx hb dX4_ruleShape_1 (by decide) (by decide) (by decide) (by decide) ?_
  refine va_ldcS hx hb hown (hV.2.2.2 (RX4, 171, "AN", 16) (List.mem_of_getElem? (i := 16) rfl)) dX4_ruleShape_40 ?_
  exact ret_r hx hb hr hlk hS (Nat.le_of_ble_eq_true rfl) (Nat.le_of_ble_eq_true rfl) () (trivial) (rfl) (hP.sub [] rfl) (hD.sub [] (by decide) rfl) dX4_ruleShape_42

set_option maxHeartbeats 4000000 in
set_option maxRecDepth 100000 in
theorem k_X4_ruleShape_2_f (l : Launch) (D : va_G) (cs : Nat → ClassId) (sz : Nat) (aK aV : Nat → Nat)   : Sr l D cs aK aV yX4_ruleShape W_X4_ruleShape 0 0 0 0 [.int 2] [] sz (fun (u : Unit) => True) (fun (u : Unit) => aK 19) (fun (u : Unit) => []) := by
  refine entS (D := D) (cs := cs) (y := yX4_ruleShape) (ws := W_X4_ruleShape) (As := [.int 2]) (W0 := []) (Qx := fun A => va_Qr (fun (u : Unit) => True) (mpostR D A (fun (u : Unit) => aK 19) (fun (u : Unit) => [])) A) (maxL := 1) (ret := (some (.object "java/lang/String"))) (by decide) rfl (Nat.le_of_ble_eq_true rfl) ?_
  intro p e s m below meth c A ls hx hb hr hml hlk hown hts hin hK hE hV hP hD hA hS hl
  have hl : lv_has ls 1 [(0, .int 2)] := hl
  generalize hHe : s.heap = H at hP
  have hS : va_S A s.heap H [] := hHe ▸ hS
  generalize hLe : ([] : List Loc) = locs at hS ⊢
  have htw : ∀ w ∈ O_X4_ruleShape, w.before ([.int 2] : List Value).toArray s = true := fun w h => hts w (List.mem_cons_of_mem _ h)
  have hFix := (⟨hx, hb, hml, hown, hts⟩ : CallFix p m c _ _ s _ _ _)
  refine lv_iload_n hx hb dX4_ruleShape_0 rfl (lv_at hl 0 rfl) ?_
  refine lv_tableIn (off := 48) (tgt := 49) hx hb dX4_ruleShape_1 (by decide) (by decide) (by decide) (by decide) ?_
  refine va_ldcS hx hb hown (hV.2.2.2 (RX4, 177, "AB", 19) (List.mem_of_getElem? (i := 19) rfl)) dX4_ruleShape_49 ?_
  exact ret_r hx hb hr hlk hS (Nat.le_of_ble_eq_true rfl) (Nat.le_of_ble_eq_true rfl) () (trivial) (rfl) (hP.sub [] rfl) (hD.sub [] (by decide) rfl) dX4_ruleShape_51

set_option maxHeartbeats 4000000 in
set_option maxRecDepth 100000 in
theorem k_X4_ruleShape_3_f (l : Launch) (D : va_G) (cs : Nat → ClassId) (sz : Nat) (aK aV : Nat → Nat)   : Sr l D cs aK aV yX4_ruleShape W_X4_ruleShape 0 0 0 0 [.int 3] [] sz (fun (u : Unit) => True) (fun (u : Unit) => aK 17) (fun (u : Unit) => []) := by
  refine entS (D := D) (cs := cs) (y := yX4_ruleShape) (ws := W_X4_ruleShape) (As := [.int 3]) (W0 := []) (Qx := fun A => va_Qr (fun (u : Unit) => True) (mpostR D A (fun (u : Unit) => aK 17) (fun (u : Unit) => [])) A) (maxL := 1) (ret := (some (.object "java/lang/String"))) (by decide) rfl (Nat.le_of_ble_eq_true rfl) ?_
  intro p e s m below meth c A ls hx hb hr hml hlk hown hts hin hK hE hV hP hD hA hS hl
  have hl : lv_has ls 1 [(0, .int 3)] := hl
  generalize hHe : s.heap = H at hP
  have hS : va_S A s.heap H [] := hHe ▸ hS
  generalize hLe : ([] : List Loc) = locs at hS ⊢
  have htw : ∀ w ∈ O_X4_ruleShape, w.before ([.int 3] : List Value).toArray s = true := fun w h => hts w (List.mem_cons_of_mem _ h)
  have hFix := (⟨hx, hb, hml, hown, hts⟩ : CallFix p m c _ _ s _ _ _)
  refine lv_iload_n hx hb dX4_ruleShape_0 rfl (lv_at hl 0 rfl) ?_
  refine lv_tableIn (off := 42) (tgt := 43) hx hb dX4_ruleShape_1 (by decide) (by decide) (by decide) (by decide) ?_
  refine va_ldcS hx hb hown (hV.2.2.2 (RX4, 173, "ABS", 17) (List.mem_of_getElem? (i := 17) rfl)) dX4_ruleShape_43 ?_
  exact ret_r hx hb hr hlk hS (Nat.le_of_ble_eq_true rfl) (Nat.le_of_ble_eq_true rfl) () (trivial) (rfl) (hP.sub [] rfl) (hD.sub [] (by decide) rfl) dX4_ruleShape_45

set_option maxHeartbeats 4000000 in
set_option maxRecDepth 100000 in
theorem k_X4_ruleShape_4_f (l : Launch) (D : va_G) (cs : Nat → ClassId) (sz : Nat) (aK aV : Nat → Nat)   : Sr l D cs aK aV yX4_ruleShape W_X4_ruleShape 0 0 0 0 [.int 4] [] sz (fun (u : Unit) => True) (fun (u : Unit) => aK 19) (fun (u : Unit) => []) := by
  refine entS (D := D) (cs := cs) (y := yX4_ruleShape) (ws := W_X4_ruleShape) (As := [.int 4]) (W0 := []) (Qx := fun A => va_Qr (fun (u : Unit) => True) (mpostR D A (fun (u : Unit) => aK 19) (fun (u : Unit) => [])) A) (maxL := 1) (ret := (some (.object "java/lang/String"))) (by decide) rfl (Nat.le_of_ble_eq_true rfl) ?_
  intro p e s m below meth c A ls hx hb hr hml hlk hown hts hin hK hE hV hP hD hA hS hl
  have hl : lv_has ls 1 [(0, .int 4)] := hl
  generalize hHe : s.heap = H at hP
  have hS : va_S A s.heap H [] := hHe ▸ hS
  generalize hLe : ([] : List Loc) = locs at hS ⊢
  have htw : ∀ w ∈ O_X4_ruleShape, w.before ([.int 4] : List Value).toArray s = true := fun w h => hts w (List.mem_cons_of_mem _ h)
  have hFix := (⟨hx, hb, hml, hown, hts⟩ : CallFix p m c _ _ s _ _ _)
  refine lv_iload_n hx hb dX4_ruleShape_0 rfl (lv_at hl 0 rfl) ?_
  refine lv_tableIn (off := 48) (tgt := 49) hx hb dX4_ruleShape_1 (by decide) (by decide) (by decide) (by decide) ?_
  refine va_ldcS hx hb hown (hV.2.2.2 (RX4, 177, "AB", 19) (List.mem_of_getElem? (i := 19) rfl)) dX4_ruleShape_49 ?_
  exact ret_r hx hb hr hlk hS (Nat.le_of_ble_eq_true rfl) (Nat.le_of_ble_eq_true rfl) () (trivial) (rfl) (hP.sub [] rfl) (hD.sub [] (by decide) rfl) dX4_ruleShape_51

set_option maxHeartbeats 4000000 in
set_option maxRecDepth 100000 in
theorem k_X4_ruleShape_5_f (l : Launch) (D : va_G) (cs : Nat → ClassId) (sz : Nat) (aK aV : Nat → Nat)   : Sr l D cs aK aV yX4_ruleShape W_X4_ruleShape 0 0 0 0 [.int 5] [] sz (fun (u : Unit) => True) (fun (u : Unit) => aK 18) (fun (u : Unit) => []) := by
  refine entS (D := D) (cs := cs) (y := yX4_ruleShape) (ws := W_X4_ruleShape) (As := [.int 5]) (W0 := []) (Qx := fun A => va_Qr (fun (u : Unit) => True) (mpostR D A (fun (u : Unit) => aK 18) (fun (u : Unit) => [])) A) (maxL := 1) (ret := (some (.object "java/lang/String"))) (by decide) rfl (Nat.le_of_ble_eq_true rfl) ?_
  intro p e s m below meth c A ls hx hb hr hml hlk hown hts hin hK hE hV hP hD hA hS hl
  have hl : lv_has ls 1 [(0, .int 5)] := hl
  generalize hHe : s.heap = H at hP
  have hS : va_S A s.heap H [] := hHe ▸ hS
  generalize hLe : ([] : List Loc) = locs at hS ⊢
  have htw : ∀ w ∈ O_X4_ruleShape, w.before ([.int 5] : List Value).toArray s = true := fun w h => hts w (List.mem_cons_of_mem _ h)
  have hFix := (⟨hx, hb, hml, hown, hts⟩ : CallFix p m c _ _ s _ _ _)
  refine lv_iload_n hx hb dX4_ruleShape_0 rfl (lv_at hl 0 rfl) ?_
  refine lv_tableIn (off := 45) (tgt := 46) hx hb dX4_ruleShape_1 (by decide) (by decide) (by decide) (by decide) ?_
  refine va_ldcS hx hb hown (hV.2.2.2 (RX4, 175, "ANAN", 18) (List.mem_of_getElem? (i := 18) rfl)) dX4_ruleShape_46 ?_
  exact ret_r hx hb hr hlk hS (Nat.le_of_ble_eq_true rfl) (Nat.le_of_ble_eq_true rfl) () (trivial) (rfl) (hP.sub [] rfl) (hD.sub [] (by decide) rfl) dX4_ruleShape_48

set_option maxHeartbeats 4000000 in
set_option maxRecDepth 100000 in
theorem k_X4_opShape_0_f (l : Launch) (D : va_G) (cs : Nat → ClassId) (sz : Nat) (aK aV : Nat → Nat)   : Sr l D cs aK aV yX4_opShape W_X4_opShape 0 0 0 0 [.int 0] [] sz (fun (u : Unit) => True) (fun (u : Unit) => aK 26) (fun (u : Unit) => []) := by
  refine entS (D := D) (cs := cs) (y := yX4_opShape) (ws := W_X4_opShape) (As := [.int 0]) (W0 := []) (Qx := fun A => va_Qr (fun (u : Unit) => True) (mpostR D A (fun (u : Unit) => aK 26) (fun (u : Unit) => [])) A) (maxL := 1) (ret := (some (.object "java/lang/String"))) (by decide) rfl (Nat.le_of_ble_eq_true rfl) ?_
  intro p e s m below meth c A ls hx hb hr hml hlk hown hts hin hK hE hV hP hD hA hS hl
  have hl : lv_has ls 1 [(0, .int 0)] := hl
  generalize hHe : s.heap = H at hP
  have hS : va_S A s.heap H [] := hHe ▸ hS
  generalize hLe : ([] : List Loc) = locs at hS ⊢
  have htw : ∀ w ∈ O_X4_opShape, w.before ([.int 0] : List Value).toArray s = true := fun w h => hts w (List.mem_cons_of_mem _ h)
  have hFix := (⟨hx, hb, hml, hown, hts⟩ : CallFix p m c _ _ s _ _ _)
  refine lv_iload_n hx hb dX4_opShape_0 rfl (lv_at hl 0 rfl) ?_
  refine lv_lookup (off := 33) (tgt := 34) hx hb dX4_opShape_1 (by decide) (by decide) (by decide) ?_
  refine va_ldcS hx hb hown (hV.2.2.2 (RX4, 181, "AP", 26) (List.mem_of_getElem? (i := 26) rfl)) dX4_opShape_34 ?_
  exact ret_r hx hb hr hlk hS (Nat.le_of_ble_eq_true rfl) (Nat.le_of_ble_eq_true rfl) () (trivial) (rfl) (hP.sub [] rfl) (hD.sub [] (by decide) rfl) dX4_opShape_36

set_option maxHeartbeats 4000000 in
set_option maxRecDepth 100000 in
theorem k_X4_opShape_1_f (l : Launch) (D : va_G) (cs : Nat → ClassId) (sz : Nat) (aK aV : Nat → Nat)   : Sr l D cs aK aV yX4_opShape W_X4_opShape 0 0 0 0 [.int 1] [] sz (fun (u : Unit) => True) (fun (u : Unit) => aK 26) (fun (u : Unit) => []) := by
  refine entS (D := D) (cs := cs) (y := yX4_opShape) (ws := W_X4_opShape) (As := [.int 1]) (W0 := []) (Qx := fun A => va_Qr (fun (u : Unit) => True) (mpostR D A (fun (u : Unit) => aK 26) (fun (u : Unit) => [])) A) (maxL := 1) (ret := (some (.object "java/lang/String"))) (by decide) rfl (Nat.le_of_ble_eq_true rfl) ?_
  intro p e s m below meth c A ls hx hb hr hml hlk hown hts hin hK hE hV hP hD hA hS hl
  have hl : lv_has ls 1 [(0, .int 1)] := hl
  generalize hHe : s.heap = H at hP
  have hS : va_S A s.heap H [] := hHe ▸ hS
  generalize hLe : ([] : List Loc) = locs at hS ⊢
  have htw : ∀ w ∈ O_X4_opShape, w.before ([.int 1] : List Value).toArray s = true := fun w h => hts w (List.mem_cons_of_mem _ h)
  have hFix := (⟨hx, hb, hml, hown, hts⟩ : CallFix p m c _ _ s _ _ _)
  refine lv_iload_n hx hb dX4_opShape_0 rfl (lv_at hl 0 rfl) ?_
  refine lv_lookup (off := 33) (tgt := 34) hx hb dX4_opShape_1 (by decide) (by decide) (by decide) ?_
  refine va_ldcS hx hb hown (hV.2.2.2 (RX4, 181, "AP", 26) (List.mem_of_getElem? (i := 26) rfl)) dX4_opShape_34 ?_
  exact ret_r hx hb hr hlk hS (Nat.le_of_ble_eq_true rfl) (Nat.le_of_ble_eq_true rfl) () (trivial) (rfl) (hP.sub [] rfl) (hD.sub [] (by decide) rfl) dX4_opShape_36

set_option maxHeartbeats 4000000 in
set_option maxRecDepth 100000 in
theorem k_X4_opShape_2_f (l : Launch) (D : va_G) (cs : Nat → ClassId) (sz : Nat) (aK aV : Nat → Nat)   : Sr l D cs aK aV yX4_opShape W_X4_opShape 0 0 0 0 [.int 2] [] sz (fun (u : Unit) => True) (fun (u : Unit) => aK 16) (fun (u : Unit) => []) := by
  refine entS (D := D) (cs := cs) (y := yX4_opShape) (ws := W_X4_opShape) (As := [.int 2]) (W0 := []) (Qx := fun A => va_Qr (fun (u : Unit) => True) (mpostR D A (fun (u : Unit) => aK 16) (fun (u : Unit) => [])) A) (maxL := 1) (ret := (some (.object "java/lang/String"))) (by decide) rfl (Nat.le_of_ble_eq_true rfl) ?_
  intro p e s m below meth c A ls hx hb hr hml hlk hown hts hin hK hE hV hP hD hA hS hl
  have hl : lv_has ls 1 [(0, .int 2)] := hl
  generalize hHe : s.heap = H at hP
  have hS : va_S A s.heap H [] := hHe ▸ hS
  generalize hLe : ([] : List Loc) = locs at hS ⊢
  have htw : ∀ w ∈ O_X4_opShape, w.before ([.int 2] : List Value).toArray s = true := fun w h => hts w (List.mem_cons_of_mem _ h)
  have hFix := (⟨hx, hb, hml, hown, hts⟩ : CallFix p m c _ _ s _ _ _)
  refine lv_iload_n hx hb dX4_opShape_0 rfl (lv_at hl 0 rfl) ?_
  refine lv_lookup (off := 27) (tgt := 28) hx hb dX4_opShape_1 (by decide) (by decide) (by decide) ?_
  refine va_ldcS hx hb hown (hV.2.2.2 (RX4, 171, "AN", 16) (List.mem_of_getElem? (i := 16) rfl)) dX4_opShape_28 ?_
  exact ret_r hx hb hr hlk hS (Nat.le_of_ble_eq_true rfl) (Nat.le_of_ble_eq_true rfl) () (trivial) (rfl) (hP.sub [] rfl) (hD.sub [] (by decide) rfl) dX4_opShape_30

set_option maxHeartbeats 4000000 in
set_option maxRecDepth 100000 in
theorem k_X4_opShape_3_f (l : Launch) (D : va_G) (cs : Nat → ClassId) (sz : Nat) (aK aV : Nat → Nat)   : Sr l D cs aK aV yX4_opShape W_X4_opShape 0 0 0 0 [.int 3] [] sz (fun (u : Unit) => True) (fun (u : Unit) => aK 25) (fun (u : Unit) => []) := by
  refine entS (D := D) (cs := cs) (y := yX4_opShape) (ws := W_X4_opShape) (As := [.int 3]) (W0 := []) (Qx := fun A => va_Qr (fun (u : Unit) => True) (mpostR D A (fun (u : Unit) => aK 25) (fun (u : Unit) => [])) A) (maxL := 1) (ret := (some (.object "java/lang/String"))) (by decide) rfl (Nat.le_of_ble_eq_true rfl) ?_
  intro p e s m below meth c A ls hx hb hr hml hlk hown hts hin hK hE hV hP hD hA hS hl
  have hl : lv_has ls 1 [(0, .int 3)] := hl
  generalize hHe : s.heap = H at hP
  have hS : va_S A s.heap H [] := hHe ▸ hS
  generalize hLe : ([] : List Loc) = locs at hS ⊢
  have htw : ∀ w ∈ O_X4_opShape, w.before ([.int 3] : List Value).toArray s = true := fun w h => hts w (List.mem_cons_of_mem _ h)
  have hFix := (⟨hx, hb, hml, hown, hts⟩ : CallFix p m c _ _ s _ _ _)
  refine lv_iload_n hx hb dX4_opShape_0 rfl (lv_at hl 0 rfl) ?_
  refine lv_lookup (off := 30) (tgt := 31) hx hb dX4_opShape_1 (by decide) (by decide) (by decide) ?_
  refine va_ldcS hx hb hown (hV.2.2.2 (RX4, 179, "ABP", 25) (List.mem_of_getElem? (i := 25) rfl)) dX4_opShape_31 ?_
  exact ret_r hx hb hr hlk hS (Nat.le_of_ble_eq_true rfl) (Nat.le_of_ble_eq_true rfl) () (trivial) (rfl) (hP.sub [] rfl) (hD.sub [] (by decide) rfl) dX4_opShape_33
