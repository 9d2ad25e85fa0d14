set_option maxHeartbeats 4000000 in
set_option maxRecDepth 100000 in
theorem k_X4_isWord_f (l : Launch) (D : va_G) (cs : Nat → ClassId) (sz : Nat) (aK aV : Nat → Nat) (aR : Nat) (wi : Nat) (aT : Nat) (aD : Nat) (rt : Int32) (rn : Int32) (rp : Int32) (rk : Int32) (rf : Int32) (tb : Nat) (ft : Nat → Int32) (rs : Nat) (ra : Nat) (nt : Nat) (hnt : nt ≤ 400) (hrt : ra ≤ nt) (hrs : rs ≤ ra) (htk : TKc ft nt rs ra rt rn) (hnj : wi < nJS) : Si l D cs aK aV yX4_isWord W_X4_isWord 4 85 0 0 [.ref aR, .ref (aK wi)] [(aR, .inr (4, [.ref aT, .ref aD, .int rt, .int (nI rs), .int (nI ra), .int rn, .int rp, .int rk, .int rf])), (aT, .inr (7, [.ref tb, .int (nI nt)])), (tb, .inl (cs 0, 400, .inl ft))] sz (fun (r : Int32) (u : Unit) => ((r = 1 ∧ WD ft nt rs wi) ∨ (r = 0 ∧ ¬ WD ft nt rs wi))) (fun (u : Unit) => [(aR, .inr (4, [.ref aT, .ref aD, .int rt, .int (nI rs), .int (nI ra), .int rn, .int rp, .int rk, .int rf])), (aT, .inr (7, [.ref tb, .int (nI nt)])), (tb, .inl (cs 0, 400, .inl ft))]) := by
  refine entS (D := D) (cs := cs) (y := yX4_isWord) (ws := W_X4_isWord) (As := [.ref aR, .ref (aK wi)]) (W0 := [(aR, .inr (4, [.ref aT, .ref aD, .int rt, .int (nI rs), .int (nI ra), .int rn, .int rp, .int rk, .int rf])), (aT, .inr (7, [.ref tb, .int (nI nt)])), (tb, .inl (cs 0, 400, .inl ft))]) (Qx := fun A => va_Qi (fun (r : Int32) (u : Unit) => ((r = 1 ∧ WD ft nt rs wi) ∨ (r = 0 ∧ ¬ WD ft nt rs wi))) (mpost D A (fun (u : Unit) => [(aR, .inr (4, [.ref aT, .ref aD, .int rt, .int (nI rs), .int (nI ra), .int rn, .int rp, .int rk, .int rf])), (aT, .inr (7, [.ref tb, .int (nI nt)])), (tb, .inl (cs 0, 400, .inl ft))])) A) (maxL := 3) (ret := (some .boolean)) (by decide) rfl (Nat.le_of_ble_eq_true rfl) ?_
  intro p e s m below meth c A ls hx hb hr hml hlk hown hts hin hK hE hV hP hD hA hS hl
  have hl : lv_has ls 3 [(0, .ref aR), (1, .ref (aK wi))] := hl
  generalize hHe : s.heap = H at hP
  have hS : va_S A s.heap H [] := hHe ▸ hS
  generalize hLe : ([] : List Loc) = locs at hS ⊢
  have htw : ∀ w ∈ O_X4_isWord, w.before ([.ref aR, .ref (aK wi)] : List Value).toArray s = true := fun w h => hts w (List.mem_cons_of_mem _ (List.mem_append_left _ h))
  have hFix := (⟨hx, hb, hml, hown, hts⟩ : CallFix p m c _ _ s _ _ _)
  have hsl := sl_le (i := wi) (by assumption)
  refine lv_aload_n hx hb dX4_isWord_0 rfl (lv_at hl 0 rfl) ?_
  refine va_get (D := D) (ci := 4) (v := .int rt) (C := RX4) (T := TX4) (N := 9) hx hb hts iuX4_isWord_X4 hown hK hP 0 rfl rfl 2 (by decide) (htw (.fieldLink RX4 11 "MergeJudge$Reader" "token" "I") (List.mem_of_getElem? (i := 0) rfl)) (fun _ h9 => h9) rfl dX4_isWord_1 ?_
  refine lv_iconst (v := 1) hx hb dX4_isWord_4 (by decide) ?_
  refine lv_icmp_ne (tgt := 38) hx hb dX4_isWord_5 (by decide) (fun c_1 => ?_) (fun c_1 => ?_)
  ·
    refine lv_iconst (v := 0) hx hb dX4_isWord_38 (by decide) ?_
    exact ret_z hx hb hr hlk hS (Nat.le_of_ble_eq_true rfl) (Nat.le_of_ble_eq_true rfl) (by decide) () (Or.inr (⟨rfl, (fun h9 => c_1 (htk.2.1.trans h9.1))⟩)) (hP.sub [0, 1, 2] rfl) (hD.sub [0, 1, 2] (by decide) rfl) dX4_isWord_39
  ·
    refine lv_aload_n hx hb dX4_isWord_8 rfl (lv_at hl 0 rfl) ?_
    refine va_get (D := D) (ci := 4) (v := .int (nI ra)) (C := RX4) (T := TX4) (N := 9) hx hb hts iuX4_isWord_X4 hown hK hP 0 rfl rfl 4 (by decide) (htw (.fieldLink RX4 18 "MergeJudge$Reader" "at" "I") (List.mem_of_getElem? (i := 1) rfl)) (fun _ h9 => h9) rfl dX4_isWord_9 ?_
    refine lv_aload_n hx hb dX4_isWord_12 rfl (lv_at hl 0 rfl) ?_
    refine va_get (D := D) (ci := 4) (v := .int (nI rs)) (C := RX4) (T := TX4) (N := 9) hx hb hts iuX4_isWord_X4 hown hK hP 0 rfl rfl 3 (by decide) (htw (.fieldLink RX4 15 "MergeJudge$Reader" "start" "I") (List.mem_of_getElem? (i := 2) rfl)) (fun _ h9 => h9) rfl dX4_isWord_13 ?_
    refine lv_isub hx hb dX4_isWord_16 ?_
    refine cf_i (nI (ra - rs)) (pk_sub (a := ra) (b := rs) (by omega)) ?_
    refine lv_aload_n hx hb dX4_isWord_17 rfl (lv_at hl 1 rfl) ?_
    refine aft_i (wr := [(aR, .inr (4, [.ref aT, .ref aD, .int rt, .int (nI rs), .int (nI ra), .int rn, .int rp, .int rk, .int rf])), (aT, .inr (7, [.ref tb, .int (nI nt)])), (tb, .inl (cs 0, 400, .inl ft))]) hP hD hS hA [] [0, 1, 2] rfl rfl (by decide) (by decide) (run_vS (As := []) (rest := [.int (nI (ra - rs))]) hFix hK hE hV hP hD hS hA [] (k_J0_length_8abf5 l D cs _ aK aV wi (by first | assumption | decide | omega)) (cwV 0 hts gc_X4_isWord_183_J0_length_8abf5 rfl rfl rfl (by decide +kernel) ⟨Nat.le_of_ble_eq_true rfl, Nat.le_of_ble_eq_true rfl⟩) rfl (by decide) (vk_recv hV.1 (by assumption) hS) rfl hl.1 rfl (Nat.le_of_ble_eq_true rfl) dX4_isWord_18 ⟨Nat.le_of_ble_eq_true rfl, Nat.le_of_ble_eq_true rfl⟩) (fun r_2 u_2 H locs hq_2 hP hD hS => ?_)
    obtain ⟨j_2, rfl⟩ : ∃ z, z = u_2 := ⟨_, rfl⟩
    have hP : va_P D vwCl [(aR, .inr (4, [.ref aT, .ref aD, .int rt, .int (nI rs), .int (nI ra), .int rn, .int rp, .int rk, .int rf])), (aT, .inr (7, [.ref tb, .int (nI nt)])), (tb, .inl (cs 0, 400, .inl ft))] H := hP
    have hD : va_D A [(aR, .inr (4, [.ref aT, .ref aD, .int rt, .int (nI rs), .int (nI ra), .int rn, .int rp, .int rk, .int rf])), (aT, .inr (7, [.ref tb, .int (nI nt)])), (tb, .inl (cs 0, 400, .inl ft))] := hD
    replace hq_2 : ((r_2 = nI j_2 ∧ j_2 = sl wi)) := hq_2
    obtain ⟨rfl, hq_2⟩ := hq_2
    ·
      refine lv_icmp_ne (tgt := 38) hx hb dX4_isWord_21 (by decide) (fun c_3 => ?_) (fun c_3 => ?_)
      ·
        have hn_3 := bne_t (a := ra - rs) (b := j_2) c_3 (by omega) (by omega)
        refine lv_iconst (v := 0) hx hb dX4_isWord_38 (by decide) ?_
        exact ret_z hx hb hr hlk hS (Nat.le_of_ble_eq_true rfl) (Nat.le_of_ble_eq_true rfl) (by decide) () (Or.inr (⟨rfl, (fun h9 => absurd (htk.1.trans h9.2.1) (by omega))⟩)) (hP.sub [0, 1, 2] rfl) (hD.sub [0, 1, 2] (by decide) rfl) dX4_isWord_39
      ·
        have hn_3 := bne_f (a := ra - rs) (b := j_2) c_3 (by omega) (by omega)
        refine lv_aload_n hx hb dX4_isWord_24 rfl (lv_at hl 0 rfl) ?_
        refine va_get (D := D) (ci := 4) (v := .int (nI ra)) (C := RX4) (T := TX4) (N := 9) hx hb hts iuX4_isWord_X4 hown hK hP 0 rfl rfl 4 (by decide) (htw (.fieldLink RX4 18 "MergeJudge$Reader" "at" "I") (List.mem_of_getElem? (i := 1) rfl)) (fun _ h9 => h9) rfl dX4_isWord_25 ?_
        refine lv_aload_n hx hb dX4_isWord_28 rfl (lv_at hl 0 rfl) ?_
        refine va_get (D := D) (ci := 4) (v := .ref aT) (C := RX4) (T := TX4) (N := 9) hx hb hts iuX4_isWord_X4 hown hK hP 0 rfl rfl 0 (by decide) (htw (.fieldLink RX4 33 "MergeJudge$Reader" "tape" "LMergeJudge$Tape;") (List.mem_of_getElem? (i := 7) rfl)) (fun _ h9 => h9) rfl dX4_isWord_29 ?_
        refine va_get (D := D) (ci := 7) (v := .int (nI nt)) (C := RX7) (T := TX7) (N := 2) hx hb hts iuX4_isWord_X7 hown hK hP 1 rfl rfl 1 (by decide) (htw (.fieldLink RX4 196 "MergeJudge$Tape" "size" "I") (List.mem_of_getElem? (i := 8) rfl)) (fun _ h9 => h9) rfl dX4_isWord_32 ?_
        refine lv_icmp_le (tgt := 40) hx hb dX4_isWord_35 (by decide) (fun c_4 => ?_) (fun c_4 => ?_)
        ·
          have hn_4 := ble_t (a := ra) (b := nt) c_4 (by omega) (by omega)
          refine lv_iconst (v := 0) hx hb dX4_isWord_40 (by decide) ?_
          refine lv_istore_n (lv' := [(2, .int 0), (0, .ref aR), (1, .ref (aK wi))]) hx hb dX4_isWord_41 rfl hl (by decide) rfl (fun ls hl => ?_)
          have lp_5 : ∀ (nfu : Nat) (g0_a : Nat) (H : Heap) (locs : List Loc) (ls : Array Slot) (hw0_a : g0_a ≤ sl wi) (hw1_a : ∀ q, q < g0_a → ft (rs + q) = nI (sch wi q)), sl wi - g0_a < nfu → va_P D vwCl [(aR, .inr (4, [.ref aT, .ref aD, .int rt, .int (nI rs), .int (nI ra), .int rn, .int rp, .int rk, .int rf])), (aT, .inr (7, [.ref tb, .int (nI nt)])), (tb, .inl (cs 0, 400, .inl ft))] H → va_D A [(aR, .inr (4, [.ref aT, .ref aD, .int rt, .int (nI rs), .int (nI ra), .int rn, .int rp, .int rk, .int rf])), (aT, .inr (7, [.ref tb, .int (nI nt)])), (tb, .inl (cs 0, 400, .inl ft))] → va_S A s.heap H locs → lv_has ls 3 [(2, .int (nI g0_a)), (0, .ref aR), (1, .ref (aK wi))] → W p l e (mRm 4 0 0 85) s m ([.ref aR, .ref (aK wi)] : List Value).toArray below meth c H locs 0 0 (MQ below (va_Qi (fun (r : Int32) (u : Unit) => ((r = 1 ∧ WD ft nt rs wi) ∨ (r = 0 ∧ ¬ WD ft nt rs wi))) (mpost D A (fun (u : Unit) => [(aR, .inr (4, [.ref aT, .ref aD, .int rt, .int (nI rs), .int (nI ra), .int rn, .int rp, .int rk, .int rf])), (aT, .inr (7, [.ref tb, .int (nI nt)])), (tb, .inl (cs 0, 400, .inl ft))])) A) ([.ref aR, .ref (aK wi)] : List Value).toArray s 0 0 A) (F0 m 42 ls []) := by
            intro nfu
            induction nfu with
            | zero => intro g0_a H locs ls hw0_a hw1_a hmu; exact absurd hmu (Nat.not_lt_zero _)
            | succ nfu ih =>
              intro g0_a H locs ls hw0_a hw1_a hmu hP hD hS hl
              have ih_lp_5 := @ih
              refine lv_iload_n hx hb dX4_isWord_42 rfl (lv_at hl 0 rfl) ?_
              refine lv_aload_n hx hb dX4_isWord_43 rfl (lv_at hl 2 rfl) ?_
              refine aft_i (wr := [(aR, .inr (4, [.ref aT, .ref aD, .int rt, .int (nI rs), .int (nI ra), .int rn, .int rp, .int rk, .int rf])), (aT, .inr (7, [.ref tb, .int (nI nt)])), (tb, .inl (cs 0, 400, .inl ft))]) hP hD hS hA [] [0, 1, 2] rfl rfl (by decide) (by decide) (run_vS (As := []) (rest := [.int (nI g0_a)]) hFix hK hE hV hP hD hS hA [] (k_J0_length_8abf5 l D cs _ aK aV wi (by first | assumption | decide | omega)) (cwV 0 hts gc_X4_isWord_183_J0_length_8abf5 rfl rfl rfl (by decide +kernel) ⟨Nat.le_of_ble_eq_true rfl, Nat.le_of_ble_eq_true rfl⟩) rfl (by decide) (vk_recv hV.1 (by assumption) hS) rfl hl.1 rfl (Nat.le_of_ble_eq_true rfl) dX4_isWord_44 ⟨Nat.le_of_ble_eq_true rfl, Nat.le_of_ble_eq_true rfl⟩) (fun r_6 u_6 H locs hq_6 hP hD hS => ?_)
              obtain ⟨j_6, rfl⟩ : ∃ z, z = u_6 := ⟨_, rfl⟩
              have hP : va_P D vwCl [(aR, .inr (4, [.ref aT, .ref aD, .int rt, .int (nI rs), .int (nI ra), .int rn, .int rp, .int rk, .int rf])), (aT, .inr (7, [.ref tb, .int (nI nt)])), (tb, .inl (cs 0, 400, .inl ft))] H := hP
              have hD : va_D A [(aR, .inr (4, [.ref aT, .ref aD, .int rt, .int (nI rs), .int (nI ra), .int rn, .int rp, .int rk, .int rf])), (aT, .inr (7, [.ref tb, .int (nI nt)])), (tb, .inl (cs 0, 400, .inl ft))] := hD
              replace hq_6 : ((r_6 = nI j_6 ∧ j_6 = sl wi)) := hq_6
              obtain ⟨rfl, hq_6⟩ := hq_6
              ·
                refine lv_icmp_ge (tgt := 80) hx hb dX4_isWord_47 (by decide) (fun c_7 => ?_) (fun c_7 => ?_)
                ·
                  have hn_7 := bge_t (a := g0_a) (b := j_6) c_7 (by omega) (by omega)
                  refine lv_iconst (v := 1) hx hb dX4_isWord_80 (by decide) ?_
                  exact ret_z hx hb hr hlk hS (Nat.le_of_ble_eq_true rfl) (Nat.le_of_ble_eq_true rfl) (by decide) () (Or.inl ⟨rfl, ⟨htk.2.1.symm.trans c_1, htk.1.symm.trans (by omega), fun q h9 => hw1_a q (by omega)⟩⟩) (hP.sub [0, 1, 2] rfl) (hD.sub [0, 1, 2] (by decide) rfl) dX4_isWord_81
                ·
                  have hn_7 := bge_f (a := g0_a) (b := j_6) c_7 (by omega) (by omega)
                  refine lv_aload_n hx hb dX4_isWord_50 rfl (lv_at hl 1 rfl) ?_
                  refine va_get (D := D) (ci := 4) (v := .ref aT) (C := RX4) (T := TX4) (N := 9) hx hb hts iuX4_isWord_X4 hown hK hP 0 rfl rfl 0 (by decide) (htw (.fieldLink RX4 33 "MergeJudge$Reader" "tape" "LMergeJudge$Tape;") (List.mem_of_getElem? (i := 7) rfl)) (fun _ h9 => h9) rfl dX4_isWord_51 ?_
                  refine va_get (D := D) (ci := 7) (v := .ref tb) (C := RX7) (T := TX7) (N := 2) hx hb hts iuX4_isWord_X7 hown hK hP 1 rfl rfl 0 (by decide) (htw (.fieldLink RX4 201 "MergeJudge$Tape" "bytes" "[B") (List.mem_of_getElem? (i := 9) rfl)) (fun _ h9 => h9) rfl dX4_isWord_54 ?_
                  refine lv_aload_n hx hb dX4_isWord_57 rfl (lv_at hl 1 rfl) ?_
                  refine va_get (D := D) (ci := 4) (v := .int (nI rs)) (C := RX4) (T := TX4) (N := 9) hx hb hts iuX4_isWord_X4 hown hK hP 0 rfl rfl 3 (by decide) (htw (.fieldLink RX4 15 "MergeJudge$Reader" "start" "I") (List.mem_of_getElem? (i := 2) rfl)) (fun _ h9 => h9) rfl dX4_isWord_58 ?_
                  refine lv_iload_n hx hb dX4_isWord_61 rfl (lv_at hl 0 rfl) ?_
                  refine lv_iadd hx hb dX4_isWord_62 ?_
                  refine cf_i (nI (rs + g0_a)) (nI_add rs g0_a) ?_
                  refine va_bald hx hb hK hP 2 0 rfl rfl (vp_in_nI (by omega) (by omega)) dX4_isWord_63 ?_
                  rw [nI_clamp (by omega)]
                  refine lv_aload_n hx hb dX4_isWord_64 rfl (lv_at hl 2 rfl) ?_
                  refine lv_iload_n hx hb dX4_isWord_65 rfl (lv_at hl 0 rfl) ?_
                  refine aft_i (wr := [(aR, .inr (4, [.ref aT, .ref aD, .int rt, .int (nI rs), .int (nI ra), .int rn, .int rp, .int rk, .int rf])), (aT, .inr (7, [.ref tb, .int (nI nt)])), (tb, .inl (cs 0, 400, .inl ft))]) hP hD hS hA [] [0, 1, 2] rfl rfl (by decide) (by decide) (run_vS (As := [.int (nI g0_a)]) (rest := [.int (ft (rs + g0_a))]) hFix hK hE hV hP hD hS hA [] (k_J0_charAt_5068e l D cs _ aK aV wi g0_a (by first | assumption | decide | omega) (by first | assumption | decide | omega)) (cwV 1 hts gc_X4_isWord_188_J0_charAt_5068e rfl rfl rfl (by decide +kernel) ⟨Nat.le_of_ble_eq_true rfl, Nat.le_of_ble_eq_true rfl⟩) rfl (by decide) (vk_recv hV.1 (by assumption) hS) rfl hl.1 rfl (Nat.le_of_ble_eq_true rfl) dX4_isWord_66 ⟨Nat.le_of_ble_eq_true rfl, Nat.le_of_ble_eq_true rfl⟩) (fun r_8 u_8 H locs hq_8 hP hD hS => ?_)
                  obtain ⟨j_8, rfl⟩ : ∃ z, z = u_8 := ⟨_, rfl⟩
                  have hP : va_P D vwCl [(aR, .inr (4, [.ref aT, .ref aD, .int rt, .int (nI rs), .int (nI ra), .int rn, .int rp, .int rk, .int rf])), (aT, .inr (7, [.ref tb, .int (nI nt)])), (tb, .inl (cs 0, 400, .inl ft))] H := hP
                  have hD : va_D A [(aR, .inr (4, [.ref aT, .ref aD, .int rt, .int (nI rs), .int (nI ra), .int rn, .int rp, .int rk, .int rf])), (aT, .inr (7, [.ref tb, .int (nI nt)])), (tb, .inl (cs 0, 400, .inl ft))] := hD
                  replace hq_8 : ((r_8 = nI j_8 ∧ j_8 = sch wi g0_a ∧ j_8 < 128)) := hq_8
                  obtain ⟨rfl, hq_8⟩ := hq_8
                  ·
                    refine lv_icmp_eq (tgt := 74) hx hb dX4_isWord_69 (by decide) (fun c_9 => ?_) (fun c_9 => ?_)
                    ·
                      refine lv_iinc (v := (nI (g0_a + 1))) (lv' := [(2, .int (nI (g0_a + 1))), (0, .ref aR), (1, .ref (aK wi))]) hx hb dX4_isWord_74 hl (k := 0) rfl (nI_1 _) (by decide) rfl (fun ls hl => ?_)
                      refine lv_goto (tgt := 42) hx hb dX4_isWord_77 (by decide) ?_
                      exact ih_lp_5 (g0_a + 1) H locs ls (by first | omega | (dsimp only; omega)) (wd_s hw1_a (c_9.trans (by rw [hq_8.1]))) (by omega) (hP.sub [0, 1, 2] rfl) (hD.sub [0, 1, 2] (by decide) rfl) hS (lv_sub hl [0, 1, 2] rfl)
                    ·
                      refine lv_iconst (v := 0) hx hb dX4_isWord_72 (by decide) ?_
                      exact ret_z hx hb hr hlk hS (Nat.le_of_ble_eq_true rfl) (Nat.le_of_ble_eq_true rfl) (by decide) () (Or.inr (⟨rfl, (fun h9 => c_9 ((h9.2.2 g0_a (by omega)).trans (by rw [hq_8.1])))⟩)) (hP.sub [0, 1, 2] rfl) (hD.sub [0, 1, 2] (by decide) rfl) dX4_isWord_73
          exact lp_5 _ 0 H locs ls (by first | omega | (dsimp only; omega)) (fun q h9 => absurd h9 (Nat.not_lt_zero q)) (Nat.lt_succ_self _) (hP.sub [0, 1, 2] rfl) (hD.sub [0, 1, 2] (by decide) rfl) hS (lv_sub hl [0, 1, 2] rfl)
        ·
          have hn_4 := ble_f (a := ra) (b := nt) c_4 (by omega) (by omega)
          refine lv_iconst (v := 0) hx hb dX4_isWord_38 (by decide) ?_
          exact ret_z hx hb hr hlk hS (Nat.le_of_ble_eq_true rfl) (Nat.le_of_ble_eq_true rfl) (by decide) () (Or.inr (⟨rfl, (absurd hrt (by omega))⟩)) (hP.sub [0, 1, 2] rfl) (hD.sub [0, 1, 2] (by decide) rfl) dX4_isWord_39

set_option maxHeartbeats 4000000 in
set_option maxRecDepth 100000 in
theorem k_X4_failed_f (l : Launch) (D : va_G) (cs : Nat → ClassId) (sz : Nat) (aR : Nat) (ki : Int32) (aT : Nat) (aD : Nat) (rt : Int32) (rn : Int32) (rp : Int32) (rk : Int32) (rf : Int32) (rs : Nat) (ra : Nat)  : Mi l D cs yX4_failed W_X4_failed 0 0 0 0 [.ref aR, .int ki] [(aR, .inr (4, [.ref aT, .ref aD, .int rt, .int (nI rs), .int (nI ra), .int rn, .int rp, .int rk, .int rf]))] sz (fun (r : Int32) (u : Int32 × Int32) => (u.1 = ki) ∧ (u.2 = nI rs) ∧ ((r = 0 ∧ True))) (fun (u : Int32 × Int32) => [(aR, .inr (4, [.ref aT, .ref aD, .int rt, .int (nI rs), .int (nI ra), .int rn, .int rp, .int u.1, .int u.2]))]) := by
  refine ent (D := D) (cs := cs) (y := yX4_failed) (ws := W_X4_failed) (As := [.ref aR, .int ki]) (W0 := [(aR, .inr (4, [.ref aT, .ref aD, .int rt, .int (nI rs), .int (nI ra), .int rn, .int rp, .int rk, .int rf]))]) (Qx := fun A => va_Qi (fun (r : Int32) (u : Int32 × Int32) => (u.1 = ki) ∧ (u.2 = nI rs) ∧ ((r = 0 ∧ True))) (mpost D A (fun (u : Int32 × Int32) => [(aR, .inr (4, [.ref aT, .ref aD, .int rt, .int (nI rs), .int (nI ra), .int rn, .int rp, .int u.1, .int u.2]))])) A) (maxL := 2) (ret := (some .boolean)) (by decide) rfl (Nat.le_of_ble_eq_true rfl) ?_
  intro p e s m below meth c A ls hx hb hr hml hlk hown hts hin hK hE hP hD hA hS hl
  have hl : lv_has ls 2 [(0, .ref aR), (1, .int ki)] := hl
  generalize hHe : s.heap = H at hP
  have hS : va_S A s.heap H [] := hHe ▸ hS
  generalize hLe : ([] : List Loc) = locs at hS ⊢
  have htw : ∀ w ∈ O_X4_failed, w.before ([.ref aR, .int ki] : List Value).toArray s = true := fun w h => hts w (List.mem_cons_of_mem _ (List.mem_append_left _ h))
  have hFix := (⟨hx, hb, hml, hown, hts⟩ : CallFix p m c _ _ s _ _ _)
  refine lv_aload_n hx hb dX4_failed_0 rfl (lv_at hl 0 rfl) ?_
  refine lv_iload_n hx hb dX4_failed_1 rfl (lv_at hl 1 rfl) ?_
  refine va_put (D := D) (ci := 4) (v := .int ki) (ty := .int) (C := RX4) (T := TX4) (N := 9) hx hb hts iuX4_failed_X4 tyX4 tyX4_ok nmX4 hown hK hP hD hS 0 rfl rfl 7 (by decide) (htw (.fieldLink RX4 27 "MergeJudge$Reader" "faultKind" "I") (List.mem_of_getElem? (i := 0) rfl)) (fun _ h9 => h9) rfl (by decide +kernel) rfl rfl (Nat.le_of_ble_eq_true rfl) dX4_failed_2 (fun H locs hP hD hS => ?_)
  have hP : va_P D vwCl [(aR, .inr (4, [.ref aT, .ref aD, .int rt, .int (nI rs), .int (nI ra), .int rn, .int rp, .int ki, .int rf]))] H := hP
  have hD : va_D A [(aR, .inr (4, [.ref aT, .ref aD, .int rt, .int (nI rs), .int (nI ra), .int rn, .int rp, .int ki, .int rf]))] := hD
  refine lv_aload_n hx hb dX4_failed_5 rfl (lv_at hl 0 rfl) ?_
  refine lv_aload_n hx hb dX4_failed_6 rfl (lv_at hl 0 rfl) ?_
  refine va_get (D := D) (ci := 4) (v := .int (nI rs)) (C := RX4) (T := TX4) (N := 9) hx hb hts iuX4_failed_X4 hown hK hP 0 rfl rfl 3 (by decide) (htw (.fieldLink RX4 15 "MergeJudge$Reader" "start" "I") (List.mem_of_getElem? (i := 1) rfl)) (fun _ h9 => h9) rfl dX4_failed_7 ?_
  refine va_put (D := D) (ci := 4) (v := .int (nI rs)) (ty := .int) (C := RX4) (T := TX4) (N := 9) hx hb hts iuX4_failed_X4 tyX4 tyX4_ok nmX4 hown hK hP hD hS 0 rfl rfl 8 (by decide) (htw (.fieldLink RX4 30 "MergeJudge$Reader" "faultPlace" "I") (List.mem_of_getElem? (i := 2) rfl)) (fun _ h9 => h9) rfl (by decide +kernel) rfl rfl (Nat.le_of_ble_eq_true rfl) dX4_failed_10 (fun H locs hP hD hS => ?_)
  have hP : va_P D vwCl [(aR, .inr (4, [.ref aT, .ref aD, .int rt, .int (nI rs), .int (nI ra), .int rn, .int rp, .int ki, .int (nI rs)]))] H := hP
  have hD : va_D A [(aR, .inr (4, [.ref aT, .ref aD, .int rt, .int (nI rs), .int (nI ra), .int rn, .int rp, .int ki, .int (nI rs)]))] := hD
  refine lv_iconst (v := 0) hx hb dX4_failed_13 (by decide) ?_
  exact ret_z hx hb hr hlk hS (Nat.le_of_ble_eq_true rfl) (Nat.le_of_ble_eq_true rfl) (by decide) (ki, nI rs) (⟨rfl, rfl, ⟨rfl, trivial⟩⟩) (hP.sub [0] rfl) (hD.sub [0] (by decide) rfl) dX4_failed_14

set_option maxHeartbeats 4000000 in
set_option maxRecDepth 100000 in
theorem k_X4_passWord_f (l : Launch) (D : va_G) (cs : Nat → ClassId) (sz : Nat) (aK aV : Nat → Nat) (aR : Nat) (wi : Nat) (aT : Nat) (aD : Nat) (rt : Int32) (rn : Int32) (rp : Int32) (rk : Int32) (rf : Int32) (tb : Nat) (ft : Nat → Int32) (rs : Nat) (ra : Nat) (nt : Nat) (hnt : nt ≤ 400) (hrt : ra ≤ nt) (hrs : rs ≤ ra) (htk : TKc ft nt rs ra rt rn) (hnj : wi < nJS) : Si l D cs aK aV yX4_passWord W_X4_passWord 5 107 0 0 [.ref aR, .ref (aK wi)] [(aR, .inr (4, [.ref aT, .ref aD, .int rt, .int (nI rs), .int (nI ra), .int rn, .int rp, .int rk, .int rf])), (aT, .inr (7, [.ref tb, .int (nI nt)])), (tb, .inl (cs 0, 400, .inl ft))] sz (fun (r : Int32) (u : Int32 × Nat × Nat × Int32 × Int32 × Int32) => (u.2.1 ≤ u.2.2.1) ∧ (u.2.2.1 ≤ nt) ∧ (TKc ft nt u.2.1 u.2.2.1 u.1 u.2.2.2.1) ∧ (r = 1 → (u.2.2.2.2.1 = rk ∧ u.2.2.2.2.2 = rf)) ∧ ((r = 1 ∧ exW ft nt (0, rs) wi = (0, u.2.1)) ∨ (r = 0 ∧ ¬ u.2.2.2.2.1 = 0 ∧ exW ft nt (0, rs) wi = (u.2.2.2.2.1, u.2.1) ∧ u.2.2.2.2.2 = nI u.2.1))) (fun (u : Int32 × Nat × Nat × Int32 × Int32 × Int32) => [(aR, .inr (4, [.ref aT, .ref aD, .int u.1, .int (nI u.2.1), .int (nI u.2.2.1), .int u.2.2.2.1, .int rp, .int u.2.2.2.2.1, .int u.2.2.2.2.2])), (aT, .inr (7, [.ref tb, .int (nI nt)])), (tb, .inl (cs 0, 400, .inl ft))]) := by
  refine entS (D := D) (cs := cs) (y := yX4_passWord) (ws := W_X4_passWord) (As := [.ref aR, .ref (aK wi)]) (W0 := [(aR, .inr (4, [.ref aT, .ref aD, .int rt, .int (nI rs), .int (nI ra), .int rn, .int rp, .int rk, .int rf])), (aT, .inr (7, [.ref tb, .int (nI nt)])), (tb, .inl (cs 0, 400, .inl ft))]) (Qx := fun A => va_Qi (fun (r : Int32) (u : Int32 × Nat × Nat × Int32 × Int32 × Int32) => (u.2.1 ≤ u.2.2.1) ∧ (u.2.2.1 ≤ nt) ∧ (TKc ft nt u.2.1 u.2.2.1 u.1 u.2.2.2.1) ∧ (r = 1 → (u.2.2.2.2.1 = rk ∧ u.2.2.2.2.2 = rf)) ∧ ((r = 1 ∧ exW ft nt (0, rs) wi = (0, u.2.1)) ∨ (r = 0 ∧ ¬ u.2.2.2.2.1 = 0 ∧ exW ft nt (0, rs) wi = (u.2.2.2.2.1, u.2.1) ∧ u.2.2.2.2.2 = nI u.2.1))) (mpost D A (fun (u : Int32 × Nat × Nat × Int32 × Int32 × Int32) => [(aR, .inr (4, [.ref aT, .ref aD, .int u.1, .int (nI u.2.1), .int (nI u.2.2.1), .int u.2.2.2.1, .int rp, .int u.2.2.2.2.1, .int u.2.2.2.2.2])), (aT, .inr (7, [.ref tb, .int (nI nt)])), (tb, .inl (cs 0, 400, .inl ft))])) A) (maxL := 2) (ret := (some .boolean)) (by decide) rfl (Nat.le_of_ble_eq_true rfl) ?_
  intro p e s m below meth c A ls hx hb hr hml hlk hown hts hin hK hE hV hP hD hA hS hl
  have hl : lv_has ls 2 [(0, .ref aR), (1, .ref (aK wi))] := hl
  generalize hHe : s.heap = H at hP
  have hS : va_S A s.heap H [] := hHe ▸ hS
  generalize hLe : ([] : List Loc) = locs at hS ⊢
  have htw : ∀ w ∈ O_X4_passWord, w.before ([.ref aR, .ref (aK wi)] : List Value).toArray s = true := fun w h => hts w (List.mem_cons_of_mem _ (List.mem_append_left _ h))
  have hFix := (⟨hx, hb, hml, hown, hts⟩ : CallFix p m c _ _ s _ _ _)
  refine lv_aload_n hx hb dX4_passWord_0 rfl (lv_at hl 0 rfl) ?_
  refine lv_aload_n hx hb dX4_passWord_1 rfl (lv_at hl 1 rfl) ?_
  refine aft_i (wr := []) hP hD hS hA [0, 1, 2] [] rfl rfl (by decide) (by decide) (run_vS (As := [.ref (aK wi)]) (rest := []) hFix hK hE hV hP hD hS hA [0, 1, 2] (k_X4_isWord_f l D cs _ aK aV aR wi aT aD rt rn rp rk rf tb ft rs ra nt (by first | assumption | decide | omega) (by first | assumption | decide | omega) (by first | assumption | decide | omega) (by first | assumption | decide | omega) (by first | assumption | decide | omega)) (cwV 1 hts gc_X4_passWord_61_X4_isWord rfl rfl rfl (by decide +kernel) ⟨Nat.le_of_ble_eq_true rfl, Nat.le_of_ble_eq_true rfl⟩) rfl (by decide) (rcv (ci := 4) (T := TX4) (NN := 9) (wc := [(aR, .inr (4, [.ref aT, .ref aD, .int rt, .int (nI rs), .int (nI ra), .int rn, .int rp, .int rk, .int rf])), (aT, .inr (7, [.ref tb, .int (nI nt)])), (tb, .inl (cs 0, 400, .inl ft))]) hK hP [0, 1, 2] rfl rfl rfl) rfl hl.1 rfl (Nat.le_of_ble_eq_true rfl) dX4_passWord_2 ⟨Nat.le_of_ble_eq_true rfl, Nat.le_of_ble_eq_true rfl⟩) (fun r_1 u_1 H locs hq_1 hP hD hS => ?_)
  have hP : va_P D vwCl [(aR, .inr (4, [.ref aT, .ref aD, .int rt, .int (nI rs), .int (nI ra), .int rn, .int rp, .int rk, .int rf])), (aT, .inr (7, [.ref tb, .int (nI nt)])), (tb, .inl (cs 0, 400, .inl ft))] H := hP
  have hD : va_D A [(aR, .inr (4, [.ref aT, .ref aD, .int rt, .int (nI rs), .int (nI ra), .int rn, .int rp, .int rk, .int rf])), (aT, .inr (7, [.ref tb, .int (nI nt)])), (tb, .inl (cs 0, 400, .inl ft))] := hD
  replace hq_1 : ((r_1 = 1 ∧ WD ft nt rs wi) ∨ (r_1 = 0 ∧ ¬ WD ft nt rs wi)) := hq_1
  rcases hq_1 with ⟨rfl, hq_1⟩ | ⟨rfl, hq_1⟩
  ·
    refine lv_if_ne (tgt := 14) hx hb dX4_passWord_5 (by decide) (fun _ => ?_) (fun h9 => absurd h9 (by decide))
    refine lv_aload_n hx hb dX4_passWord_14 rfl (lv_at hl 0 rfl) ?_
    refine aft_v (wr := []) hP hD hS hA [0, 1, 2] [] rfl rfl (by decide) (by decide) (run_v (As := []) (rest := []) hFix hK hE hP hD [0, 1, 2] (k_X4_next_f l D cs _ aR aT aD rt rn rp rk rf tb ft rs ra nt (by first | assumption | decide | omega) (by first | assumption | decide | omega)) (cwV 0 hts gc_X4_passWord_46_X4_next rfl rfl rfl (by decide +kernel) ⟨Nat.le_of_ble_eq_true rfl, Nat.le_of_ble_eq_true rfl⟩) rfl (by decide) rfl rfl rfl hl.1 rfl (Nat.le_of_ble_eq_true rfl) dX4_passWord_15 ⟨Nat.le_of_ble_eq_true rfl, Nat.le_of_ble_eq_true rfl⟩) (fun u_2 H locs hq_2 hP hD hS => ?_)
    obtain ⟨rt1_2, rs1_2, ra1_2, rn1_2⟩ := u_2
    have hP : va_P D vwCl [(aR, .inr (4, [.ref aT, .ref aD, .int rt1_2, .int (nI rs1_2), .int (nI ra1_2), .int rn1_2, .int rp, .int rk, .int rf])), (aT, .inr (7, [.ref tb, .int (nI nt)])), (tb, .inl (cs 0, 400, .inl ft))] H := hP
    have hD : va_D A [(aR, .inr (4, [.ref aT, .ref aD, .int rt1_2, .int (nI rs1_2), .int (nI ra1_2), .int rn1_2, .int rp, .int rk, .int rf])), (aT, .inr (7, [.ref tb, .int (nI nt)])), (tb, .inl (cs 0, 400, .inl ft))] := hD
    replace hq_2 : (rs1_2 = tS ft nt ra) ∧ (TKc ft nt rs1_2 ra1_2 rt1_2 rn1_2) ∧ (rs1_2 ≤ ra1_2) ∧ (ra1_2 ≤ nt) := hq_2
    obtain ⟨hp_2_0, hp_2_1, hp_2_2, hp_2_3⟩ := hq_2
    refine lv_iconst (v := 1) hx hb dX4_passWord_18 (by decide) ?_
    exact ret_z hx hb hr hlk hS (Nat.le_of_ble_eq_true rfl) (Nat.le_of_ble_eq_true rfl) (by decide) (rt1_2, rs1_2, ra1_2, rn1_2, rk, rf) (⟨(by first | omega | (dsimp only; omega)), (by first | omega | (dsimp only; omega)), (by assumption), (fun _ => ⟨rfl, rfl⟩), Or.inl ⟨rfl, (by rw [exW_y hq_1]; show (0, nx ft nt rs) = _; rw [hp_2_0, htk.1]; rfl)⟩⟩) (hP.sub [0, 1, 2] rfl) (hD.sub [0, 1, 2] (by decide) rfl) dX4_passWord_19
  ·
    refine lv_if_ne (tgt := 14) hx hb dX4_passWord_5 (by decide) (fun h9 => absurd h9 (by decide)) (fun _ => ?_)
    refine lv_aload_n hx hb dX4_passWord_8 rfl (lv_at hl 0 rfl) ?_
    refine lv_iconst (v := 1) hx hb dX4_passWord_9 (by decide) ?_
    refine aft_i (wr := [(aT, .inr (7, [.ref tb, .int (nI nt)])), (tb, .inl (cs 0, 400, .inl ft))]) hP hD hS hA [0] [1, 2] rfl rfl (by decide) (by decide) (run_v (As := [.int 1]) (rest := []) hFix hK hE hP hD [0] (k_X4_failed_f l D cs _ aR 1 aT aD rt rn rp rk rf rs ra) (cwV 1 hts gc_X4_passWord_78_X4_failed rfl rfl rfl (by decide +kernel) ⟨Nat.le_of_ble_eq_true rfl, Nat.le_of_ble_eq_true rfl⟩) rfl (by decide) rfl rfl rfl hl.1 rfl (Nat.le_of_ble_eq_true rfl) dX4_passWord_10 ⟨Nat.le_of_ble_eq_true rfl, Nat.le_of_ble_eq_true rfl⟩) (fun r_3 u_3 H locs hq_3 hP hD hS => ?_)
    obtain ⟨rk1_3, rf1_3⟩ := u_3
    have hP : va_P D vwCl [(aT, .inr (7, [.ref tb, .int (nI nt)])), (tb, .inl (cs 0, 400, .inl ft)), (aR, .inr (4, [.ref aT, .ref aD, .int rt, .int (nI rs), .int (nI ra), .int rn, .int rp, .int rk1_3, .int rf1_3]))] H := hP
    have hD : va_D A [(aT, .inr (7, [.ref tb, .int (nI nt)])), (tb, .inl (cs 0, 400, .inl ft)), (aR, .inr (4, [.ref aT, .ref aD, .int rt, .int (nI rs), .int (nI ra), .int rn, .int rp, .int rk1_3, .int rf1_3]))] := hD
    replace hq_3 : (rk1_3 = 1) ∧ (rf1_3 = nI rs) ∧ ((r_3 = 0 ∧ True)) := hq_3
    obtain ⟨hp_3_0, hp_3_1, hq_3⟩ := hq_3
    obtain ⟨rfl, hq_3⟩ := hq_3
    ·
      exact ret_z hx hb hr hlk hS (Nat.le_of_ble_eq_true rfl) (Nat.le_of_ble_eq_true rfl) (by decide) (rt, rs, ra, rn, rk1_3, rf1_3) (⟨(by first | omega | (dsimp only; omega)), (by first | omega | (dsimp only; omega)), (by assumption), (fun h9 => absurd h9 (by decide)), Or.inr (⟨rfl, ⟨(fun h9 => absurd (hp_3_0.symm.trans h9) (by decide)), (by rw [exW_n hq_1, hp_3_0]), hp_3_1⟩⟩)⟩) (hP.sub [2, 0, 1] rfl) (hD.sub [2, 0, 1] (by decide) rfl) dX4_passWord_13

set_option maxHeartbeats 4000000 in
set_option maxRecDepth 100000 in
theorem k_X4_passNumber_f (l : Launch) (D : va_G) (cs : Nat → ClassId) (sz : Nat) (aR : Nat) (lo : Nat) (hi : Nat) (aT : Nat) (aD : Nat) (rt : Int32) (rn : Int32) (rp : Int32) (rk : Int32) (rf : Int32) (tb : Nat) (ft : Nat → Int32) (rs : Nat) (ra : Nat) (nt : Nat) (hnt : nt ≤ 400) (ha_lo : lo < 100) (ha_hi : hi < 100) (hrt : ra ≤ nt) (hrs : rs ≤ ra) (htk : TKc ft nt rs ra rt rn) : Mi l D cs yX4_passNumber W_X4_passNumber 2 40 0 0 [.ref aR, .int (nI lo), .int (nI hi)] [(aR, .inr (4, [.ref aT, .ref aD, .int rt, .int (nI rs), .int (nI ra), .int rn, .int rp, .int rk, .int rf])), (aT, .inr (7, [.ref tb, .int (nI nt)])), (tb, .inl (cs 0, 400, .inl ft))] sz (fun (r : Int32) (u : Int32 × Nat × Nat × Int32 × Int32 × Int32 × Int32) => (u.2.1 ≤ u.2.2.1) ∧ (u.2.2.1 ≤ nt) ∧ (TKc ft nt u.2.1 u.2.2.1 u.1 u.2.2.2.1) ∧ (r = 1 → (u.2.2.2.2.2.1 = rk ∧ u.2.2.2.2.2.2 = rf)) ∧ ((r = 1 ∧ ∃ v9 : Nat, nuS ft nt (0, rs) lo (hi : Nat) = (0, u.2.1, v9) ∧ u.2.2.2.2.1 = nI v9 ∧ v9 ≤ hi) ∨ (r = 0 ∧ ¬ u.2.2.2.2.2.1 = 0 ∧ nuS ft nt (0, rs) lo (hi : Nat) = (u.2.2.2.2.2.1, u.2.1, 0) ∧ u.2.2.2.2.2.2 = nI u.2.1))) (fun (u : Int32 × Nat × Nat × Int32 × Int32 × Int32 × Int32) => [(aR, .inr (4, [.ref aT, .ref aD, .int u.1, .int (nI u.2.1), .int (nI u.2.2.1), .int u.2.2.2.1, .int u.2.2.2.2.1, .int u.2.2.2.2.2.1, .int u.2.2.2.2.2.2])), (aT, .inr (7, [.ref tb, .int (nI nt)])), (tb, .inl (cs 0, 400, .inl ft))]) := by
  refine ent (D := D) (cs := cs) (y := yX4_passNumber) (ws := W_X4_passNumber) (As := [.ref aR, .int (nI lo), .int (nI hi)]) (W0 := [(aR, .inr (4, [.ref aT, .ref aD, .int rt, .int (nI rs), .int (nI ra), .int rn, .int rp, .int rk, .int rf])), (aT, .inr (7, [.ref tb, .int (nI nt)])), (tb, .inl (cs 0, 400, .inl ft))]) (Qx := fun A => va_Qi (fun (r : Int32) (u : Int32 × Nat × Nat × Int32 × Int32 × Int32 × Int32) => (u.2.1 ≤ u.2.2.1) ∧ (u.2.2.1 ≤ nt) ∧ (TKc ft nt u.2.1 u.2.2.1 u.1 u.2.2.2.1) ∧ (r = 1 → (u.2.2.2.2.2.1 = rk ∧ u.2.2.2.2.2.2 = rf)) ∧ ((r = 1 ∧ ∃ v9 : Nat, nuS ft nt (0, rs) lo (hi : Nat) = (0, u.2.1, v9) ∧ u.2.2.2.2.1 = nI v9 ∧ v9 ≤ hi) ∨ (r = 0 ∧ ¬ u.2.2.2.2.2.1 = 0 ∧ nuS ft nt (0, rs) lo (hi : Nat) = (u.2.2.2.2.2.1, u.2.1, 0) ∧ u.2.2.2.2.2.2 = nI u.2.1))) (mpost D A (fun (u : Int32 × Nat × Nat × Int32 × Int32 × Int32 × Int32) => [(aR, .inr (4, [.ref aT, .ref aD, .int u.1, .int (nI u.2.1), .int (nI u.2.2.1), .int u.2.2.2.1, .int u.2.2.2.2.1, .int u.2.2.2.2.2.1, .int u.2.2.2.2.2.2])), (aT, .inr (7, [.ref tb, .int (nI nt)])), (tb, .inl (cs 0, 400, .inl ft))])) A) (maxL := 3) (ret := (some .boolean)) (by decide) rfl (Nat.le_of_ble_eq_true rfl) ?_
  intro p e s m below meth c A ls hx hb hr hml hlk hown hts hin hK hE hP hD hA hS hl
  have hl : lv_has ls 3 [(0, .ref aR), (1, .int (nI lo)), (2, .int (nI hi))] := hl
  generalize hHe : s.heap = H at hP
  have hS : va_S A s.heap H [] := hHe ▸ hS
  generalize hLe : ([] : List Loc) = locs at hS ⊢
  have htw : ∀ w ∈ O_X4_passNumber, w.before ([.ref aR, .int (nI lo), .int (nI hi)] : List Value).toArray s = true := fun w h => hts w (List.mem_cons_of_mem _ (List.mem_append_left _ h))
  have hFix := (⟨hx, hb, hml, hown, hts⟩ : CallFix p m c _ _ s _ _ _)
  refine lv_aload_n hx hb dX4_passNumber_0 rfl (lv_at hl 0 rfl) ?_
  refine va_get (D := D) (ci := 4) (v := .int rt) (C := RX4) (T := TX4) (N := 9) hx hb hts iuX4_passNumber_X4 hown hK hP 0 rfl rfl 2 (by decide) (htw (.fieldLink RX4 11 "MergeJudge$Reader" "token" "I") (List.mem_of_getElem? (i := 0) rfl)) (fun _ h9 => h9) rfl dX4_passNumber_1 ?_
  refine lv_iconst (v := 2) hx hb dX4_passNumber_4 (by decide) ?_
  refine lv_icmp_eq (tgt := 14) hx hb dX4_passNumber_5 (by decide) (fun c_1 => ?_) (fun c_1 => ?_)
  ·
    refine lv_aload_n hx hb dX4_passNumber_14 rfl (lv_at hl 0 rfl) ?_
    refine va_get (D := D) (ci := 4) (v := .int rn) (C := RX4) (T := TX4) (N := 9) hx hb hts iuX4_passNumber_X4 hown hK hP 0 rfl rfl 5 (by decide) (htw (.fieldLink RX4 21 "MergeJudge$Reader" "number" "I") (List.mem_of_getElem? (i := 5) rfl)) (fun _ h9 => h9) rfl dX4_passNumber_15 ?_
    refine lv_iload_n hx hb dX4_passNumber_18 rfl (lv_at hl 1 rfl) ?_
    refine lv_icmp_lt (tgt := 30) hx hb dX4_passNumber_19 (by decide) (fun c_2 => ?_) (fun c_2 => ?_)
    ·
      refine lv_aload_n hx hb dX4_passNumber_30 rfl (lv_at hl 0 rfl) ?_
      refine lv_iconst (v := 2) hx hb dX4_passNumber_31 (by decide) ?_
      refine aft_i (wr := [(aT, .inr (7, [.ref tb, .int (nI nt)])), (tb, .inl (cs 0, 400, .inl ft))]) hP hD hS hA [0] [1, 2] rfl rfl (by decide) (by decide) (run_v (As := [.int 2]) (rest := []) hFix hK hE hP hD [0] (k_X4_failed_f l D cs _ aR 2 aT aD rt rn rp rk rf rs ra) (cwV 1 hts gc_X4_passNumber_78_X4_failed rfl rfl rfl (by decide +kernel) ⟨Nat.le_of_ble_eq_true rfl, Nat.le_of_ble_eq_true rfl⟩) rfl (by decide) rfl rfl rfl hl.1 rfl (Nat.le_of_ble_eq_true rfl) dX4_passNumber_32 ⟨Nat.le_of_ble_eq_true rfl, Nat.le_of_ble_eq_true rfl⟩) (fun r_3 u_3 H locs hq_3 hP hD hS => ?_)
      obtain ⟨rk1_3, rf1_3⟩ := u_3
      have hP : va_P D vwCl [(aT, .inr (7, [.ref tb, .int (nI nt)])), (tb, .inl (cs 0, 400, .inl ft)), (aR, .inr (4, [.ref aT, .ref aD, .int rt, .int (nI rs), .int (nI ra), .int rn, .int rp, .int rk1_3, .int rf1_3]))] H := hP
      have hD : va_D A [(aT, .inr (7, [.ref tb, .int (nI nt)])), (tb, .inl (cs 0, 400, .inl ft)), (aR, .inr (4, [.ref aT, .ref aD, .int rt, .int (nI rs), .int (nI ra), .int rn, .int rp, .int rk1_3, .int rf1_3]))] := hD
      replace hq_3 : (rk1_3 = 2) ∧ (rf1_3 = nI rs) ∧ ((r_3 = 0 ∧ True)) := hq_3
      obtain ⟨hp_3_0, hp_3_1, hq_3⟩ := hq_3
      obtain ⟨rfl, hq_3⟩ := hq_3
      ·
        exact ret_z hx hb hr hlk hS (Nat.le_of_ble_eq_true rfl) (Nat.le_of_ble_eq_true rfl) (by decide) (rt, rs, ra, rn, rp, rk1_3, rf1_3) (⟨(by first | omega | (dsimp only; omega)), (by first | omega | (dsimp only; omega)), (by assumption), (fun h9 => absurd h9 (by decide)), Or.inr (⟨rfl, ⟨(fun h9 => absurd (hp_3_0.symm.trans h9) (by decide)), (by rw [nuS_2 (htk.2.1.symm.trans c_1) (fun h9 => absurd c_2 (pn_lo2 (htk.2.2 c_1) ha_lo h9.1)), hp_3_0]), hp_3_1⟩⟩)⟩) (hP.sub [2, 0, 1] rfl) (hD.sub [2, 0, 1] (by decide) rfl) dX4_passNumber_35
    ·
      refine lv_aload_n hx hb dX4_passNumber_22 rfl (lv_at hl 0 rfl) ?_
      refine va_get (D := D) (ci := 4) (v := .int rn) (C := RX4) (T := TX4) (N := 9) hx hb hts iuX4_passNumber_X4 hown hK hP 0 rfl rfl 5 (by decide) (htw (.fieldLink RX4 21 "MergeJudge$Reader" "number" "I") (List.mem_of_getElem? (i := 5) rfl)) (fun _ h9 => h9) rfl dX4_passNumber_23 ?_
      refine lv_iload_n hx hb dX4_passNumber_26 rfl (lv_at hl 2 rfl) ?_
      refine lv_icmp_le (tgt := 36) hx hb dX4_passNumber_27 (by decide) (fun c_4 => ?_) (fun c_4 => ?_)
      ·
        refine lv_aload_n hx hb dX4_passNumber_36 rfl (lv_at hl 0 rfl) ?_
        refine lv_aload_n hx hb dX4_passNumber_37 rfl (lv_at hl 0 rfl) ?_
        refine va_get (D := D) (ci := 4) (v := .int rn) (C := RX4) (T := TX4) (N := 9) hx hb hts iuX4_passNumber_X4 hown hK hP 0 rfl rfl 5 (by decide) (htw (.fieldLink RX4 21 "MergeJudge$Reader" "number" "I") (List.mem_of_getElem? (i := 5) rfl)) (fun _ h9 => h9) rfl dX4_passNumber_38 ?_
        refine va_put (D := D) (ci := 4) (v := .int rn) (ty := .int) (C := RX4) (T := TX4) (N := 9) hx hb hts iuX4_passNumber_X4 tyX4 tyX4_ok nmX4 hown hK hP hD hS 0 rfl rfl 6 (by decide) (htw (.fieldLink RX4 24 "MergeJudge$Reader" "passed" "I") (List.mem_of_getElem? (i := 6) rfl)) (fun _ h9 => h9) rfl (by decide +kernel) rfl rfl (Nat.le_of_ble_eq_true rfl) dX4_passNumber_41 (fun H locs hP hD hS => ?_)
        have hP : va_P D vwCl [(aR, .inr (4, [.ref aT, .ref aD, .int rt, .int (nI rs), .int (nI ra), .int rn, .int rn, .int rk, .int rf])), (aT, .inr (7, [.ref tb, .int (nI nt)])), (tb, .inl (cs 0, 400, .inl ft))] H := hP
        have hD : va_D A [(aR, .inr (4, [.ref aT, .ref aD, .int rt, .int (nI rs), .int (nI ra), .int rn, .int rn, .int rk, .int rf])), (aT, .inr (7, [.ref tb, .int (nI nt)])), (tb, .inl (cs 0, 400, .inl ft))] := hD
        refine lv_aload_n hx hb dX4_passNumber_44 rfl (lv_at hl 0 rfl) ?_
        refine aft_v (wr := []) hP hD hS hA [0, 1, 2] [] rfl rfl (by decide) (by decide) (run_v (As := []) (rest := []) hFix hK hE hP hD [0, 1, 2] (k_X4_next_f l D cs _ aR aT aD rt rn rn rk rf tb ft rs ra nt (by first | assumption | decide | omega) (by first | assumption | decide | omega)) (cwV 0 hts gc_X4_passNumber_46_X4_next rfl rfl rfl (by decide +kernel) ⟨Nat.le_of_ble_eq_true rfl, Nat.le_of_ble_eq_true rfl⟩) rfl (by decide) rfl rfl rfl hl.1 rfl (Nat.le_of_ble_eq_true rfl) dX4_passNumber_45 ⟨Nat.le_of_ble_eq_true rfl, Nat.le_of_ble_eq_true rfl⟩) (fun u_5 H locs hq_5 hP hD hS => ?_)
        obtain ⟨rt1_5, rs1_5, ra1_5, rn1_5⟩ := u_5
        have hP : va_P D vwCl [(aR, .inr (4, [.ref aT, .ref aD, .int rt1_5, .int (nI rs1_5), .int (nI ra1_5), .int rn1_5, .int rn, .int rk, .int rf])), (aT, .inr (7, [.ref tb, .int (nI nt)])), (tb, .inl (cs 0, 400, .inl ft))] H := hP
        have hD : va_D A [(aR, .inr (4, [.ref aT, .ref aD, .int rt1_5, .int (nI rs1_5), .int (nI ra1_5), .int rn1_5, .int rn, .int rk, .int rf])), (aT, .inr (7, [.ref tb, .int (nI nt)])), (tb, .inl (cs 0, 400, .inl ft))] := hD
        replace hq_5 : (rs1_5 = tS ft nt ra) ∧ (TKc ft nt rs1_5 ra1_5 rt1_5 rn1_5) ∧ (rs1_5 ≤ ra1_5) ∧ (ra1_5 ≤ nt) := hq_5
        obtain ⟨hp_5_0, hp_5_1, hp_5_2, hp_5_3⟩ := hq_5
        refine lv_iconst (v := 1) hx hb dX4_passNumber_48 (by decide) ?_
        exact ret_z hx hb hr hlk hS (Nat.le_of_ble_eq_true rfl) (Nat.le_of_ble_eq_true rfl) (by decide) (rt1_5, rs1_5, ra1_5, rn1_5, rn, rk, rf) (⟨(by first | omega | (dsimp only; omega)), (by first | omega | (dsimp only; omega)), (by assumption), (fun _ => ⟨rfl, rfl⟩), Or.inl ⟨rfl, ⟨tV ft nt rs, (by rw [nuS_y (htk.2.1.symm.trans c_1) (pn_lo (htk.2.2 c_1) ha_lo c_2) (pn_hi (htk.2.2 c_1) ha_hi c_4)]; show (0, nx ft nt rs, _) = _; rw [hp_5_0, htk.1]; rfl), pn_eq (htk.2.2 c_1) ha_hi c_4, pn_le (htk.2.2 c_1) ha_hi c_4⟩⟩⟩) (hP.sub [0, 1, 2] rfl) (hD.sub [0, 1, 2] (by decide) rfl) dX4_passNumber_49
      ·
        refine lv_aload_n hx hb dX4_passNumber_30 rfl (lv_at hl 0 rfl) ?_
        refine lv_iconst (v := 2) hx hb dX4_passNumber_31 (by decide) ?_
        refine aft_i (wr := [(aT, .inr (7, [.ref tb, .int (nI nt)])), (tb, .inl (cs 0, 400, .inl ft))]) hP hD hS hA [0] [1, 2] rfl rfl (by decide) (by decide) (run_v (As := [.int 2]) (rest := []) hFix hK hE hP hD [0] (k_X4_failed_f l D cs _ aR 2 aT aD rt rn rp rk rf rs ra) (cwV 1 hts gc_X4_passNumber_78_X4_failed rfl rfl rfl (by decide +kernel) ⟨Nat.le_of_ble_eq_true rfl, Nat.le_of_ble_eq_true rfl⟩) rfl (by decide) rfl rfl rfl hl.1 rfl (Nat.le_of_ble_eq_true rfl) dX4_passNumber_32 ⟨Nat.le_of_ble_eq_true rfl, Nat.le_of_ble_eq_true rfl⟩) (fun r_6 u_6 H locs hq_6 hP hD hS => ?_)
        obtain ⟨rk1_6, rf1_6⟩ := u_6
        have hP : va_P D vwCl [(aT, .inr (7, [.ref tb, .int (nI nt)])), (tb, .inl (cs 0, 400, .inl ft)), (aR, .inr (4, [.ref aT, .ref aD, .int rt, .int (nI rs), .int (nI ra), .int rn, .int rp, .int rk1_6, .int rf1_6]))] H := hP
        have hD : va_D A [(aT, .inr (7, [.ref tb, .int (nI nt)])), (tb, .inl (cs 0, 400, .inl ft)), (aR, .inr (4, [.ref aT, .ref aD, .int rt, .int (nI rs), .int (nI ra), .int rn, .int rp, .int rk1_6, .int rf1_6]))] := hD
        replace hq_6 : (rk1_6 = 2) ∧ (rf1_6 = nI rs) ∧ ((r_6 = 0 ∧ True)) := hq_6
        obtain ⟨hp_6_0, hp_6_1, hq_6⟩ := hq_6
        obtain ⟨rfl, hq_6⟩ := hq_6
        ·
          exact ret_z hx hb hr hlk hS (Nat.le_of_ble_eq_true rfl) (Nat.le_of_ble_eq_true rfl) (by decide) (rt, rs, ra, rn, rp, rk1_6, rf1_6) (⟨(by first | omega | (dsimp only; omega)), (by first | omega | (dsimp only; omega)), (by assumption), (fun h9 => absurd h9 (by decide)), Or.inr (⟨rfl, ⟨(fun h9 => absurd (hp_6_0.symm.trans h9) (by decide)), (by rw [nuS_2 (htk.2.1.symm.trans c_1) (fun h9 => c_4 (pn_hi2 (htk.2.2 c_1) ha_hi h9.2)), hp_6_0]), hp_6_1⟩⟩)⟩) (hP.sub [2, 0, 1] rfl) (hD.sub [2, 0, 1] (by decide) rfl) dX4_passNumber_35
  ·
    refine lv_aload_n hx hb dX4_passNumber_8 rfl (lv_at hl 0 rfl) ?_
    refine lv_iconst (v := 1) hx hb dX4_passNumber_9 (by decide) ?_
    refine aft_i (wr := [(aT, .inr (7, [.ref tb, .int (nI nt)])), (tb, .inl (cs 0, 400, .inl ft))]) hP hD hS hA [0] [1, 2] rfl rfl (by decide) (by decide) (run_v (As := [.int 1]) (rest := []) hFix hK hE hP hD [0] (k_X4_failed_f l D cs _ aR 1 aT aD rt rn rp rk rf rs ra) (cwV 1 hts gc_X4_passNumber_78_X4_failed rfl rfl rfl (by decide +kernel) ⟨Nat.le_of_ble_eq_true rfl, Nat.le_of_ble_eq_true rfl⟩) rfl (by decide) rfl rfl rfl hl.1 rfl (Nat.le_of_ble_eq_true rfl) dX4_passNumber_10 ⟨Nat.le_of_ble_eq_true rfl, Nat.le_of_ble_eq_true rfl⟩) (fun r_7 u_7 H locs hq_7 hP hD hS => ?_)
    obtain ⟨rk1_7, rf1_7⟩ := u_7
    have hP : va_P D vwCl [(aT, .inr (7, [.ref tb, .int (nI nt)])), (tb, .inl (cs 0, 400, .inl ft)), (aR, .inr (4, [.ref aT, .ref aD, .int rt, .int (nI rs), .int (nI ra), .int rn, .int rp, .int rk1_7, .int rf1_7]))] H := hP
    have hD : va_D A [(aT, .inr (7, [.ref tb, .int (nI nt)])), (tb, .inl (cs 0, 400, .inl ft)), (aR, .inr (4, [.ref aT, .ref aD, .int rt, .int (nI rs), .int (nI ra), .int rn, .int rp, .int rk1_7, .int rf1_7]))] := hD
    replace hq_7 : (rk1_7 = 1) ∧ (rf1_7 = nI rs) ∧ ((r_7 = 0 ∧ True)) := hq_7
    obtain ⟨hp_7_0, hp_7_1, hq_7⟩ := hq_7
    obtain ⟨rfl, hq_7⟩ := hq_7
    ·
      exact ret_z hx hb hr hlk hS (Nat.le_of_ble_eq_true rfl) (Nat.le_of_ble_eq_true rfl) (by decide) (rt, rs, ra, rn, rp, rk1_7, rf1_7) (⟨(by first | omega | (dsimp only; omega)), (by first | omega | (dsimp only; omega)), (by assumption), (fun h9 => absurd h9 (by decide)), Or.inr (⟨rfl, ⟨(fun h9 => absurd (hp_7_0.symm.trans h9) (by decide)), (by rw [nuS_1 (fun h9 => c_1 (htk.2.1.trans h9)), hp_7_0]), hp_7_1⟩⟩)⟩) (hP.sub [2, 0, 1] rfl) (hD.sub [2, 0, 1] (by decide) rfl) dX4_passNumber_13
