set_option maxHeartbeats 4000000 in
set_option maxRecDepth 100000 in
theorem k_J3_checkIndex_n (l : Launch) (D : va_G) (cs : Nat → ClassId) (sz : Nat) (k : Nat) (n2 : Nat) (hk : k < n2) (hn2 : n2 < 2 ^ 31) : Mi l D cs yJ3_checkIndex_8e157 W_J3_checkIndex_8e157 0 0 0 0 [.int (nI k), .int (nI n2), .null] [] sz (fun (r : Int32) (u : Nat) => ((r = nI u ∧ True))) (fun (u : Nat) => []) := by
  refine ent (D := D) (cs := cs) (y := yJ3_checkIndex_8e157) (ws := W_J3_checkIndex_8e157) (As := [.int (nI k), .int (nI n2), .null]) (W0 := []) (Qx := fun A => va_Qi (fun (r : Int32) (u : Nat) => ((r = nI u ∧ True))) (mpost D A (fun (u : Nat) => [])) A) (maxL := 3) (ret := (some .int)) (by decide) rfl (Nat.le_of_ble_eq_true rfl) ?_
  intro p e s m below meth c A ls hx hb hr hml hlk hown hts hin hK hE hP hD hA hS hl
  have hl : lv_has ls 3 [(0, .int (nI k)), (1, .int (nI n2)), (2, .null)] := hl
  generalize hHe : s.heap = H at hP
  have hS : va_S A s.heap H [] := hHe ▸ hS
  generalize hLe : ([] : List Loc) = locs at hS ⊢
  have htw : ∀ w ∈ O_J3_checkIndex_8e157, w.before ([.int (nI k), .int (nI n2), .null] : List Value).toArray s = true := fun w h => hts w (List.mem_cons_of_mem _ h)
  have hFix := (⟨hx, hb, hml, hown, hts⟩ : CallFix p m c _ _ s _ _ _)
  refine lv_iload_n hx hb dJ3_checkIndex_8e157_0 rfl (lv_at hl 0 rfl) ?_
  refine lv_if_lt (tgt := 9) hx hb dJ3_checkIndex_8e157_1 (by decide) (fun h9 => False.elim (nneg_l0 (a := k) h9 (by omega) (by decide))) (fun _ => ?_)
  refine lv_iload_n hx hb dJ3_checkIndex_8e157_4 rfl (lv_at hl 0 rfl) ?_
  refine lv_iload_n hx hb dJ3_checkIndex_8e157_5 rfl (lv_at hl 1 rfl) ?_
  refine lv_icmp_lt (tgt := 16) hx hb dJ3_checkIndex_8e157_6 (by decide) (fun c_2 => ?_) (fun c_2 => False.elim (absurd (blt_f (a := k) (b := n2) c_2 (by omega) (by omega)) (by omega)))
  refine lv_iload_n hx hb dJ3_checkIndex_8e157_16 rfl (lv_at hl 0 rfl) ?_
  exact ret_i hx hb hr hlk hS (Nat.le_of_ble_eq_true rfl) (Nat.le_of_ble_eq_true rfl) (k) (⟨rfl, trivial⟩) (hP.sub [] rfl) (hD.sub [] (by decide) rfl) dJ3_checkIndex_8e157_17

set_option maxHeartbeats 4000000 in
set_option maxRecDepth 100000 in
theorem k_J3_checkIndex_r (l : Launch) (D : va_G) (cs : Nat → ClassId) (sz : Nat) (tq : Nat) (k : Nat) (n2 : Nat) (hk : k < n2) (hn2 : n2 < 2 ^ 31) : Mi l D cs yJ3_checkIndex_8e157 W_J3_checkIndex_8e157 0 0 0 0 [.int (nI k), .int (nI n2), .ref tq] [] sz (fun (r : Int32) (u : Nat) => ((r = nI u ∧ True))) (fun (u : Nat) => []) := by
  refine ent (D := D) (cs := cs) (y := yJ3_checkIndex_8e157) (ws := W_J3_checkIndex_8e157) (As := [.int (nI k), .int (nI n2), .ref tq]) (W0 := []) (Qx := fun A => va_Qi (fun (r : Int32) (u : Nat) => ((r = nI u ∧ True))) (mpost D A (fun (u : Nat) => [])) A) (maxL := 3) (ret := (some .int)) (by decide) rfl (Nat.le_of_ble_eq_true rfl) ?_
  intro p e s m below meth c A ls hx hb hr hml hlk hown hts hin hK hE hP hD hA hS hl
  have hl : lv_has ls 3 [(0, .int (nI k)), (1, .int (nI n2)), (2, .ref tq)] := hl
  generalize hHe : s.heap = H at hP
  have hS : va_S A s.heap H [] := hHe ▸ hS
  generalize hLe : ([] : List Loc) = locs at hS ⊢
  have htw : ∀ w ∈ O_J3_checkIndex_8e157, w.before ([.int (nI k), .int (nI n2), .ref tq] : List Value).toArray s = true := fun w h => hts w (List.mem_cons_of_mem _ h)
  have hFix := (⟨hx, hb, hml, hown, hts⟩ : CallFix p m c _ _ s _ _ _)
  refine lv_iload_n hx hb dJ3_checkIndex_8e157_0 rfl (lv_at hl 0 rfl) ?_
  refine lv_if_lt (tgt := 9) hx hb dJ3_checkIndex_8e157_1 (by decide) (fun h9 => False.elim (nneg_l0 (a := k) h9 (by omega) (by decide))) (fun _ => ?_)
  refine lv_iload_n hx hb dJ3_checkIndex_8e157_4 rfl (lv_at hl 0 rfl) ?_
  refine lv_iload_n hx hb dJ3_checkIndex_8e157_5 rfl (lv_at hl 1 rfl) ?_
  refine lv_icmp_lt (tgt := 16) hx hb dJ3_checkIndex_8e157_6 (by decide) (fun c_2 => ?_) (fun c_2 => False.elim (absurd (blt_f (a := k) (b := n2) c_2 (by omega) (by omega)) (by omega)))
  refine lv_iload_n hx hb dJ3_checkIndex_8e157_16 rfl (lv_at hl 0 rfl) ?_
  exact ret_i hx hb hr hlk hS (Nat.le_of_ble_eq_true rfl) (Nat.le_of_ble_eq_true rfl) (k) (⟨rfl, trivial⟩) (hP.sub [] rfl) (hD.sub [] (by decide) rfl) dJ3_checkIndex_8e157_17

set_option maxHeartbeats 4000000 in
set_option maxRecDepth 100000 in
theorem k_J0_checkIndex_df160 (l : Launch) (D : va_G) (cs : Nat → ClassId) (sz : Nat) (aK aV : Nat → Nat) (k : Nat) (n2 : Nat) (hk : k < n2) (hn2 : n2 < 2 ^ 31) : Sv l D cs aK aV yJ0_checkIndex_df160 W_J0_checkIndex_df160 1 22 0 0 [.int (nI k), .int (nI n2)] [] sz (fun (u : Unit) => True) (fun (u : Unit) => []) := by
  refine entS (D := D) (cs := cs) (y := yJ0_checkIndex_df160) (ws := W_J0_checkIndex_df160) (As := [.int (nI k), .int (nI n2)]) (W0 := []) (Qx := fun A => va_Qv (fun (u : Unit) => True) (mpost D A (fun (u : Unit) => [])) A) (maxL := 2) (ret := none) (by decide) rfl (Nat.le_of_ble_eq_true rfl) ?_
  intro p e s m below meth c A ls hx hb hr hml hlk hown hts hin hK hE hV hP hD hA hS hl
  have hl : lv_has ls 2 [(0, .int (nI k)), (1, .int (nI n2))] := hl
  generalize hHe : s.heap = H at hP
  have hS : va_S A s.heap H [] := hHe ▸ hS
  generalize hLe : ([] : List Loc) = locs at hS ⊢
  have htw : ∀ w ∈ O_J0_checkIndex_df160, w.before ([.int (nI k), .int (nI n2)] : List Value).toArray s = true := fun w h => hts w (List.mem_cons_of_mem _ (List.mem_append_left _ h))
  have hFix := (⟨hx, hb, hml, hown, hts⟩ : CallFix p m c _ _ s _ _ _)
  refine lv_iload_n hx hb dJ0_checkIndex_df160_0 rfl (lv_at hl 0 rfl) ?_
  refine lv_iload_n hx hb dJ0_checkIndex_df160_1 rfl (lv_at hl 1 rfl) ?_
  rcases hV.2.2.1 with hz_1 | ⟨t_1, hz_1⟩
  ·
    refine va_gets hx hb hz_1 hS hown (htw (.fieldLink RJ0 1053 "jdk/internal/util/Preconditions" "SIOOBE_FORMATTER" "Ljava/util/function/BiFunction;") (List.mem_of_getElem? (i := 0) rfl)) (fun _ h9 => h9) dJ0_checkIndex_df160_2 ?_
    refine aft_i (wr := []) hP hD hS hA [] [] rfl rfl (by decide) (by decide) (run_s (As := [.int (nI k), .int (nI n2), .null]) (rest := []) hFix hK hE hP hD [] (k_J3_checkIndex_n l D cs _ k n2 (by first | assumption | decide | omega) (by first | assumption | decide | omega)) (va_cwS 3 hts gc_J0_checkIndex_df160_1059_J3_checkIndex_8e157 rfl rfl rfl (by decide +kernel) ⟨Nat.le_of_ble_eq_true rfl, Nat.le_of_ble_eq_true rfl⟩) rfl (by decide) rfl hl.1 rfl (Nat.le_of_ble_eq_true rfl) dJ0_checkIndex_df160_5 ⟨Nat.le_of_ble_eq_true rfl, Nat.le_of_ble_eq_true rfl⟩) (fun r_2 u_2 H locs hq_2 hP hD hS => ?_)
    obtain ⟨j_2, rfl⟩ : ∃ z, z = u_2 := ⟨_, rfl⟩
    replace hq_2 : ((r_2 = nI j_2 ∧ True)) := hq_2
    obtain ⟨rfl, hq_2⟩ := hq_2
    ·
      refine lv_pop hx hb dJ0_checkIndex_df160_8 rfl ?_
      exact ret_v hx hb hr hlk hS (Nat.le_of_ble_eq_true rfl) (Nat.le_of_ble_eq_true rfl) () (trivial) (hP.sub [] rfl) (hD.sub [] (by decide) rfl) dJ0_checkIndex_df160_9
  ·
    refine va_gets hx hb hz_1 hS hown (htw (.fieldLink RJ0 1053 "jdk/internal/util/Preconditions" "SIOOBE_FORMATTER" "Ljava/util/function/BiFunction;") (List.mem_of_getElem? (i := 0) rfl)) (fun _ h9 => h9) dJ0_checkIndex_df160_2 ?_
    refine aft_i (wr := []) hP hD hS hA [] [] rfl rfl (by decide) (by decide) (run_s (As := [.int (nI k), .int (nI n2), .ref t_1]) (rest := []) hFix hK hE hP hD [] (k_J3_checkIndex_r l D cs _ t_1 k n2 (by first | assumption | decide | omega) (by first | assumption | decide | omega)) (va_cwS 3 hts gc_J0_checkIndex_df160_1059_J3_checkIndex_8e157 rfl rfl rfl (by decide +kernel) ⟨Nat.le_of_ble_eq_true rfl, Nat.le_of_ble_eq_true rfl⟩) rfl (by decide) rfl hl.1 rfl (Nat.le_of_ble_eq_true rfl) dJ0_checkIndex_df160_5 ⟨Nat.le_of_ble_eq_true rfl, Nat.le_of_ble_eq_true rfl⟩) (fun r_3 u_3 H locs hq_3 hP hD hS => ?_)
    obtain ⟨j_3, rfl⟩ : ∃ z, z = u_3 := ⟨_, rfl⟩
    replace hq_3 : ((r_3 = nI j_3 ∧ True)) := hq_3
    obtain ⟨rfl, hq_3⟩ := hq_3
    ·
      refine lv_pop hx hb dJ0_checkIndex_df160_8 rfl ?_
      exact ret_v hx hb hr hlk hS (Nat.le_of_ble_eq_true rfl) (Nat.le_of_ble_eq_true rfl) () (trivial) (hP.sub [] rfl) (hD.sub [] (by decide) rfl) dJ0_checkIndex_df160_9

set_option maxHeartbeats 4000000 in
set_option maxRecDepth 100000 in
theorem k_J1_charAt_3b067 (l : Launch) (D : va_G) (cs : Nat → ClassId) (sz : Nat) (aK aV : Nat → Nat) (wi : Nat) (k : Nat) (hnj : wi < nJS) (hk : k < sl wi) : Si l D cs aK aV yJ1_charAt_3b067 W_J1_charAt_3b067 2 43 0 0 [.ref (aV wi), .int (nI k)] [] sz (fun (r : Int32) (u : Nat) => ((r = nI u ∧ u = sch wi k ∧ u < 128))) (fun (u : Nat) => []) := by
  refine entS (D := D) (cs := cs) (y := yJ1_charAt_3b067) (ws := W_J1_charAt_3b067) (As := [.ref (aV wi), .int (nI k)]) (W0 := []) (Qx := fun A => va_Qi (fun (r : Int32) (u : Nat) => ((r = nI u ∧ u = sch wi k ∧ u < 128))) (mpost D A (fun (u : Nat) => [])) A) (maxL := 2) (ret := (some .char)) (by decide) rfl (Nat.le_of_ble_eq_true rfl) ?_
  intro p e s m below meth c A ls hx hb hr hml hlk hown hts hin hK hE hV hP hD hA hS hl
  have hl : lv_has ls 2 [(0, .ref (aV wi)), (1, .int (nI k))] := hl
  generalize hHe : s.heap = H at hP
  have hS : va_S A s.heap H [] := hHe ▸ hS
  generalize hLe : ([] : List Loc) = locs at hS ⊢
  have htw : ∀ w ∈ O_J1_charAt_3b067, w.before ([.ref (aV wi), .int (nI k)] : List Value).toArray s = true := fun w h => hts w (List.mem_cons_of_mem _ (List.mem_append_left _ h))
  have hFix := (⟨hx, hb, hml, hown, hts⟩ : CallFix p m c _ _ s _ _ _)
  have hsl := sl_le (i := wi) (by assumption)
  refine lv_iload_n hx hb dJ1_charAt_3b067_0 rfl (lv_at hl 1 rfl) ?_
  refine lv_aload_n hx hb dJ1_charAt_3b067_1 rfl (lv_at hl 0 rfl) ?_
  refine va_tlen (v := nI (sl wi)) hx hb (hV.1.1 wi (by assumption)).2.2.2 hS rfl dJ1_charAt_3b067_2 ?_
  refine aft_v (wr := []) hP hD hS hA [] [] rfl rfl (by decide) (by decide) (run_sS (As := [.int (nI k), .int (nI (sl wi))]) (rest := []) hFix hK hE hV hP hD hS hA [] (k_J0_checkIndex_df160 l D cs _ aK aV k (sl wi) (by first | assumption | decide | omega) (by first | assumption | decide | omega)) (va_cwS 2 hts gc_J1_charAt_3b067_9_J0_checkIndex_df160 rfl rfl rfl (by decide +kernel) ⟨Nat.le_of_ble_eq_true rfl, Nat.le_of_ble_eq_true rfl⟩) rfl (by decide) rfl hl.1 rfl (Nat.le_of_ble_eq_true rfl) dJ1_charAt_3b067_3 ⟨Nat.le_of_ble_eq_true rfl, Nat.le_of_ble_eq_true rfl⟩) (fun u_1 H locs hq_1 hP hD hS => ?_)
  refine lv_aload_n hx hb dJ1_charAt_3b067_6 rfl (lv_at hl 0 rfl) ?_
  refine lv_iload_n hx hb dJ1_charAt_3b067_7 rfl (lv_at hl 1 rfl) ?_
  refine va_tb hx hb (hV.1.1 wi (by assumption)).2.2.2 hS (vp_in_nI (show k < sl wi by omega) (sl_31 (by assumption))) (sch_at (by assumption) (by omega)) dJ1_charAt_3b067_8 ?_
  refine lv_sipush (v := 255) hx hb dJ1_charAt_3b067_9 (by decide) ?_
  refine lv_iand hx hb dJ1_charAt_3b067_12 ?_
  refine cf_i (nI (sch wi k)) (and255 _ (sch_lt (by assumption) (by omega))) ?_
  have hc_12 := sch_lt (i := wi) (k := k) (by assumption) (by omega)
  refine lv_i2c (v := nI (sch wi k)) hx hb dJ1_charAt_3b067_13 (i2c_nI _ (by omega)) ?_
  exact ret_n hx hb hr hlk hS (Nat.le_of_ble_eq_true rfl) (Nat.le_of_ble_eq_true rfl) (nar_c _ (by omega)) (sch wi k) (⟨rfl, ⟨rfl, sch_lt (by assumption) (by omega)⟩⟩) (hP.sub [] rfl) (hD.sub [] (by decide) rfl) dJ1_charAt_3b067_14

set_option maxHeartbeats 4000000 in
set_option maxRecDepth 100000 in
theorem k_J0_coder_7d493 (l : Launch) (D : va_G) (cs : Nat → ClassId) (sz : Nat) (aK aV : Nat → Nat) (wi : Nat) (hnj : wi < nJS) : Si l D cs aK aV yJ0_coder_7d493 W_J0_coder_7d493 0 0 0 0 [.ref (aK wi)] [] sz (fun (r : Int32) (u : Unit) => r = 0) (fun (u : Unit) => []) := by
  refine entS (D := D) (cs := cs) (y := yJ0_coder_7d493) (ws := W_J0_coder_7d493) (As := [.ref (aK wi)]) (W0 := []) (Qx := fun A => va_Qi (fun (r : Int32) (u : Unit) => r = 0) (mpost D A (fun (u : Unit) => [])) A) (maxL := 1) (ret := (some .byte)) (by decide) rfl (Nat.le_of_ble_eq_true rfl) ?_
  intro p e s m below meth c A ls hx hb hr hml hlk hown hts hin hK hE hV hP hD hA hS hl
  have hl : lv_has ls 1 [(0, .ref (aK wi))] := hl
  generalize hHe : s.heap = H at hP
  have hS : va_S A s.heap H [] := hHe ▸ hS
  generalize hLe : ([] : List Loc) = locs at hS ⊢
  have htw : ∀ w ∈ O_J0_coder_7d493, w.before ([.ref (aK wi)] : List Value).toArray s = true := fun w h => hts w (List.mem_cons_of_mem _ h)
  have hFix := (⟨hx, hb, hml, hown, hts⟩ : CallFix p m c _ _ s _ _ _)
  refine va_gets hx hb hV.2.1 hS hown (htw (.fieldLink RJ0 38 "java/lang/String" "COMPACT_STRINGS" "Z") (List.mem_of_getElem? (i := 0) rfl)) (fun _ h9 => h9) dJ0_coder_7d493_0 ?_
  refine lv_if_eq (tgt := 13) hx hb dJ0_coder_7d493_3 (by decide) (fun h9 => absurd h9 (by decide)) (fun _ => ?_)
  refine lv_aload_n hx hb dJ0_coder_7d493_6 rfl (lv_at hl 0 rfl) ?_
  refine vk_getf hx hb (hV.1.1 wi (by assumption)).2.1 hS hown (htw (.fieldLink RJ0 15 "java/lang/String" "coder" "B") (List.mem_of_getElem? (i := 1) rfl)) (fun _ h9 => h9) dJ0_coder_7d493_7 ?_
  refine lv_goto (tgt := 14) hx hb dJ0_coder_7d493_10 (by decide) ?_
  exact ret_n hx hb hr hlk hS (Nat.le_of_ble_eq_true rfl) (Nat.le_of_ble_eq_true rfl) (by decide) () (rfl) (hP.sub [] rfl) (hD.sub [] (by decide) rfl) dJ0_coder_7d493_14

set_option maxHeartbeats 4000000 in
set_option maxRecDepth 100000 in
theorem k_J0_isLatin1_aae02 (l : Launch) (D : va_G) (cs : Nat → ClassId) (sz : Nat) (aK aV : Nat → Nat) (wi : Nat) (hnj : wi < nJS) : Si l D cs aK aV yJ0_isLatin1_aae02 W_J0_isLatin1_aae02 0 0 0 0 [.ref (aK wi)] [] sz (fun (r : Int32) (u : Unit) => r = 1) (fun (u : Unit) => []) := by
  refine entS (D := D) (cs := cs) (y := yJ0_isLatin1_aae02) (ws := W_J0_isLatin1_aae02) (As := [.ref (aK wi)]) (W0 := []) (Qx := fun A => va_Qi (fun (r : Int32) (u : Unit) => r = 1) (mpost D A (fun (u : Unit) => [])) A) (maxL := 1) (ret := (some .boolean)) (by decide) rfl (Nat.le_of_ble_eq_true rfl) ?_
  intro p e s m below meth c A ls hx hb hr hml hlk hown hts hin hK hE hV hP hD hA hS hl
  have hl : lv_has ls 1 [(0, .ref (aK wi))] := hl
  generalize hHe : s.heap = H at hP
  have hS : va_S A s.heap H [] := hHe ▸ hS
  generalize hLe : ([] : List Loc) = locs at hS ⊢
  have htw : ∀ w ∈ O_J0_isLatin1_aae02, w.before ([.ref (aK wi)] : List Value).toArray s = true := fun w h => hts w (List.mem_cons_of_mem _ h)
  have hFix := (⟨hx, hb, hml, hown, hts⟩ : CallFix p m c _ _ s _ _ _)
  refine va_gets hx hb hV.2.1 hS hown (htw (.fieldLink RJ0 38 "java/lang/String" "COMPACT_STRINGS" "Z") (List.mem_of_getElem? (i := 0) rfl)) (fun _ h9 => h9) dJ0_isLatin1_aae02_0 ?_
  refine lv_if_eq (tgt := 17) hx hb dJ0_isLatin1_aae02_3 (by decide) (fun h9 => absurd h9 (by decide)) (fun _ => ?_)
  refine lv_aload_n hx hb dJ0_isLatin1_aae02_6 rfl (lv_at hl 0 rfl) ?_
  refine vk_getf hx hb (hV.1.1 wi (by assumption)).2.1 hS hown (htw (.fieldLink RJ0 15 "java/lang/String" "coder" "B") (List.mem_of_getElem? (i := 1) rfl)) (fun _ h9 => h9) dJ0_isLatin1_aae02_7 ?_
  refine lv_if_ne (tgt := 17) hx hb dJ0_isLatin1_aae02_10 (by decide) (fun h9 => absurd h9 (by decide)) (fun _ => ?_)
  refine lv_iconst (v := 1) hx hb dJ0_isLatin1_aae02_13 (by decide) ?_
  refine lv_goto (tgt := 18) hx hb dJ0_isLatin1_aae02_14 (by decide) ?_
  exact ret_z hx hb hr hlk hS (Nat.le_of_ble_eq_true rfl) (Nat.le_of_ble_eq_true rfl) (by decide) () (rfl) (hP.sub [] rfl) (hD.sub [] (by decide) rfl) dJ0_isLatin1_aae02_18

set_option maxHeartbeats 4000000 in
set_option maxRecDepth 100000 in
theorem k_J0_length_8abf5 (l : Launch) (D : va_G) (cs : Nat → ClassId) (sz : Nat) (aK aV : Nat → Nat) (wi : Nat) (hnj : wi < nJS) : Si l D cs aK aV yJ0_length_8abf5 W_J0_length_8abf5 1 20 0 0 [.ref (aK wi)] [] sz (fun (r : Int32) (u : Nat) => ((r = nI u ∧ u = sl wi))) (fun (u : Nat) => []) := by
  refine entS (D := D) (cs := cs) (y := yJ0_length_8abf5) (ws := W_J0_length_8abf5) (As := [.ref (aK wi)]) (W0 := []) (Qx := fun A => va_Qi (fun (r : Int32) (u : Nat) => ((r = nI u ∧ u = sl wi))) (mpost D A (fun (u : Nat) => [])) A) (maxL := 1) (ret := (some .int)) (by decide) rfl (Nat.le_of_ble_eq_true rfl) ?_
  intro p e s m below meth c A ls hx hb hr hml hlk hown hts hin hK hE hV hP hD hA hS hl
  have hl : lv_has ls 1 [(0, .ref (aK wi))] := hl
  generalize hHe : s.heap = H at hP
  have hS : va_S A s.heap H [] := hHe ▸ hS
  generalize hLe : ([] : List Loc) = locs at hS ⊢
  have htw : ∀ w ∈ O_J0_length_8abf5, w.before ([.ref (aK wi)] : List Value).toArray s = true := fun w h => hts w (List.mem_cons_of_mem _ (List.mem_append_left _ h))
  have hFix := (⟨hx, hb, hml, hown, hts⟩ : CallFix p m c _ _ s _ _ _)
  have hsl := sl_le (i := wi) (by assumption)
  refine lv_aload_n hx hb dJ0_length_8abf5_0 rfl (lv_at hl 0 rfl) ?_
  refine vk_getf hx hb (hV.1.1 wi (by assumption)).2.2.1 hS hown (htw (.fieldLink RJ0 9 "java/lang/String" "value" "[B") (List.mem_of_getElem? (i := 0) rfl)) (fun _ h9 => h9) dJ0_length_8abf5_1 ?_
  refine va_tlen (v := nI (sl wi)) hx hb (hV.1.1 wi (by assumption)).2.2.2 hS rfl dJ0_length_8abf5_4 ?_
  refine lv_aload_n hx hb dJ0_length_8abf5_5 rfl (lv_at hl 0 rfl) ?_
  refine aft_i (wr := []) hP hD hS hA [] [] rfl rfl (by decide) (by decide) (run_vS (As := []) (rest := [.int (nI (sl wi))]) hFix hK hE hV hP hD hS hA [] (k_J0_coder_7d493 l D cs _ aK aV wi (by first | assumption | decide | omega)) (cwV 0 hts gc_J0_length_8abf5_335_J0_coder_7d493 rfl rfl rfl (by decide +kernel) ⟨Nat.le_of_ble_eq_true rfl, Nat.le_of_ble_eq_true rfl⟩) rfl (by decide) (vk_recv hV.1 (by assumption) hS) rfl hl.1 rfl (Nat.le_of_ble_eq_true rfl) dJ0_length_8abf5_6 ⟨Nat.le_of_ble_eq_true rfl, Nat.le_of_ble_eq_true rfl⟩) (fun r_1 u_1 H locs hq_1 hP hD hS => ?_)
  replace hq_1 : r_1 = 0 := hq_1
  subst hq_1
  refine lv_ishr hx hb dJ0_length_8abf5_9 ?_
  refine cf_i (nI (sl wi)) (sc_shr0 (by omega)) ?_
  exact ret_i hx hb hr hlk hS (Nat.le_of_ble_eq_true rfl) (Nat.le_of_ble_eq_true rfl) (sl wi) (⟨rfl, rfl⟩) (hP.sub [] rfl) (hD.sub [] (by decide) rfl) dJ0_length_8abf5_10

set_option maxHeartbeats 4000000 in
set_option maxRecDepth 100000 in
theorem k_J0_charAt_5068e (l : Launch) (D : va_G) (cs : Nat → ClassId) (sz : Nat) (aK aV : Nat → Nat) (wi : Nat) (k : Nat) (hnj : wi < nJS) (hk : k < sl wi) : Si l D cs aK aV yJ0_charAt_5068e W_J0_charAt_5068e 3 64 0 0 [.ref (aK wi), .int (nI k)] [] sz (fun (r : Int32) (u : Nat) => ((r = nI u ∧ u = sch wi k ∧ u < 128))) (fun (u : Nat) => []) := by
  refine entS (D := D) (cs := cs) (y := yJ0_charAt_5068e) (ws := W_J0_charAt_5068e) (As := [.ref (aK wi), .int (nI k)]) (W0 := []) (Qx := fun A => va_Qi (fun (r : Int32) (u : Nat) => ((r = nI u ∧ u = sch wi k ∧ u < 128))) (mpost D A (fun (u : Nat) => [])) A) (maxL := 2) (ret := (some .char)) (by decide) rfl (Nat.le_of_ble_eq_true rfl) ?_
  intro p e s m below meth c A ls hx hb hr hml hlk hown hts hin hK hE hV hP hD hA hS hl
  have hl : lv_has ls 2 [(0, .ref (aK wi)), (1, .int (nI k))] := hl
  generalize hHe : s.heap = H at hP
  have hS : va_S A s.heap H [] := hHe ▸ hS
  generalize hLe : ([] : List Loc) = locs at hS ⊢
  have htw : ∀ w ∈ O_J0_charAt_5068e, w.before ([.ref (aK wi), .int (nI k)] : List Value).toArray s = true := fun w h => hts w (List.mem_cons_of_mem _ (List.mem_append_left _ h))
  have hFix := (⟨hx, hb, hml, hown, hts⟩ : CallFix p m c _ _ s _ _ _)
  refine lv_aload_n hx hb dJ0_charAt_5068e_0 rfl (lv_at hl 0 rfl) ?_
  refine aft_i (wr := []) hP hD hS hA [] [] rfl rfl (by decide) (by decide) (run_vS (As := []) (rest := []) hFix hK hE hV hP hD hS hA [] (k_J0_isLatin1_aae02 l D cs _ aK aV wi (by first | assumption | decide | omega)) (cwV 0 hts gc_J0_charAt_5068e_492_J0_isLatin1_aae02 rfl rfl rfl (by decide +kernel) ⟨Nat.le_of_ble_eq_true rfl, Nat.le_of_ble_eq_true rfl⟩) rfl (by decide) (vk_recv hV.1 (by assumption) hS) rfl hl.1 rfl (Nat.le_of_ble_eq_true rfl) dJ0_charAt_5068e_1 ⟨Nat.le_of_ble_eq_true rfl, Nat.le_of_ble_eq_true rfl⟩) (fun r_1 u_1 H locs hq_1 hP hD hS => ?_)
  replace hq_1 : r_1 = 1 := hq_1
  subst hq_1
  refine lv_if_eq (tgt := 16) hx hb dJ0_charAt_5068e_4 (by decide) (fun h9 => absurd h9 (by decide)) (fun _ => ?_)
  refine lv_aload_n hx hb dJ0_charAt_5068e_7 rfl (lv_at hl 0 rfl) ?_
  refine vk_getf hx hb (hV.1.1 wi (by assumption)).2.2.1 hS hown (htw (.fieldLink RJ0 9 "java/lang/String" "value" "[B") (List.mem_of_getElem? (i := 4) rfl)) (fun _ h9 => h9) dJ0_charAt_5068e_8 ?_
  refine lv_iload_n hx hb dJ0_charAt_5068e_11 rfl (lv_at hl 1 rfl) ?_
  refine aft_i (wr := []) hP hD hS hA [] [] rfl rfl (by decide) (by decide) (run_sS (As := [.ref (aV wi), .int (nI k)]) (rest := []) hFix hK hE hV hP hD hS hA [] (k_J1_charAt_3b067 l D cs _ aK aV wi k (by first | assumption | decide | omega) (by first | assumption | decide | omega)) (va_cwS 2 hts gc_J0_charAt_5068e_495_J1_charAt_3b067 rfl rfl rfl (by decide +kernel) ⟨Nat.le_of_ble_eq_true rfl, Nat.le_of_ble_eq_true rfl⟩) rfl (by decide) rfl hl.1 rfl (Nat.le_of_ble_eq_true rfl) dJ0_charAt_5068e_12 ⟨Nat.le_of_ble_eq_true rfl, Nat.le_of_ble_eq_true rfl⟩) (fun r_2 u_2 H locs hq_2 hP hD hS => ?_)
  obtain ⟨j_2, rfl⟩ : ∃ z, z = u_2 := ⟨_, rfl⟩
  replace hq_2 : ((r_2 = nI j_2 ∧ j_2 = sch wi k ∧ j_2 < 128)) := hq_2
  obtain ⟨rfl, hq_2⟩ := hq_2
  ·
    exact ret_n hx hb hr hlk hS (Nat.le_of_ble_eq_true rfl) (Nat.le_of_ble_eq_true rfl) (nar_c _ (by omega)) (j_2) (⟨rfl, hq_2⟩) (hP.sub [] rfl) (hD.sub [] (by decide) rfl) dJ0_charAt_5068e_15
