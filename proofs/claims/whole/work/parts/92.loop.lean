set_option maxHeartbeats 8000000 in
set_option maxRecDepth 100000 in
theorem law_loop {p : Program} {e : Env} {s : State} {m : MethodId} {below : List Frame} {meth : Method} {c : Code} (l : Launch) {b L : Nat} {xs : Nat → Int32} (hL : L ≤ 3072) (C0 : lw_At p s m meth c b L xs) (dC : Nat → ClassId) (dI : Nat → Nat → Nat) (cyI cyJ : ClassId) (aa ab : Nat → Nat) (hN : xq_N s) (hK : va_K (dC, dI) vwCl [(cyI, .int), (cyJ, .long)] s) : ∀ (n i : Nat) (x_3 : Int32), i ≤ L → L - i < n → x_3 = nI i → ∀ (s_lanes : Nat → Int32) (s_sizes : Nat → Int32) (s_cells : Nat → Int32) (x_kinds : Nat → Int32) (x_digits : Nat → Int32) (x_causes : Nat → Int32) (x_effects : Nat → Int32) (x_things : Int32) (x_follows : Int32) (x_due : Int32) (t_kinds : Nat → Int32) (t_digits : Nat → Int32) (t_caseRow : Nat → Int32) (t_weights : Nat → Int32) (t_order : Nat → Int32) (t_calls : Nat → Int32) (t_things : Int32) (t_caseCount : Int32) (t_caseSet : Int64) (p_callsOfCase : Nat → Int64) (p_partOfCase : Nat → Int32) (p_callsOfPart : Nat → Int64) (p_cases : Int32) (p_parts : Int32) (r_cases : Nat → Int32) (r_hours : Nat → Int32) (r_sets : Nat → Int32) (r_count : Int32) (u_lists : Nat → Int32) (u_breaths : Nat → Int32) (u_heard : Nat → Int32) (u_traced : Int32) (u_lastFault : Int32) (n_fault : Int32) (n_things : Int32) (n_kindOf : Nat → Int32) (n_digitOf : Nat → Int32) (n_follows : Int32) (n_ifOf : Nat → Int32) (n_thenOf : Nat → Int32) (n_listOf : Nat → Int32) (n_breathOf : Nat → Int32) (n_heardOf : Nat → Int32) (n_readAt : Int32) (n_readThings : Int32) (n_readFollows : Int32) (n_readKind : Nat → Int32) (n_readDigit : Nat → Int32) (n_readIf : Nat → Int32) (n_readThen : Nat → Int32) (n_readings : Int32) (n_readingIn : Nat → Int32) (n_readingHour : Nat → Int32) (n_readingOf : Nat → Int32) (n_breathWas : Nat → Int32) (n_sheetSize : Nat → Int32) (n_sheetLane : Nat → Int32) (n_sheet : Nat → Int32) (n_hands : Nat → Int32) (n_traceNow : Int32) (H : Heap) (locs : List Loc) (ls : Array Slot), iv_u s_lanes s_sizes s_cells x_kinds x_digits x_causes x_effects x_things x_follows x_due t_kinds t_digits t_caseRow t_weights t_order t_calls t_things t_caseCount t_caseSet p_callsOfCase p_partOfCase p_callsOfPart p_cases p_parts r_cases r_hours r_sets r_count u_lists u_breaths u_heard u_traced u_lastFault n_fault n_things n_kindOf n_digitOf n_follows n_ifOf n_thenOf n_listOf n_breathOf n_heardOf n_readAt n_readThings n_readFollows n_readKind n_readDigit n_readIf n_readThen n_readings n_readingIn n_readingHour n_readingOf n_breathWas n_sheetSize n_sheetLane n_sheet n_hands n_traceNow → va_P (dC, dI) vwCl (wc_u cyI cyJ aa s_lanes s_sizes s_cells x_kinds x_digits x_causes x_effects x_things x_follows x_due t_kinds t_digits t_caseRow t_weights t_order t_calls t_things t_caseCount t_caseSet p_callsOfCase p_partOfCase p_callsOfPart p_cases p_parts r_cases r_hours r_sets r_count u_lists u_breaths u_heard u_traced u_lastFault ++ wm_u cyI cyJ ab n_fault n_things n_kindOf n_digitOf n_follows n_ifOf n_thenOf n_listOf n_breathOf n_heardOf n_readAt n_readThings n_readFollows n_readKind n_readDigit n_readIf n_readThen n_readings n_readingIn n_readingHour n_readingOf n_breathWas n_sheetSize n_sheetLane n_sheet n_hands n_traceNow) H → va_D (fun q : Nat => s.heap.size ≤ q) (wc_u cyI cyJ aa s_lanes s_sizes s_cells x_kinds x_digits x_causes x_effects x_things x_follows x_due t_kinds t_digits t_caseRow t_weights t_order t_calls t_things t_caseCount t_caseSet p_callsOfCase p_partOfCase p_callsOfPart p_cases p_parts r_cases r_hours r_sets r_count u_lists u_breaths u_heard u_traced u_lastFault ++ wm_u cyI cyJ ab n_fault n_things n_kindOf n_digitOf n_follows n_ifOf n_thenOf n_listOf n_breathOf n_heardOf n_readAt n_readThings n_readFollows n_readKind n_readDigit n_readIf n_readThen n_readings n_readingIn n_readingHour n_readingOf n_breathWas n_sheetSize n_sheetLane n_sheet n_hands n_traceNow) → va_S (fun q : Nat => s.heap.size ≤ q) s.heap H locs → lv_has ls 4 [(3, .int x_3), (0, .ref b), (1, .ref (aa 0)), (2, .ref (ab 0))] → W p l e room_1 s m #[Value.ref b] below meth c H locs 48 2325 (lw_Z below #[Value.ref b] s) (F0 m 18 ls []) := by
  intro n
  induction n with
  | zero => intro i x_3 h1 h2; omega
  | succ n ih =>
    intro i x_3 h_a h_b h_e s_lanes s_sizes s_cells x_kinds x_digits x_causes x_effects x_things x_follows x_due t_kinds t_digits t_caseRow t_weights t_order t_calls t_things t_caseCount t_caseSet p_callsOfCase p_partOfCase p_callsOfPart p_cases p_parts r_cases r_hours r_sets r_count u_lists u_breaths u_heard u_traced u_lastFault n_fault n_things n_kindOf n_digitOf n_follows n_ifOf n_thenOf n_listOf n_breathOf n_heardOf n_readAt n_readThings n_readFollows n_readKind n_readDigit n_readIf n_readThen n_readings n_readingIn n_readingHour n_readingOf n_breathWas n_sheetSize n_sheetLane n_sheet n_hands n_traceNow H locs ls h_i hP hD hS hl
    obtain ⟨hx, hb, hr, hml, hown, hts, hX, hbl, hlocks, hgv⟩ := id C0
    have hbA : ¬ (fun q : Nat => s.heap.size ≤ q) b := Nat.not_le.mpr hbl
    refine lv_iload_n hx hb dL_law_18 rfl (lv_at hl 0 rfl) ?_
    refine lv_aload_n hx hb dL_law_19 rfl (lv_at hl 1 rfl) ?_
    refine va_slen hx hb hX hbl hbA hS dL_law_20 ?_
    refine lv_bipush (v := (6 : Int32)) hx hb dL_law_21 (by decide) ?_
    refine lv_isub hx hb dL_law_23 ?_
    refine lv_icmp_gt (tgt := 1223) hx hb dL_law_24 (by decide) (fun hc => ?_) (fun hc => ?_)
    · refine lv_iconst (v := (1 : Int32)) hx hb dL_law_1223 (by decide) ?_
      refine va_forget hS.2.2 ?_
      exact lw_ret hx hb hr hlocks dL_law_1224
    · have h_6 : i + 6 ≤ L := yl_le6 hL h_a (by rw [h_e] at hc; exact hc)
      have hi : ∀ k : Nat, k < 6 → vp_in (x_3 + nI k) L := fun k hk => by rw [h_e, nI_add]; exact vp_in_nI (by omega) (by omega)
      have kk : ∀ (s_lanes : Nat → Int32) (s_sizes : Nat → Int32) (s_cells : Nat → Int32) (x_kinds : Nat → Int32) (x_digits : Nat → Int32) (x_causes : Nat → Int32) (x_effects : Nat → Int32) (x_things : Int32) (x_follows : Int32) (x_due : Int32) (t_kinds : Nat → Int32) (t_digits : Nat → Int32) (t_caseRow : Nat → Int32) (t_weights : Nat → Int32) (t_order : Nat → Int32) (t_calls : Nat → Int32) (t_things : Int32) (t_caseCount : Int32) (t_caseSet : Int64) (p_callsOfCase : Nat → Int64) (p_partOfCase : Nat → Int32) (p_callsOfPart : Nat → Int64) (p_cases : Int32) (p_parts : Int32) (r_cases : Nat → Int32) (r_hours : Nat → Int32) (r_sets : Nat → Int32) (r_count : Int32) (u_lists : Nat → Int32) (u_breaths : Nat → Int32) (u_heard : Nat → Int32) (u_traced : Int32) (u_lastFault : Int32) (n_fault : Int32) (n_things : Int32) (n_kindOf : Nat → Int32) (n_digitOf : Nat → Int32) (n_follows : Int32) (n_ifOf : Nat → Int32) (n_thenOf : Nat → Int32) (n_listOf : Nat → Int32) (n_breathOf : Nat → Int32) (n_heardOf : Nat → Int32) (n_readAt : Int32) (n_readThings : Int32) (n_readFollows : Int32) (n_readKind : Nat → Int32) (n_readDigit : Nat → Int32) (n_readIf : Nat → Int32) (n_readThen : Nat → Int32) (n_readings : Int32) (n_readingIn : Nat → Int32) (n_readingHour : Nat → Int32) (n_readingOf : Nat → Int32) (n_breathWas : Nat → Int32) (n_sheetSize : Nat → Int32) (n_sheetLane : Nat → Int32) (n_sheet : Nat → Int32) (n_hands : Nat → Int32) (n_traceNow : Int32) (H : Heap) (locs : List Loc) (ls : Array Slot), iv_u s_lanes s_sizes s_cells x_kinds x_digits x_causes x_effects x_things x_follows x_due t_kinds t_digits t_caseRow t_weights t_order t_calls t_things t_caseCount t_caseSet p_callsOfCase p_partOfCase p_callsOfPart p_cases p_parts r_cases r_hours r_sets r_count u_lists u_breaths u_heard u_traced u_lastFault n_fault n_things n_kindOf n_digitOf n_follows n_ifOf n_thenOf n_listOf n_breathOf n_heardOf n_readAt n_readThings n_readFollows n_readKind n_readDigit n_readIf n_readThen n_readings n_readingIn n_readingHour n_readingOf n_breathWas n_sheetSize n_sheetLane n_sheet n_hands n_traceNow → va_P (dC, dI) vwCl (wc_u cyI cyJ aa s_lanes s_sizes s_cells x_kinds x_digits x_causes x_effects x_things x_follows x_due t_kinds t_digits t_caseRow t_weights t_order t_calls t_things t_caseCount t_caseSet p_callsOfCase p_partOfCase p_callsOfPart p_cases p_parts r_cases r_hours r_sets r_count u_lists u_breaths u_heard u_traced u_lastFault ++ wm_u cyI cyJ ab n_fault n_things n_kindOf n_digitOf n_follows n_ifOf n_thenOf n_listOf n_breathOf n_heardOf n_readAt n_readThings n_readFollows n_readKind n_readDigit n_readIf n_readThen n_readings n_readingIn n_readingHour n_readingOf n_breathWas n_sheetSize n_sheetLane n_sheet n_hands n_traceNow) H → va_D (fun q : Nat => s.heap.size ≤ q) (wc_u cyI cyJ aa s_lanes s_sizes s_cells x_kinds x_digits x_causes x_effects x_things x_follows x_due t_kinds t_digits t_caseRow t_weights t_order t_calls t_things t_caseCount t_caseSet p_callsOfCase p_partOfCase p_callsOfPart p_cases p_parts r_cases r_hours r_sets r_count u_lists u_breaths u_heard u_traced u_lastFault ++ wm_u cyI cyJ ab n_fault n_things n_kindOf n_digitOf n_follows n_ifOf n_thenOf n_listOf n_breathOf n_heardOf n_readAt n_readThings n_readFollows n_readKind n_readDigit n_readIf n_readThen n_readings n_readingIn n_readingHour n_readingOf n_breathWas n_sheetSize n_sheetLane n_sheet n_hands n_traceNow) → va_S (fun q : Nat => s.heap.size ≤ q) s.heap H locs → lv_has ls 4 [(3, .int x_3), (0, .ref b), (1, .ref (aa 0)), (2, .ref (ab 0))] → W p l e room_1 s m #[Value.ref b] below meth c H locs 48 2325 (lw_Z below #[Value.ref b] s) (F0 m 1217 ls []) := by
        intro s_lanes s_sizes s_cells x_kinds x_digits x_causes x_effects x_things x_follows x_due t_kinds t_digits t_caseRow t_weights t_order t_calls t_things t_caseCount t_caseSet p_callsOfCase p_partOfCase p_callsOfPart p_cases p_parts r_cases r_hours r_sets r_count u_lists u_breaths u_heard u_traced u_lastFault n_fault n_things n_kindOf n_digitOf n_follows n_ifOf n_thenOf n_listOf n_breathOf n_heardOf n_readAt n_readThings n_readFollows n_readKind n_readDigit n_readIf n_readThen n_readings n_readingIn n_readingHour n_readingOf n_breathWas n_sheetSize n_sheetLane n_sheet n_hands n_traceNow H locs ls h_i hP hD hS hl
        refine lv_iinc (v := x_3 + (6 : Int32)) (lv' := [(3, .int (x_3 + (6 : Int32))), (0, .ref b), (1, .ref (aa 0)), (2, .ref (ab 0))]) hx hb dL_law_1217 hl (k := 0) rfl rfl (by decide) rfl (fun ls hl => ?_)
        refine lv_goto (tgt := 18) hx hb dL_law_1220 (by decide) ?_
        exact ih (i + 6) (x_3 + (6 : Int32)) (by omega) (by omega) (by rw [h_e]; exact nI_add i 6) _ _ _ _ _ _ _ _ _ _ _ _ _ _ _ _ _ _ _ _ _ _ _ _ _ _ _ _ _ _ _ _ _ _ _ _ _ _ _ _ _ _ _ _ _ _ _ _ _ _ _ _ _ _ _ _ _ _ _ _ _ _ _ h_i hP hD hS hl
      refine lv_aload_n hx hb dL_law_27 rfl (lv_at hl 1 rfl) ?_
      refine lv_iload_n hx hb dL_law_28 rfl (lv_at hl 0 rfl) ?_
      refine va_sld hx hb hX hbl hbA hS (by have := hi 0 (by decide); rwa [show x_3 + nI 0 = x_3 from by rw [h_e, nI_add]; rfl] at this) dL_law_29 ?_
      refine lv_bipush (v := (31 : Int32)) hx hb dL_law_30 (by decide) ?_
      refine lv_iand hx hb dL_law_32 ?_
      refine lv_topi (fun w_0 _ => ?_)
      rcases Decidable.em (w_0 = (0 : Int32)) with hc_0 | hc_0
      · refine lv_tableIn (off := 143) (tgt := 176) hx hb dL_law_33 (by rw [hc_0]; decide) (by rw [hc_0]; decide) (by rw [hc_0]; rfl) (by decide) ?_
        exact lc_0 l hL C0 dC dI cyI cyJ aa ab hN hK hi h_i hP hD hS hl kk
      rcases Decidable.em (w_0 = (1 : Int32)) with hc_1 | hc_1
      · refine lv_tableIn (off := 196) (tgt := 229) hx hb dL_law_33 (by rw [hc_1]; decide) (by rw [hc_1]; decide) (by rw [hc_1]; rfl) (by decide) ?_
        exact lc_1 l hL C0 dC dI cyI cyJ aa ab hN hK hi h_i hP hD hS hl kk
      rcases Decidable.em (w_0 = (2 : Int32)) with hc_2 | hc_2
      · refine lv_tableIn (off := 229) (tgt := 262) hx hb dL_law_33 (by rw [hc_2]; decide) (by rw [hc_2]; decide) (by rw [hc_2]; rfl) (by decide) ?_
        exact lc_2 l hL C0 dC dI cyI cyJ aa ab hN hK hi h_i hP hD hS hl kk
      rcases Decidable.em (w_0 = (3 : Int32)) with hc_3 | hc_3
      · refine lv_tableIn (off := 243) (tgt := 276) hx hb dL_law_33 (by rw [hc_3]; decide) (by rw [hc_3]; decide) (by rw [hc_3]; rfl) (by decide) ?_
        exact lc_3 l hL C0 dC dI cyI cyJ aa ab hN hK hi h_i hP hD hS hl kk
      rcases Decidable.em (w_0 = (4 : Int32)) with hc_4 | hc_4
      · refine lv_tableIn (off := 266) (tgt := 299) hx hb dL_law_33 (by rw [hc_4]; decide) (by rw [hc_4]; decide) (by rw [hc_4]; rfl) (by decide) ?_
        exact lc_4 l hL C0 dC dI cyI cyJ aa ab hN hK hi h_i hP hD hS hl kk
      rcases Decidable.em (w_0 = (5 : Int32)) with hc_5 | hc_5
      · refine lv_tableIn (off := 299) (tgt := 332) hx hb dL_law_33 (by rw [hc_5]; decide) (by rw [hc_5]; decide) (by rw [hc_5]; rfl) (by decide) ?_
        exact lc_5 l hL C0 dC dI cyI cyJ aa ab hN hK hi h_i hP hD hS hl kk
      rcases Decidable.em (w_0 = (6 : Int32)) with hc_6 | hc_6
      · refine lv_tableIn (off := 332) (tgt := 365) hx hb dL_law_33 (by rw [hc_6]; decide) (by rw [hc_6]; decide) (by rw [hc_6]; rfl) (by decide) ?_
        exact lc_6 l hL C0 dC dI cyI cyJ aa ab hN hK hi h_i hP hD hS hl kk
      rcases Decidable.em (w_0 = (7 : Int32)) with hc_7 | hc_7
      · refine lv_tableIn (off := 365) (tgt := 398) hx hb dL_law_33 (by rw [hc_7]; decide) (by rw [hc_7]; decide) (by rw [hc_7]; rfl) (by decide) ?_
        exact lc_7 l hL C0 dC dI cyI cyJ aa ab hN hK hi h_i hP hD hS hl kk
      rcases Decidable.em (w_0 = (8 : Int32)) with hc_8 | hc_8
      · refine lv_tableIn (off := 398) (tgt := 431) hx hb dL_law_33 (by rw [hc_8]; decide) (by rw [hc_8]; decide) (by rw [hc_8]; rfl) (by decide) ?_
        exact lc_8 l hL C0 dC dI cyI cyJ aa ab hN hK hi h_i hP hD hS hl kk
      rcases Decidable.em (w_0 = (9 : Int32)) with hc_9 | hc_9
      · refine lv_tableIn (off := 412) (tgt := 445) hx hb dL_law_33 (by rw [hc_9]; decide) (by rw [hc_9]; decide) (by rw [hc_9]; rfl) (by decide) ?_
        exact lc_9 l hL C0 dC dI cyI cyJ aa ab hN hK hi h_i hP hD hS hl kk
      rcases Decidable.em (w_0 = (10 : Int32)) with hc_10 | hc_10
      · refine lv_tableIn (off := 435) (tgt := 468) hx hb dL_law_33 (by rw [hc_10]; decide) (by rw [hc_10]; decide) (by rw [hc_10]; rfl) (by decide) ?_
        exact lc_10 l hL C0 dC dI cyI cyJ aa ab hN hK hi h_i hP hD hS hl kk
      rcases Decidable.em (w_0 = (11 : Int32)) with hc_11 | hc_11
      · refine lv_tableIn (off := 469) (tgt := 502) hx hb dL_law_33 (by rw [hc_11]; decide) (by rw [hc_11]; decide) (by rw [hc_11]; rfl) (by decide) ?_
        exact lc_11 l hL C0 dC dI cyI cyJ aa ab hN hK hi h_i hP hD hS hl kk
      rcases Decidable.em (w_0 = (12 : Int32)) with hc_12 | hc_12
      · refine lv_tableIn (off := 492) (tgt := 525) hx hb dL_law_33 (by rw [hc_12]; decide) (by rw [hc_12]; decide) (by rw [hc_12]; rfl) (by decide) ?_
        exact lc_12 l hL C0 dC dI cyI cyJ aa ab hN hK hi h_i hP hD hS hl kk
      rcases Decidable.em (w_0 = (13 : Int32)) with hc_13 | hc_13
      · refine lv_tableIn (off := 525) (tgt := 558) hx hb dL_law_33 (by rw [hc_13]; decide) (by rw [hc_13]; decide) (by rw [hc_13]; rfl) (by decide) ?_
        exact lc_13 l hL C0 dC dI cyI cyJ aa ab hN hK hi h_i hP hD hS hl kk
      rcases Decidable.em (w_0 = (14 : Int32)) with hc_14 | hc_14
      · refine lv_tableIn (off := 559) (tgt := 592) hx hb dL_law_33 (by rw [hc_14]; decide) (by rw [hc_14]; decide) (by rw [hc_14]; rfl) (by decide) ?_
        exact lc_14 l hL C0 dC dI cyI cyJ aa ab hN hK hi h_i hP hD hS hl kk
      rcases Decidable.em (w_0 = (15 : Int32)) with hc_15 | hc_15
      · refine lv_tableIn (off := 612) (tgt := 645) hx hb dL_law_33 (by rw [hc_15]; decide) (by rw [hc_15]; decide) (by rw [hc_15]; rfl) (by decide) ?_
        exact lc_15 l hL C0 dC dI cyI cyJ aa ab hN hK hi h_i hP hD hS hl kk
      rcases Decidable.em (w_0 = (16 : Int32)) with hc_16 | hc_16
      · refine lv_tableIn (off := 645) (tgt := 678) hx hb dL_law_33 (by rw [hc_16]; decide) (by rw [hc_16]; decide) (by rw [hc_16]; rfl) (by decide) ?_
        exact lc_16 l hL C0 dC dI cyI cyJ aa ab hN hK hi h_i hP hD hS hl kk
      rcases Decidable.em (w_0 = (17 : Int32)) with hc_17 | hc_17
      · refine lv_tableIn (off := 688) (tgt := 721) hx hb dL_law_33 (by rw [hc_17]; decide) (by rw [hc_17]; decide) (by rw [hc_17]; rfl) (by decide) ?_
        exact lc_17 l hL C0 dC dI cyI cyJ aa ab hN hK hi h_i hP hD hS hl kk
      rcases Decidable.em (w_0 = (18 : Int32)) with hc_18 | hc_18
      · refine lv_tableIn (off := 731) (tgt := 764) hx hb dL_law_33 (by rw [hc_18]; decide) (by rw [hc_18]; decide) (by rw [hc_18]; rfl) (by decide) ?_
        exact lc_18 l hL C0 dC dI cyI cyJ aa ab hN hK hi h_i hP hD hS hl kk
      rcases Decidable.em (w_0 = (19 : Int32)) with hc_19 | hc_19
      · refine lv_tableIn (off := 754) (tgt := 787) hx hb dL_law_33 (by rw [hc_19]; decide) (by rw [hc_19]; decide) (by rw [hc_19]; rfl) (by decide) ?_
        exact lc_19 l hL C0 dC dI cyI cyJ aa ab hN hK hi h_i hP hD hS hl kk
      rcases Decidable.em (w_0 = (20 : Int32)) with hc_20 | hc_20
      · refine lv_tableIn (off := 787) (tgt := 820) hx hb dL_law_33 (by rw [hc_20]; decide) (by rw [hc_20]; decide) (by rw [hc_20]; rfl) (by decide) ?_
        exact lc_20 l hL C0 dC dI cyI cyJ aa ab hN hK hi h_i hP hD hS hl kk
      rcases Decidable.em (w_0 = (21 : Int32)) with hc_21 | hc_21
      · refine lv_tableIn (off := 840) (tgt := 873) hx hb dL_law_33 (by rw [hc_21]; decide) (by rw [hc_21]; decide) (by rw [hc_21]; rfl) (by decide) ?_
        exact lc_21 l hL C0 dC dI cyI cyJ aa ab hN hK hi h_i hP hD hS hl kk
      rcases Decidable.em (w_0 = (22 : Int32)) with hc_22 | hc_22
      · refine lv_tableIn (off := 883) (tgt := 916) hx hb dL_law_33 (by rw [hc_22]; decide) (by rw [hc_22]; decide) (by rw [hc_22]; rfl) (by decide) ?_
        exact lc_22 l hL C0 dC dI cyI cyJ aa ab hN hK hi h_i hP hD hS hl kk
      rcases Decidable.em (w_0 = (23 : Int32)) with hc_23 | hc_23
      · refine lv_tableIn (off := 906) (tgt := 939) hx hb dL_law_33 (by rw [hc_23]; decide) (by rw [hc_23]; decide) (by rw [hc_23]; rfl) (by decide) ?_
        exact lc_23 l hL C0 dC dI cyI cyJ aa ab hN hK hi h_i hP hD hS hl kk
      rcases Decidable.em (w_0 = (24 : Int32)) with hc_24 | hc_24
      · refine lv_tableIn (off := 949) (tgt := 982) hx hb dL_law_33 (by rw [hc_24]; decide) (by rw [hc_24]; decide) (by rw [hc_24]; rfl) (by decide) ?_
        exact lc_24 l hL C0 dC dI cyI cyJ aa ab hN hK hi h_i hP hD hS hl kk
      rcases Decidable.em (w_0 = (25 : Int32)) with hc_25 | hc_25
      · refine lv_tableIn (off := 993) (tgt := 1026) hx hb dL_law_33 (by rw [hc_25]; decide) (by rw [hc_25]; decide) (by rw [hc_25]; rfl) (by decide) ?_
        exact lc_25 l hL C0 dC dI cyI cyJ aa ab hN hK hi h_i hP hD hS hl kk
      rcases Decidable.em (w_0 = (26 : Int32)) with hc_26 | hc_26
      · refine lv_tableIn (off := 1056) (tgt := 1089) hx hb dL_law_33 (by rw [hc_26]; decide) (by rw [hc_26]; decide) (by rw [hc_26]; rfl) (by decide) ?_
        exact lc_26 l hL C0 dC dI cyI cyJ aa ab hN hK hi h_i hP hD hS hl kk
      rcases Decidable.em (w_0 = (27 : Int32)) with hc_27 | hc_27
      · refine lv_tableIn (off := 1079) (tgt := 1112) hx hb dL_law_33 (by rw [hc_27]; decide) (by rw [hc_27]; decide) (by rw [hc_27]; rfl) (by decide) ?_
        exact lc_27 l hL C0 dC dI cyI cyJ aa ab hN hK hi h_i hP hD hS hl kk
      rcases Decidable.em (w_0 = (28 : Int32)) with hc_28 | hc_28
      · refine lv_tableIn (off := 1102) (tgt := 1135) hx hb dL_law_33 (by rw [hc_28]; decide) (by rw [hc_28]; decide) (by rw [hc_28]; rfl) (by decide) ?_
        exact lc_28 l hL C0 dC dI cyI cyJ aa ab hN hK hi h_i hP hD hS hl kk
      rcases Decidable.em (w_0 = (29 : Int32)) with hc_29 | hc_29
      · refine lv_tableIn (off := 1135) (tgt := 1168) hx hb dL_law_33 (by rw [hc_29]; decide) (by rw [hc_29]; decide) (by rw [hc_29]; rfl) (by decide) ?_
        exact lc_29 l hL C0 dC dI cyI cyJ aa ab hN hK hi h_i hP hD hS hl kk
      rcases Decidable.em (w_0 = (30 : Int32)) with hc_30 | hc_30
      · refine lv_tableIn (off := 1148) (tgt := 1181) hx hb dL_law_33 (by rw [hc_30]; decide) (by rw [hc_30]; decide) (by rw [hc_30]; rfl) (by decide) ?_
        exact lc_30 l hL C0 dC dI cyI cyJ aa ab hN hK hi h_i hP hD hS hl kk
      rcases Decidable.em (w_0 = (31 : Int32)) with hc_31 | hc_31
      · refine lv_tableIn (off := 1161) (tgt := 1194) hx hb dL_law_33 (by rw [hc_31]; decide) (by rw [hc_31]; decide) (by rw [hc_31]; rfl) (by decide) ?_
        exact lc_31 l hL C0 dC dI cyI cyJ aa ab hN hK hi h_i hP hD hS hl kk
      refine lv_tableOut (tgt := 1217) hx hb dL_law_33 (yl_sw hc_0 hc_1 hc_2 hc_3 hc_4 hc_5 hc_6 hc_7 hc_8 hc_9 hc_10 hc_11 hc_12 hc_13 hc_14 hc_15 hc_16 hc_17 hc_18 hc_19 hc_20 hc_21 hc_22 hc_23 hc_24 hc_25 hc_26 hc_27 hc_28 hc_29 hc_30 hc_31) (by decide) ?_
      exact kk _ _ _ _ _ _ _ _ _ _ _ _ _ _ _ _ _ _ _ _ _ _ _ _ _ _ _ _ _ _ _ _ _ _ _ _ _ _ _ _ _ _ _ _ _ _ _ _ _ _ _ _ _ _ _ _ _ _ _ _ _ _ _ h_i hP hD hS hl
