def w_X3_tellsCause (x_causes : Nat → Int32) (x_things : Int32) (x_follows : Int32) (x_due : Int32) (a_1 : Int32) (post : Int32 → (Nat → Int32) → Int32 → Prop) : Prop := ((4 : Int32) ≤ x_follows → (post (0 : Int32) x_causes x_due)) ∧ (¬ (4 : Int32) ≤ x_follows → ((a_1 < 0 → (post (0 : Int32) x_causes x_due)) ∧ (¬ a_1 < 0 → ((a_1 < x_things → ((vp_in x_follows 4) ∧ (post (1 : Int32) (upd x_causes x_follows.toNatClampNeg a_1) (4 : Int32)))) ∧ (¬ a_1 < x_things → (post (0 : Int32) x_causes x_due))))))
set_option maxHeartbeats 4000000 in
set_option maxRecDepth 100000 in
theorem m_X3_tellsCause (l : Launch) (dC : Nat → ClassId) (dI : Nat → Nat → Nat) (cyI cyJ : ClassId) (aa : Nat → Nat) (sz : Nat) {s_lanes : Nat → Int32} {s_sizes : Nat → Int32} {s_cells : Nat → Int32} {x_kinds : Nat → Int32} {x_digits : Nat → Int32} {x_causes : Nat → Int32} {x_effects : Nat → Int32} {x_things : Int32} {x_follows : Int32} {x_due : Int32} {t_kinds : Nat → Int32} {t_digits : Nat → Int32} {t_caseRow : Nat → Int32} {t_weights : Nat → Int32} {t_order : Nat → Int32} {t_calls : Nat → Int32} {t_things : Int32} {t_caseCount : Int32} {t_caseSet : Int64} {p_callsOfCase : Nat → Int64} {p_partOfCase : Nat → Int32} {p_callsOfPart : Nat → Int64} {p_cases : Int32} {p_parts : Int32} {r_cases : Nat → Int32} {r_hours : Nat → Int32} {r_sets : Nat → Int32} {r_count : Int32} {u_lists : Nat → Int32} {u_breaths : Nat → Int32} {u_heard : Nat → Int32} {u_traced : Int32} {u_lastFault : Int32} {a_1 : Int32} {post : Int32 → (Nat → Int32) → Int32 → Prop} (h : w_X3_tellsCause x_causes x_things x_follows x_due a_1 post) : Met l yX3_tellsCause wsX3_tellsCause (xq_R 0 0) (va_Pc [.ref (aa 5), .int a_1] (xq_P (dC, dI) [(cyI, .int), (cyJ, .long)] (wc_u cyI cyJ aa s_lanes s_sizes s_cells x_kinds x_digits x_causes x_effects x_things x_follows x_due t_kinds t_digits t_caseRow t_weights t_order t_calls t_things t_caseCount t_caseSet p_callsOfCase p_partOfCase p_callsOfPart p_cases p_parts r_cases r_hours r_sets r_count u_lists u_breaths u_heard u_traced u_lastFault) sz)) (va_Qi (fun (rr : Int32) (uu : (Nat → Int32) × Int32) => post rr uu.1 uu.2) (fun (uu : (Nat → Int32) × Int32) => xq_B (dC, dI) [(cyI, .int), (cyJ, .long)] (va_A (wc_u cyI cyJ aa s_lanes s_sizes s_cells x_kinds x_digits x_causes x_effects x_things x_follows x_due t_kinds t_digits t_caseRow t_weights t_order t_calls t_things t_caseCount t_caseSet p_callsOfCase p_partOfCase p_callsOfPart p_cases p_parts r_cases r_hours r_sets r_count u_lists u_breaths u_heard u_traced u_lastFault) sz) (wc_u cyI cyJ aa s_lanes s_sizes s_cells x_kinds x_digits uu.1 x_effects x_things x_follows uu.2 t_kinds t_digits t_caseRow t_weights t_order t_calls t_things t_caseCount t_caseSet p_callsOfCase p_partOfCase p_callsOfPart p_cases p_parts r_cases r_hours r_sets r_count u_lists u_breaths u_heard u_traced u_lastFault)) (va_A (wc_u cyI cyJ aa s_lanes s_sizes s_cells x_kinds x_digits x_causes x_effects x_things x_follows x_due t_kinds t_digits t_caseRow t_weights t_order t_calls t_things t_caseCount t_caseSet p_callsOfCase p_partOfCase p_callsOfPart p_cases p_parts r_cases r_hours r_sets r_count u_lists u_breaths u_heard u_traced u_lastFault) sz)) 0 0 (va_A (wc_u cyI cyJ aa s_lanes s_sizes s_cells x_kinds x_digits x_causes x_effects x_things x_follows x_due t_kinds t_digits t_caseRow t_weights t_order t_calls t_things t_caseCount t_caseSet p_callsOfCase p_partOfCase p_callsOfPart p_cases p_parts r_cases r_hours r_sets r_count u_lists u_breaths u_heard u_traced u_lastFault) sz) := by
  refine xq_M (cc := cX3_tellsCause) (maxL := 2) (ret := (some .boolean)) (QA := fun A => va_Qi (fun (rr : Int32) (uu : (Nat → Int32) × Int32) => post rr uu.1 uu.2) (fun (uu : (Nat → Int32) × Int32) => xq_B (dC, dI) [(cyI, .int), (cyJ, .long)] A (wc_u cyI cyJ aa s_lanes s_sizes s_cells x_kinds x_digits uu.1 x_effects x_things x_follows uu.2 t_kinds t_digits t_caseRow t_weights t_order t_calls t_things t_caseCount t_caseSet p_callsOfCase p_partOfCase p_callsOfPart p_cases p_parts r_cases r_hours r_sets r_count u_lists u_breaths u_heard u_traced u_lastFault)) A) (by decide) rfl (Nat.le_of_ble_eq_true rfl) ?_
  intro p e s m args below meth c A ls Q hQ hx hb hr hml hts hown hlocks hsz hP hK hD hA hS hN hl
  subst hsz
  have hl : lv_has ls 2 [(0, .ref (aa 5)), (1, .int a_1)] := hl
  have hi_X3 : ∀ w ∈ wsX30, w ∈ wsX3_tellsCause := fun _ h => List.mem_cons_of_mem _ (List.mem_append_right _ h)
  have fl_18 := hts (.fieldLink RX3 18 "UnsaidCalls$Text" "causes" "[I") (by decide +kernel)
  have fl_24 := hts (.fieldLink RX3 24 "UnsaidCalls$Text" "things" "I") (by decide +kernel)
  have fl_28 := hts (.fieldLink RX3 28 "UnsaidCalls$Text" "follows" "I") (by decide +kernel)
  have fl_31 := hts (.fieldLink RX3 31 "UnsaidCalls$Text" "due" "I") (by decide +kernel)
  unfold w_X3_tellsCause at h
  refine lv_aload_n hx hb dX3_tellsCause_0 rfl (lv_at hl 0 rfl) ?_
  refine va_get (D := (dC, dI)) (ci := 3) (v := .int x_follows) (C := RX3) (T := TX3) (N := 7) hx hb hts hi_X3 hown hK hP 5 rfl rfl 5 (by decide) fl_28 (fun _ h9 => h9) rfl dX3_tellsCause_1 ?_
  refine lv_iconst (v := (4 : Int32)) hx hb dX3_tellsCause_4 (by decide) ?_
  refine lv_icmp_ge (tgt := 20) hx hb dX3_tellsCause_5 (by decide) (fun hc_4 => ?_) (fun hc_4 => ?_)
  · have h := h.1 hc_4
    refine lv_iconst (v := (0 : Int32)) hx hb dX3_tellsCause_20 (by decide) ?_
    exact xq_rz hQ hx hb hr (by decide) hP hK hD hS (x_causes, x_due) rfl h dX3_tellsCause_21 hlocks
  · have h := h.2 hc_4
    refine lv_iload_n hx hb dX3_tellsCause_8 rfl (lv_at hl 1 rfl) ?_
    refine lv_if_lt (tgt := 20) hx hb dX3_tellsCause_9 (by decide) (fun hc_3 => ?_) (fun hc_3 => ?_)
    · have h := h.1 hc_3
      refine lv_iconst (v := (0 : Int32)) hx hb dX3_tellsCause_20 (by decide) ?_
      exact xq_rz hQ hx hb hr (by decide) hP hK hD hS (x_causes, x_due) rfl h dX3_tellsCause_21 hlocks
    · have h := h.2 hc_3
      refine lv_iload_n hx hb dX3_tellsCause_12 rfl (lv_at hl 1 rfl) ?_
      refine lv_aload_n hx hb dX3_tellsCause_13 rfl (lv_at hl 0 rfl) ?_
      refine va_get (D := (dC, dI)) (ci := 3) (v := .int x_things) (C := RX3) (T := TX3) (N := 7) hx hb hts hi_X3 hown hK hP 5 rfl rfl 4 (by decide) fl_24 (fun _ h9 => h9) rfl dX3_tellsCause_14 ?_
      refine lv_icmp_lt (tgt := 22) hx hb dX3_tellsCause_17 (by decide) (fun hc_2 => ?_) (fun hc_2 => ?_)
      · have h := h.1 hc_2
        refine lv_aload_n hx hb dX3_tellsCause_22 rfl (lv_at hl 0 rfl) ?_
        refine va_get (D := (dC, dI)) (ci := 3) (v := .ref (aa 8)) (C := RX3) (T := TX3) (N := 7) hx hb hts hi_X3 hown hK hP 5 rfl rfl 2 (by decide) fl_18 (fun _ h9 => h9) rfl dX3_tellsCause_23 ?_
        refine lv_aload_n hx hb dX3_tellsCause_26 rfl (lv_at hl 0 rfl) ?_
        refine va_get (D := (dC, dI)) (ci := 3) (v := .int x_follows) (C := RX3) (T := TX3) (N := 7) hx hb hts hi_X3 hown hK hP 5 rfl rfl 5 (by decide) fl_28 (fun _ h9 => h9) rfl dX3_tellsCause_27 ?_
        refine lv_iload_n hx hb dX3_tellsCause_30 rfl (lv_at hl 1 rfl) ?_
        obtain ⟨hv_1, h⟩ := h
        refine va_iast hx hb hK hP hD hS 8 0 rfl rfl hv_1 dX3_tellsCause_31 (fun H locs hP hD hS => ?_)
        have hP : va_P (dC, dI) vwCl (wc_u cyI cyJ aa s_lanes s_sizes s_cells x_kinds x_digits (upd x_causes x_follows.toNatClampNeg a_1) x_effects x_things x_follows x_due t_kinds t_digits t_caseRow t_weights t_order t_calls t_things t_caseCount t_caseSet p_callsOfCase p_partOfCase p_callsOfPart p_cases p_parts r_cases r_hours r_sets r_count u_lists u_breaths u_heard u_traced u_lastFault) H := hP
        have hD : va_D A (wc_u cyI cyJ aa s_lanes s_sizes s_cells x_kinds x_digits (upd x_causes x_follows.toNatClampNeg a_1) x_effects x_things x_follows x_due t_kinds t_digits t_caseRow t_weights t_order t_calls t_things t_caseCount t_caseSet p_callsOfCase p_partOfCase p_callsOfPart p_cases p_parts r_cases r_hours r_sets r_count u_lists u_breaths u_heard u_traced u_lastFault) := hD
        refine lv_aload_n hx hb dX3_tellsCause_32 rfl (lv_at hl 0 rfl) ?_
        refine lv_iconst (v := (4 : Int32)) hx hb dX3_tellsCause_33 (by decide) ?_
        refine va_put (D := (dC, dI)) (ci := 3) (v := .int (4 : Int32)) (ty := .int) (C := RX3) (T := TX3) (N := 7) hx hb hts hi_X3 tyX3 tyX3_ok nmX3 hown hK hP hD hS 5 rfl rfl 6 (by decide) fl_31 (fun _ h9 => h9) rfl (by decide +kernel) rfl rfl (Nat.le_of_ble_eq_true rfl) dX3_tellsCause_34 (fun H locs hP hD hS => ?_)
        have hP : va_P (dC, dI) vwCl (wc_u cyI cyJ aa s_lanes s_sizes s_cells x_kinds x_digits (upd x_causes x_follows.toNatClampNeg a_1) x_effects x_things x_follows (4 : Int32) t_kinds t_digits t_caseRow t_weights t_order t_calls t_things t_caseCount t_caseSet p_callsOfCase p_partOfCase p_callsOfPart p_cases p_parts r_cases r_hours r_sets r_count u_lists u_breaths u_heard u_traced u_lastFault) H := hP
        have hD : va_D A (wc_u cyI cyJ aa s_lanes s_sizes s_cells x_kinds x_digits (upd x_causes x_follows.toNatClampNeg a_1) x_effects x_things x_follows (4 : Int32) t_kinds t_digits t_caseRow t_weights t_order t_calls t_things t_caseCount t_caseSet p_callsOfCase p_partOfCase p_callsOfPart p_cases p_parts r_cases r_hours r_sets r_count u_lists u_breaths u_heard u_traced u_lastFault) := hD
        refine lv_iconst (v := (1 : Int32)) hx hb dX3_tellsCause_37 (by decide) ?_
        exact xq_rz hQ hx hb hr (by decide) hP hK hD hS ((upd x_causes x_follows.toNatClampNeg a_1), (4 : Int32)) rfl h dX3_tellsCause_38 hlocks
      · have h := h.2 hc_2
        refine lv_iconst (v := (0 : Int32)) hx hb dX3_tellsCause_20 (by decide) ?_
        exact xq_rz hQ hx hb hr (by decide) hP hK hD hS (x_causes, x_due) rfl h dX3_tellsCause_21 hlocks
def w_X3_tellsChance (x_digits : Nat → Int32) (x_things : Int32) (x_due : Int32) (a_1 : Int32) (post : Int32 → (Nat → Int32) → Int32 → Int32 → Prop) : Prop := ((6 : Int32) ≤ x_things → (post (0 : Int32) x_digits x_things x_due)) ∧ (¬ (6 : Int32) ≤ x_things → ((a_1 < (1 : Int32) → (post (0 : Int32) x_digits x_things x_due)) ∧ (¬ a_1 < (1 : Int32) → ((a_1 < (10 : Int32) → ((vp_in x_things 6) ∧ (post (1 : Int32) (upd x_digits x_things.toNatClampNeg a_1) (x_things + (1 : Int32)) (1 : Int32)))) ∧ (¬ a_1 < (10 : Int32) → (post (0 : Int32) x_digits x_things x_due))))))
set_option maxHeartbeats 4000000 in
set_option maxRecDepth 100000 in
theorem m_X3_tellsChance (l : Launch) (dC : Nat → ClassId) (dI : Nat → Nat → Nat) (cyI cyJ : ClassId) (aa : Nat → Nat) (sz : Nat) {s_lanes : Nat → Int32} {s_sizes : Nat → Int32} {s_cells : Nat → Int32} {x_kinds : Nat → Int32} {x_digits : Nat → Int32} {x_causes : Nat → Int32} {x_effects : Nat → Int32} {x_things : Int32} {x_follows : Int32} {x_due : Int32} {t_kinds : Nat → Int32} {t_digits : Nat → Int32} {t_caseRow : Nat → Int32} {t_weights : Nat → Int32} {t_order : Nat → Int32} {t_calls : Nat → Int32} {t_things : Int32} {t_caseCount : Int32} {t_caseSet : Int64} {p_callsOfCase : Nat → Int64} {p_partOfCase : Nat → Int32} {p_callsOfPart : Nat → Int64} {p_cases : Int32} {p_parts : Int32} {r_cases : Nat → Int32} {r_hours : Nat → Int32} {r_sets : Nat → Int32} {r_count : Int32} {u_lists : Nat → Int32} {u_breaths : Nat → Int32} {u_heard : Nat → Int32} {u_traced : Int32} {u_lastFault : Int32} {a_1 : Int32} {post : Int32 → (Nat → Int32) → Int32 → Int32 → Prop} (h : w_X3_tellsChance x_digits x_things x_due a_1 post) : Met l yX3_tellsChance wsX3_tellsChance (xq_R 0 0) (va_Pc [.ref (aa 5), .int a_1] (xq_P (dC, dI) [(cyI, .int), (cyJ, .long)] (wc_u cyI cyJ aa s_lanes s_sizes s_cells x_kinds x_digits x_causes x_effects x_things x_follows x_due t_kinds t_digits t_caseRow t_weights t_order t_calls t_things t_caseCount t_caseSet p_callsOfCase p_partOfCase p_callsOfPart p_cases p_parts r_cases r_hours r_sets r_count u_lists u_breaths u_heard u_traced u_lastFault) sz)) (va_Qi (fun (rr : Int32) (uu : (Nat → Int32) × Int32 × Int32) => post rr uu.1 uu.2.1 uu.2.2) (fun (uu : (Nat → Int32) × Int32 × Int32) => xq_B (dC, dI) [(cyI, .int), (cyJ, .long)] (va_A (wc_u cyI cyJ aa s_lanes s_sizes s_cells x_kinds x_digits x_causes x_effects x_things x_follows x_due t_kinds t_digits t_caseRow t_weights t_order t_calls t_things t_caseCount t_caseSet p_callsOfCase p_partOfCase p_callsOfPart p_cases p_parts r_cases r_hours r_sets r_count u_lists u_breaths u_heard u_traced u_lastFault) sz) (wc_u cyI cyJ aa s_lanes s_sizes s_cells x_kinds uu.1 x_causes x_effects uu.2.1 x_follows uu.2.2 t_kinds t_digits t_caseRow t_weights t_order t_calls t_things t_caseCount t_caseSet p_callsOfCase p_partOfCase p_callsOfPart p_cases p_parts r_cases r_hours r_sets r_count u_lists u_breaths u_heard u_traced u_lastFault)) (va_A (wc_u cyI cyJ aa s_lanes s_sizes s_cells x_kinds x_digits x_causes x_effects x_things x_follows x_due t_kinds t_digits t_caseRow t_weights t_order t_calls t_things t_caseCount t_caseSet p_callsOfCase p_partOfCase p_callsOfPart p_cases p_parts r_cases r_hours r_sets r_count u_lists u_breaths u_heard u_traced u_lastFault) sz)) 0 0 (va_A (wc_u cyI cyJ aa s_lanes s_sizes s_cells x_kinds x_digits x_causes x_effects x_things x_follows x_due t_kinds t_digits t_caseRow t_weights t_order t_calls t_things t_caseCount t_caseSet p_callsOfCase p_partOfCase p_callsOfPart p_cases p_parts r_cases r_hours r_sets r_count u_lists u_breaths u_heard u_traced u_lastFault) sz) := by
  refine xq_M (cc := cX3_tellsChance) (maxL := 2) (ret := (some .boolean)) (QA := fun A => va_Qi (fun (rr : Int32) (uu : (Nat → Int32) × Int32 × Int32) => post rr uu.1 uu.2.1 uu.2.2) (fun (uu : (Nat → Int32) × Int32 × Int32) => xq_B (dC, dI) [(cyI, .int), (cyJ, .long)] A (wc_u cyI cyJ aa s_lanes s_sizes s_cells x_kinds uu.1 x_causes x_effects uu.2.1 x_follows uu.2.2 t_kinds t_digits t_caseRow t_weights t_order t_calls t_things t_caseCount t_caseSet p_callsOfCase p_partOfCase p_callsOfPart p_cases p_parts r_cases r_hours r_sets r_count u_lists u_breaths u_heard u_traced u_lastFault)) A) (by decide) rfl (Nat.le_of_ble_eq_true rfl) ?_
  intro p e s m args below meth c A ls Q hQ hx hb hr hml hts hown hlocks hsz hP hK hD hA hS hN hl
  subst hsz
  have hl : lv_has ls 2 [(0, .ref (aa 5)), (1, .int a_1)] := hl
  have hi_X3 : ∀ w ∈ wsX30, w ∈ wsX3_tellsChance := fun _ h => List.mem_cons_of_mem _ (List.mem_append_right _ h)
  have fl_15 := hts (.fieldLink RX3 15 "UnsaidCalls$Text" "digits" "[I") (by decide +kernel)
  have fl_24 := hts (.fieldLink RX3 24 "UnsaidCalls$Text" "things" "I") (by decide +kernel)
  have fl_31 := hts (.fieldLink RX3 31 "UnsaidCalls$Text" "due" "I") (by decide +kernel)
  unfold w_X3_tellsChance at h
  refine lv_aload_n hx hb dX3_tellsChance_0 rfl (lv_at hl 0 rfl) ?_
  refine va_get (D := (dC, dI)) (ci := 3) (v := .int x_things) (C := RX3) (T := TX3) (N := 7) hx hb hts hi_X3 hown hK hP 5 rfl rfl 4 (by decide) fl_24 (fun _ h9 => h9) rfl dX3_tellsChance_1 ?_
  refine lv_bipush (v := (6 : Int32)) hx hb dX3_tellsChance_4 (by decide) ?_
  refine lv_icmp_ge (tgt := 20) hx hb dX3_tellsChance_6 (by decide) (fun hc_4 => ?_) (fun hc_4 => ?_)
  · have h := h.1 hc_4
    refine lv_iconst (v := (0 : Int32)) hx hb dX3_tellsChance_20 (by decide) ?_
    exact xq_rz hQ hx hb hr (by decide) hP hK hD hS (x_digits, x_things, x_due) rfl h dX3_tellsChance_21 hlocks
  · have h := h.2 hc_4
    refine lv_iload_n hx hb dX3_tellsChance_9 rfl (lv_at hl 1 rfl) ?_
    refine lv_iconst (v := (1 : Int32)) hx hb dX3_tellsChance_10 (by decide) ?_
    refine lv_icmp_lt (tgt := 20) hx hb dX3_tellsChance_11 (by decide) (fun hc_3 => ?_) (fun hc_3 => ?_)
    · have h := h.1 hc_3
      refine lv_iconst (v := (0 : Int32)) hx hb dX3_tellsChance_20 (by decide) ?_
      exact xq_rz hQ hx hb hr (by decide) hP hK hD hS (x_digits, x_things, x_due) rfl h dX3_tellsChance_21 hlocks
    · have h := h.2 hc_3
      refine lv_iload_n hx hb dX3_tellsChance_14 rfl (lv_at hl 1 rfl) ?_
      refine lv_bipush (v := (10 : Int32)) hx hb dX3_tellsChance_15 (by decide) ?_
      refine lv_icmp_lt (tgt := 22) hx hb dX3_tellsChance_17 (by decide) (fun hc_2 => ?_) (fun hc_2 => ?_)
      · have h := h.1 hc_2
        refine lv_aload_n hx hb dX3_tellsChance_22 rfl (lv_at hl 0 rfl) ?_
        refine va_get (D := (dC, dI)) (ci := 3) (v := .ref (aa 7)) (C := RX3) (T := TX3) (N := 7) hx hb hts hi_X3 hown hK hP 5 rfl rfl 1 (by decide) fl_15 (fun _ h9 => h9) rfl dX3_tellsChance_23 ?_
        refine lv_aload_n hx hb dX3_tellsChance_26 rfl (lv_at hl 0 rfl) ?_
        refine va_get (D := (dC, dI)) (ci := 3) (v := .int x_things) (C := RX3) (T := TX3) (N := 7) hx hb hts hi_X3 hown hK hP 5 rfl rfl 4 (by decide) fl_24 (fun _ h9 => h9) rfl dX3_tellsChance_27 ?_
        refine lv_iload_n hx hb dX3_tellsChance_30 rfl (lv_at hl 1 rfl) ?_
        obtain ⟨hv_1, h⟩ := h
        refine va_iast hx hb hK hP hD hS 7 0 rfl rfl hv_1 dX3_tellsChance_31 (fun H locs hP hD hS => ?_)
        have hP : va_P (dC, dI) vwCl (wc_u cyI cyJ aa s_lanes s_sizes s_cells x_kinds (upd x_digits x_things.toNatClampNeg a_1) x_causes x_effects x_things x_follows x_due t_kinds t_digits t_caseRow t_weights t_order t_calls t_things t_caseCount t_caseSet p_callsOfCase p_partOfCase p_callsOfPart p_cases p_parts r_cases r_hours r_sets r_count u_lists u_breaths u_heard u_traced u_lastFault) H := hP
        have hD : va_D A (wc_u cyI cyJ aa s_lanes s_sizes s_cells x_kinds (upd x_digits x_things.toNatClampNeg a_1) x_causes x_effects x_things x_follows x_due t_kinds t_digits t_caseRow t_weights t_order t_calls t_things t_caseCount t_caseSet p_callsOfCase p_partOfCase p_callsOfPart p_cases p_parts r_cases r_hours r_sets r_count u_lists u_breaths u_heard u_traced u_lastFault) := hD
        refine lv_aload_n hx hb dX3_tellsChance_32 rfl (lv_at hl 0 rfl) ?_
        refine lv_dup hx hb dX3_tellsChance_33 rfl ?_
        refine va_get (D := (dC, dI)) (ci := 3) (v := .int x_things) (C := RX3) (T := TX3) (N := 7) hx hb hts hi_X3 hown hK hP 5 rfl rfl 4 (by decide) fl_24 (fun _ h9 => h9) rfl dX3_tellsChance_34 ?_
        refine lv_iconst (v := (1 : Int32)) hx hb dX3_tellsChance_37 (by decide) ?_
        refine lv_iadd hx hb dX3_tellsChance_38 ?_
        refine va_put (D := (dC, dI)) (ci := 3) (v := .int (x_things + (1 : Int32))) (ty := .int) (C := RX3) (T := TX3) (N := 7) hx hb hts hi_X3 tyX3 tyX3_ok nmX3 hown hK hP hD hS 5 rfl rfl 4 (by decide) fl_24 (fun _ h9 => h9) rfl (by decide +kernel) rfl rfl (Nat.le_of_ble_eq_true rfl) dX3_tellsChance_39 (fun H locs hP hD hS => ?_)
        have hP : va_P (dC, dI) vwCl (wc_u cyI cyJ aa s_lanes s_sizes s_cells x_kinds (upd x_digits x_things.toNatClampNeg a_1) x_causes x_effects (x_things + (1 : Int32)) x_follows x_due t_kinds t_digits t_caseRow t_weights t_order t_calls t_things t_caseCount t_caseSet p_callsOfCase p_partOfCase p_callsOfPart p_cases p_parts r_cases r_hours r_sets r_count u_lists u_breaths u_heard u_traced u_lastFault) H := hP
        have hD : va_D A (wc_u cyI cyJ aa s_lanes s_sizes s_cells x_kinds (upd x_digits x_things.toNatClampNeg a_1) x_causes x_effects (x_things + (1 : Int32)) x_follows x_due t_kinds t_digits t_caseRow t_weights t_order t_calls t_things t_caseCount t_caseSet p_callsOfCase p_partOfCase p_callsOfPart p_cases p_parts r_cases r_hours r_sets r_count u_lists u_breaths u_heard u_traced u_lastFault) := hD
        refine lv_aload_n hx hb dX3_tellsChance_42 rfl (lv_at hl 0 rfl) ?_
        refine lv_iconst (v := (1 : Int32)) hx hb dX3_tellsChance_43 (by decide) ?_
        refine va_put (D := (dC, dI)) (ci := 3) (v := .int (1 : Int32)) (ty := .int) (C := RX3) (T := TX3) (N := 7) hx hb hts hi_X3 tyX3 tyX3_ok nmX3 hown hK hP hD hS 5 rfl rfl 6 (by decide) fl_31 (fun _ h9 => h9) rfl (by decide +kernel) rfl rfl (Nat.le_of_ble_eq_true rfl) dX3_tellsChance_44 (fun H locs hP hD hS => ?_)
        have hP : va_P (dC, dI) vwCl (wc_u cyI cyJ aa s_lanes s_sizes s_cells x_kinds (upd x_digits x_things.toNatClampNeg a_1) x_causes x_effects (x_things + (1 : Int32)) x_follows (1 : Int32) t_kinds t_digits t_caseRow t_weights t_order t_calls t_things t_caseCount t_caseSet p_callsOfCase p_partOfCase p_callsOfPart p_cases p_parts r_cases r_hours r_sets r_count u_lists u_breaths u_heard u_traced u_lastFault) H := hP
        have hD : va_D A (wc_u cyI cyJ aa s_lanes s_sizes s_cells x_kinds (upd x_digits x_things.toNatClampNeg a_1) x_causes x_effects (x_things + (1 : Int32)) x_follows (1 : Int32) t_kinds t_digits t_caseRow t_weights t_order t_calls t_things t_caseCount t_caseSet p_callsOfCase p_partOfCase p_callsOfPart p_cases p_parts r_cases r_hours r_sets r_count u_lists u_breaths u_heard u_traced u_lastFault) := hD
        refine lv_iconst (v := (1 : Int32)) hx hb dX3_tellsChance_47 (by decide) ?_
        exact xq_rz hQ hx hb hr (by decide) hP hK hD hS ((upd x_digits x_things.toNatClampNeg a_1), (x_things + (1 : Int32)), (1 : Int32)) rfl h dX3_tellsChance_48 hlocks
      · have h := h.2 hc_2
        refine lv_iconst (v := (0 : Int32)) hx hb dX3_tellsChance_20 (by decide) ?_
        exact xq_rz hQ hx hb hr (by decide) hP hK hD hS (x_digits, x_things, x_due) rfl h dX3_tellsChance_21 hlocks
def w_X3_tellsEffect (x_causes : Nat → Int32) (x_effects : Nat → Int32) (x_things : Int32) (x_follows : Int32) (x_due : Int32) (a_1 : Int32) (post : Int32 → (Nat → Int32) → Int32 → Int32 → Prop) : Prop := ((4 : Int32) ≤ x_follows → (post (0 : Int32) x_effects x_follows x_due)) ∧ (¬ (4 : Int32) ≤ x_follows → ((a_1 < 0 → (post (0 : Int32) x_effects x_follows x_due)) ∧ (¬ a_1 < 0 → ((x_things ≤ a_1 → (post (0 : Int32) x_effects x_follows x_due)) ∧ (¬ x_things ≤ a_1 → ((vp_in x_follows 4) ∧ ((¬ a_1 = (x_causes x_follows.toNatClampNeg) → ((vp_in x_follows 4) ∧ (post (1 : Int32) (upd x_effects x_follows.toNatClampNeg a_1) (x_follows + (1 : Int32)) (5 : Int32)))) ∧ (a_1 = (x_causes x_follows.toNatClampNeg) → (post (0 : Int32) x_effects x_follows x_due)))))))))
set_option maxHeartbeats 4000000 in
set_option maxRecDepth 100000 in
theorem m_X3_tellsEffect (l : Launch) (dC : Nat → ClassId) (dI : Nat → Nat → Nat) (cyI cyJ : ClassId) (aa : Nat → Nat) (sz : Nat) {s_lanes : Nat → Int32} {s_sizes : Nat → Int32} {s_cells : Nat → Int32} {x_kinds : Nat → Int32} {x_digits : Nat → Int32} {x_causes : Nat → Int32} {x_effects : Nat → Int32} {x_things : Int32} {x_follows : Int32} {x_due : Int32} {t_kinds : Nat → Int32} {t_digits : Nat → Int32} {t_caseRow : Nat → Int32} {t_weights : Nat → Int32} {t_order : Nat → Int32} {t_calls : Nat → Int32} {t_things : Int32} {t_caseCount : Int32} {t_caseSet : Int64} {p_callsOfCase : Nat → Int64} {p_partOfCase : Nat → Int32} {p_callsOfPart : Nat → Int64} {p_cases : Int32} {p_parts : Int32} {r_cases : Nat → Int32} {r_hours : Nat → Int32} {r_sets : Nat → Int32} {r_count : Int32} {u_lists : Nat → Int32} {u_breaths : Nat → Int32} {u_heard : Nat → Int32} {u_traced : Int32} {u_lastFault : Int32} {a_1 : Int32} {post : Int32 → (Nat → Int32) → Int32 → Int32 → Prop} (h : w_X3_tellsEffect x_causes x_effects x_things x_follows x_due a_1 post) : Met l yX3_tellsEffect wsX3_tellsEffect (xq_R 0 0) (va_Pc [.ref (aa 5), .int a_1] (xq_P (dC, dI) [(cyI, .int), (cyJ, .long)] (wc_u cyI cyJ aa s_lanes s_sizes s_cells x_kinds x_digits x_causes x_effects x_things x_follows x_due t_kinds t_digits t_caseRow t_weights t_order t_calls t_things t_caseCount t_caseSet p_callsOfCase p_partOfCase p_callsOfPart p_cases p_parts r_cases r_hours r_sets r_count u_lists u_breaths u_heard u_traced u_lastFault) sz)) (va_Qi (fun (rr : Int32) (uu : (Nat → Int32) × Int32 × Int32) => post rr uu.1 uu.2.1 uu.2.2) (fun (uu : (Nat → Int32) × Int32 × Int32) => xq_B (dC, dI) [(cyI, .int), (cyJ, .long)] (va_A (wc_u cyI cyJ aa s_lanes s_sizes s_cells x_kinds x_digits x_causes x_effects x_things x_follows x_due t_kinds t_digits t_caseRow t_weights t_order t_calls t_things t_caseCount t_caseSet p_callsOfCase p_partOfCase p_callsOfPart p_cases p_parts r_cases r_hours r_sets r_count u_lists u_breaths u_heard u_traced u_lastFault) sz) (wc_u cyI cyJ aa s_lanes s_sizes s_cells x_kinds x_digits x_causes uu.1 x_things uu.2.1 uu.2.2 t_kinds t_digits t_caseRow t_weights t_order t_calls t_things t_caseCount t_caseSet p_callsOfCase p_partOfCase p_callsOfPart p_cases p_parts r_cases r_hours r_sets r_count u_lists u_breaths u_heard u_traced u_lastFault)) (va_A (wc_u cyI cyJ aa s_lanes s_sizes s_cells x_kinds x_digits x_causes x_effects x_things x_follows x_due t_kinds t_digits t_caseRow t_weights t_order t_calls t_things t_caseCount t_caseSet p_callsOfCase p_partOfCase p_callsOfPart p_cases p_parts r_cases r_hours r_sets r_count u_lists u_breaths u_heard u_traced u_lastFault) sz)) 0 0 (va_A (wc_u cyI cyJ aa s_lanes s_sizes s_cells x_kinds x_digits x_causes x_effects x_things x_follows x_due t_kinds t_digits t_caseRow t_weights t_order t_calls t_things t_caseCount t_caseSet p_callsOfCase p_partOfCase p_callsOfPart p_cases p_parts r_cases r_hours r_sets r_count u_lists u_breaths u_heard u_traced u_lastFault) sz) := by
  refine xq_M (cc := cX3_tellsEffect) (maxL := 2) (ret := (some .boolean)) (QA := fun A => va_Qi (fun (rr : Int32) (uu : (Nat → Int32) × Int32 × Int32) => post rr uu.1 uu.2.1 uu.2.2) (fun (uu : (Nat → Int32) × Int32 × Int32) => xq_B (dC, dI) [(cyI, .int), (cyJ, .long)] A (wc_u cyI cyJ aa s_lanes s_sizes s_cells x_kinds x_digits x_causes uu.1 x_things uu.2.1 uu.2.2 t_kinds t_digits t_caseRow t_weights t_order t_calls t_things t_caseCount t_caseSet p_callsOfCase p_partOfCase p_callsOfPart p_cases p_parts r_cases r_hours r_sets r_count u_lists u_breaths u_heard u_traced u_lastFault)) A) (by decide) rfl (Nat.le_of_ble_eq_true rfl) ?_
  intro p e s m args below meth c A ls Q hQ hx hb hr hml hts hown hlocks hsz hP hK hD hA hS hN hl
  subst hsz
  have hl : lv_has ls 2 [(0, .ref (aa 5)), (1, .int a_1)] := hl
  have hi_X3 : ∀ w ∈ wsX30, w ∈ wsX3_tellsEffect := fun _ h => List.mem_cons_of_mem _ (List.mem_append_right _ h)
  have fl_18 := hts (.fieldLink RX3 18 "UnsaidCalls$Text" "causes" "[I") (by decide +kernel)
  have fl_21 := hts (.fieldLink RX3 21 "UnsaidCalls$Text" "effects" "[I") (by decide +kernel)
  have fl_24 := hts (.fieldLink RX3 24 "UnsaidCalls$Text" "things" "I") (by decide +kernel)
  have fl_28 := hts (.fieldLink RX3 28 "UnsaidCalls$Text" "follows" "I") (by decide +kernel)
  have fl_31 := hts (.fieldLink RX3 31 "UnsaidCalls$Text" "due" "I") (by decide +kernel)
  unfold w_X3_tellsEffect at h
  refine lv_aload_n hx hb dX3_tellsEffect_0 rfl (lv_at hl 0 rfl) ?_
  refine va_get (D := (dC, dI)) (ci := 3) (v := .int x_follows) (C := RX3) (T := TX3) (N := 7) hx hb hts hi_X3 hown hK hP 5 rfl rfl 5 (by decide) fl_28 (fun _ h9 => h9) rfl dX3_tellsEffect_1 ?_
  refine lv_iconst (v := (4 : Int32)) hx hb dX3_tellsEffect_4 (by decide) ?_
  refine lv_icmp_ge (tgt := 33) hx hb dX3_tellsEffect_5 (by decide) (fun hc_6 => ?_) (fun hc_6 => ?_)
  · have h := h.1 hc_6
    refine lv_iconst (v := (0 : Int32)) hx hb dX3_tellsEffect_33 (by decide) ?_
    exact xq_rz hQ hx hb hr (by decide) hP hK hD hS (x_effects, x_follows, x_due) rfl h dX3_tellsEffect_34 hlocks
  · have h := h.2 hc_6
    refine lv_iload_n hx hb dX3_tellsEffect_8 rfl (lv_at hl 1 rfl) ?_
    refine lv_if_lt (tgt := 33) hx hb dX3_tellsEffect_9 (by decide) (fun hc_5 => ?_) (fun hc_5 => ?_)
    · have h := h.1 hc_5
      refine lv_iconst (v := (0 : Int32)) hx hb dX3_tellsEffect_33 (by decide) ?_
      exact xq_rz hQ hx hb hr (by decide) hP hK hD hS (x_effects, x_follows, x_due) rfl h dX3_tellsEffect_34 hlocks
    · have h := h.2 hc_5
      refine lv_iload_n hx hb dX3_tellsEffect_12 rfl (lv_at hl 1 rfl) ?_
      refine lv_aload_n hx hb dX3_tellsEffect_13 rfl (lv_at hl 0 rfl) ?_
      refine va_get (D := (dC, dI)) (ci := 3) (v := .int x_things) (C := RX3) (T := TX3) (N := 7) hx hb hts hi_X3 hown hK hP 5 rfl rfl 4 (by decide) fl_24 (fun _ h9 => h9) rfl dX3_tellsEffect_14 ?_
      refine lv_icmp_ge (tgt := 33) hx hb dX3_tellsEffect_17 (by decide) (fun hc_4 => ?_) (fun hc_4 => ?_)
      · have h := h.1 hc_4
        refine lv_iconst (v := (0 : Int32)) hx hb dX3_tellsEffect_33 (by decide) ?_
        exact xq_rz hQ hx hb hr (by decide) hP hK hD hS (x_effects, x_follows, x_due) rfl h dX3_tellsEffect_34 hlocks
      · have h := h.2 hc_4
        refine lv_iload_n hx hb dX3_tellsEffect_20 rfl (lv_at hl 1 rfl) ?_
        refine lv_aload_n hx hb dX3_tellsEffect_21 rfl (lv_at hl 0 rfl) ?_
        refine va_get (D := (dC, dI)) (ci := 3) (v := .ref (aa 8)) (C := RX3) (T := TX3) (N := 7) hx hb hts hi_X3 hown hK hP 5 rfl rfl 2 (by decide) fl_18 (fun _ h9 => h9) rfl dX3_tellsEffect_22 ?_
        refine lv_aload_n hx hb dX3_tellsEffect_25 rfl (lv_at hl 0 rfl) ?_
        refine va_get (D := (dC, dI)) (ci := 3) (v := .int x_follows) (C := RX3) (T := TX3) (N := 7) hx hb hts hi_X3 hown hK hP 5 rfl rfl 5 (by decide) fl_28 (fun _ h9 => h9) rfl dX3_tellsEffect_26 ?_
        obtain ⟨hv_1, h⟩ := h
        refine va_iald hx hb hK hP 8 0 rfl rfl hv_1 dX3_tellsEffect_29 ?_
        refine lv_icmp_ne (tgt := 35) hx hb dX3_tellsEffect_30 (by decide) (fun hc_3 => ?_) (fun hc_3 => ?_)
        · have h := h.1 hc_3
          refine lv_aload_n hx hb dX3_tellsEffect_35 rfl (lv_at hl 0 rfl) ?_
          refine va_get (D := (dC, dI)) (ci := 3) (v := .ref (aa 9)) (C := RX3) (T := TX3) (N := 7) hx hb hts hi_X3 hown hK hP 5 rfl rfl 3 (by decide) fl_21 (fun _ h9 => h9) rfl dX3_tellsEffect_36 ?_
          refine lv_aload_n hx hb dX3_tellsEffect_39 rfl (lv_at hl 0 rfl) ?_
          refine va_get (D := (dC, dI)) (ci := 3) (v := .int x_follows) (C := RX3) (T := TX3) (N := 7) hx hb hts hi_X3 hown hK hP 5 rfl rfl 5 (by decide) fl_28 (fun _ h9 => h9) rfl dX3_tellsEffect_40 ?_
          refine lv_iload_n hx hb dX3_tellsEffect_43 rfl (lv_at hl 1 rfl) ?_
          obtain ⟨hv_2, h⟩ := h
          refine va_iast hx hb hK hP hD hS 9 0 rfl rfl hv_2 dX3_tellsEffect_44 (fun H locs hP hD hS => ?_)
          have hP : va_P (dC, dI) vwCl (wc_u cyI cyJ aa s_lanes s_sizes s_cells x_kinds x_digits x_causes (upd x_effects x_follows.toNatClampNeg a_1) x_things x_follows x_due t_kinds t_digits t_caseRow t_weights t_order t_calls t_things t_caseCount t_caseSet p_callsOfCase p_partOfCase p_callsOfPart p_cases p_parts r_cases r_hours r_sets r_count u_lists u_breaths u_heard u_traced u_lastFault) H := hP
          have hD : va_D A (wc_u cyI cyJ aa s_lanes s_sizes s_cells x_kinds x_digits x_causes (upd x_effects x_follows.toNatClampNeg a_1) x_things x_follows x_due t_kinds t_digits t_caseRow t_weights t_order t_calls t_things t_caseCount t_caseSet p_callsOfCase p_partOfCase p_callsOfPart p_cases p_parts r_cases r_hours r_sets r_count u_lists u_breaths u_heard u_traced u_lastFault) := hD
          refine lv_aload_n hx hb dX3_tellsEffect_45 rfl (lv_at hl 0 rfl) ?_
          refine lv_dup hx hb dX3_tellsEffect_46 rfl ?_
          refine va_get (D := (dC, dI)) (ci := 3) (v := .int x_follows) (C := RX3) (T := TX3) (N := 7) hx hb hts hi_X3 hown hK hP 5 rfl rfl 5 (by decide) fl_28 (fun _ h9 => h9) rfl dX3_tellsEffect_47 ?_
          refine lv_iconst (v := (1 : Int32)) hx hb dX3_tellsEffect_50 (by decide) ?_
          refine lv_iadd hx hb dX3_tellsEffect_51 ?_
          refine va_put (D := (dC, dI)) (ci := 3) (v := .int (x_follows + (1 : Int32))) (ty := .int) (C := RX3) (T := TX3) (N := 7) hx hb hts hi_X3 tyX3 tyX3_ok nmX3 hown hK hP hD hS 5 rfl rfl 5 (by decide) fl_28 (fun _ h9 => h9) rfl (by decide +kernel) rfl rfl (Nat.le_of_ble_eq_true rfl) dX3_tellsEffect_52 (fun H locs hP hD hS => ?_)
          have hP : va_P (dC, dI) vwCl (wc_u cyI cyJ aa s_lanes s_sizes s_cells x_kinds x_digits x_causes (upd x_effects x_follows.toNatClampNeg a_1) x_things (x_follows + (1 : Int32)) x_due t_kinds t_digits t_caseRow t_weights t_order t_calls t_things t_caseCount t_caseSet p_callsOfCase p_partOfCase p_callsOfPart p_cases p_parts r_cases r_hours r_sets r_count u_lists u_breaths u_heard u_traced u_lastFault) H := hP
          have hD : va_D A (wc_u cyI cyJ aa s_lanes s_sizes s_cells x_kinds x_digits x_causes (upd x_effects x_follows.toNatClampNeg a_1) x_things (x_follows + (1 : Int32)) x_due t_kinds t_digits t_caseRow t_weights t_order t_calls t_things t_caseCount t_caseSet p_callsOfCase p_partOfCase p_callsOfPart p_cases p_parts r_cases r_hours r_sets r_count u_lists u_breaths u_heard u_traced u_lastFault) := hD
          refine lv_aload_n hx hb dX3_tellsEffect_55 rfl (lv_at hl 0 rfl) ?_
          refine lv_iconst (v := (5 : Int32)) hx hb dX3_tellsEffect_56 (by decide) ?_
          refine va_put (D := (dC, dI)) (ci := 3) (v := .int (5 : Int32)) (ty := .int) (C := RX3) (T := TX3) (N := 7) hx hb hts hi_X3 tyX3 tyX3_ok nmX3 hown hK hP hD hS 5 rfl rfl 6 (by decide) fl_31 (fun _ h9 => h9) rfl (by decide +kernel) rfl rfl (Nat.le_of_ble_eq_true rfl) dX3_tellsEffect_57 (fun H locs hP hD hS => ?_)
          have hP : va_P (dC, dI) vwCl (wc_u cyI cyJ aa s_lanes s_sizes s_cells x_kinds x_digits x_causes (upd x_effects x_follows.toNatClampNeg a_1) x_things (x_follows + (1 : Int32)) (5 : Int32) t_kinds t_digits t_caseRow t_weights t_order t_calls t_things t_caseCount t_caseSet p_callsOfCase p_partOfCase p_callsOfPart p_cases p_parts r_cases r_hours r_sets r_count u_lists u_breaths u_heard u_traced u_lastFault) H := hP
          have hD : va_D A (wc_u cyI cyJ aa s_lanes s_sizes s_cells x_kinds x_digits x_causes (upd x_effects x_follows.toNatClampNeg a_1) x_things (x_follows + (1 : Int32)) (5 : Int32) t_kinds t_digits t_caseRow t_weights t_order t_calls t_things t_caseCount t_caseSet p_callsOfCase p_partOfCase p_callsOfPart p_cases p_parts r_cases r_hours r_sets r_count u_lists u_breaths u_heard u_traced u_lastFault) := hD
          refine lv_iconst (v := (1 : Int32)) hx hb dX3_tellsEffect_60 (by decide) ?_
          exact xq_rz hQ hx hb hr (by decide) hP hK hD hS ((upd x_effects x_follows.toNatClampNeg a_1), (x_follows + (1 : Int32)), (5 : Int32)) rfl h dX3_tellsEffect_61 hlocks
        · have h := h.2 hc_3
          refine lv_iconst (v := (0 : Int32)) hx hb dX3_tellsEffect_33 (by decide) ?_
          exact xq_rz hQ hx hb hr (by decide) hP hK hD hS (x_effects, x_follows, x_due) rfl h dX3_tellsEffect_34 hlocks
def w_X3_goesOn (x_kinds : Nat → Int32) (x_digits : Nat → Int32) (x_causes : Nat → Int32) (x_effects : Nat → Int32) (x_things : Int32) (x_follows : Int32) (x_due : Int32) (a_1 : Int32) (post : Int32 → (Nat → Int32) → (Nat → Int32) → (Nat → Int32) → (Nat → Int32) → Int32 → Int32 → Int32 → Prop) : Prop := (x_due = (0 : Int32) → (w_X3_startsWith x_due a_1 (fun (rr_2 : Int32) (cc_3 : Int32) => xq_z rr_2 ∧ post rr_2 x_kinds x_digits x_causes x_effects x_things x_follows cc_3))) ∧ (x_due = (1 : Int32) → ((¬ a_1 = (59 : Int32) → (w_X3_namesKind x_kinds x_things x_due a_1 (fun (rr_7 : Int32) (cc_8 : Nat → Int32) (cc_9 : Int32) => xq_z rr_7 ∧ post rr_7 cc_8 x_digits x_causes x_effects x_things x_follows cc_9))) ∧ (a_1 = (59 : Int32) → (w_X3_beginsFollowing x_things x_follows x_due (fun (rr_12 : Int32) (cc_13 : Int32) => xq_z rr_12 ∧ post rr_12 x_kinds x_digits x_causes x_effects x_things x_follows cc_13))))) ∧ (x_due = (2 : Int32) → (w_X3_tellsChance x_digits x_things x_due (a_1 - (48 : Int32)) (fun (rr_18 : Int32) (cc_19 : Nat → Int32) (cc_20 : Int32) (cc_21 : Int32) => xq_z rr_18 ∧ post rr_18 x_kinds cc_19 x_causes x_effects cc_20 x_follows cc_21))) ∧ (x_due = (3 : Int32) → (w_X3_tellsCause x_causes x_things x_follows x_due (a_1 - (48 : Int32)) (fun (rr_25 : Int32) (cc_26 : Nat → Int32) (cc_27 : Int32) => xq_z rr_25 ∧ post rr_25 x_kinds x_digits cc_26 x_effects x_things x_follows cc_27))) ∧ (x_due = (4 : Int32) → (w_X3_tellsEffect x_causes x_effects x_things x_follows x_due (a_1 - (48 : Int32)) (fun (rr_31 : Int32) (cc_32 : Nat → Int32) (cc_33 : Int32) (cc_34 : Int32) => xq_z rr_31 ∧ post rr_31 x_kinds x_digits x_causes cc_32 x_things cc_33 cc_34))) ∧ (¬ x_due = (0 : Int32) → ¬ x_due = (1 : Int32) → ¬ x_due = (2 : Int32) → ¬ x_due = (3 : Int32) → ¬ x_due = (4 : Int32) → ((¬ a_1 = (59 : Int32) → (post (0 : Int32) x_kinds x_digits x_causes x_effects x_things x_follows x_due)) ∧ (a_1 = (59 : Int32) → (w_X3_beginsFollowing x_things x_follows x_due (fun (rr_37 : Int32) (cc_38 : Int32) => (rr_37 = 0 → (post (0 : Int32) x_kinds x_digits x_causes x_effects x_things x_follows cc_38)) ∧ (¬ rr_37 = 0 → (post (1 : Int32) x_kinds x_digits x_causes x_effects x_things x_follows cc_38)))))))
set_option maxHeartbeats 4000000 in
set_option maxRecDepth 100000 in
theorem m_X3_goesOn (l : Launch) (dC : Nat → ClassId) (dI : Nat → Nat → Nat) (cyI cyJ : ClassId) (aa : Nat → Nat) (sz : Nat) {s_lanes : Nat → Int32} {s_sizes : Nat → Int32} {s_cells : Nat → Int32} {x_kinds : Nat → Int32} {x_digits : Nat → Int32} {x_causes : Nat → Int32} {x_effects : Nat → Int32} {x_things : Int32} {x_follows : Int32} {x_due : Int32} {t_kinds : Nat → Int32} {t_digits : Nat → Int32} {t_caseRow : Nat → Int32} {t_weights : Nat → Int32} {t_order : Nat → Int32} {t_calls : Nat → Int32} {t_things : Int32} {t_caseCount : Int32} {t_caseSet : Int64} {p_callsOfCase : Nat → Int64} {p_partOfCase : Nat → Int32} {p_callsOfPart : Nat → Int64} {p_cases : Int32} {p_parts : Int32} {r_cases : Nat → Int32} {r_hours : Nat → Int32} {r_sets : Nat → Int32} {r_count : Int32} {u_lists : Nat → Int32} {u_breaths : Nat → Int32} {u_heard : Nat → Int32} {u_traced : Int32} {u_lastFault : Int32} {a_1 : Int32} {post : Int32 → (Nat → Int32) → (Nat → Int32) → (Nat → Int32) → (Nat → Int32) → Int32 → Int32 → Int32 → Prop} (h : w_X3_goesOn x_kinds x_digits x_causes x_effects x_things x_follows x_due a_1 post) : Met l yX3_goesOn wsX3_goesOn (xq_R 1 21) (va_Pc [.ref (aa 5), .int a_1] (xq_P (dC, dI) [(cyI, .int), (cyJ, .long)] (wc_u cyI cyJ aa s_lanes s_sizes s_cells x_kinds x_digits x_causes x_effects x_things x_follows x_due t_kinds t_digits t_caseRow t_weights t_order t_calls t_things t_caseCount t_caseSet p_callsOfCase p_partOfCase p_callsOfPart p_cases p_parts r_cases r_hours r_sets r_count u_lists u_breaths u_heard u_traced u_lastFault) sz)) (va_Qi (fun (rr : Int32) (uu : (Nat → Int32) × (Nat → Int32) × (Nat → Int32) × (Nat → Int32) × Int32 × Int32 × Int32) => post rr uu.1 uu.2.1 uu.2.2.1 uu.2.2.2.1 uu.2.2.2.2.1 uu.2.2.2.2.2.1 uu.2.2.2.2.2.2) (fun (uu : (Nat → Int32) × (Nat → Int32) × (Nat → Int32) × (Nat → Int32) × Int32 × Int32 × Int32) => xq_B (dC, dI) [(cyI, .int), (cyJ, .long)] (va_A (wc_u cyI cyJ aa s_lanes s_sizes s_cells x_kinds x_digits x_causes x_effects x_things x_follows x_due t_kinds t_digits t_caseRow t_weights t_order t_calls t_things t_caseCount t_caseSet p_callsOfCase p_partOfCase p_callsOfPart p_cases p_parts r_cases r_hours r_sets r_count u_lists u_breaths u_heard u_traced u_lastFault) sz) (wc_u cyI cyJ aa s_lanes s_sizes s_cells uu.1 uu.2.1 uu.2.2.1 uu.2.2.2.1 uu.2.2.2.2.1 uu.2.2.2.2.2.1 uu.2.2.2.2.2.2 t_kinds t_digits t_caseRow t_weights t_order t_calls t_things t_caseCount t_caseSet p_callsOfCase p_partOfCase p_callsOfPart p_cases p_parts r_cases r_hours r_sets r_count u_lists u_breaths u_heard u_traced u_lastFault)) (va_A (wc_u cyI cyJ aa s_lanes s_sizes s_cells x_kinds x_digits x_causes x_effects x_things x_follows x_due t_kinds t_digits t_caseRow t_weights t_order t_calls t_things t_caseCount t_caseSet p_callsOfCase p_partOfCase p_callsOfPart p_cases p_parts r_cases r_hours r_sets r_count u_lists u_breaths u_heard u_traced u_lastFault) sz)) 0 0 (va_A (wc_u cyI cyJ aa s_lanes s_sizes s_cells x_kinds x_digits x_causes x_effects x_things x_follows x_due t_kinds t_digits t_caseRow t_weights t_order t_calls t_things t_caseCount t_caseSet p_callsOfCase p_partOfCase p_callsOfPart p_cases p_parts r_cases r_hours r_sets r_count u_lists u_breaths u_heard u_traced u_lastFault) sz) := by
  refine xq_M (cc := cX3_goesOn) (maxL := 2) (ret := (some .boolean)) (QA := fun A => va_Qi (fun (rr : Int32) (uu : (Nat → Int32) × (Nat → Int32) × (Nat → Int32) × (Nat → Int32) × Int32 × Int32 × Int32) => post rr uu.1 uu.2.1 uu.2.2.1 uu.2.2.2.1 uu.2.2.2.2.1 uu.2.2.2.2.2.1 uu.2.2.2.2.2.2) (fun (uu : (Nat → Int32) × (Nat → Int32) × (Nat → Int32) × (Nat → Int32) × Int32 × Int32 × Int32) => xq_B (dC, dI) [(cyI, .int), (cyJ, .long)] A (wc_u cyI cyJ aa s_lanes s_sizes s_cells uu.1 uu.2.1 uu.2.2.1 uu.2.2.2.1 uu.2.2.2.2.1 uu.2.2.2.2.2.1 uu.2.2.2.2.2.2 t_kinds t_digits t_caseRow t_weights t_order t_calls t_things t_caseCount t_caseSet p_callsOfCase p_partOfCase p_callsOfPart p_cases p_parts r_cases r_hours r_sets r_count u_lists u_breaths u_heard u_traced u_lastFault)) A) (by decide) rfl (Nat.le_of_ble_eq_true rfl) ?_
  intro p e s m args below meth c A ls Q hQ hx hb hr hml hts hown hlocks hsz hP hK hD hA hS hN hl
  subst hsz
  have hl : lv_has ls 2 [(0, .ref (aa 5)), (1, .int a_1)] := hl
  have hi_X3 : ∀ w ∈ wsX30, w ∈ wsX3_goesOn := fun _ h => List.mem_cons_of_mem _ (List.mem_append_right _ h)
  have fl_31 := hts (.fieldLink RX3 31 "UnsaidCalls$Text" "due" "I") (by decide +kernel)
  unfold w_X3_goesOn at h
  refine lv_aload_n hx hb dX3_goesOn_0 rfl (lv_at hl 0 rfl) ?_
  refine va_get (D := (dC, dI)) (ci := 3) (v := .int x_due) (C := RX3) (T := TX3) (N := 7) hx hb hts hi_X3 hown hK hP 5 rfl rfl 6 (by decide) fl_31 (fun _ h9 => h9) rfl dX3_goesOn_1 ?_
  rcases Decidable.em (x_due = (0 : Int32)) with hc_1 | hc_1
  · have h := h.1 hc_1
    refine lv_tableIn (off := 36) (tgt := 40) hx hb dX3_goesOn_4 (by rw [hc_1]; decide) (by rw [hc_1]; decide) (by rw [hc_1]; rfl) (by decide) ?_
    refine lv_aload_n hx hb dX3_goesOn_40 rfl (lv_at hl 0 rfl) ?_
    refine lv_iload_n hx hb dX3_goesOn_41 rfl (lv_at hl 1 rfl) ?_
    refine xq_ci (va_runV (As := [.int a_1]) (rest := []) ⟨hx, hb, hml, hown, hts⟩ (m_X3_startsWith l dC dI cyI cyJ aa s.heap.size h) (cwV 1 hts gX3_goesOn_X3_startsWith rfl rfl rfl (by decide +kernel) ⟨Nat.le_of_ble_eq_true rfl, Nat.le_of_ble_eq_true rfl⟩) (xq_preV hK hP hD hN (ci := 3) (q0 := 5) rfl rfl) rfl rfl hl.1 rfl (lv_room (Nat.le_of_ble_eq_true rfl)) dX3_goesOn_42 ⟨Nat.le_refl _, Nat.le_refl _⟩) hD hS hA (fun rr_2 uu H locs h hP hD hS => ?_)
    obtain ⟨cc_3, rfl⟩ : ∃ z, z = uu := ⟨_, rfl⟩
    have hP : va_P (dC, dI) vwCl (wc_u cyI cyJ aa s_lanes s_sizes s_cells x_kinds x_digits x_causes x_effects x_things x_follows cc_3 t_kinds t_digits t_caseRow t_weights t_order t_calls t_things t_caseCount t_caseSet p_callsOfCase p_partOfCase p_callsOfPart p_cases p_parts r_cases r_hours r_sets r_count u_lists u_breaths u_heard u_traced u_lastFault) H := hP
    have hD : va_D A (wc_u cyI cyJ aa s_lanes s_sizes s_cells x_kinds x_digits x_causes x_effects x_things x_follows cc_3 t_kinds t_digits t_caseRow t_weights t_order t_calls t_things t_caseCount t_caseSet p_callsOfCase p_partOfCase p_callsOfPart p_cases p_parts r_cases r_hours r_sets r_count u_lists u_breaths u_heard u_traced u_lastFault) := hD
    obtain ⟨hv_4, h⟩ := h
    exact xq_rz hQ hx hb hr hv_4 hP hK hD hS (x_kinds, x_digits, x_causes, x_effects, x_things, x_follows, cc_3) rfl h dX3_goesOn_45 hlocks
  rcases Decidable.em (x_due = (1 : Int32)) with hc_6 | hc_6
  · have h := h.2.1 hc_6
    refine lv_tableIn (off := 42) (tgt := 46) hx hb dX3_goesOn_4 (by rw [hc_6]; decide) (by rw [hc_6]; decide) (by rw [hc_6]; rfl) (by decide) ?_
    refine lv_iload_n hx hb dX3_goesOn_46 rfl (lv_at hl 1 rfl) ?_
    refine lv_bipush (v := (59 : Int32)) hx hb dX3_goesOn_47 (by decide) ?_
    refine lv_icmp_ne (tgt := 59) hx hb dX3_goesOn_49 (by decide) (fun hc_16 => ?_) (fun hc_16 => ?_)
    · have h := h.1 hc_16
      refine lv_aload_n hx hb dX3_goesOn_59 rfl (lv_at hl 0 rfl) ?_
      refine lv_iload_n hx hb dX3_goesOn_60 rfl (lv_at hl 1 rfl) ?_
      refine xq_ci (va_runV (As := [.int a_1]) (rest := []) ⟨hx, hb, hml, hown, hts⟩ (m_X3_namesKind l dC dI cyI cyJ aa s.heap.size h) (cwV 1 hts gX3_goesOn_X3_namesKind rfl rfl rfl (by decide +kernel) ⟨Nat.le_of_ble_eq_true rfl, Nat.le_of_ble_eq_true rfl⟩) (xq_preV hK hP hD hN (ci := 3) (q0 := 5) rfl rfl) rfl rfl hl.1 rfl (lv_room (Nat.le_of_ble_eq_true rfl)) dX3_goesOn_61 ⟨Nat.le_refl _, Nat.le_refl _⟩) hD hS hA (fun rr_7 uu H locs h hP hD hS => ?_)
      obtain ⟨cc_8, cc_9⟩ := uu
      have hP : va_P (dC, dI) vwCl (wc_u cyI cyJ aa s_lanes s_sizes s_cells cc_8 x_digits x_causes x_effects x_things x_follows cc_9 t_kinds t_digits t_caseRow t_weights t_order t_calls t_things t_caseCount t_caseSet p_callsOfCase p_partOfCase p_callsOfPart p_cases p_parts r_cases r_hours r_sets r_count u_lists u_breaths u_heard u_traced u_lastFault) H := hP
      have hD : va_D A (wc_u cyI cyJ aa s_lanes s_sizes s_cells cc_8 x_digits x_causes x_effects x_things x_follows cc_9 t_kinds t_digits t_caseRow t_weights t_order t_calls t_things t_caseCount t_caseSet p_callsOfCase p_partOfCase p_callsOfPart p_cases p_parts r_cases r_hours r_sets r_count u_lists u_breaths u_heard u_traced u_lastFault) := hD
      obtain ⟨hv_10, h⟩ := h
      exact xq_rz hQ hx hb hr hv_10 hP hK hD hS (cc_8, x_digits, x_causes, x_effects, x_things, x_follows, cc_9) rfl h dX3_goesOn_64 hlocks
    · have h := h.2 hc_16
      refine lv_aload_n hx hb dX3_goesOn_52 rfl (lv_at hl 0 rfl) ?_
      refine xq_ci (va_runV (As := []) (rest := []) ⟨hx, hb, hml, hown, hts⟩ (m_X3_beginsFollowing l dC dI cyI cyJ aa s.heap.size h) (cwV 0 hts gX3_goesOn_X3_beginsFollowing rfl rfl rfl (by decide +kernel) ⟨Nat.le_of_ble_eq_true rfl, Nat.le_of_ble_eq_true rfl⟩) (xq_preV hK hP hD hN (ci := 3) (q0 := 5) rfl rfl) rfl rfl hl.1 rfl (lv_room (Nat.le_of_ble_eq_true rfl)) dX3_goesOn_53 ⟨Nat.le_refl _, Nat.le_refl _⟩) hD hS hA (fun rr_12 uu H locs h hP hD hS => ?_)
      obtain ⟨cc_13, rfl⟩ : ∃ z, z = uu := ⟨_, rfl⟩
      have hP : va_P (dC, dI) vwCl (wc_u cyI cyJ aa s_lanes s_sizes s_cells x_kinds x_digits x_causes x_effects x_things x_follows cc_13 t_kinds t_digits t_caseRow t_weights t_order t_calls t_things t_caseCount t_caseSet p_callsOfCase p_partOfCase p_callsOfPart p_cases p_parts r_cases r_hours r_sets r_count u_lists u_breaths u_heard u_traced u_lastFault) H := hP
      have hD : va_D A (wc_u cyI cyJ aa s_lanes s_sizes s_cells x_kinds x_digits x_causes x_effects x_things x_follows cc_13 t_kinds t_digits t_caseRow t_weights t_order t_calls t_things t_caseCount t_caseSet p_callsOfCase p_partOfCase p_callsOfPart p_cases p_parts r_cases r_hours r_sets r_count u_lists u_breaths u_heard u_traced u_lastFault) := hD
      refine lv_goto (tgt := 64) hx hb dX3_goesOn_56 (by decide) ?_
      obtain ⟨hv_14, h⟩ := h
      exact xq_rz hQ hx hb hr hv_14 hP hK hD hS (x_kinds, x_digits, x_causes, x_effects, x_things, x_follows, cc_13) rfl h dX3_goesOn_64 hlocks
  rcases Decidable.em (x_due = (2 : Int32)) with hc_17 | hc_17
  · have h := h.2.2.1 hc_17
    refine lv_tableIn (off := 61) (tgt := 65) hx hb dX3_goesOn_4 (by rw [hc_17]; decide) (by rw [hc_17]; decide) (by rw [hc_17]; rfl) (by decide) ?_
    refine lv_aload_n hx hb dX3_goesOn_65 rfl (lv_at hl 0 rfl) ?_
    refine lv_iload_n hx hb dX3_goesOn_66 rfl (lv_at hl 1 rfl) ?_
    refine lv_bipush (v := (48 : Int32)) hx hb dX3_goesOn_67 (by decide) ?_
    refine lv_isub hx hb dX3_goesOn_69 ?_
    refine xq_ci (va_runV (As := [.int (a_1 - (48 : Int32))]) (rest := []) ⟨hx, hb, hml, hown, hts⟩ (m_X3_tellsChance l dC dI cyI cyJ aa s.heap.size h) (cwV 1 hts gX3_goesOn_X3_tellsChance rfl rfl rfl (by decide +kernel) ⟨Nat.le_of_ble_eq_true rfl, Nat.le_of_ble_eq_true rfl⟩) (xq_preV hK hP hD hN (ci := 3) (q0 := 5) rfl rfl) rfl rfl hl.1 rfl (lv_room (Nat.le_of_ble_eq_true rfl)) dX3_goesOn_70 ⟨Nat.le_refl _, Nat.le_refl _⟩) hD hS hA (fun rr_18 uu H locs h hP hD hS => ?_)
    obtain ⟨cc_19, cc_20, cc_21⟩ := uu
    have hP : va_P (dC, dI) vwCl (wc_u cyI cyJ aa s_lanes s_sizes s_cells x_kinds cc_19 x_causes x_effects cc_20 x_follows cc_21 t_kinds t_digits t_caseRow t_weights t_order t_calls t_things t_caseCount t_caseSet p_callsOfCase p_partOfCase p_callsOfPart p_cases p_parts r_cases r_hours r_sets r_count u_lists u_breaths u_heard u_traced u_lastFault) H := hP
    have hD : va_D A (wc_u cyI cyJ aa s_lanes s_sizes s_cells x_kinds cc_19 x_causes x_effects cc_20 x_follows cc_21 t_kinds t_digits t_caseRow t_weights t_order t_calls t_things t_caseCount t_caseSet p_callsOfCase p_partOfCase p_callsOfPart p_cases p_parts r_cases r_hours r_sets r_count u_lists u_breaths u_heard u_traced u_lastFault) := hD
    obtain ⟨hv_22, h⟩ := h
    exact xq_rz hQ hx hb hr hv_22 hP hK hD hS (x_kinds, cc_19, x_causes, x_effects, cc_20, x_follows, cc_21) rfl h dX3_goesOn_73 hlocks
  rcases Decidable.em (x_due = (3 : Int32)) with hc_24 | hc_24
  · have h := h.2.2.2.1 hc_24
    refine lv_tableIn (off := 70) (tgt := 74) hx hb dX3_goesOn_4 (by rw [hc_24]; decide) (by rw [hc_24]; decide) (by rw [hc_24]; rfl) (by decide) ?_
    refine lv_aload_n hx hb dX3_goesOn_74 rfl (lv_at hl 0 rfl) ?_
    refine lv_iload_n hx hb dX3_goesOn_75 rfl (lv_at hl 1 rfl) ?_
    refine lv_bipush (v := (48 : Int32)) hx hb dX3_goesOn_76 (by decide) ?_
    refine lv_isub hx hb dX3_goesOn_78 ?_
    refine xq_ci (va_runV (As := [.int (a_1 - (48 : Int32))]) (rest := []) ⟨hx, hb, hml, hown, hts⟩ (m_X3_tellsCause l dC dI cyI cyJ aa s.heap.size h) (cwV 1 hts gX3_goesOn_X3_tellsCause rfl rfl rfl (by decide +kernel) ⟨Nat.le_of_ble_eq_true rfl, Nat.le_of_ble_eq_true rfl⟩) (xq_preV hK hP hD hN (ci := 3) (q0 := 5) rfl rfl) rfl rfl hl.1 rfl (lv_room (Nat.le_of_ble_eq_true rfl)) dX3_goesOn_79 ⟨Nat.le_refl _, Nat.le_refl _⟩) hD hS hA (fun rr_25 uu H locs h hP hD hS => ?_)
    obtain ⟨cc_26, cc_27⟩ := uu
    have hP : va_P (dC, dI) vwCl (wc_u cyI cyJ aa s_lanes s_sizes s_cells x_kinds x_digits cc_26 x_effects x_things x_follows cc_27 t_kinds t_digits t_caseRow t_weights t_order t_calls t_things t_caseCount t_caseSet p_callsOfCase p_partOfCase p_callsOfPart p_cases p_parts r_cases r_hours r_sets r_count u_lists u_breaths u_heard u_traced u_lastFault) H := hP
    have hD : va_D A (wc_u cyI cyJ aa s_lanes s_sizes s_cells x_kinds x_digits cc_26 x_effects x_things x_follows cc_27 t_kinds t_digits t_caseRow t_weights t_order t_calls t_things t_caseCount t_caseSet p_callsOfCase p_partOfCase p_callsOfPart p_cases p_parts r_cases r_hours r_sets r_count u_lists u_breaths u_heard u_traced u_lastFault) := hD
    obtain ⟨hv_28, h⟩ := h
    exact xq_rz hQ hx hb hr hv_28 hP hK hD hS (x_kinds, x_digits, cc_26, x_effects, x_things, x_follows, cc_27) rfl h dX3_goesOn_82 hlocks
  rcases Decidable.em (x_due = (4 : Int32)) with hc_30 | hc_30
  · have h := h.2.2.2.2.1 hc_30
    refine lv_tableIn (off := 79) (tgt := 83) hx hb dX3_goesOn_4 (by rw [hc_30]; decide) (by rw [hc_30]; decide) (by rw [hc_30]; rfl) (by decide) ?_
    refine lv_aload_n hx hb dX3_goesOn_83 rfl (lv_at hl 0 rfl) ?_
    refine lv_iload_n hx hb dX3_goesOn_84 rfl (lv_at hl 1 rfl) ?_
    refine lv_bipush (v := (48 : Int32)) hx hb dX3_goesOn_85 (by decide) ?_
    refine lv_isub hx hb dX3_goesOn_87 ?_
    refine xq_ci (va_runV (As := [.int (a_1 - (48 : Int32))]) (rest := []) ⟨hx, hb, hml, hown, hts⟩ (m_X3_tellsEffect l dC dI cyI cyJ aa s.heap.size h) (cwV 1 hts gX3_goesOn_X3_tellsEffect rfl rfl rfl (by decide +kernel) ⟨Nat.le_of_ble_eq_true rfl, Nat.le_of_ble_eq_true rfl⟩) (xq_preV hK hP hD hN (ci := 3) (q0 := 5) rfl rfl) rfl rfl hl.1 rfl (lv_room (Nat.le_of_ble_eq_true rfl)) dX3_goesOn_88 ⟨Nat.le_refl _, Nat.le_refl _⟩) hD hS hA (fun rr_31 uu H locs h hP hD hS => ?_)
    obtain ⟨cc_32, cc_33, cc_34⟩ := uu
    have hP : va_P (dC, dI) vwCl (wc_u cyI cyJ aa s_lanes s_sizes s_cells x_kinds x_digits x_causes cc_32 x_things cc_33 cc_34 t_kinds t_digits t_caseRow t_weights t_order t_calls t_things t_caseCount t_caseSet p_callsOfCase p_partOfCase p_callsOfPart p_cases p_parts r_cases r_hours r_sets r_count u_lists u_breaths u_heard u_traced u_lastFault) H := hP
    have hD : va_D A (wc_u cyI cyJ aa s_lanes s_sizes s_cells x_kinds x_digits x_causes cc_32 x_things cc_33 cc_34 t_kinds t_digits t_caseRow t_weights t_order t_calls t_things t_caseCount t_caseSet p_callsOfCase p_partOfCase p_callsOfPart p_cases p_parts r_cases r_hours r_sets r_count u_lists u_breaths u_heard u_traced u_lastFault) := hD
    obtain ⟨hv_35, h⟩ := h
    exact xq_rz hQ hx hb hr hv_35 hP hK hD hS (x_kinds, x_digits, x_causes, cc_32, x_things, cc_33, cc_34) rfl h dX3_goesOn_91 hlocks
  have h := h.2.2.2.2.2 hc_1 hc_6 hc_17 hc_24 hc_30
  refine lv_tableOut (tgt := 92) hx hb dX3_goesOn_4 (xq_sw5 hc_1 hc_6 hc_17 hc_24 hc_30) (by decide) ?_
  refine lv_iload_n hx hb dX3_goesOn_92 rfl (lv_at hl 1 rfl) ?_
  refine lv_bipush (v := (59 : Int32)) hx hb dX3_goesOn_93 (by decide) ?_
  refine lv_icmp_ne (tgt := 109) hx hb dX3_goesOn_95 (by decide) (fun hc_41 => ?_) (fun hc_41 => ?_)
  · have h := h.1 hc_41
    refine lv_iconst (v := (0 : Int32)) hx hb dX3_goesOn_109 (by decide) ?_
    exact xq_rz hQ hx hb hr (by decide) hP hK hD hS (x_kinds, x_digits, x_causes, x_effects, x_things, x_follows, x_due) rfl h dX3_goesOn_110 hlocks
  · have h := h.2 hc_41
    refine lv_aload_n hx hb dX3_goesOn_98 rfl (lv_at hl 0 rfl) ?_
    refine xq_ci (va_runV (As := []) (rest := []) ⟨hx, hb, hml, hown, hts⟩ (m_X3_beginsFollowing l dC dI cyI cyJ aa s.heap.size h) (cwV 0 hts gX3_goesOn_X3_beginsFollowing rfl rfl rfl (by decide +kernel) ⟨Nat.le_of_ble_eq_true rfl, Nat.le_of_ble_eq_true rfl⟩) (xq_preV hK hP hD hN (ci := 3) (q0 := 5) rfl rfl) rfl rfl hl.1 rfl (lv_room (Nat.le_of_ble_eq_true rfl)) dX3_goesOn_99 ⟨Nat.le_refl _, Nat.le_refl _⟩) hD hS hA (fun rr_37 uu H locs h hP hD hS => ?_)
    obtain ⟨cc_38, rfl⟩ : ∃ z, z = uu := ⟨_, rfl⟩
    have hP : va_P (dC, dI) vwCl (wc_u cyI cyJ aa s_lanes s_sizes s_cells x_kinds x_digits x_causes x_effects x_things x_follows cc_38 t_kinds t_digits t_caseRow t_weights t_order t_calls t_things t_caseCount t_caseSet p_callsOfCase p_partOfCase p_callsOfPart p_cases p_parts r_cases r_hours r_sets r_count u_lists u_breaths u_heard u_traced u_lastFault) H := hP
    have hD : va_D A (wc_u cyI cyJ aa s_lanes s_sizes s_cells x_kinds x_digits x_causes x_effects x_things x_follows cc_38 t_kinds t_digits t_caseRow t_weights t_order t_calls t_things t_caseCount t_caseSet p_callsOfCase p_partOfCase p_callsOfPart p_cases p_parts r_cases r_hours r_sets r_count u_lists u_breaths u_heard u_traced u_lastFault) := hD
    refine lv_if_eq (tgt := 109) hx hb dX3_goesOn_102 (by decide) (fun hc_39 => ?_) (fun hc_39 => ?_)
    · have h := h.1 hc_39
      refine lv_iconst (v := (0 : Int32)) hx hb dX3_goesOn_109 (by decide) ?_
      exact xq_rz hQ hx hb hr (by decide) hP hK hD hS (x_kinds, x_digits, x_causes, x_effects, x_things, x_follows, cc_38) rfl h dX3_goesOn_110 hlocks
    · have h := h.2 hc_39
      refine lv_iconst (v := (1 : Int32)) hx hb dX3_goesOn_105 (by decide) ?_
      refine lv_goto (tgt := 110) hx hb dX3_goesOn_106 (by decide) ?_
      exact xq_rz hQ hx hb hr (by decide) hP hK hD hS (x_kinds, x_digits, x_causes, x_effects, x_things, x_follows, cc_38) rfl h dX3_goesOn_110 hlocks
def w_X3_mayEnd (x_things : Int32) (x_due : Int32) (post : Int32 → Prop) : Prop := (x_due = (5 : Int32) → (post (1 : Int32))) ∧ (¬ x_due = (5 : Int32) → ((¬ x_due = (1 : Int32) → (post (0 : Int32))) ∧ (x_due = (1 : Int32) → ((x_things < (2 : Int32) → (post (0 : Int32))) ∧ (¬ x_things < (2 : Int32) → (post (1 : Int32)))))))
set_option maxHeartbeats 4000000 in
set_option maxRecDepth 100000 in
theorem m_X3_mayEnd (l : Launch) (dC : Nat → ClassId) (dI : Nat → Nat → Nat) (cyI cyJ : ClassId) (aa : Nat → Nat) (sz : Nat) {s_lanes : Nat → Int32} {s_sizes : Nat → Int32} {s_cells : Nat → Int32} {x_kinds : Nat → Int32} {x_digits : Nat → Int32} {x_causes : Nat → Int32} {x_effects : Nat → Int32} {x_things : Int32} {x_follows : Int32} {x_due : Int32} {t_kinds : Nat → Int32} {t_digits : Nat → Int32} {t_caseRow : Nat → Int32} {t_weights : Nat → Int32} {t_order : Nat → Int32} {t_calls : Nat → Int32} {t_things : Int32} {t_caseCount : Int32} {t_caseSet : Int64} {p_callsOfCase : Nat → Int64} {p_partOfCase : Nat → Int32} {p_callsOfPart : Nat → Int64} {p_cases : Int32} {p_parts : Int32} {r_cases : Nat → Int32} {r_hours : Nat → Int32} {r_sets : Nat → Int32} {r_count : Int32} {u_lists : Nat → Int32} {u_breaths : Nat → Int32} {u_heard : Nat → Int32} {u_traced : Int32} {u_lastFault : Int32} {post : Int32 → Prop} (h : w_X3_mayEnd x_things x_due post) : Met l yX3_mayEnd wsX3_mayEnd (xq_R 0 0) (va_Pc [.ref (aa 5)] (xq_P (dC, dI) [(cyI, .int), (cyJ, .long)] (wc_u cyI cyJ aa s_lanes s_sizes s_cells x_kinds x_digits x_causes x_effects x_things x_follows x_due t_kinds t_digits t_caseRow t_weights t_order t_calls t_things t_caseCount t_caseSet p_callsOfCase p_partOfCase p_callsOfPart p_cases p_parts r_cases r_hours r_sets r_count u_lists u_breaths u_heard u_traced u_lastFault) sz)) (va_Qi (fun (rr : Int32) (uu : Unit) => post rr ) (fun (uu : Unit) => xq_B (dC, dI) [(cyI, .int), (cyJ, .long)] (va_A (wc_u cyI cyJ aa s_lanes s_sizes s_cells x_kinds x_digits x_causes x_effects x_things x_follows x_due t_kinds t_digits t_caseRow t_weights t_order t_calls t_things t_caseCount t_caseSet p_callsOfCase p_partOfCase p_callsOfPart p_cases p_parts r_cases r_hours r_sets r_count u_lists u_breaths u_heard u_traced u_lastFault) sz) (wc_u cyI cyJ aa s_lanes s_sizes s_cells x_kinds x_digits x_causes x_effects x_things x_follows x_due t_kinds t_digits t_caseRow t_weights t_order t_calls t_things t_caseCount t_caseSet p_callsOfCase p_partOfCase p_callsOfPart p_cases p_parts r_cases r_hours r_sets r_count u_lists u_breaths u_heard u_traced u_lastFault)) (va_A (wc_u cyI cyJ aa s_lanes s_sizes s_cells x_kinds x_digits x_causes x_effects x_things x_follows x_due t_kinds t_digits t_caseRow t_weights t_order t_calls t_things t_caseCount t_caseSet p_callsOfCase p_partOfCase p_callsOfPart p_cases p_parts r_cases r_hours r_sets r_count u_lists u_breaths u_heard u_traced u_lastFault) sz)) 0 0 (va_A (wc_u cyI cyJ aa s_lanes s_sizes s_cells x_kinds x_digits x_causes x_effects x_things x_follows x_due t_kinds t_digits t_caseRow t_weights t_order t_calls t_things t_caseCount t_caseSet p_callsOfCase p_partOfCase p_callsOfPart p_cases p_parts r_cases r_hours r_sets r_count u_lists u_breaths u_heard u_traced u_lastFault) sz) := by
  refine xq_M (cc := cX3_mayEnd) (maxL := 1) (ret := (some .boolean)) (QA := fun A => va_Qi (fun (rr : Int32) (uu : Unit) => post rr ) (fun (uu : Unit) => xq_B (dC, dI) [(cyI, .int), (cyJ, .long)] A (wc_u cyI cyJ aa s_lanes s_sizes s_cells x_kinds x_digits x_causes x_effects x_things x_follows x_due t_kinds t_digits t_caseRow t_weights t_order t_calls t_things t_caseCount t_caseSet p_callsOfCase p_partOfCase p_callsOfPart p_cases p_parts r_cases r_hours r_sets r_count u_lists u_breaths u_heard u_traced u_lastFault)) A) (by decide) rfl (Nat.le_of_ble_eq_true rfl) ?_
  intro p e s m args below meth c A ls Q hQ hx hb hr hml hts hown hlocks hsz hP hK hD hA hS hN hl
  subst hsz
  have hl : lv_has ls 1 [(0, .ref (aa 5))] := hl
  have hi_X3 : ∀ w ∈ wsX30, w ∈ wsX3_mayEnd := fun _ h => List.mem_cons_of_mem _ (List.mem_append_right _ h)
  have fl_24 := hts (.fieldLink RX3 24 "UnsaidCalls$Text" "things" "I") (by decide +kernel)
  have fl_31 := hts (.fieldLink RX3 31 "UnsaidCalls$Text" "due" "I") (by decide +kernel)
  unfold w_X3_mayEnd at h
  refine lv_aload_n hx hb dX3_mayEnd_0 rfl (lv_at hl 0 rfl) ?_
  refine va_get (D := (dC, dI)) (ci := 3) (v := .int x_due) (C := RX3) (T := TX3) (N := 7) hx hb hts hi_X3 hown hK hP 5 rfl rfl 6 (by decide) fl_31 (fun _ h9 => h9) rfl dX3_mayEnd_1 ?_
  refine lv_iconst (v := (5 : Int32)) hx hb dX3_mayEnd_4 (by decide) ?_
  refine lv_icmp_eq (tgt := 24) hx hb dX3_mayEnd_5 (by decide) (fun hc_3 => ?_) (fun hc_3 => ?_)
  · have h := h.1 hc_3
    refine lv_iconst (v := (1 : Int32)) hx hb dX3_mayEnd_24 (by decide) ?_
    refine lv_goto (tgt := 29) hx hb dX3_mayEnd_25 (by decide) ?_
    exact xq_rz hQ hx hb hr (by decide) hP hK hD hS () rfl h dX3_mayEnd_29 hlocks
  · have h := h.2 hc_3
    refine lv_aload_n hx hb dX3_mayEnd_8 rfl (lv_at hl 0 rfl) ?_
    refine va_get (D := (dC, dI)) (ci := 3) (v := .int x_due) (C := RX3) (T := TX3) (N := 7) hx hb hts hi_X3 hown hK hP 5 rfl rfl 6 (by decide) fl_31 (fun _ h9 => h9) rfl dX3_mayEnd_9 ?_
    refine lv_iconst (v := (1 : Int32)) hx hb dX3_mayEnd_12 (by decide) ?_
    refine lv_icmp_ne (tgt := 28) hx hb dX3_mayEnd_13 (by decide) (fun hc_2 => ?_) (fun hc_2 => ?_)
    · have h := h.1 hc_2
      refine lv_iconst (v := (0 : Int32)) hx hb dX3_mayEnd_28 (by decide) ?_
      exact xq_rz hQ hx hb hr (by decide) hP hK hD hS () rfl h dX3_mayEnd_29 hlocks
    · have h := h.2 hc_2
      refine lv_aload_n hx hb dX3_mayEnd_16 rfl (lv_at hl 0 rfl) ?_
      refine va_get (D := (dC, dI)) (ci := 3) (v := .int x_things) (C := RX3) (T := TX3) (N := 7) hx hb hts hi_X3 hown hK hP 5 rfl rfl 4 (by decide) fl_24 (fun _ h9 => h9) rfl dX3_mayEnd_17 ?_
      refine lv_iconst (v := (2 : Int32)) hx hb dX3_mayEnd_20 (by decide) ?_
      refine lv_icmp_lt (tgt := 28) hx hb dX3_mayEnd_21 (by decide) (fun hc_1 => ?_) (fun hc_1 => ?_)
      · have h := h.1 hc_1
        refine lv_iconst (v := (0 : Int32)) hx hb dX3_mayEnd_28 (by decide) ?_
        exact xq_rz hQ hx hb hr (by decide) hP hK hD hS () rfl h dX3_mayEnd_29 hlocks
      · have h := h.2 hc_1
        refine lv_iconst (v := (1 : Int32)) hx hb dX3_mayEnd_24 (by decide) ?_
        refine lv_goto (tgt := 29) hx hb dX3_mayEnd_25 (by decide) ?_
        exact xq_rz hQ hx hb hr (by decide) hP hK hD hS () rfl h dX3_mayEnd_29 hlocks
def w_X3_firstFault_L18 (a_2 : Int32) (a_3 : Int32) (a_4 : Int32) (s_sizes : Nat → Int32) (s_cells : Nat → Int32) (post : Int32 → (Nat → Int32) → (Nat → Int32) → (Nat → Int32) → (Nat → Int32) → Int32 → Int32 → Int32 → Prop) (kk : (Nat → Int32) → (Nat → Int32) → (Nat → Int32) → (Nat → Int32) → Int32 → Int32 → Int32 → Prop) : Nat → Int32 → (Nat → Int32) → (Nat → Int32) → (Nat → Int32) → (Nat → Int32) → Int32 → Int32 → Int32 → Prop
  | 0, _, _, _, _, _, _, _, _ => False
  | f_18 + 1, a_5, x_kinds, x_digits, x_causes, x_effects, x_things, x_follows, x_due => (a_4 ≤ a_5 → (kk x_kinds x_digits x_causes x_effects x_things x_follows x_due)) ∧ (¬ a_4 ≤ a_5 → (((60 : Int32) ≤ a_5 → (kk x_kinds x_digits x_causes x_effects x_things x_follows x_due)) ∧ (¬ (60 : Int32) ≤ a_5 → (w_X2_at s_sizes s_cells a_2 (a_3 + a_5) (fun (rr_1 : Int32) => w_X3_goesOn x_kinds x_digits x_causes x_effects x_things x_follows x_due rr_1 (fun (rr_2 : Int32) (cc_3 : Nat → Int32) (cc_4 : Nat → Int32) (cc_5 : Nat → Int32) (cc_6 : Nat → Int32) (cc_7 : Int32) (cc_8 : Int32) (cc_9 : Int32) => (¬ rr_2 = 0 → (w_X3_firstFault_L18 a_2 a_3 a_4 s_sizes s_cells post kk f_18 (a_5 + (1 : Int32)) cc_3 cc_4 cc_5 cc_6 cc_7 cc_8 cc_9)) ∧ (rr_2 = 0 → (post a_5 cc_3 cc_4 cc_5 cc_6 cc_7 cc_8 cc_9))))))))
def w_X3_firstFault (s_sizes : Nat → Int32) (s_cells : Nat → Int32) (x_kinds : Nat → Int32) (x_digits : Nat → Int32) (x_causes : Nat → Int32) (x_effects : Nat → Int32) (x_things : Int32) (x_follows : Int32) (x_due : Int32) (a_2 : Int32) (a_3 : Int32) (a_4 : Int32) (post : Int32 → (Nat → Int32) → (Nat → Int32) → (Nat → Int32) → (Nat → Int32) → Int32 → Int32 → Int32 → Prop) : Prop := ∃ e_18, w_X3_firstFault_L18 a_2 a_3 a_4 s_sizes s_cells post (fun (xx_23 : Nat → Int32) (xx_24 : Nat → Int32) (xx_25 : Nat → Int32) (xx_26 : Nat → Int32) (xx_27 : Int32) (xx_28 : Int32) (xx_29 : Int32) => w_X3_mayEnd xx_27 xx_29 (fun (rr_30 : Int32) => (rr_30 = 0 → (post a_4 xx_23 xx_24 xx_25 xx_26 xx_27 xx_28 xx_29)) ∧ (¬ rr_30 = 0 → (post (-1 : Int32) xx_23 xx_24 xx_25 xx_26 xx_27 xx_28 xx_29)))) e_18 (0 : Int32) x_kinds x_digits x_causes x_effects (0 : Int32) (0 : Int32) (0 : Int32)
set_option maxHeartbeats 4000000 in
set_option maxRecDepth 100000 in
theorem m_X3_firstFault (l : Launch) (dC : Nat → ClassId) (dI : Nat → Nat → Nat) (cyI cyJ : ClassId) (aa : Nat → Nat) (sz : Nat) {s_lanes : Nat → Int32} {s_sizes : Nat → Int32} {s_cells : Nat → Int32} {x_kinds : Nat → Int32} {x_digits : Nat → Int32} {x_causes : Nat → Int32} {x_effects : Nat → Int32} {x_things : Int32} {x_follows : Int32} {x_due : Int32} {t_kinds : Nat → Int32} {t_digits : Nat → Int32} {t_caseRow : Nat → Int32} {t_weights : Nat → Int32} {t_order : Nat → Int32} {t_calls : Nat → Int32} {t_things : Int32} {t_caseCount : Int32} {t_caseSet : Int64} {p_callsOfCase : Nat → Int64} {p_partOfCase : Nat → Int32} {p_callsOfPart : Nat → Int64} {p_cases : Int32} {p_parts : Int32} {r_cases : Nat → Int32} {r_hours : Nat → Int32} {r_sets : Nat → Int32} {r_count : Int32} {u_lists : Nat → Int32} {u_breaths : Nat → Int32} {u_heard : Nat → Int32} {u_traced : Int32} {u_lastFault : Int32} {a_2 : Int32} {a_3 : Int32} {a_4 : Int32} {post : Int32 → (Nat → Int32) → (Nat → Int32) → (Nat → Int32) → (Nat → Int32) → Int32 → Int32 → Int32 → Prop} (h : w_X3_firstFault s_sizes s_cells x_kinds x_digits x_causes x_effects x_things x_follows x_due a_2 a_3 a_4 post) : Met l yX3_firstFault wsX3_firstFault (xq_R 2 44) (va_Pc [.ref (aa 5), .ref (aa 1), .int a_2, .int a_3, .int a_4] (xq_P (dC, dI) [(cyI, .int), (cyJ, .long)] (wc_u cyI cyJ aa s_lanes s_sizes s_cells x_kinds x_digits x_causes x_effects x_things x_follows x_due t_kinds t_digits t_caseRow t_weights t_order t_calls t_things t_caseCount t_caseSet p_callsOfCase p_partOfCase p_callsOfPart p_cases p_parts r_cases r_hours r_sets r_count u_lists u_breaths u_heard u_traced u_lastFault) sz)) (va_Qi (fun (rr : Int32) (uu : (Nat → Int32) × (Nat → Int32) × (Nat → Int32) × (Nat → Int32) × Int32 × Int32 × Int32) => post rr uu.1 uu.2.1 uu.2.2.1 uu.2.2.2.1 uu.2.2.2.2.1 uu.2.2.2.2.2.1 uu.2.2.2.2.2.2) (fun (uu : (Nat → Int32) × (Nat → Int32) × (Nat → Int32) × (Nat → Int32) × Int32 × Int32 × Int32) => xq_B (dC, dI) [(cyI, .int), (cyJ, .long)] (va_A (wc_u cyI cyJ aa s_lanes s_sizes s_cells x_kinds x_digits x_causes x_effects x_things x_follows x_due t_kinds t_digits t_caseRow t_weights t_order t_calls t_things t_caseCount t_caseSet p_callsOfCase p_partOfCase p_callsOfPart p_cases p_parts r_cases r_hours r_sets r_count u_lists u_breaths u_heard u_traced u_lastFault) sz) (wc_u cyI cyJ aa s_lanes s_sizes s_cells uu.1 uu.2.1 uu.2.2.1 uu.2.2.2.1 uu.2.2.2.2.1 uu.2.2.2.2.2.1 uu.2.2.2.2.2.2 t_kinds t_digits t_caseRow t_weights t_order t_calls t_things t_caseCount t_caseSet p_callsOfCase p_partOfCase p_callsOfPart p_cases p_parts r_cases r_hours r_sets r_count u_lists u_breaths u_heard u_traced u_lastFault)) (va_A (wc_u cyI cyJ aa s_lanes s_sizes s_cells x_kinds x_digits x_causes x_effects x_things x_follows x_due t_kinds t_digits t_caseRow t_weights t_order t_calls t_things t_caseCount t_caseSet p_callsOfCase p_partOfCase p_callsOfPart p_cases p_parts r_cases r_hours r_sets r_count u_lists u_breaths u_heard u_traced u_lastFault) sz)) 0 0 (va_A (wc_u cyI cyJ aa s_lanes s_sizes s_cells x_kinds x_digits x_causes x_effects x_things x_follows x_due t_kinds t_digits t_caseRow t_weights t_order t_calls t_things t_caseCount t_caseSet p_callsOfCase p_partOfCase p_callsOfPart p_cases p_parts r_cases r_hours r_sets r_count u_lists u_breaths u_heard u_traced u_lastFault) sz) := by
  refine xq_M (cc := cX3_firstFault) (maxL := 6) (ret := (some .int)) (QA := fun A => va_Qi (fun (rr : Int32) (uu : (Nat → Int32) × (Nat → Int32) × (Nat → Int32) × (Nat → Int32) × Int32 × Int32 × Int32) => post rr uu.1 uu.2.1 uu.2.2.1 uu.2.2.2.1 uu.2.2.2.2.1 uu.2.2.2.2.2.1 uu.2.2.2.2.2.2) (fun (uu : (Nat → Int32) × (Nat → Int32) × (Nat → Int32) × (Nat → Int32) × Int32 × Int32 × Int32) => xq_B (dC, dI) [(cyI, .int), (cyJ, .long)] A (wc_u cyI cyJ aa s_lanes s_sizes s_cells uu.1 uu.2.1 uu.2.2.1 uu.2.2.2.1 uu.2.2.2.2.1 uu.2.2.2.2.2.1 uu.2.2.2.2.2.2 t_kinds t_digits t_caseRow t_weights t_order t_calls t_things t_caseCount t_caseSet p_callsOfCase p_partOfCase p_callsOfPart p_cases p_parts r_cases r_hours r_sets r_count u_lists u_breaths u_heard u_traced u_lastFault)) A) (by decide) rfl (Nat.le_of_ble_eq_true rfl) ?_
  intro p e s m args below meth c A ls Q hQ hx hb hr hml hts hown hlocks hsz hP hK hD hA hS hN hl
  subst hsz
  have hl : lv_has ls 6 [(0, .ref (aa 5)), (1, .ref (aa 1)), (2, .int a_2), (3, .int a_3), (4, .int a_4)] := hl
  have hi_X3 : ∀ w ∈ wsX30, w ∈ wsX3_firstFault := fun _ h => List.mem_cons_of_mem _ (List.mem_append_left _ (List.mem_append_right _ h))
  have fl_24 := hts (.fieldLink RX3 24 "UnsaidCalls$Text" "things" "I") (by decide +kernel)
  have fl_28 := hts (.fieldLink RX3 28 "UnsaidCalls$Text" "follows" "I") (by decide +kernel)
  have fl_31 := hts (.fieldLink RX3 31 "UnsaidCalls$Text" "due" "I") (by decide +kernel)
  unfold w_X3_firstFault at h
  refine lv_aload_n hx hb dX3_firstFault_0 rfl (lv_at hl 0 rfl) ?_
  refine lv_iconst (v := (0 : Int32)) hx hb dX3_firstFault_1 (by decide) ?_
  refine va_put (D := (dC, dI)) (ci := 3) (v := .int (0 : Int32)) (ty := .int) (C := RX3) (T := TX3) (N := 7) hx hb hts hi_X3 tyX3 tyX3_ok nmX3 hown hK hP hD hS 5 rfl rfl 4 (by decide) fl_24 (fun _ h9 => h9) rfl (by decide +kernel) rfl rfl (Nat.le_of_ble_eq_true rfl) dX3_firstFault_2 (fun H locs hP hD hS => ?_)
  have hP : va_P (dC, dI) vwCl (wc_u cyI cyJ aa s_lanes s_sizes s_cells x_kinds x_digits x_causes x_effects (0 : Int32) x_follows x_due t_kinds t_digits t_caseRow t_weights t_order t_calls t_things t_caseCount t_caseSet p_callsOfCase p_partOfCase p_callsOfPart p_cases p_parts r_cases r_hours r_sets r_count u_lists u_breaths u_heard u_traced u_lastFault) H := hP
  have hD : va_D A (wc_u cyI cyJ aa s_lanes s_sizes s_cells x_kinds x_digits x_causes x_effects (0 : Int32) x_follows x_due t_kinds t_digits t_caseRow t_weights t_order t_calls t_things t_caseCount t_caseSet p_callsOfCase p_partOfCase p_callsOfPart p_cases p_parts r_cases r_hours r_sets r_count u_lists u_breaths u_heard u_traced u_lastFault) := hD
  refine lv_aload_n hx hb dX3_firstFault_5 rfl (lv_at hl 0 rfl) ?_
  refine lv_iconst (v := (0 : Int32)) hx hb dX3_firstFault_6 (by decide) ?_
  refine va_put (D := (dC, dI)) (ci := 3) (v := .int (0 : Int32)) (ty := .int) (C := RX3) (T := TX3) (N := 7) hx hb hts hi_X3 tyX3 tyX3_ok nmX3 hown hK hP hD hS 5 rfl rfl 5 (by decide) fl_28 (fun _ h9 => h9) rfl (by decide +kernel) rfl rfl (Nat.le_of_ble_eq_true rfl) dX3_firstFault_7 (fun H locs hP hD hS => ?_)
  have hP : va_P (dC, dI) vwCl (wc_u cyI cyJ aa s_lanes s_sizes s_cells x_kinds x_digits x_causes x_effects (0 : Int32) (0 : Int32) x_due t_kinds t_digits t_caseRow t_weights t_order t_calls t_things t_caseCount t_caseSet p_callsOfCase p_partOfCase p_callsOfPart p_cases p_parts r_cases r_hours r_sets r_count u_lists u_breaths u_heard u_traced u_lastFault) H := hP
  have hD : va_D A (wc_u cyI cyJ aa s_lanes s_sizes s_cells x_kinds x_digits x_causes x_effects (0 : Int32) (0 : Int32) x_due t_kinds t_digits t_caseRow t_weights t_order t_calls t_things t_caseCount t_caseSet p_callsOfCase p_partOfCase p_callsOfPart p_cases p_parts r_cases r_hours r_sets r_count u_lists u_breaths u_heard u_traced u_lastFault) := hD
  refine lv_aload_n hx hb dX3_firstFault_10 rfl (lv_at hl 0 rfl) ?_
  refine lv_iconst (v := (0 : Int32)) hx hb dX3_firstFault_11 (by decide) ?_
  refine va_put (D := (dC, dI)) (ci := 3) (v := .int (0 : Int32)) (ty := .int) (C := RX3) (T := TX3) (N := 7) hx hb hts hi_X3 tyX3 tyX3_ok nmX3 hown hK hP hD hS 5 rfl rfl 6 (by decide) fl_31 (fun _ h9 => h9) rfl (by decide +kernel) rfl rfl (Nat.le_of_ble_eq_true rfl) dX3_firstFault_12 (fun H locs hP hD hS => ?_)
  have hP : va_P (dC, dI) vwCl (wc_u cyI cyJ aa s_lanes s_sizes s_cells x_kinds x_digits x_causes x_effects (0 : Int32) (0 : Int32) (0 : Int32) t_kinds t_digits t_caseRow t_weights t_order t_calls t_things t_caseCount t_caseSet p_callsOfCase p_partOfCase p_callsOfPart p_cases p_parts r_cases r_hours r_sets r_count u_lists u_breaths u_heard u_traced u_lastFault) H := hP
  have hD : va_D A (wc_u cyI cyJ aa s_lanes s_sizes s_cells x_kinds x_digits x_causes x_effects (0 : Int32) (0 : Int32) (0 : Int32) t_kinds t_digits t_caseRow t_weights t_order t_calls t_things t_caseCount t_caseSet p_callsOfCase p_partOfCase p_callsOfPart p_cases p_parts r_cases r_hours r_sets r_count u_lists u_breaths u_heard u_traced u_lastFault) := hD
  refine lv_iconst (v := (0 : Int32)) hx hb dX3_firstFault_15 (by decide) ?_
  refine lv_istore (lv' := [(5, .int (0 : Int32)), (0, .ref (aa 5)), (1, .ref (aa 1)), (2, .int a_2), (3, .int a_3), (4, .int a_4)]) hx hb dX3_firstFault_16 hl (by decide) rfl (fun ls hl => ?_)
  obtain ⟨ni, h⟩ := h
  have lp_18 : ∀ (kk : (Nat → Int32) → (Nat → Int32) → (Nat → Int32) → (Nat → Int32) → Int32 → Int32 → Int32 → Prop), (∀ (xx_23 : Nat → Int32) (xx_24 : Nat → Int32) (xx_25 : Nat → Int32) (xx_26 : Nat → Int32) (xx_27 : Int32) (xx_28 : Int32) (xx_29 : Int32) (H : Heap) (locs : List Loc) (ls : Array Slot), va_P (dC, dI) vwCl (wc_u cyI cyJ aa s_lanes s_sizes s_cells xx_23 xx_24 xx_25 xx_26 xx_27 xx_28 xx_29 t_kinds t_digits t_caseRow t_weights t_order t_calls t_things t_caseCount t_caseSet p_callsOfCase p_partOfCase p_callsOfPart p_cases p_parts r_cases r_hours r_sets r_count u_lists u_breaths u_heard u_traced u_lastFault) H → va_D A (wc_u cyI cyJ aa s_lanes s_sizes s_cells xx_23 xx_24 xx_25 xx_26 xx_27 xx_28 xx_29 t_kinds t_digits t_caseRow t_weights t_order t_calls t_things t_caseCount t_caseSet p_callsOfCase p_partOfCase p_callsOfPart p_cases p_parts r_cases r_hours r_sets r_count u_lists u_breaths u_heard u_traced u_lastFault) → va_S A s.heap H locs → lv_has ls 6 [(0, .ref (aa 5)), (4, .int a_4)] → kk xx_23 xx_24 xx_25 xx_26 xx_27 xx_28 xx_29 → W p l e (xq_R 2 44) s m args below meth c H locs 0 0 Q (F0 m 57 ls [])) → ∀ (ni : Nat) (aa_15 : Int32) (cc_16 : Nat → Int32) (cc_17 : Nat → Int32) (cc_18 : Nat → Int32) (cc_19 : Nat → Int32) (cc_20 : Int32) (cc_21 : Int32) (cc_22 : Int32) (H : Heap) (locs : List Loc) (ls : Array Slot), va_P (dC, dI) vwCl (wc_u cyI cyJ aa s_lanes s_sizes s_cells cc_16 cc_17 cc_18 cc_19 cc_20 cc_21 cc_22 t_kinds t_digits t_caseRow t_weights t_order t_calls t_things t_caseCount t_caseSet p_callsOfCase p_partOfCase p_callsOfPart p_cases p_parts r_cases r_hours r_sets r_count u_lists u_breaths u_heard u_traced u_lastFault) H → va_D A (wc_u cyI cyJ aa s_lanes s_sizes s_cells cc_16 cc_17 cc_18 cc_19 cc_20 cc_21 cc_22 t_kinds t_digits t_caseRow t_weights t_order t_calls t_things t_caseCount t_caseSet p_callsOfCase p_partOfCase p_callsOfPart p_cases p_parts r_cases r_hours r_sets r_count u_lists u_breaths u_heard u_traced u_lastFault) → va_S A s.heap H locs → lv_has ls 6 [(0, .ref (aa 5)), (1, .ref (aa 1)), (2, .int a_2), (3, .int a_3), (4, .int a_4), (5, .int aa_15)] → w_X3_firstFault_L18 a_2 a_3 a_4 s_sizes s_cells post kk ni aa_15 cc_16 cc_17 cc_18 cc_19 cc_20 cc_21 cc_22 → W p l e (xq_R 2 44) s m args below meth c H locs 0 0 Q (F0 m 18 ls []) := by
    intro kk kx ni
    induction ni with
    | zero => intros; exact False.elim (by assumption)
    | succ ni ih =>
      intro aa_15 cc_16 cc_17 cc_18 cc_19 cc_20 cc_21 cc_22 H locs ls hP hD hS hl h
      rw [w_X3_firstFault_L18] at h
      refine lv_iload hx hb dX3_firstFault_18 (lv_at hl 5 rfl) ?_
      refine lv_iload hx hb dX3_firstFault_20 (lv_at hl 4 rfl) ?_
      refine lv_icmp_ge (tgt := 57) hx hb dX3_firstFault_22 (by decide) (fun hc_46 => ?_) (fun hc_46 => ?_)
      · have h := h.1 hc_46
        exact kx cc_16 cc_17 cc_18 cc_19 cc_20 cc_21 cc_22 _ _ _ hP hD hS (lv_sub hl [0, 4] rfl) h
      · have h := h.2 hc_46
        refine lv_iload hx hb dX3_firstFault_25 (lv_at hl 5 rfl) ?_
        refine lv_bipush (v := (60 : Int32)) hx hb dX3_firstFault_27 (by decide) ?_
        refine lv_icmp_ge (tgt := 57) hx hb dX3_firstFault_29 (by decide) (fun hc_45 => ?_) (fun hc_45 => ?_)
        · have h := h.1 hc_45
          exact kx cc_16 cc_17 cc_18 cc_19 cc_20 cc_21 cc_22 _ _ _ hP hD hS (lv_sub hl [0, 4] rfl) h
        · have h := h.2 hc_45
          refine lv_aload_n hx hb dX3_firstFault_32 rfl (lv_at hl 0 rfl) ?_
          refine lv_aload_n hx hb dX3_firstFault_33 rfl (lv_at hl 1 rfl) ?_
          refine lv_iload_n hx hb dX3_firstFault_34 rfl (lv_at hl 2 rfl) ?_
          refine lv_iload_n hx hb dX3_firstFault_35 rfl (lv_at hl 3 rfl) ?_
          refine lv_iload hx hb dX3_firstFault_36 (lv_at hl 5 rfl) ?_
          refine lv_iadd hx hb dX3_firstFault_38 ?_
          refine xq_ci (va_runV (As := [.int a_2, .int (a_3 + aa_15)]) (rest := [.ref (aa 5)]) ⟨hx, hb, hml, hown, hts⟩ (m_X2_at l dC dI cyI cyJ aa H.size h) (cwV 2 hts gX3_firstFault_X2_at rfl rfl rfl (by decide +kernel) ⟨Nat.le_of_ble_eq_true rfl, Nat.le_of_ble_eq_true rfl⟩) (xq_preV hK hP hD hN (ci := 2) (q0 := 1) rfl rfl) rfl rfl hl.1 rfl (lv_room (Nat.le_of_ble_eq_true rfl)) dX3_firstFault_39 ⟨Nat.le_refl _, Nat.le_refl _⟩) hD hS hA (fun rr_33 uu H locs h hP hD hS => ?_)
          have hP : va_P (dC, dI) vwCl (wc_u cyI cyJ aa s_lanes s_sizes s_cells cc_16 cc_17 cc_18 cc_19 cc_20 cc_21 cc_22 t_kinds t_digits t_caseRow t_weights t_order t_calls t_things t_caseCount t_caseSet p_callsOfCase p_partOfCase p_callsOfPart p_cases p_parts r_cases r_hours r_sets r_count u_lists u_breaths u_heard u_traced u_lastFault) H := hP
          have hD : va_D A (wc_u cyI cyJ aa s_lanes s_sizes s_cells cc_16 cc_17 cc_18 cc_19 cc_20 cc_21 cc_22 t_kinds t_digits t_caseRow t_weights t_order t_calls t_things t_caseCount t_caseSet p_callsOfCase p_partOfCase p_callsOfPart p_cases p_parts r_cases r_hours r_sets r_count u_lists u_breaths u_heard u_traced u_lastFault) := hD
          refine xq_ci (va_runV (As := [.int rr_33]) (rest := []) ⟨hx, hb, hml, hown, hts⟩ (m_X3_goesOn l dC dI cyI cyJ aa H.size h) (cwV 1 hts gX3_firstFault_X3_goesOn rfl rfl rfl (by decide +kernel) ⟨Nat.le_of_ble_eq_true rfl, Nat.le_of_ble_eq_true rfl⟩) (xq_preV hK hP hD hN (ci := 3) (q0 := 5) rfl rfl) rfl rfl hl.1 rfl (lv_room (Nat.le_of_ble_eq_true rfl)) dX3_firstFault_42 ⟨Nat.le_refl _, Nat.le_refl _⟩) hD hS hA (fun rr_34 uu H locs h hP hD hS => ?_)
          obtain ⟨cc_35, cc_36, cc_37, cc_38, cc_39, cc_40, cc_41⟩ := uu
          have hP : va_P (dC, dI) vwCl (wc_u cyI cyJ aa s_lanes s_sizes s_cells cc_35 cc_36 cc_37 cc_38 cc_39 cc_40 cc_41 t_kinds t_digits t_caseRow t_weights t_order t_calls t_things t_caseCount t_caseSet p_callsOfCase p_partOfCase p_callsOfPart p_cases p_parts r_cases r_hours r_sets r_count u_lists u_breaths u_heard u_traced u_lastFault) H := hP
          have hD : va_D A (wc_u cyI cyJ aa s_lanes s_sizes s_cells cc_35 cc_36 cc_37 cc_38 cc_39 cc_40 cc_41 t_kinds t_digits t_caseRow t_weights t_order t_calls t_things t_caseCount t_caseSet p_callsOfCase p_partOfCase p_callsOfPart p_cases p_parts r_cases r_hours r_sets r_count u_lists u_breaths u_heard u_traced u_lastFault) := hD
          refine lv_if_ne (tgt := 51) hx hb dX3_firstFault_45 (by decide) (fun hc_42 => ?_) (fun hc_42 => ?_)
          · have h := h.1 hc_42
            refine lv_iinc (v := (aa_15 + (1 : Int32))) (lv' := [(5, .int (aa_15 + (1 : Int32))), (0, .ref (aa 5)), (1, .ref (aa 1)), (2, .int a_2), (3, .int a_3), (4, .int a_4)]) hx hb dX3_firstFault_51 hl (k := 5) rfl rfl (by decide) rfl (fun ls hl => ?_)
            refine lv_goto (tgt := 18) hx hb dX3_firstFault_54 (by decide) ?_
            exact ih (aa_15 + (1 : Int32)) cc_35 cc_36 cc_37 cc_38 cc_39 cc_40 cc_41 _ _ _ hP hD hS (lv_sub hl [1, 2, 3, 4, 5, 0] rfl) h
          · have h := h.2 hc_42
            refine lv_iload hx hb dX3_firstFault_48 (lv_at hl 5 rfl) ?_
            exact xq_ri hQ hx hb hr hP hK hD hS (cc_35, cc_36, cc_37, cc_38, cc_39, cc_40, cc_41) rfl h dX3_firstFault_50 hlocks
  refine lp_18 _ (fun xx_23 xx_24 xx_25 xx_26 xx_27 xx_28 xx_29 H locs ls hP hD hS hl h => ?_) ni (0 : Int32) x_kinds x_digits x_causes x_effects (0 : Int32) (0 : Int32) (0 : Int32) _ _ _ hP hD hS (lv_sub hl [1, 2, 3, 4, 5, 0] rfl) h
  refine lv_aload_n hx hb dX3_firstFault_57 rfl (lv_at hl 0 rfl) ?_
  refine xq_ci (va_runV (As := []) (rest := []) ⟨hx, hb, hml, hown, hts⟩ (m_X3_mayEnd l dC dI cyI cyJ aa H.size h) (cwV 0 hts gX3_firstFault_X3_mayEnd rfl rfl rfl (by decide +kernel) ⟨Nat.le_of_ble_eq_true rfl, Nat.le_of_ble_eq_true rfl⟩) (xq_preV hK hP hD hN (ci := 3) (q0 := 5) rfl rfl) rfl rfl hl.1 rfl (lv_room (Nat.le_of_ble_eq_true rfl)) dX3_firstFault_58 ⟨Nat.le_refl _, Nat.le_refl _⟩) hD hS hA (fun rr_30 uu H locs h hP hD hS => ?_)
  have hP : va_P (dC, dI) vwCl (wc_u cyI cyJ aa s_lanes s_sizes s_cells xx_23 xx_24 xx_25 xx_26 xx_27 xx_28 xx_29 t_kinds t_digits t_caseRow t_weights t_order t_calls t_things t_caseCount t_caseSet p_callsOfCase p_partOfCase p_callsOfPart p_cases p_parts r_cases r_hours r_sets r_count u_lists u_breaths u_heard u_traced u_lastFault) H := hP
  have hD : va_D A (wc_u cyI cyJ aa s_lanes s_sizes s_cells xx_23 xx_24 xx_25 xx_26 xx_27 xx_28 xx_29 t_kinds t_digits t_caseRow t_weights t_order t_calls t_things t_caseCount t_caseSet p_callsOfCase p_partOfCase p_callsOfPart p_cases p_parts r_cases r_hours r_sets r_count u_lists u_breaths u_heard u_traced u_lastFault) := hD
  refine lv_if_eq (tgt := 68) hx hb dX3_firstFault_61 (by decide) (fun hc_31 => ?_) (fun hc_31 => ?_)
  · have h := h.1 hc_31
    refine lv_iload hx hb dX3_firstFault_68 (lv_at hl 1 rfl) ?_
    exact xq_ri hQ hx hb hr hP hK hD hS (xx_23, xx_24, xx_25, xx_26, xx_27, xx_28, xx_29) rfl h dX3_firstFault_70 hlocks
  · have h := h.2 hc_31
    refine lv_iconst (v := (-1 : Int32)) hx hb dX3_firstFault_64 (by decide) ?_
    refine lv_goto (tgt := 70) hx hb dX3_firstFault_65 (by decide) ?_
    exact xq_ri hQ hx hb hr hP hK hD hS (xx_23, xx_24, xx_25, xx_26, xx_27, xx_28, xx_29) rfl h dX3_firstFault_70 hlocks
def w_X5_has (a_0 : Int32) (a_1 : Int32) (post : Int32 → Prop) : Prop := (¬ ((a_0 >>> (a_1 &&& 31)) &&& (1 : Int32)) = (1 : Int32) → (post (0 : Int32))) ∧ (((a_0 >>> (a_1 &&& 31)) &&& (1 : Int32)) = (1 : Int32) → (post (1 : Int32)))
set_option maxHeartbeats 4000000 in
set_option maxRecDepth 100000 in
theorem m_X5_has (l : Launch) (dC : Nat → ClassId) (dI : Nat → Nat → Nat) (cyI cyJ : ClassId) (ww : va_W) (sz : Nat) {a_0 : Int32} {a_1 : Int32} {post : Int32 → Prop} (h : w_X5_has a_0 a_1 post) : Met l yX5_has wsX5_has (xq_R 0 0) (va_Pc [.int a_0, .int a_1] (xq_P (dC, dI) [(cyI, .int), (cyJ, .long)] ww sz)) (va_Qi (fun (rr : Int32) (uu : Unit) => post rr ) (fun (uu : Unit) => xq_B (dC, dI) [(cyI, .int), (cyJ, .long)] (va_A ww sz) ww) (va_A ww sz)) 0 0 (va_A ww sz) := by
  refine xq_M (cc := cX5_has) (maxL := 2) (ret := (some .boolean)) (QA := fun A => va_Qi (fun (rr : Int32) (uu : Unit) => post rr ) (fun (uu : Unit) => xq_B (dC, dI) [(cyI, .int), (cyJ, .long)] A ww) A) (by decide) rfl (Nat.le_of_ble_eq_true rfl) ?_
  intro p e s m args below meth c A ls Q hQ hx hb hr hml hts hown hlocks hsz hP hK hD hA hS hN hl
  subst hsz
  have hl : lv_has ls 2 [(0, .int a_0), (1, .int a_1)] := hl
  unfold w_X5_has at h
  refine lv_iload_n hx hb dX5_has_0 rfl (lv_at hl 0 rfl) ?_
  refine lv_iload_n hx hb dX5_has_1 rfl (lv_at hl 1 rfl) ?_
  refine lv_ishr hx hb dX5_has_2 ?_
  refine lv_iconst (v := (1 : Int32)) hx hb dX5_has_3 (by decide) ?_
  refine lv_iand hx hb dX5_has_4 ?_
  refine lv_iconst (v := (1 : Int32)) hx hb dX5_has_5 (by decide) ?_
  refine lv_icmp_ne (tgt := 13) hx hb dX5_has_6 (by decide) (fun hc_1 => ?_) (fun hc_1 => ?_)
  · have h := h.1 hc_1
    refine lv_iconst (v := (0 : Int32)) hx hb dX5_has_13 (by decide) ?_
    exact xq_rz hQ hx hb hr (by decide) hP hK hD hS () rfl h dX5_has_14 hlocks
  · have h := h.2 hc_1
    refine lv_iconst (v := (1 : Int32)) hx hb dX5_has_9 (by decide) ?_
    refine lv_goto (tgt := 14) hx hb dX5_has_10 (by decide) ?_
    exact xq_rz hQ hx hb hr (by decide) hP hK hD hS () rfl h dX5_has_14 hlocks
def w_X4_allFollows_L2 (a_1 : Int32) (x_causes : Nat → Int32) (x_effects : Nat → Int32) (x_follows : Int32) (post : Int32 → Prop) (kk : Prop) : Nat → Int32 → Prop
  | 0, _ => False
  | f_2 + 1, a_3 => (x_follows ≤ a_3 → (kk)) ∧ (¬ x_follows ≤ a_3 → (((4 : Int32) ≤ a_3 → (kk)) ∧ (¬ (4 : Int32) ≤ a_3 → ((vp_in a_3 4) ∧ (w_X5_has a_1 (x_causes a_3.toNatClampNeg) (fun (rr_2 : Int32) => (rr_2 = 0 → (w_X4_allFollows_L2 a_1 x_causes x_effects x_follows post kk f_2 (a_3 + (1 : Int32)))) ∧ (¬ rr_2 = 0 → ((vp_in a_3 4) ∧ (w_X5_has a_1 (x_effects a_3.toNatClampNeg) (fun (rr_4 : Int32) => (¬ rr_4 = 0 → (w_X4_allFollows_L2 a_1 x_causes x_effects x_follows post kk f_2 (a_3 + (1 : Int32)))) ∧ (rr_4 = 0 → (post (0 : Int32)))))))))))))
def w_X4_allFollows (x_causes : Nat → Int32) (x_effects : Nat → Int32) (x_follows : Int32) (a_1 : Int32) (post : Int32 → Prop) : Prop := ∃ e_2, w_X4_allFollows_L2 a_1 x_causes x_effects x_follows post (post (1 : Int32)) e_2 (0 : Int32)
set_option maxHeartbeats 4000000 in
set_option maxRecDepth 100000 in
theorem m_X4_allFollows (l : Launch) (dC : Nat → ClassId) (dI : Nat → Nat → Nat) (cyI cyJ : ClassId) (aa : Nat → Nat) (sz : Nat) {s_lanes : Nat → Int32} {s_sizes : Nat → Int32} {s_cells : Nat → Int32} {x_kinds : Nat → Int32} {x_digits : Nat → Int32} {x_causes : Nat → Int32} {x_effects : Nat → Int32} {x_things : Int32} {x_follows : Int32} {x_due : Int32} {t_kinds : Nat → Int32} {t_digits : Nat → Int32} {t_caseRow : Nat → Int32} {t_weights : Nat → Int32} {t_order : Nat → Int32} {t_calls : Nat → Int32} {t_things : Int32} {t_caseCount : Int32} {t_caseSet : Int64} {p_callsOfCase : Nat → Int64} {p_partOfCase : Nat → Int32} {p_callsOfPart : Nat → Int64} {p_cases : Int32} {p_parts : Int32} {r_cases : Nat → Int32} {r_hours : Nat → Int32} {r_sets : Nat → Int32} {r_count : Int32} {u_lists : Nat → Int32} {u_breaths : Nat → Int32} {u_heard : Nat → Int32} {u_traced : Int32} {u_lastFault : Int32} {a_1 : Int32} {post : Int32 → Prop} (h : w_X4_allFollows x_causes x_effects x_follows a_1 post) : Met l yX4_allFollows wsX4_allFollows (xq_R 1 21) (va_Pc [.ref (aa 10), .int a_1, .ref (aa 5)] (xq_P (dC, dI) [(cyI, .int), (cyJ, .long)] (wc_u cyI cyJ aa s_lanes s_sizes s_cells x_kinds x_digits x_causes x_effects x_things x_follows x_due t_kinds t_digits t_caseRow t_weights t_order t_calls t_things t_caseCount t_caseSet p_callsOfCase p_partOfCase p_callsOfPart p_cases p_parts r_cases r_hours r_sets r_count u_lists u_breaths u_heard u_traced u_lastFault) sz)) (va_Qi (fun (rr : Int32) (uu : Unit) => post rr ) (fun (uu : Unit) => xq_B (dC, dI) [(cyI, .int), (cyJ, .long)] (va_A (wc_u cyI cyJ aa s_lanes s_sizes s_cells x_kinds x_digits x_causes x_effects x_things x_follows x_due t_kinds t_digits t_caseRow t_weights t_order t_calls t_things t_caseCount t_caseSet p_callsOfCase p_partOfCase p_callsOfPart p_cases p_parts r_cases r_hours r_sets r_count u_lists u_breaths u_heard u_traced u_lastFault) sz) (wc_u cyI cyJ aa s_lanes s_sizes s_cells x_kinds x_digits x_causes x_effects x_things x_follows x_due t_kinds t_digits t_caseRow t_weights t_order t_calls t_things t_caseCount t_caseSet p_callsOfCase p_partOfCase p_callsOfPart p_cases p_parts r_cases r_hours r_sets r_count u_lists u_breaths u_heard u_traced u_lastFault)) (va_A (wc_u cyI cyJ aa s_lanes s_sizes s_cells x_kinds x_digits x_causes x_effects x_things x_follows x_due t_kinds t_digits t_caseRow t_weights t_order t_calls t_things t_caseCount t_caseSet p_callsOfCase p_partOfCase p_callsOfPart p_cases p_parts r_cases r_hours r_sets r_count u_lists u_breaths u_heard u_traced u_lastFault) sz)) 0 0 (va_A (wc_u cyI cyJ aa s_lanes s_sizes s_cells x_kinds x_digits x_causes x_effects x_things x_follows x_due t_kinds t_digits t_caseRow t_weights t_order t_calls t_things t_caseCount t_caseSet p_callsOfCase p_partOfCase p_callsOfPart p_cases p_parts r_cases r_hours r_sets r_count u_lists u_breaths u_heard u_traced u_lastFault) sz) := by
  refine xq_M (cc := cX4_allFollows) (maxL := 4) (ret := (some .boolean)) (QA := fun A => va_Qi (fun (rr : Int32) (uu : Unit) => post rr ) (fun (uu : Unit) => xq_B (dC, dI) [(cyI, .int), (cyJ, .long)] A (wc_u cyI cyJ aa s_lanes s_sizes s_cells x_kinds x_digits x_causes x_effects x_things x_follows x_due t_kinds t_digits t_caseRow t_weights t_order t_calls t_things t_caseCount t_caseSet p_callsOfCase p_partOfCase p_callsOfPart p_cases p_parts r_cases r_hours r_sets r_count u_lists u_breaths u_heard u_traced u_lastFault)) A) (by decide) rfl (Nat.le_of_ble_eq_true rfl) ?_
  intro p e s m args below meth c A ls Q hQ hx hb hr hml hts hown hlocks hsz hP hK hD hA hS hN hl
  subst hsz
  have hl : lv_has ls 4 [(0, .ref (aa 10)), (1, .int a_1), (2, .ref (aa 5))] := hl
  have hi_X3 : ∀ w ∈ wsX30, w ∈ wsX4_allFollows := fun _ h => List.mem_cons_of_mem _ (List.mem_append_right _ h)
  have fl_83 := hts (.fieldLink RX4 83 "UnsaidCalls$Text" "follows" "I") (by decide +kernel)
  have fl_86 := hts (.fieldLink RX4 86 "UnsaidCalls$Text" "causes" "[I") (by decide +kernel)
  have fl_89 := hts (.fieldLink RX4 89 "UnsaidCalls$Text" "effects" "[I") (by decide +kernel)
  unfold w_X4_allFollows at h
  refine lv_iconst (v := (0 : Int32)) hx hb dX4_allFollows_0 (by decide) ?_
  refine lv_istore_n (lv' := [(3, .int (0 : Int32)), (0, .ref (aa 10)), (1, .int a_1), (2, .ref (aa 5))]) hx hb dX4_allFollows_1 rfl hl (by decide) rfl (fun ls hl => ?_)
  obtain ⟨ni, h⟩ := h
  have lp_2 : ∀ (kk : Prop), (∀  (H : Heap) (locs : List Loc) (ls : Array Slot), va_P (dC, dI) vwCl (wc_u cyI cyJ aa s_lanes s_sizes s_cells x_kinds x_digits x_causes x_effects x_things x_follows x_due t_kinds t_digits t_caseRow t_weights t_order t_calls t_things t_caseCount t_caseSet p_callsOfCase p_partOfCase p_callsOfPart p_cases p_parts r_cases r_hours r_sets r_count u_lists u_breaths u_heard u_traced u_lastFault) H → va_D A (wc_u cyI cyJ aa s_lanes s_sizes s_cells x_kinds x_digits x_causes x_effects x_things x_follows x_due t_kinds t_digits t_caseRow t_weights t_order t_calls t_things t_caseCount t_caseSet p_callsOfCase p_partOfCase p_callsOfPart p_cases p_parts r_cases r_hours r_sets r_count u_lists u_breaths u_heard u_traced u_lastFault) → va_S A s.heap H locs → lv_has ls 4 [] → kk → W p l e (xq_R 1 21) s m args below meth c H locs 0 0 Q (F0 m 49 ls [])) → ∀ (ni : Nat) (aa_11 : Int32) (H : Heap) (locs : List Loc) (ls : Array Slot), va_P (dC, dI) vwCl (wc_u cyI cyJ aa s_lanes s_sizes s_cells x_kinds x_digits x_causes x_effects x_things x_follows x_due t_kinds t_digits t_caseRow t_weights t_order t_calls t_things t_caseCount t_caseSet p_callsOfCase p_partOfCase p_callsOfPart p_cases p_parts r_cases r_hours r_sets r_count u_lists u_breaths u_heard u_traced u_lastFault) H → va_D A (wc_u cyI cyJ aa s_lanes s_sizes s_cells x_kinds x_digits x_causes x_effects x_things x_follows x_due t_kinds t_digits t_caseRow t_weights t_order t_calls t_things t_caseCount t_caseSet p_callsOfCase p_partOfCase p_callsOfPart p_cases p_parts r_cases r_hours r_sets r_count u_lists u_breaths u_heard u_traced u_lastFault) → va_S A s.heap H locs → lv_has ls 4 [(1, .int a_1), (2, .ref (aa 5)), (3, .int aa_11)] → w_X4_allFollows_L2 a_1 x_causes x_effects x_follows post kk ni aa_11 → W p l e (xq_R 1 21) s m args below meth c H locs 0 0 Q (F0 m 2 ls []) := by
    intro kk kx ni
    induction ni with
    | zero => intros; exact False.elim (by assumption)
    | succ ni ih =>
      intro aa_11 H locs ls hP hD hS hl h
      rw [w_X4_allFollows_L2] at h
      refine lv_iload_n hx hb dX4_allFollows_2 rfl (lv_at hl 2 rfl) ?_
      refine lv_aload_n hx hb dX4_allFollows_3 rfl (lv_at hl 1 rfl) ?_
      refine va_get (D := (dC, dI)) (ci := 3) (v := .int x_follows) (C := RX3) (T := TX3) (N := 7) hx hb hts hi_X3 hown hK hP 5 rfl rfl 5 (by decide) fl_83 (fun _ h9 => h9) rfl dX4_allFollows_4 ?_
      refine lv_icmp_ge (tgt := 49) hx hb dX4_allFollows_7 (by decide) (fun hc_21 => ?_) (fun hc_21 => ?_)
      · have h := h.1 hc_21
        exact kx  _ _ _ hP hD hS (lv_sub hl [] rfl) h
      · have h := h.2 hc_21
        refine lv_iload_n hx hb dX4_allFollows_10 rfl (lv_at hl 2 rfl) ?_
        refine lv_iconst (v := (4 : Int32)) hx hb dX4_allFollows_11 (by decide) ?_
        refine lv_icmp_ge (tgt := 49) hx hb dX4_allFollows_12 (by decide) (fun hc_20 => ?_) (fun hc_20 => ?_)
        · have h := h.1 hc_20
          exact kx  _ _ _ hP hD hS (lv_sub hl [] rfl) h
        · have h := h.2 hc_20
          refine lv_iload_n hx hb dX4_allFollows_15 rfl (lv_at hl 0 rfl) ?_
          refine lv_aload_n hx hb dX4_allFollows_16 rfl (lv_at hl 1 rfl) ?_
          refine va_get (D := (dC, dI)) (ci := 3) (v := .ref (aa 8)) (C := RX3) (T := TX3) (N := 7) hx hb hts hi_X3 hown hK hP 5 rfl rfl 2 (by decide) fl_86 (fun _ h9 => h9) rfl dX4_allFollows_17 ?_
          refine lv_iload_n hx hb dX4_allFollows_20 rfl (lv_at hl 2 rfl) ?_
          obtain ⟨hv_12, h⟩ := h
          refine va_iald hx hb hK hP 8 0 rfl rfl hv_12 dX4_allFollows_21 ?_
          refine xq_ci (va_runSN (As := [.int a_1, .int (x_causes aa_11.toNatClampNeg)]) (rest := []) ⟨hx, hb, hml, hown, hts⟩ (m_X5_has l dC dI cyI cyJ (wc_u cyI cyJ aa s_lanes s_sizes s_cells x_kinds x_digits x_causes x_effects x_things x_follows x_due t_kinds t_digits t_caseRow t_weights t_order t_calls t_things t_caseCount t_caseSet p_callsOfCase p_partOfCase p_callsOfPart p_cases p_parts r_cases r_hours r_sets r_count u_lists u_breaths u_heard u_traced u_lastFault) H.size h) ⟨va_cnB 2 hts ggX4_allFollows_X5_has rfl rfl rfl hN.2.1 (hts (.initialized RX5) (by decide +kernel)) (by decide +kernel) ⟨Nat.le_of_ble_eq_true rfl, Nat.le_of_ble_eq_true rfl⟩, hts (.static yX5_has) (by decide +kernel), trivial⟩ (xq_preS hK hP hD hN) rfl rfl hl.1 rfl (lv_room (Nat.le_of_ble_eq_true rfl)) dX4_allFollows_22 ⟨Nat.le_refl _, Nat.le_refl _⟩) hD hS hA (fun rr_13 uu H locs h hP hD hS => ?_)
          have hP : va_P (dC, dI) vwCl (wc_u cyI cyJ aa s_lanes s_sizes s_cells x_kinds x_digits x_causes x_effects x_things x_follows x_due t_kinds t_digits t_caseRow t_weights t_order t_calls t_things t_caseCount t_caseSet p_callsOfCase p_partOfCase p_callsOfPart p_cases p_parts r_cases r_hours r_sets r_count u_lists u_breaths u_heard u_traced u_lastFault) H := hP
          have hD : va_D A (wc_u cyI cyJ aa s_lanes s_sizes s_cells x_kinds x_digits x_causes x_effects x_things x_follows x_due t_kinds t_digits t_caseRow t_weights t_order t_calls t_things t_caseCount t_caseSet p_callsOfCase p_partOfCase p_callsOfPart p_cases p_parts r_cases r_hours r_sets r_count u_lists u_breaths u_heard u_traced u_lastFault) := hD
          refine lv_if_eq (tgt := 43) hx hb dX4_allFollows_25 (by decide) (fun hc_18 => ?_) (fun hc_18 => ?_)
          · have h := h.1 hc_18
            refine lv_iinc (v := (aa_11 + (1 : Int32))) (lv' := [(3, .int (aa_11 + (1 : Int32))), (1, .int a_1), (2, .ref (aa 5))]) hx hb dX4_allFollows_43 hl (k := 2) rfl rfl (by decide) rfl (fun ls hl => ?_)
            refine lv_goto (tgt := 2) hx hb dX4_allFollows_46 (by decide) ?_
            exact ih (aa_11 + (1 : Int32)) _ _ _ hP hD hS (lv_sub hl [1, 2, 0] rfl) h
          · have h := h.2 hc_18
            refine lv_iload_n hx hb dX4_allFollows_28 rfl (lv_at hl 0 rfl) ?_
            refine lv_aload_n hx hb dX4_allFollows_29 rfl (lv_at hl 1 rfl) ?_
            refine va_get (D := (dC, dI)) (ci := 3) (v := .ref (aa 9)) (C := RX3) (T := TX3) (N := 7) hx hb hts hi_X3 hown hK hP 5 rfl rfl 3 (by decide) fl_89 (fun _ h9 => h9) rfl dX4_allFollows_30 ?_
            refine lv_iload_n hx hb dX4_allFollows_33 rfl (lv_at hl 2 rfl) ?_
            obtain ⟨hv_14, h⟩ := h
            refine va_iald hx hb hK hP 9 0 rfl rfl hv_14 dX4_allFollows_34 ?_
            refine xq_ci (va_runSN (As := [.int a_1, .int (x_effects aa_11.toNatClampNeg)]) (rest := []) ⟨hx, hb, hml, hown, hts⟩ (m_X5_has l dC dI cyI cyJ (wc_u cyI cyJ aa s_lanes s_sizes s_cells x_kinds x_digits x_causes x_effects x_things x_follows x_due t_kinds t_digits t_caseRow t_weights t_order t_calls t_things t_caseCount t_caseSet p_callsOfCase p_partOfCase p_callsOfPart p_cases p_parts r_cases r_hours r_sets r_count u_lists u_breaths u_heard u_traced u_lastFault) H.size h) ⟨va_cnB 2 hts ggX4_allFollows_X5_has rfl rfl rfl hN.2.1 (hts (.initialized RX5) (by decide +kernel)) (by decide +kernel) ⟨Nat.le_of_ble_eq_true rfl, Nat.le_of_ble_eq_true rfl⟩, hts (.static yX5_has) (by decide +kernel), trivial⟩ (xq_preS hK hP hD hN) rfl rfl hl.1 rfl (lv_room (Nat.le_of_ble_eq_true rfl)) dX4_allFollows_35 ⟨Nat.le_refl _, Nat.le_refl _⟩) hD hS hA (fun rr_15 uu H locs h hP hD hS => ?_)
            have hP : va_P (dC, dI) vwCl (wc_u cyI cyJ aa s_lanes s_sizes s_cells x_kinds x_digits x_causes x_effects x_things x_follows x_due t_kinds t_digits t_caseRow t_weights t_order t_calls t_things t_caseCount t_caseSet p_callsOfCase p_partOfCase p_callsOfPart p_cases p_parts r_cases r_hours r_sets r_count u_lists u_breaths u_heard u_traced u_lastFault) H := hP
            have hD : va_D A (wc_u cyI cyJ aa s_lanes s_sizes s_cells x_kinds x_digits x_causes x_effects x_things x_follows x_due t_kinds t_digits t_caseRow t_weights t_order t_calls t_things t_caseCount t_caseSet p_callsOfCase p_partOfCase p_callsOfPart p_cases p_parts r_cases r_hours r_sets r_count u_lists u_breaths u_heard u_traced u_lastFault) := hD
            refine lv_if_ne (tgt := 43) hx hb dX4_allFollows_38 (by decide) (fun hc_16 => ?_) (fun hc_16 => ?_)
            · have h := h.1 hc_16
              refine lv_iinc (v := (aa_11 + (1 : Int32))) (lv' := [(3, .int (aa_11 + (1 : Int32))), (1, .int a_1), (2, .ref (aa 5))]) hx hb dX4_allFollows_43 hl (k := 2) rfl rfl (by decide) rfl (fun ls hl => ?_)
              refine lv_goto (tgt := 2) hx hb dX4_allFollows_46 (by decide) ?_
              exact ih (aa_11 + (1 : Int32)) _ _ _ hP hD hS (lv_sub hl [1, 2, 0] rfl) h
            · have h := h.2 hc_16
              refine lv_iconst (v := (0 : Int32)) hx hb dX4_allFollows_41 (by decide) ?_
              exact xq_rz hQ hx hb hr (by decide) hP hK hD hS () rfl h dX4_allFollows_42 hlocks
  refine lp_2 _ (fun  H locs ls hP hD hS hl h => ?_) ni (0 : Int32) _ _ _ hP hD hS (lv_sub hl [2, 3, 0] rfl) h
  refine lv_iconst (v := (1 : Int32)) hx hb dX4_allFollows_49 (by decide) ?_
  exact xq_rz hQ hx hb hr (by decide) hP hK hD hS () rfl h dX4_allFollows_50 hlocks
def w_X4_sets (t_things : Int32) (post : Int32 → Prop) : Prop := post ((1 : Int32) <<< (t_things &&& 31))
set_option maxHeartbeats 4000000 in
set_option maxRecDepth 100000 in
theorem m_X4_sets (l : Launch) (dC : Nat → ClassId) (dI : Nat → Nat → Nat) (cyI cyJ : ClassId) (aa : Nat → Nat) (sz : Nat) {s_lanes : Nat → Int32} {s_sizes : Nat → Int32} {s_cells : Nat → Int32} {x_kinds : Nat → Int32} {x_digits : Nat → Int32} {x_causes : Nat → Int32} {x_effects : Nat → Int32} {x_things : Int32} {x_follows : Int32} {x_due : Int32} {t_kinds : Nat → Int32} {t_digits : Nat → Int32} {t_caseRow : Nat → Int32} {t_weights : Nat → Int32} {t_order : Nat → Int32} {t_calls : Nat → Int32} {t_things : Int32} {t_caseCount : Int32} {t_caseSet : Int64} {p_callsOfCase : Nat → Int64} {p_partOfCase : Nat → Int32} {p_callsOfPart : Nat → Int64} {p_cases : Int32} {p_parts : Int32} {r_cases : Nat → Int32} {r_hours : Nat → Int32} {r_sets : Nat → Int32} {r_count : Int32} {u_lists : Nat → Int32} {u_breaths : Nat → Int32} {u_heard : Nat → Int32} {u_traced : Int32} {u_lastFault : Int32} {post : Int32 → Prop} (h : w_X4_sets t_things post) : Met l yX4_sets wsX4_sets (xq_R 0 0) (va_Pc [.ref (aa 10)] (xq_P (dC, dI) [(cyI, .int), (cyJ, .long)] (wc_u cyI cyJ aa s_lanes s_sizes s_cells x_kinds x_digits x_causes x_effects x_things x_follows x_due t_kinds t_digits t_caseRow t_weights t_order t_calls t_things t_caseCount t_caseSet p_callsOfCase p_partOfCase p_callsOfPart p_cases p_parts r_cases r_hours r_sets r_count u_lists u_breaths u_heard u_traced u_lastFault) sz)) (va_Qi (fun (rr : Int32) (uu : Unit) => post rr ) (fun (uu : Unit) => xq_B (dC, dI) [(cyI, .int), (cyJ, .long)] (va_A (wc_u cyI cyJ aa s_lanes s_sizes s_cells x_kinds x_digits x_causes x_effects x_things x_follows x_due t_kinds t_digits t_caseRow t_weights t_order t_calls t_things t_caseCount t_caseSet p_callsOfCase p_partOfCase p_callsOfPart p_cases p_parts r_cases r_hours r_sets r_count u_lists u_breaths u_heard u_traced u_lastFault) sz) (wc_u cyI cyJ aa s_lanes s_sizes s_cells x_kinds x_digits x_causes x_effects x_things x_follows x_due t_kinds t_digits t_caseRow t_weights t_order t_calls t_things t_caseCount t_caseSet p_callsOfCase p_partOfCase p_callsOfPart p_cases p_parts r_cases r_hours r_sets r_count u_lists u_breaths u_heard u_traced u_lastFault)) (va_A (wc_u cyI cyJ aa s_lanes s_sizes s_cells x_kinds x_digits x_causes x_effects x_things x_follows x_due t_kinds t_digits t_caseRow t_weights t_order t_calls t_things t_caseCount t_caseSet p_callsOfCase p_partOfCase p_callsOfPart p_cases p_parts r_cases r_hours r_sets r_count u_lists u_breaths u_heard u_traced u_lastFault) sz)) 0 0 (va_A (wc_u cyI cyJ aa s_lanes s_sizes s_cells x_kinds x_digits x_causes x_effects x_things x_follows x_due t_kinds t_digits t_caseRow t_weights t_order t_calls t_things t_caseCount t_caseSet p_callsOfCase p_partOfCase p_callsOfPart p_cases p_parts r_cases r_hours r_sets r_count u_lists u_breaths u_heard u_traced u_lastFault) sz) := by
  refine xq_M (cc := cX4_sets) (maxL := 1) (ret := (some .int)) (QA := fun A => va_Qi (fun (rr : Int32) (uu : Unit) => post rr ) (fun (uu : Unit) => xq_B (dC, dI) [(cyI, .int), (cyJ, .long)] A (wc_u cyI cyJ aa s_lanes s_sizes s_cells x_kinds x_digits x_causes x_effects x_things x_follows x_due t_kinds t_digits t_caseRow t_weights t_order t_calls t_things t_caseCount t_caseSet p_callsOfCase p_partOfCase p_callsOfPart p_cases p_parts r_cases r_hours r_sets r_count u_lists u_breaths u_heard u_traced u_lastFault)) A) (by decide) rfl (Nat.le_of_ble_eq_true rfl) ?_
  intro p e s m args below meth c A ls Q hQ hx hb hr hml hts hown hlocks hsz hP hK hD hA hS hN hl
  subst hsz
  have hl : lv_has ls 1 [(0, .ref (aa 10))] := hl
  have hi_X4 : ∀ w ∈ wsX40, w ∈ wsX4_sets := fun _ h => List.mem_cons_of_mem _ (List.mem_append_right _ h)
  have fl_30 := hts (.fieldLink RX4 30 "UnsaidCalls$Town" "things" "I") (by decide +kernel)
  unfold w_X4_sets at h
  refine lv_iconst (v := (1 : Int32)) hx hb dX4_sets_0 (by decide) ?_
  refine lv_aload_n hx hb dX4_sets_1 rfl (lv_at hl 0 rfl) ?_
  refine va_get (D := (dC, dI)) (ci := 4) (v := .int t_things) (C := RX4) (T := TX4) (N := 9) hx hb hts hi_X4 hown hK hP 10 rfl rfl 6 (by decide) fl_30 (fun _ h9 => h9) rfl dX4_sets_2 ?_
  refine lv_ishl hx hb dX4_sets_5 ?_
  exact xq_ri hQ hx hb hr hP hK hD hS () rfl h dX4_sets_6 hlocks
def w_X4_allThings (t_things : Int32) (post : Int32 → Prop) : Prop := w_X4_sets t_things (fun (rr_1 : Int32) => post (rr_1 - (1 : Int32)))
set_option maxHeartbeats 4000000 in
set_option maxRecDepth 100000 in
theorem m_X4_allThings (l : Launch) (dC : Nat → ClassId) (dI : Nat → Nat → Nat) (cyI cyJ : ClassId) (aa : Nat → Nat) (sz : Nat) {s_lanes : Nat → Int32} {s_sizes : Nat → Int32} {s_cells : Nat → Int32} {x_kinds : Nat → Int32} {x_digits : Nat → Int32} {x_causes : Nat → Int32} {x_effects : Nat → Int32} {x_things : Int32} {x_follows : Int32} {x_due : Int32} {t_kinds : Nat → Int32} {t_digits : Nat → Int32} {t_caseRow : Nat → Int32} {t_weights : Nat → Int32} {t_order : Nat → Int32} {t_calls : Nat → Int32} {t_things : Int32} {t_caseCount : Int32} {t_caseSet : Int64} {p_callsOfCase : Nat → Int64} {p_partOfCase : Nat → Int32} {p_callsOfPart : Nat → Int64} {p_cases : Int32} {p_parts : Int32} {r_cases : Nat → Int32} {r_hours : Nat → Int32} {r_sets : Nat → Int32} {r_count : Int32} {u_lists : Nat → Int32} {u_breaths : Nat → Int32} {u_heard : Nat → Int32} {u_traced : Int32} {u_lastFault : Int32} {post : Int32 → Prop} (h : w_X4_allThings t_things post) : Met l yX4_allThings wsX4_allThings (xq_R 1 20) (va_Pc [.ref (aa 10)] (xq_P (dC, dI) [(cyI, .int), (cyJ, .long)] (wc_u cyI cyJ aa s_lanes s_sizes s_cells x_kinds x_digits x_causes x_effects x_things x_follows x_due t_kinds t_digits t_caseRow t_weights t_order t_calls t_things t_caseCount t_caseSet p_callsOfCase p_partOfCase p_callsOfPart p_cases p_parts r_cases r_hours r_sets r_count u_lists u_breaths u_heard u_traced u_lastFault) sz)) (va_Qi (fun (rr : Int32) (uu : Unit) => post rr ) (fun (uu : Unit) => xq_B (dC, dI) [(cyI, .int), (cyJ, .long)] (va_A (wc_u cyI cyJ aa s_lanes s_sizes s_cells x_kinds x_digits x_causes x_effects x_things x_follows x_due t_kinds t_digits t_caseRow t_weights t_order t_calls t_things t_caseCount t_caseSet p_callsOfCase p_partOfCase p_callsOfPart p_cases p_parts r_cases r_hours r_sets r_count u_lists u_breaths u_heard u_traced u_lastFault) sz) (wc_u cyI cyJ aa s_lanes s_sizes s_cells x_kinds x_digits x_causes x_effects x_things x_follows x_due t_kinds t_digits t_caseRow t_weights t_order t_calls t_things t_caseCount t_caseSet p_callsOfCase p_partOfCase p_callsOfPart p_cases p_parts r_cases r_hours r_sets r_count u_lists u_breaths u_heard u_traced u_lastFault)) (va_A (wc_u cyI cyJ aa s_lanes s_sizes s_cells x_kinds x_digits x_causes x_effects x_things x_follows x_due t_kinds t_digits t_caseRow t_weights t_order t_calls t_things t_caseCount t_caseSet p_callsOfCase p_partOfCase p_callsOfPart p_cases p_parts r_cases r_hours r_sets r_count u_lists u_breaths u_heard u_traced u_lastFault) sz)) 0 0 (va_A (wc_u cyI cyJ aa s_lanes s_sizes s_cells x_kinds x_digits x_causes x_effects x_things x_follows x_due t_kinds t_digits t_caseRow t_weights t_order t_calls t_things t_caseCount t_caseSet p_callsOfCase p_partOfCase p_callsOfPart p_cases p_parts r_cases r_hours r_sets r_count u_lists u_breaths u_heard u_traced u_lastFault) sz) := by
  refine xq_M (cc := cX4_allThings) (maxL := 1) (ret := (some .int)) (QA := fun A => va_Qi (fun (rr : Int32) (uu : Unit) => post rr ) (fun (uu : Unit) => xq_B (dC, dI) [(cyI, .int), (cyJ, .long)] A (wc_u cyI cyJ aa s_lanes s_sizes s_cells x_kinds x_digits x_causes x_effects x_things x_follows x_due t_kinds t_digits t_caseRow t_weights t_order t_calls t_things t_caseCount t_caseSet p_callsOfCase p_partOfCase p_callsOfPart p_cases p_parts r_cases r_hours r_sets r_count u_lists u_breaths u_heard u_traced u_lastFault)) A) (by decide) rfl (Nat.le_of_ble_eq_true rfl) ?_
  intro p e s m args below meth c A ls Q hQ hx hb hr hml hts hown hlocks hsz hP hK hD hA hS hN hl
  subst hsz
  have hl : lv_has ls 1 [(0, .ref (aa 10))] := hl
  unfold w_X4_allThings at h
  refine lv_aload_n hx hb dX4_allThings_0 rfl (lv_at hl 0 rfl) ?_
  refine xq_ci (va_runV (As := []) (rest := []) ⟨hx, hb, hml, hown, hts⟩ (m_X4_sets l dC dI cyI cyJ aa s.heap.size h) (cwV 0 hts gX4_allThings_X4_sets rfl rfl rfl (by decide +kernel) ⟨Nat.le_of_ble_eq_true rfl, Nat.le_of_ble_eq_true rfl⟩) (xq_preV hK hP hD hN (ci := 4) (q0 := 10) rfl rfl) rfl rfl hl.1 rfl (lv_room (Nat.le_of_ble_eq_true rfl)) dX4_allThings_1 ⟨Nat.le_refl _, Nat.le_refl _⟩) hD hS hA (fun rr_1 uu H locs h hP hD hS => ?_)
  have hP : va_P (dC, dI) vwCl (wc_u cyI cyJ aa s_lanes s_sizes s_cells x_kinds x_digits x_causes x_effects x_things x_follows x_due t_kinds t_digits t_caseRow t_weights t_order t_calls t_things t_caseCount t_caseSet p_callsOfCase p_partOfCase p_callsOfPart p_cases p_parts r_cases r_hours r_sets r_count u_lists u_breaths u_heard u_traced u_lastFault) H := hP
  have hD : va_D A (wc_u cyI cyJ aa s_lanes s_sizes s_cells x_kinds x_digits x_causes x_effects x_things x_follows x_due t_kinds t_digits t_caseRow t_weights t_order t_calls t_things t_caseCount t_caseSet p_callsOfCase p_partOfCase p_callsOfPart p_cases p_parts r_cases r_hours r_sets r_count u_lists u_breaths u_heard u_traced u_lastFault) := hD
  refine lv_iconst (v := (1 : Int32)) hx hb dX4_allThings_4 (by decide) ?_
  refine lv_isub hx hb dX4_allThings_5 ?_
  exact xq_ri hQ hx hb hr hP hK hD hS () rfl h dX4_allThings_6 hlocks
def w_X4_fillBreaths_L3 (a_1 : Int32) (a_2 : Int32) (a_4 : Int32)  (post : (Nat → Int32) → Prop) (kk : (Nat → Int32) → Prop) : Nat → Int32 → (Nat → Int32) → Prop
  | 0, _, _ => False
  | f_3 + 1, a_5, t_calls => (a_4 ≤ a_5 → (kk t_calls)) ∧ (¬ a_4 ≤ a_5 → (((18 : Int32) < a_5 → (kk t_calls)) ∧ (¬ (18 : Int32) < a_5 → ((vp_in ((a_5 * (64 : Int32)) + a_1) 1216) ∧ (w_X4_fillBreaths_L3 a_1 a_2 a_4 post kk f_3 (a_5 + (1 : Int32)) (upd t_calls ((a_5 * (64 : Int32)) + a_1).toNatClampNeg a_2))))))
def w_X4_fillBreaths (t_calls : Nat → Int32) (a_1 : Int32) (a_2 : Int32) (a_3 : Int32) (a_4 : Int32) (post : (Nat → Int32) → Prop) : Prop := ∃ e_3, w_X4_fillBreaths_L3 a_1 a_2 a_4 post (fun (xx_6 : Nat → Int32) => post xx_6) e_3 a_3 t_calls
set_option maxHeartbeats 4000000 in
set_option maxRecDepth 100000 in
theorem m_X4_fillBreaths (l : Launch) (dC : Nat → ClassId) (dI : Nat → Nat → Nat) (cyI cyJ : ClassId) (aa : Nat → Nat) (sz : Nat) {s_lanes : Nat → Int32} {s_sizes : Nat → Int32} {s_cells : Nat → Int32} {x_kinds : Nat → Int32} {x_digits : Nat → Int32} {x_causes : Nat → Int32} {x_effects : Nat → Int32} {x_things : Int32} {x_follows : Int32} {x_due : Int32} {t_kinds : Nat → Int32} {t_digits : Nat → Int32} {t_caseRow : Nat → Int32} {t_weights : Nat → Int32} {t_order : Nat → Int32} {t_calls : Nat → Int32} {t_things : Int32} {t_caseCount : Int32} {t_caseSet : Int64} {p_callsOfCase : Nat → Int64} {p_partOfCase : Nat → Int32} {p_callsOfPart : Nat → Int64} {p_cases : Int32} {p_parts : Int32} {r_cases : Nat → Int32} {r_hours : Nat → Int32} {r_sets : Nat → Int32} {r_count : Int32} {u_lists : Nat → Int32} {u_breaths : Nat → Int32} {u_heard : Nat → Int32} {u_traced : Int32} {u_lastFault : Int32} {a_1 : Int32} {a_2 : Int32} {a_3 : Int32} {a_4 : Int32} {post : (Nat → Int32) → Prop} (h : w_X4_fillBreaths t_calls a_1 a_2 a_3 a_4 post) : Met l yX4_fillBreaths wsX4_fillBreaths (xq_R 0 0) (va_Pc [.ref (aa 10), .int a_1, .int a_2, .int a_3, .int a_4] (xq_P (dC, dI) [(cyI, .int), (cyJ, .long)] (wc_u cyI cyJ aa s_lanes s_sizes s_cells x_kinds x_digits x_causes x_effects x_things x_follows x_due t_kinds t_digits t_caseRow t_weights t_order t_calls t_things t_caseCount t_caseSet p_callsOfCase p_partOfCase p_callsOfPart p_cases p_parts r_cases r_hours r_sets r_count u_lists u_breaths u_heard u_traced u_lastFault) sz)) (va_Qv (fun (uu : (Nat → Int32)) => post uu) (fun (uu : (Nat → Int32)) => xq_B (dC, dI) [(cyI, .int), (cyJ, .long)] (va_A (wc_u cyI cyJ aa s_lanes s_sizes s_cells x_kinds x_digits x_causes x_effects x_things x_follows x_due t_kinds t_digits t_caseRow t_weights t_order t_calls t_things t_caseCount t_caseSet p_callsOfCase p_partOfCase p_callsOfPart p_cases p_parts r_cases r_hours r_sets r_count u_lists u_breaths u_heard u_traced u_lastFault) sz) (wc_u cyI cyJ aa s_lanes s_sizes s_cells x_kinds x_digits x_causes x_effects x_things x_follows x_due t_kinds t_digits t_caseRow t_weights t_order uu t_things t_caseCount t_caseSet p_callsOfCase p_partOfCase p_callsOfPart p_cases p_parts r_cases r_hours r_sets r_count u_lists u_breaths u_heard u_traced u_lastFault)) (va_A (wc_u cyI cyJ aa s_lanes s_sizes s_cells x_kinds x_digits x_causes x_effects x_things x_follows x_due t_kinds t_digits t_caseRow t_weights t_order t_calls t_things t_caseCount t_caseSet p_callsOfCase p_partOfCase p_callsOfPart p_cases p_parts r_cases r_hours r_sets r_count u_lists u_breaths u_heard u_traced u_lastFault) sz)) 0 0 (va_A (wc_u cyI cyJ aa s_lanes s_sizes s_cells x_kinds x_digits x_causes x_effects x_things x_follows x_due t_kinds t_digits t_caseRow t_weights t_order t_calls t_things t_caseCount t_caseSet p_callsOfCase p_partOfCase p_callsOfPart p_cases p_parts r_cases r_hours r_sets r_count u_lists u_breaths u_heard u_traced u_lastFault) sz) := by
  refine xq_M (cc := cX4_fillBreaths) (maxL := 6) (ret := none) (QA := fun A => va_Qv (fun (uu : (Nat → Int32)) => post uu) (fun (uu : (Nat → Int32)) => xq_B (dC, dI) [(cyI, .int), (cyJ, .long)] A (wc_u cyI cyJ aa s_lanes s_sizes s_cells x_kinds x_digits x_causes x_effects x_things x_follows x_due t_kinds t_digits t_caseRow t_weights t_order uu t_things t_caseCount t_caseSet p_callsOfCase p_partOfCase p_callsOfPart p_cases p_parts r_cases r_hours r_sets r_count u_lists u_breaths u_heard u_traced u_lastFault)) A) (by decide) rfl (Nat.le_of_ble_eq_true rfl) ?_
  intro p e s m args below meth c A ls Q hQ hx hb hr hml hts hown hlocks hsz hP hK hD hA hS hN hl
  subst hsz
  have hl : lv_has ls 6 [(0, .ref (aa 10)), (1, .int a_1), (2, .int a_2), (3, .int a_3), (4, .int a_4)] := hl
  have hi_X4 : ∀ w ∈ wsX40, w ∈ wsX4_fillBreaths := fun _ h => List.mem_cons_of_mem _ (List.mem_append_right _ h)
  have fl_27 := hts (.fieldLink RX4 27 "UnsaidCalls$Town" "calls" "[I") (by decide +kernel)
  unfold w_X4_fillBreaths at h
  refine lv_iload_n hx hb dX4_fillBreaths_0 rfl (lv_at hl 3 rfl) ?_
  refine lv_istore (lv' := [(5, .int a_3), (0, .ref (aa 10)), (1, .int a_1), (2, .int a_2), (3, .int a_3), (4, .int a_4)]) hx hb dX4_fillBreaths_1 hl (by decide) rfl (fun ls hl => ?_)
  obtain ⟨ni, h⟩ := h
  have lp_3 : ∀ (kk : (Nat → Int32) → Prop), (∀ (xx_6 : Nat → Int32) (H : Heap) (locs : List Loc) (ls : Array Slot), va_P (dC, dI) vwCl (wc_u cyI cyJ aa s_lanes s_sizes s_cells x_kinds x_digits x_causes x_effects x_things x_follows x_due t_kinds t_digits t_caseRow t_weights t_order xx_6 t_things t_caseCount t_caseSet p_callsOfCase p_partOfCase p_callsOfPart p_cases p_parts r_cases r_hours r_sets r_count u_lists u_breaths u_heard u_traced u_lastFault) H → va_D A (wc_u cyI cyJ aa s_lanes s_sizes s_cells x_kinds x_digits x_causes x_effects x_things x_follows x_due t_kinds t_digits t_caseRow t_weights t_order xx_6 t_things t_caseCount t_caseSet p_callsOfCase p_partOfCase p_callsOfPart p_cases p_parts r_cases r_hours r_sets r_count u_lists u_breaths u_heard u_traced u_lastFault) → va_S A s.heap H locs → lv_has ls 6 [] → kk xx_6 → W p l e (xq_R 0 0) s m args below meth c H locs 0 0 Q (F0 m 36 ls [])) → ∀ (ni : Nat) (aa_4 : Int32) (cc_5 : Nat → Int32) (H : Heap) (locs : List Loc) (ls : Array Slot), va_P (dC, dI) vwCl (wc_u cyI cyJ aa s_lanes s_sizes s_cells x_kinds x_digits x_causes x_effects x_things x_follows x_due t_kinds t_digits t_caseRow t_weights t_order cc_5 t_things t_caseCount t_caseSet p_callsOfCase p_partOfCase p_callsOfPart p_cases p_parts r_cases r_hours r_sets r_count u_lists u_breaths u_heard u_traced u_lastFault) H → va_D A (wc_u cyI cyJ aa s_lanes s_sizes s_cells x_kinds x_digits x_causes x_effects x_things x_follows x_due t_kinds t_digits t_caseRow t_weights t_order cc_5 t_things t_caseCount t_caseSet p_callsOfCase p_partOfCase p_callsOfPart p_cases p_parts r_cases r_hours r_sets r_count u_lists u_breaths u_heard u_traced u_lastFault) → va_S A s.heap H locs → lv_has ls 6 [(0, .ref (aa 10)), (1, .int a_1), (2, .int a_2), (4, .int a_4), (5, .int aa_4)] → w_X4_fillBreaths_L3 a_1 a_2 a_4 post kk ni aa_4 cc_5 → W p l e (xq_R 0 0) s m args below meth c H locs 0 0 Q (F0 m 3 ls []) := by
    intro kk kx ni
    induction ni with
    | zero => intros; exact False.elim (by assumption)
    | succ ni ih =>
      intro aa_4 cc_5 H locs ls hP hD hS hl h
      rw [w_X4_fillBreaths_L3] at h
      refine lv_iload hx hb dX4_fillBreaths_3 (lv_at hl 4 rfl) ?_
      refine lv_iload hx hb dX4_fillBreaths_5 (lv_at hl 3 rfl) ?_
      refine lv_icmp_ge (tgt := 36) hx hb dX4_fillBreaths_7 (by decide) (fun hc_9 => ?_) (fun hc_9 => ?_)
      · have h := h.1 hc_9
        exact kx cc_5 _ _ _ hP hD hS (lv_sub hl [] rfl) h
      · have h := h.2 hc_9
        refine lv_iload hx hb dX4_fillBreaths_10 (lv_at hl 4 rfl) ?_
        refine lv_bipush (v := (18 : Int32)) hx hb dX4_fillBreaths_12 (by decide) ?_
        refine lv_icmp_gt (tgt := 36) hx hb dX4_fillBreaths_14 (by decide) (fun hc_8 => ?_) (fun hc_8 => ?_)
        · have h := h.1 hc_8
          exact kx cc_5 _ _ _ hP hD hS (lv_sub hl [] rfl) h
        · have h := h.2 hc_8
          refine lv_aload_n hx hb dX4_fillBreaths_17 rfl (lv_at hl 0 rfl) ?_
          refine va_get (D := (dC, dI)) (ci := 4) (v := .ref (aa 16)) (C := RX4) (T := TX4) (N := 9) hx hb hts hi_X4 hown hK hP 10 rfl rfl 5 (by decide) fl_27 (fun _ h9 => h9) rfl dX4_fillBreaths_18 ?_
          refine lv_iload hx hb dX4_fillBreaths_21 (lv_at hl 4 rfl) ?_
          refine lv_bipush (v := (64 : Int32)) hx hb dX4_fillBreaths_23 (by decide) ?_
          refine lv_imul hx hb dX4_fillBreaths_25 ?_
          refine lv_iload_n hx hb dX4_fillBreaths_26 rfl (lv_at hl 1 rfl) ?_
          refine lv_iadd hx hb dX4_fillBreaths_27 ?_
          refine lv_iload_n hx hb dX4_fillBreaths_28 rfl (lv_at hl 2 rfl) ?_
          obtain ⟨hv_7, h⟩ := h
          refine va_iast hx hb hK hP hD hS 16 0 rfl rfl hv_7 dX4_fillBreaths_29 (fun H locs hP hD hS => ?_)
          have hP : va_P (dC, dI) vwCl (wc_u cyI cyJ aa s_lanes s_sizes s_cells x_kinds x_digits x_causes x_effects x_things x_follows x_due t_kinds t_digits t_caseRow t_weights t_order (upd cc_5 ((aa_4 * (64 : Int32)) + a_1).toNatClampNeg a_2) t_things t_caseCount t_caseSet p_callsOfCase p_partOfCase p_callsOfPart p_cases p_parts r_cases r_hours r_sets r_count u_lists u_breaths u_heard u_traced u_lastFault) H := hP
          have hD : va_D A (wc_u cyI cyJ aa s_lanes s_sizes s_cells x_kinds x_digits x_causes x_effects x_things x_follows x_due t_kinds t_digits t_caseRow t_weights t_order (upd cc_5 ((aa_4 * (64 : Int32)) + a_1).toNatClampNeg a_2) t_things t_caseCount t_caseSet p_callsOfCase p_partOfCase p_callsOfPart p_cases p_parts r_cases r_hours r_sets r_count u_lists u_breaths u_heard u_traced u_lastFault) := hD
          refine lv_iinc (v := (aa_4 + (1 : Int32))) (lv' := [(5, .int (aa_4 + (1 : Int32))), (0, .ref (aa 10)), (1, .int a_1), (2, .int a_2), (4, .int a_4)]) hx hb dX4_fillBreaths_30 hl (k := 4) rfl rfl (by decide) rfl (fun ls hl => ?_)
          refine lv_goto (tgt := 3) hx hb dX4_fillBreaths_33 (by decide) ?_
          exact ih (aa_4 + (1 : Int32)) (upd cc_5 ((aa_4 * (64 : Int32)) + a_1).toNatClampNeg a_2) _ _ _ hP hD hS (lv_sub hl [1, 2, 3, 4, 0] rfl) h
  refine lp_3 _ (fun xx_6 H locs ls hP hD hS hl h => ?_) ni a_3 t_calls _ _ _ hP hD hS (lv_sub hl [1, 2, 3, 5, 0] rfl) h
  exact xq_rv hQ hx hb hr hP hK hD hS xx_6 rfl h dX4_fillBreaths_36 hlocks
def w_X5_wordsOfKind (a_0 : Int32) (post : Int32 → Prop) : Prop := post (a_0 + (1 : Int32))
set_option maxHeartbeats 4000000 in
set_option maxRecDepth 100000 in
theorem m_X5_wordsOfKind (l : Launch) (dC : Nat → ClassId) (dI : Nat → Nat → Nat) (cyI cyJ : ClassId) (ww : va_W) (sz : Nat) {a_0 : Int32} {post : Int32 → Prop} (h : w_X5_wordsOfKind a_0 post) : Met l yX5_wordsOfKind wsX5_wordsOfKind (xq_R 0 0) (va_Pc [.int a_0] (xq_P (dC, dI) [(cyI, .int), (cyJ, .long)] ww sz)) (va_Qi (fun (rr : Int32) (uu : Unit) => post rr ) (fun (uu : Unit) => xq_B (dC, dI) [(cyI, .int), (cyJ, .long)] (va_A ww sz) ww) (va_A ww sz)) 0 0 (va_A ww sz) := by
  refine xq_M (cc := cX5_wordsOfKind) (maxL := 1) (ret := (some .int)) (QA := fun A => va_Qi (fun (rr : Int32) (uu : Unit) => post rr ) (fun (uu : Unit) => xq_B (dC, dI) [(cyI, .int), (cyJ, .long)] A ww) A) (by decide) rfl (Nat.le_of_ble_eq_true rfl) ?_
  intro p e s m args below meth c A ls Q hQ hx hb hr hml hts hown hlocks hsz hP hK hD hA hS hN hl
  subst hsz
  have hl : lv_has ls 1 [(0, .int a_0)] := hl
  unfold w_X5_wordsOfKind at h
  refine lv_iload_n hx hb dX5_wordsOfKind_0 rfl (lv_at hl 0 rfl) ?_
  refine lv_iconst (v := (1 : Int32)) hx hb dX5_wordsOfKind_1 (by decide) ?_
  refine lv_iadd hx hb dX5_wordsOfKind_2 ?_
  exact xq_ri hQ hx hb hr hP hK hD hS () rfl h dX5_wordsOfKind_3 hlocks
def w_X4_fillCalls_L7 (a_1 : Int32) (t_kinds : Nat → Int32) (t_order : Nat → Int32) (t_things : Int32) (post : (Nat → Int32) → Prop) (kk : Int32 → Int32 → (Nat → Int32) → Prop) : Nat → Int32 → Int32 → Int32 → (Nat → Int32) → Prop
  | 0, _, _, _, _ => False
  | f_7 + 1, a_2, a_3, a_4, t_calls => (t_things ≤ a_4 → (kk a_2 a_3 t_calls)) ∧ (¬ t_things ≤ a_4 → (((6 : Int32) ≤ a_4 → (kk a_2 a_3 t_calls)) ∧ (¬ (6 : Int32) ≤ a_4 → ((vp_in a_4 6) ∧ (w_X5_has a_1 (t_order a_4.toNatClampNeg) (fun (rr_2 : Int32) => (rr_2 = 0 → (w_X4_fillCalls_L7 a_1 t_kinds t_order t_things post kk f_7 a_2 a_3 (a_4 + (1 : Int32)) t_calls)) ∧ (¬ rr_2 = 0 → ((vp_in (t_order a_4.toNatClampNeg) 6) ∧ (w_X5_wordsOfKind (t_kinds (t_order a_4.toNatClampNeg).toNatClampNeg) (fun (rr_4 : Int32) => w_X4_fillBreaths t_calls a_1 a_2 a_3 (a_3 + rr_4) (fun (cc_5 : Nat → Int32) => w_X4_fillCalls_L7 a_1 t_kinds t_order t_things post kk f_7 (a_2 ||| ((1 : Int32) <<< ((t_order a_4.toNatClampNeg) &&& 31))) (a_3 + rr_4) (a_4 + (1 : Int32)) cc_5)))))))))))
def w_X4_fillCalls (t_kinds : Nat → Int32) (t_order : Nat → Int32) (t_calls : Nat → Int32) (t_things : Int32) (a_1 : Int32) (post : (Nat → Int32) → Prop) : Prop := ∃ e_7, w_X4_fillCalls_L7 a_1 t_kinds t_order t_things post (fun (xx_16 : Int32) (xx_17 : Int32) (xx_18 : Nat → Int32) => w_X4_fillBreaths xx_18 a_1 xx_16 xx_17 (19 : Int32) (fun (cc_19 : Nat → Int32) => post cc_19)) e_7 (0 : Int32) (0 : Int32) (0 : Int32) t_calls
set_option maxHeartbeats 4000000 in
set_option maxRecDepth 100000 in
theorem m_X4_fillCalls (l : Launch) (dC : Nat → ClassId) (dI : Nat → Nat → Nat) (cyI cyJ : ClassId) (aa : Nat → Nat) (sz : Nat) {s_lanes : Nat → Int32} {s_sizes : Nat → Int32} {s_cells : Nat → Int32} {x_kinds : Nat → Int32} {x_digits : Nat → Int32} {x_causes : Nat → Int32} {x_effects : Nat → Int32} {x_things : Int32} {x_follows : Int32} {x_due : Int32} {t_kinds : Nat → Int32} {t_digits : Nat → Int32} {t_caseRow : Nat → Int32} {t_weights : Nat → Int32} {t_order : Nat → Int32} {t_calls : Nat → Int32} {t_things : Int32} {t_caseCount : Int32} {t_caseSet : Int64} {p_callsOfCase : Nat → Int64} {p_partOfCase : Nat → Int32} {p_callsOfPart : Nat → Int64} {p_cases : Int32} {p_parts : Int32} {r_cases : Nat → Int32} {r_hours : Nat → Int32} {r_sets : Nat → Int32} {r_count : Int32} {u_lists : Nat → Int32} {u_breaths : Nat → Int32} {u_heard : Nat → Int32} {u_traced : Int32} {u_lastFault : Int32} {a_1 : Int32} {post : (Nat → Int32) → Prop} (h : w_X4_fillCalls t_kinds t_order t_calls t_things a_1 post) : Met l yX4_fillCalls wsX4_fillCalls (xq_R 1 25) (va_Pc [.ref (aa 10), .int a_1] (xq_P (dC, dI) [(cyI, .int), (cyJ, .long)] (wc_u cyI cyJ aa s_lanes s_sizes s_cells x_kinds x_digits x_causes x_effects x_things x_follows x_due t_kinds t_digits t_caseRow t_weights t_order t_calls t_things t_caseCount t_caseSet p_callsOfCase p_partOfCase p_callsOfPart p_cases p_parts r_cases r_hours r_sets r_count u_lists u_breaths u_heard u_traced u_lastFault) sz)) (va_Qv (fun (uu : (Nat → Int32)) => post uu) (fun (uu : (Nat → Int32)) => xq_B (dC, dI) [(cyI, .int), (cyJ, .long)] (va_A (wc_u cyI cyJ aa s_lanes s_sizes s_cells x_kinds x_digits x_causes x_effects x_things x_follows x_due t_kinds t_digits t_caseRow t_weights t_order t_calls t_things t_caseCount t_caseSet p_callsOfCase p_partOfCase p_callsOfPart p_cases p_parts r_cases r_hours r_sets r_count u_lists u_breaths u_heard u_traced u_lastFault) sz) (wc_u cyI cyJ aa s_lanes s_sizes s_cells x_kinds x_digits x_causes x_effects x_things x_follows x_due t_kinds t_digits t_caseRow t_weights t_order uu t_things t_caseCount t_caseSet p_callsOfCase p_partOfCase p_callsOfPart p_cases p_parts r_cases r_hours r_sets r_count u_lists u_breaths u_heard u_traced u_lastFault)) (va_A (wc_u cyI cyJ aa s_lanes s_sizes s_cells x_kinds x_digits x_causes x_effects x_things x_follows x_due t_kinds t_digits t_caseRow t_weights t_order t_calls t_things t_caseCount t_caseSet p_callsOfCase p_partOfCase p_callsOfPart p_cases p_parts r_cases r_hours r_sets r_count u_lists u_breaths u_heard u_traced u_lastFault) sz)) 0 0 (va_A (wc_u cyI cyJ aa s_lanes s_sizes s_cells x_kinds x_digits x_causes x_effects x_things x_follows x_due t_kinds t_digits t_caseRow t_weights t_order t_calls t_things t_caseCount t_caseSet p_callsOfCase p_partOfCase p_callsOfPart p_cases p_parts r_cases r_hours r_sets r_count u_lists u_breaths u_heard u_traced u_lastFault) sz) := by
  refine xq_M (cc := cX4_fillCalls) (maxL := 7) (ret := none) (QA := fun A => va_Qv (fun (uu : (Nat → Int32)) => post uu) (fun (uu : (Nat → Int32)) => xq_B (dC, dI) [(cyI, .int), (cyJ, .long)] A (wc_u cyI cyJ aa s_lanes s_sizes s_cells x_kinds x_digits x_causes x_effects x_things x_follows x_due t_kinds t_digits t_caseRow t_weights t_order uu t_things t_caseCount t_caseSet p_callsOfCase p_partOfCase p_callsOfPart p_cases p_parts r_cases r_hours r_sets r_count u_lists u_breaths u_heard u_traced u_lastFault)) A) (by decide) rfl (Nat.le_of_ble_eq_true rfl) ?_
  intro p e s m args below meth c A ls Q hQ hx hb hr hml hts hown hlocks hsz hP hK hD hA hS hN hl
  subst hsz
  have hl : lv_has ls 7 [(0, .ref (aa 10)), (1, .int a_1)] := hl
  have hi_X4 : ∀ w ∈ wsX40, w ∈ wsX4_fillCalls := fun _ h => List.mem_cons_of_mem _ (List.mem_append_right _ h)
  have fl_9 := hts (.fieldLink RX4 9 "UnsaidCalls$Town" "kinds" "[I") (by decide +kernel)
  have fl_24 := hts (.fieldLink RX4 24 "UnsaidCalls$Town" "order" "[I") (by decide +kernel)
  have fl_30 := hts (.fieldLink RX4 30 "UnsaidCalls$Town" "things" "I") (by decide +kernel)
  unfold w_X4_fillCalls at h
  refine lv_iconst (v := (0 : Int32)) hx hb dX4_fillCalls_0 (by decide) ?_
  refine lv_istore_n (lv' := [(2, .int (0 : Int32)), (0, .ref (aa 10)), (1, .int a_1)]) hx hb dX4_fillCalls_1 rfl hl (by decide) rfl (fun ls hl => ?_)
  refine lv_iconst (v := (0 : Int32)) hx hb dX4_fillCalls_2 (by decide) ?_
  refine lv_istore_n (lv' := [(3, .int (0 : Int32)), (2, .int (0 : Int32)), (0, .ref (aa 10)), (1, .int a_1)]) hx hb dX4_fillCalls_3 rfl hl (by decide) rfl (fun ls hl => ?_)
  refine lv_iconst (v := (0 : Int32)) hx hb dX4_fillCalls_4 (by decide) ?_
  refine lv_istore (lv' := [(4, .int (0 : Int32)), (3, .int (0 : Int32)), (2, .int (0 : Int32)), (0, .ref (aa 10)), (1, .int a_1)]) hx hb dX4_fillCalls_5 hl (by decide) rfl (fun ls hl => ?_)
  obtain ⟨ni, h⟩ := h
  have lp_7 : ∀ (kk : Int32 → Int32 → (Nat → Int32) → Prop), (∀ (xx_16 : Int32) (xx_17 : Int32) (xx_18 : Nat → Int32) (H : Heap) (locs : List Loc) (ls : Array Slot), va_P (dC, dI) vwCl (wc_u cyI cyJ aa s_lanes s_sizes s_cells x_kinds x_digits x_causes x_effects x_things x_follows x_due t_kinds t_digits t_caseRow t_weights t_order xx_18 t_things t_caseCount t_caseSet p_callsOfCase p_partOfCase p_callsOfPart p_cases p_parts r_cases r_hours r_sets r_count u_lists u_breaths u_heard u_traced u_lastFault) H → va_D A (wc_u cyI cyJ aa s_lanes s_sizes s_cells x_kinds x_digits x_causes x_effects x_things x_follows x_due t_kinds t_digits t_caseRow t_weights t_order xx_18 t_things t_caseCount t_caseSet p_callsOfCase p_partOfCase p_callsOfPart p_cases p_parts r_cases r_hours r_sets r_count u_lists u_breaths u_heard u_traced u_lastFault) → va_S A s.heap H locs → lv_has ls 7 [(0, .ref (aa 10)), (1, .int a_1), (2, .int xx_16), (3, .int xx_17)] → kk xx_16 xx_17 xx_18 → W p l e (xq_R 1 25) s m args below meth c H locs 0 0 Q (F0 m 80 ls [])) → ∀ (ni : Nat) (aa_12 : Int32) (aa_13 : Int32) (aa_14 : Int32) (cc_15 : Nat → Int32) (H : Heap) (locs : List Loc) (ls : Array Slot), va_P (dC, dI) vwCl (wc_u cyI cyJ aa s_lanes s_sizes s_cells x_kinds x_digits x_causes x_effects x_things x_follows x_due t_kinds t_digits t_caseRow t_weights t_order cc_15 t_things t_caseCount t_caseSet p_callsOfCase p_partOfCase p_callsOfPart p_cases p_parts r_cases r_hours r_sets r_count u_lists u_breaths u_heard u_traced u_lastFault) H → va_D A (wc_u cyI cyJ aa s_lanes s_sizes s_cells x_kinds x_digits x_causes x_effects x_things x_follows x_due t_kinds t_digits t_caseRow t_weights t_order cc_15 t_things t_caseCount t_caseSet p_callsOfCase p_partOfCase p_callsOfPart p_cases p_parts r_cases r_hours r_sets r_count u_lists u_breaths u_heard u_traced u_lastFault) → va_S A s.heap H locs → lv_has ls 7 [(0, .ref (aa 10)), (1, .int a_1), (2, .int aa_12), (3, .int aa_13), (4, .int aa_14)] → w_X4_fillCalls_L7 a_1 t_kinds t_order t_things post kk ni aa_12 aa_13 aa_14 cc_15 → W p l e (xq_R 1 25) s m args below meth c H locs 0 0 Q (F0 m 7 ls []) := by
    intro kk kx ni
    induction ni with
    | zero => intros; exact False.elim (by assumption)
    | succ ni ih =>
      intro aa_12 aa_13 aa_14 cc_15 H locs ls hP hD hS hl h
      rw [w_X4_fillCalls_L7] at h
      refine lv_iload hx hb dX4_fillCalls_7 (lv_at hl 4 rfl) ?_
      refine lv_aload_n hx hb dX4_fillCalls_9 rfl (lv_at hl 0 rfl) ?_
      refine va_get (D := (dC, dI)) (ci := 4) (v := .int t_things) (C := RX4) (T := TX4) (N := 9) hx hb hts hi_X4 hown hK hP 10 rfl rfl 6 (by decide) fl_30 (fun _ h9 => h9) rfl dX4_fillCalls_10 ?_
      refine lv_icmp_ge (tgt := 80) hx hb dX4_fillCalls_13 (by decide) (fun hc_31 => ?_) (fun hc_31 => ?_)
      · have h := h.1 hc_31
        exact kx aa_12 aa_13 cc_15 _ _ _ hP hD hS (lv_sub hl [0, 1, 2, 3] rfl) h
      · have h := h.2 hc_31
        refine lv_iload hx hb dX4_fillCalls_16 (lv_at hl 4 rfl) ?_
        refine lv_bipush (v := (6 : Int32)) hx hb dX4_fillCalls_18 (by decide) ?_
        refine lv_icmp_ge (tgt := 80) hx hb dX4_fillCalls_20 (by decide) (fun hc_30 => ?_) (fun hc_30 => ?_)
        · have h := h.1 hc_30
          exact kx aa_12 aa_13 cc_15 _ _ _ hP hD hS (lv_sub hl [0, 1, 2, 3] rfl) h
        · have h := h.2 hc_30
          refine lv_aload_n hx hb dX4_fillCalls_23 rfl (lv_at hl 0 rfl) ?_
          refine va_get (D := (dC, dI)) (ci := 4) (v := .ref (aa 15)) (C := RX4) (T := TX4) (N := 9) hx hb hts hi_X4 hown hK hP 10 rfl rfl 4 (by decide) fl_24 (fun _ h9 => h9) rfl dX4_fillCalls_24 ?_
          refine lv_iload hx hb dX4_fillCalls_27 (lv_at hl 4 rfl) ?_
          obtain ⟨hv_21, h⟩ := h
          refine va_iald hx hb hK hP 15 0 rfl rfl hv_21 dX4_fillCalls_29 ?_
          refine lv_istore (lv' := [(5, .int (t_order aa_14.toNatClampNeg)), (0, .ref (aa 10)), (1, .int a_1), (2, .int aa_12), (3, .int aa_13), (4, .int aa_14)]) hx hb dX4_fillCalls_30 hl (by decide) rfl (fun ls hl => ?_)
          refine lv_iload_n hx hb dX4_fillCalls_32 rfl (lv_at hl 2 rfl) ?_
          refine lv_iload hx hb dX4_fillCalls_33 (lv_at hl 0 rfl) ?_
          refine xq_ci (va_runSN (As := [.int a_1, .int (t_order aa_14.toNatClampNeg)]) (rest := []) ⟨hx, hb, hml, hown, hts⟩ (m_X5_has l dC dI cyI cyJ (wc_u cyI cyJ aa s_lanes s_sizes s_cells x_kinds x_digits x_causes x_effects x_things x_follows x_due t_kinds t_digits t_caseRow t_weights t_order cc_15 t_things t_caseCount t_caseSet p_callsOfCase p_partOfCase p_callsOfPart p_cases p_parts r_cases r_hours r_sets r_count u_lists u_breaths u_heard u_traced u_lastFault) H.size h) ⟨va_cnB 2 hts ggX4_fillCalls_X5_has rfl rfl rfl hN.2.1 (hts (.initialized RX5) (by decide +kernel)) (by decide +kernel) ⟨Nat.le_of_ble_eq_true rfl, Nat.le_of_ble_eq_true rfl⟩, hts (.static yX5_has) (by decide +kernel), trivial⟩ (xq_preS hK hP hD hN) rfl rfl hl.1 rfl (lv_room (Nat.le_of_ble_eq_true rfl)) dX4_fillCalls_35 ⟨Nat.le_refl _, Nat.le_refl _⟩) hD hS hA (fun rr_22 uu H locs h hP hD hS => ?_)
          have hP : va_P (dC, dI) vwCl (wc_u cyI cyJ aa s_lanes s_sizes s_cells x_kinds x_digits x_causes x_effects x_things x_follows x_due t_kinds t_digits t_caseRow t_weights t_order cc_15 t_things t_caseCount t_caseSet p_callsOfCase p_partOfCase p_callsOfPart p_cases p_parts r_cases r_hours r_sets r_count u_lists u_breaths u_heard u_traced u_lastFault) H := hP
          have hD : va_D A (wc_u cyI cyJ aa s_lanes s_sizes s_cells x_kinds x_digits x_causes x_effects x_things x_follows x_due t_kinds t_digits t_caseRow t_weights t_order cc_15 t_things t_caseCount t_caseSet p_callsOfCase p_partOfCase p_callsOfPart p_cases p_parts r_cases r_hours r_sets r_count u_lists u_breaths u_heard u_traced u_lastFault) := hD
          refine lv_if_eq (tgt := 74) hx hb dX4_fillCalls_38 (by decide) (fun hc_28 => ?_) (fun hc_28 => ?_)
          · have h := h.1 hc_28
            refine lv_iinc (v := (aa_14 + (1 : Int32))) (lv' := [(4, .int (aa_14 + (1 : Int32))), (5, .int (t_order aa_14.toNatClampNeg)), (0, .ref (aa 10)), (1, .int a_1), (2, .int aa_12), (3, .int aa_13)]) hx hb dX4_fillCalls_74 hl (k := 5) rfl rfl (by decide) rfl (fun ls hl => ?_)
            refine lv_goto (tgt := 7) hx hb dX4_fillCalls_77 (by decide) ?_
            exact ih aa_12 aa_13 (aa_14 + (1 : Int32)) cc_15 _ _ _ hP hD hS (lv_sub hl [2, 3, 4, 5, 0] rfl) h
          · have h := h.2 hc_28
            refine lv_iload_n hx hb dX4_fillCalls_41 rfl (lv_at hl 4 rfl) ?_
            refine lv_aload_n hx hb dX4_fillCalls_42 rfl (lv_at hl 1 rfl) ?_
            refine va_get (D := (dC, dI)) (ci := 4) (v := .ref (aa 11)) (C := RX4) (T := TX4) (N := 9) hx hb hts hi_X4 hown hK hP 10 rfl rfl 0 (by decide) fl_9 (fun _ h9 => h9) rfl dX4_fillCalls_43 ?_
            refine lv_iload hx hb dX4_fillCalls_46 (lv_at hl 0 rfl) ?_
            obtain ⟨hv_23, h⟩ := h
            refine va_iald hx hb hK hP 11 0 rfl rfl hv_23 dX4_fillCalls_48 ?_
            refine xq_ci (va_runSN (As := [.int (t_kinds (t_order aa_14.toNatClampNeg).toNatClampNeg)]) (rest := [.int aa_13]) ⟨hx, hb, hml, hown, hts⟩ (m_X5_wordsOfKind l dC dI cyI cyJ (wc_u cyI cyJ aa s_lanes s_sizes s_cells x_kinds x_digits x_causes x_effects x_things x_follows x_due t_kinds t_digits t_caseRow t_weights t_order cc_15 t_things t_caseCount t_caseSet p_callsOfCase p_partOfCase p_callsOfPart p_cases p_parts r_cases r_hours r_sets r_count u_lists u_breaths u_heard u_traced u_lastFault) H.size h) ⟨va_cnB 1 hts ggX4_fillCalls_X5_wordsOfKind rfl rfl rfl hN.2.2 (hts (.initialized RX5) (by decide +kernel)) (by decide +kernel) ⟨Nat.le_of_ble_eq_true rfl, Nat.le_of_ble_eq_true rfl⟩, hts (.static yX5_wordsOfKind) (by decide +kernel), trivial⟩ (xq_preS hK hP hD hN) rfl rfl hl.1 rfl (lv_room (Nat.le_of_ble_eq_true rfl)) dX4_fillCalls_49 ⟨Nat.le_refl _, Nat.le_refl _⟩) hD hS hA (fun rr_24 uu H locs h hP hD hS => ?_)
            have hP : va_P (dC, dI) vwCl (wc_u cyI cyJ aa s_lanes s_sizes s_cells x_kinds x_digits x_causes x_effects x_things x_follows x_due t_kinds t_digits t_caseRow t_weights t_order cc_15 t_things t_caseCount t_caseSet p_callsOfCase p_partOfCase p_callsOfPart p_cases p_parts r_cases r_hours r_sets r_count u_lists u_breaths u_heard u_traced u_lastFault) H := hP
            have hD : va_D A (wc_u cyI cyJ aa s_lanes s_sizes s_cells x_kinds x_digits x_causes x_effects x_things x_follows x_due t_kinds t_digits t_caseRow t_weights t_order cc_15 t_things t_caseCount t_caseSet p_callsOfCase p_partOfCase p_callsOfPart p_cases p_parts r_cases r_hours r_sets r_count u_lists u_breaths u_heard u_traced u_lastFault) := hD
            refine lv_iadd hx hb dX4_fillCalls_52 ?_
            refine lv_istore (lv' := [(6, .int (aa_13 + rr_24)), (5, .int (t_order aa_14.toNatClampNeg)), (0, .ref (aa 10)), (1, .int a_1), (2, .int aa_12), (3, .int aa_13), (4, .int aa_14)]) hx hb dX4_fillCalls_53 hl (by decide) rfl (fun ls hl => ?_)
            refine lv_aload_n hx hb dX4_fillCalls_55 rfl (lv_at hl 2 rfl) ?_
            refine lv_iload_n hx hb dX4_fillCalls_56 rfl (lv_at hl 3 rfl) ?_
            refine lv_iload_n hx hb dX4_fillCalls_57 rfl (lv_at hl 4 rfl) ?_
            refine lv_iload_n hx hb dX4_fillCalls_58 rfl (lv_at hl 5 rfl) ?_
            refine lv_iload hx hb dX4_fillCalls_59 (lv_at hl 0 rfl) ?_
            refine xq_cv (va_runV (As := [.int a_1, .int aa_12, .int aa_13, .int (aa_13 + rr_24)]) (rest := []) ⟨hx, hb, hml, hown, hts⟩ (m_X4_fillBreaths l dC dI cyI cyJ aa H.size h) (cwV 4 hts gX4_fillCalls_X4_fillBreaths rfl rfl rfl (by decide +kernel) ⟨Nat.le_of_ble_eq_true rfl, Nat.le_of_ble_eq_true rfl⟩) (xq_preV hK hP hD hN (ci := 4) (q0 := 10) rfl rfl) rfl rfl hl.1 rfl (lv_room (Nat.le_of_ble_eq_true rfl)) dX4_fillCalls_61 ⟨Nat.le_refl _, Nat.le_refl _⟩) hD hS hA (fun uu H locs h hP hD hS => ?_)
            obtain ⟨cc_25, rfl⟩ : ∃ z, z = uu := ⟨_, rfl⟩
            have hP : va_P (dC, dI) vwCl (wc_u cyI cyJ aa s_lanes s_sizes s_cells x_kinds x_digits x_causes x_effects x_things x_follows x_due t_kinds t_digits t_caseRow t_weights t_order cc_25 t_things t_caseCount t_caseSet p_callsOfCase p_partOfCase p_callsOfPart p_cases p_parts r_cases r_hours r_sets r_count u_lists u_breaths u_heard u_traced u_lastFault) H := hP
            have hD : va_D A (wc_u cyI cyJ aa s_lanes s_sizes s_cells x_kinds x_digits x_causes x_effects x_things x_follows x_due t_kinds t_digits t_caseRow t_weights t_order cc_25 t_things t_caseCount t_caseSet p_callsOfCase p_partOfCase p_callsOfPart p_cases p_parts r_cases r_hours r_sets r_count u_lists u_breaths u_heard u_traced u_lastFault) := hD
            refine lv_iload_n hx hb dX4_fillCalls_64 rfl (lv_at hl 4 rfl) ?_
            refine lv_iconst (v := (1 : Int32)) hx hb dX4_fillCalls_65 (by decide) ?_
            refine lv_iload hx hb dX4_fillCalls_66 (lv_at hl 1 rfl) ?_
            refine lv_ishl hx hb dX4_fillCalls_68 ?_
            refine lv_ior hx hb dX4_fillCalls_69 ?_
            refine lv_istore_n (lv' := [(2, .int (aa_12 ||| ((1 : Int32) <<< ((t_order aa_14.toNatClampNeg) &&& 31)))), (6, .int (aa_13 + rr_24)), (5, .int (t_order aa_14.toNatClampNeg)), (0, .ref (aa 10)), (1, .int a_1), (3, .int aa_13), (4, .int aa_14)]) hx hb dX4_fillCalls_70 rfl hl (by decide) rfl (fun ls hl => ?_)
            refine lv_iload hx hb dX4_fillCalls_71 (lv_at hl 1 rfl) ?_
            refine lv_istore_n (lv' := [(3, .int (aa_13 + rr_24)), (2, .int (aa_12 ||| ((1 : Int32) <<< ((t_order aa_14.toNatClampNeg) &&& 31)))), (6, .int (aa_13 + rr_24)), (5, .int (t_order aa_14.toNatClampNeg)), (0, .ref (aa 10)), (1, .int a_1), (4, .int aa_14)]) hx hb dX4_fillCalls_73 rfl hl (by decide) rfl (fun ls hl => ?_)
            refine lv_iinc (v := (aa_14 + (1 : Int32))) (lv' := [(4, .int (aa_14 + (1 : Int32))), (3, .int (aa_13 + rr_24)), (2, .int (aa_12 ||| ((1 : Int32) <<< ((t_order aa_14.toNatClampNeg) &&& 31)))), (6, .int (aa_13 + rr_24)), (5, .int (t_order aa_14.toNatClampNeg)), (0, .ref (aa 10)), (1, .int a_1)]) hx hb dX4_fillCalls_74 hl (k := 6) rfl rfl (by decide) rfl (fun ls hl => ?_)
            refine lv_goto (tgt := 7) hx hb dX4_fillCalls_77 (by decide) ?_
            exact ih (aa_12 ||| ((1 : Int32) <<< ((t_order aa_14.toNatClampNeg) &&& 31))) (aa_13 + rr_24) (aa_14 + (1 : Int32)) cc_25 _ _ _ hP hD hS (lv_sub hl [5, 6, 2, 1, 0] rfl) h
  refine lp_7 _ (fun xx_16 xx_17 xx_18 H locs ls hP hD hS hl h => ?_) ni (0 : Int32) (0 : Int32) (0 : Int32) t_calls _ _ _ hP hD hS (lv_sub hl [3, 4, 2, 1, 0] rfl) h
  refine lv_aload_n hx hb dX4_fillCalls_80 rfl (lv_at hl 0 rfl) ?_
  refine lv_iload_n hx hb dX4_fillCalls_81 rfl (lv_at hl 1 rfl) ?_
  refine lv_iload_n hx hb dX4_fillCalls_82 rfl (lv_at hl 2 rfl) ?_
  refine lv_iload_n hx hb dX4_fillCalls_83 rfl (lv_at hl 3 rfl) ?_
  refine lv_bipush (v := (19 : Int32)) hx hb dX4_fillCalls_84 (by decide) ?_
  refine xq_cv (va_runV (As := [.int a_1, .int xx_16, .int xx_17, .int (19 : Int32)]) (rest := []) ⟨hx, hb, hml, hown, hts⟩ (m_X4_fillBreaths l dC dI cyI cyJ aa H.size h) (cwV 4 hts gX4_fillCalls_X4_fillBreaths rfl rfl rfl (by decide +kernel) ⟨Nat.le_of_ble_eq_true rfl, Nat.le_of_ble_eq_true rfl⟩) (xq_preV hK hP hD hN (ci := 4) (q0 := 10) rfl rfl) rfl rfl hl.1 rfl (lv_room (Nat.le_of_ble_eq_true rfl)) dX4_fillCalls_86 ⟨Nat.le_refl _, Nat.le_refl _⟩) hD hS hA (fun uu H locs h hP hD hS => ?_)
  obtain ⟨cc_19, rfl⟩ : ∃ z, z = uu := ⟨_, rfl⟩
  have hP : va_P (dC, dI) vwCl (wc_u cyI cyJ aa s_lanes s_sizes s_cells x_kinds x_digits x_causes x_effects x_things x_follows x_due t_kinds t_digits t_caseRow t_weights t_order cc_19 t_things t_caseCount t_caseSet p_callsOfCase p_partOfCase p_callsOfPart p_cases p_parts r_cases r_hours r_sets r_count u_lists u_breaths u_heard u_traced u_lastFault) H := hP
  have hD : va_D A (wc_u cyI cyJ aa s_lanes s_sizes s_cells x_kinds x_digits x_causes x_effects x_things x_follows x_due t_kinds t_digits t_caseRow t_weights t_order cc_19 t_things t_caseCount t_caseSet p_callsOfCase p_partOfCase p_callsOfPart p_cases p_parts r_cases r_hours r_sets r_count u_lists u_breaths u_heard u_traced u_lastFault) := hD
  exact xq_rv hQ hx hb hr hP hK hD hS cc_19 rfl h dX4_fillCalls_89 hlocks
def w_X4_weigh_L4 (a_1 : Int32) (t_digits : Nat → Int32) (t_things : Int32) (post : Int32 → Prop) (kk : Int32 → Prop) : Nat → Int32 → Int32 → Prop
  | 0, _, _ => False
  | f_4 + 1, a_2, a_3 => (t_things ≤ a_3 → (kk a_2)) ∧ (¬ t_things ≤ a_3 → (((6 : Int32) ≤ a_3 → (kk a_2)) ∧ (¬ (6 : Int32) ≤ a_3 → (w_X5_has a_1 a_3 (fun (rr_1 : Int32) => (rr_1 = 0 → ((vp_in a_3 6) ∧ (w_X4_weigh_L4 a_1 t_digits t_things post kk f_4 (a_2 * ((10 : Int32) - (t_digits a_3.toNatClampNeg))) (a_3 + (1 : Int32))))) ∧ (¬ rr_1 = 0 → ((vp_in a_3 6) ∧ (w_X4_weigh_L4 a_1 t_digits t_things post kk f_4 (a_2 * (t_digits a_3.toNatClampNeg)) (a_3 + (1 : Int32))))))))))
def w_X4_weigh (t_digits : Nat → Int32) (t_things : Int32) (a_1 : Int32) (post : Int32 → Prop) : Prop := ∃ e_4, w_X4_weigh_L4 a_1 t_digits t_things post (fun (xx_10 : Int32) => post xx_10) e_4 (1 : Int32) (0 : Int32)
set_option maxHeartbeats 4000000 in
set_option maxRecDepth 100000 in
theorem m_X4_weigh (l : Launch) (dC : Nat → ClassId) (dI : Nat → Nat → Nat) (cyI cyJ : ClassId) (aa : Nat → Nat) (sz : Nat) {s_lanes : Nat → Int32} {s_sizes : Nat → Int32} {s_cells : Nat → Int32} {x_kinds : Nat → Int32} {x_digits : Nat → Int32} {x_causes : Nat → Int32} {x_effects : Nat → Int32} {x_things : Int32} {x_follows : Int32} {x_due : Int32} {t_kinds : Nat → Int32} {t_digits : Nat → Int32} {t_caseRow : Nat → Int32} {t_weights : Nat → Int32} {t_order : Nat → Int32} {t_calls : Nat → Int32} {t_things : Int32} {t_caseCount : Int32} {t_caseSet : Int64} {p_callsOfCase : Nat → Int64} {p_partOfCase : Nat → Int32} {p_callsOfPart : Nat → Int64} {p_cases : Int32} {p_parts : Int32} {r_cases : Nat → Int32} {r_hours : Nat → Int32} {r_sets : Nat → Int32} {r_count : Int32} {u_lists : Nat → Int32} {u_breaths : Nat → Int32} {u_heard : Nat → Int32} {u_traced : Int32} {u_lastFault : Int32} {a_1 : Int32} {post : Int32 → Prop} (h : w_X4_weigh t_digits t_things a_1 post) : Met l yX4_weigh wsX4_weigh (xq_R 1 21) (va_Pc [.ref (aa 10), .int a_1] (xq_P (dC, dI) [(cyI, .int), (cyJ, .long)] (wc_u cyI cyJ aa s_lanes s_sizes s_cells x_kinds x_digits x_causes x_effects x_things x_follows x_due t_kinds t_digits t_caseRow t_weights t_order t_calls t_things t_caseCount t_caseSet p_callsOfCase p_partOfCase p_callsOfPart p_cases p_parts r_cases r_hours r_sets r_count u_lists u_breaths u_heard u_traced u_lastFault) sz)) (va_Qi (fun (rr : Int32) (uu : Unit) => post rr ) (fun (uu : Unit) => xq_B (dC, dI) [(cyI, .int), (cyJ, .long)] (va_A (wc_u cyI cyJ aa s_lanes s_sizes s_cells x_kinds x_digits x_causes x_effects x_things x_follows x_due t_kinds t_digits t_caseRow t_weights t_order t_calls t_things t_caseCount t_caseSet p_callsOfCase p_partOfCase p_callsOfPart p_cases p_parts r_cases r_hours r_sets r_count u_lists u_breaths u_heard u_traced u_lastFault) sz) (wc_u cyI cyJ aa s_lanes s_sizes s_cells x_kinds x_digits x_causes x_effects x_things x_follows x_due t_kinds t_digits t_caseRow t_weights t_order t_calls t_things t_caseCount t_caseSet p_callsOfCase p_partOfCase p_callsOfPart p_cases p_parts r_cases r_hours r_sets r_count u_lists u_breaths u_heard u_traced u_lastFault)) (va_A (wc_u cyI cyJ aa s_lanes s_sizes s_cells x_kinds x_digits x_causes x_effects x_things x_follows x_due t_kinds t_digits t_caseRow t_weights t_order t_calls t_things t_caseCount t_caseSet p_callsOfCase p_partOfCase p_callsOfPart p_cases p_parts r_cases r_hours r_sets r_count u_lists u_breaths u_heard u_traced u_lastFault) sz)) 0 0 (va_A (wc_u cyI cyJ aa s_lanes s_sizes s_cells x_kinds x_digits x_causes x_effects x_things x_follows x_due t_kinds t_digits t_caseRow t_weights t_order t_calls t_things t_caseCount t_caseSet p_callsOfCase p_partOfCase p_callsOfPart p_cases p_parts r_cases r_hours r_sets r_count u_lists u_breaths u_heard u_traced u_lastFault) sz) := by
  refine xq_M (cc := cX4_weigh) (maxL := 4) (ret := (some .int)) (QA := fun A => va_Qi (fun (rr : Int32) (uu : Unit) => post rr ) (fun (uu : Unit) => xq_B (dC, dI) [(cyI, .int), (cyJ, .long)] A (wc_u cyI cyJ aa s_lanes s_sizes s_cells x_kinds x_digits x_causes x_effects x_things x_follows x_due t_kinds t_digits t_caseRow t_weights t_order t_calls t_things t_caseCount t_caseSet p_callsOfCase p_partOfCase p_callsOfPart p_cases p_parts r_cases r_hours r_sets r_count u_lists u_breaths u_heard u_traced u_lastFault)) A) (by decide) rfl (Nat.le_of_ble_eq_true rfl) ?_
  intro p e s m args below meth c A ls Q hQ hx hb hr hml hts hown hlocks hsz hP hK hD hA hS hN hl
  subst hsz
  have hl : lv_has ls 4 [(0, .ref (aa 10)), (1, .int a_1)] := hl
  have hi_X4 : ∀ w ∈ wsX40, w ∈ wsX4_weigh := fun _ h => List.mem_cons_of_mem _ (List.mem_append_right _ h)
  have fl_15 := hts (.fieldLink RX4 15 "UnsaidCalls$Town" "digits" "[I") (by decide +kernel)
  have fl_30 := hts (.fieldLink RX4 30 "UnsaidCalls$Town" "things" "I") (by decide +kernel)
  unfold w_X4_weigh at h
  refine lv_iconst (v := (1 : Int32)) hx hb dX4_weigh_0 (by decide) ?_
  refine lv_istore_n (lv' := [(2, .int (1 : Int32)), (0, .ref (aa 10)), (1, .int a_1)]) hx hb dX4_weigh_1 rfl hl (by decide) rfl (fun ls hl => ?_)
  refine lv_iconst (v := (0 : Int32)) hx hb dX4_weigh_2 (by decide) ?_
  refine lv_istore_n (lv' := [(3, .int (0 : Int32)), (2, .int (1 : Int32)), (0, .ref (aa 10)), (1, .int a_1)]) hx hb dX4_weigh_3 rfl hl (by decide) rfl (fun ls hl => ?_)
  obtain ⟨ni, h⟩ := h
  have lp_4 : ∀ (kk : Int32 → Prop), (∀ (xx_10 : Int32) (H : Heap) (locs : List Loc) (ls : Array Slot), va_P (dC, dI) vwCl (wc_u cyI cyJ aa s_lanes s_sizes s_cells x_kinds x_digits x_causes x_effects x_things x_follows x_due t_kinds t_digits t_caseRow t_weights t_order t_calls t_things t_caseCount t_caseSet p_callsOfCase p_partOfCase p_callsOfPart p_cases p_parts r_cases r_hours r_sets r_count u_lists u_breaths u_heard u_traced u_lastFault) H → va_D A (wc_u cyI cyJ aa s_lanes s_sizes s_cells x_kinds x_digits x_causes x_effects x_things x_follows x_due t_kinds t_digits t_caseRow t_weights t_order t_calls t_things t_caseCount t_caseSet p_callsOfCase p_partOfCase p_callsOfPart p_cases p_parts r_cases r_hours r_sets r_count u_lists u_breaths u_heard u_traced u_lastFault) → va_S A s.heap H locs → lv_has ls 4 [(2, .int xx_10)] → kk xx_10 → W p l e (xq_R 1 21) s m args below meth c H locs 0 0 Q (F0 m 53 ls [])) → ∀ (ni : Nat) (aa_8 : Int32) (aa_9 : Int32) (H : Heap) (locs : List Loc) (ls : Array Slot), va_P (dC, dI) vwCl (wc_u cyI cyJ aa s_lanes s_sizes s_cells x_kinds x_digits x_causes x_effects x_things x_follows x_due t_kinds t_digits t_caseRow t_weights t_order t_calls t_things t_caseCount t_caseSet p_callsOfCase p_partOfCase p_callsOfPart p_cases p_parts r_cases r_hours r_sets r_count u_lists u_breaths u_heard u_traced u_lastFault) H → va_D A (wc_u cyI cyJ aa s_lanes s_sizes s_cells x_kinds x_digits x_causes x_effects x_things x_follows x_due t_kinds t_digits t_caseRow t_weights t_order t_calls t_things t_caseCount t_caseSet p_callsOfCase p_partOfCase p_callsOfPart p_cases p_parts r_cases r_hours r_sets r_count u_lists u_breaths u_heard u_traced u_lastFault) → va_S A s.heap H locs → lv_has ls 4 [(0, .ref (aa 10)), (1, .int a_1), (2, .int aa_8), (3, .int aa_9)] → w_X4_weigh_L4 a_1 t_digits t_things post kk ni aa_8 aa_9 → W p l e (xq_R 1 21) s m args below meth c H locs 0 0 Q (F0 m 4 ls []) := by
    intro kk kx ni
    induction ni with
    | zero => intros; exact False.elim (by assumption)
    | succ ni ih =>
      intro aa_8 aa_9 H locs ls hP hD hS hl h
      rw [w_X4_weigh_L4] at h
      refine lv_iload_n hx hb dX4_weigh_4 rfl (lv_at hl 3 rfl) ?_
      refine lv_aload_n hx hb dX4_weigh_5 rfl (lv_at hl 0 rfl) ?_
      refine va_get (D := (dC, dI)) (ci := 4) (v := .int t_things) (C := RX4) (T := TX4) (N := 9) hx hb hts hi_X4 hown hK hP 10 rfl rfl 6 (by decide) fl_30 (fun _ h9 => h9) rfl dX4_weigh_6 ?_
      refine lv_icmp_ge (tgt := 53) hx hb dX4_weigh_9 (by decide) (fun hc_17 => ?_) (fun hc_17 => ?_)
      · have h := h.1 hc_17
        exact kx aa_8 _ _ _ hP hD hS (lv_sub hl [2] rfl) h
      · have h := h.2 hc_17
        refine lv_iload_n hx hb dX4_weigh_12 rfl (lv_at hl 3 rfl) ?_
        refine lv_bipush (v := (6 : Int32)) hx hb dX4_weigh_13 (by decide) ?_
        refine lv_icmp_ge (tgt := 53) hx hb dX4_weigh_15 (by decide) (fun hc_16 => ?_) (fun hc_16 => ?_)
        · have h := h.1 hc_16
          exact kx aa_8 _ _ _ hP hD hS (lv_sub hl [2] rfl) h
        · have h := h.2 hc_16
          refine lv_iload_n hx hb dX4_weigh_18 rfl (lv_at hl 2 rfl) ?_
          refine lv_iload_n hx hb dX4_weigh_19 rfl (lv_at hl 1 rfl) ?_
          refine lv_iload_n hx hb dX4_weigh_20 rfl (lv_at hl 3 rfl) ?_
          refine xq_ci (va_runSN (As := [.int a_1, .int aa_9]) (rest := [.int aa_8]) ⟨hx, hb, hml, hown, hts⟩ (m_X5_has l dC dI cyI cyJ (wc_u cyI cyJ aa s_lanes s_sizes s_cells x_kinds x_digits x_causes x_effects x_things x_follows x_due t_kinds t_digits t_caseRow t_weights t_order t_calls t_things t_caseCount t_caseSet p_callsOfCase p_partOfCase p_callsOfPart p_cases p_parts r_cases r_hours r_sets r_count u_lists u_breaths u_heard u_traced u_lastFault) H.size h) ⟨va_cnB 2 hts ggX4_weigh_X5_has rfl rfl rfl hN.2.1 (hts (.initialized RX5) (by decide +kernel)) (by decide +kernel) ⟨Nat.le_of_ble_eq_true rfl, Nat.le_of_ble_eq_true rfl⟩, hts (.static yX5_has) (by decide +kernel), trivial⟩ (xq_preS hK hP hD hN) rfl rfl hl.1 rfl (lv_room (Nat.le_of_ble_eq_true rfl)) dX4_weigh_21 ⟨Nat.le_refl _, Nat.le_refl _⟩) hD hS hA (fun rr_11 uu H locs h hP hD hS => ?_)
          have hP : va_P (dC, dI) vwCl (wc_u cyI cyJ aa s_lanes s_sizes s_cells x_kinds x_digits x_causes x_effects x_things x_follows x_due t_kinds t_digits t_caseRow t_weights t_order t_calls t_things t_caseCount t_caseSet p_callsOfCase p_partOfCase p_callsOfPart p_cases p_parts r_cases r_hours r_sets r_count u_lists u_breaths u_heard u_traced u_lastFault) H := hP
          have hD : va_D A (wc_u cyI cyJ aa s_lanes s_sizes s_cells x_kinds x_digits x_causes x_effects x_things x_follows x_due t_kinds t_digits t_caseRow t_weights t_order t_calls t_things t_caseCount t_caseSet p_callsOfCase p_partOfCase p_callsOfPart p_cases p_parts r_cases r_hours r_sets r_count u_lists u_breaths u_heard u_traced u_lastFault) := hD
          refine lv_if_eq (tgt := 36) hx hb dX4_weigh_24 (by decide) (fun hc_14 => ?_) (fun hc_14 => ?_)
          · have h := h.1 hc_14
            refine lv_bipush (v := (10 : Int32)) hx hb dX4_weigh_36 (by decide) ?_
            refine lv_aload_n hx hb dX4_weigh_38 rfl (lv_at hl 0 rfl) ?_
            refine va_get (D := (dC, dI)) (ci := 4) (v := .ref (aa 12)) (C := RX4) (T := TX4) (N := 9) hx hb hts hi_X4 hown hK hP 10 rfl rfl 1 (by decide) fl_15 (fun _ h9 => h9) rfl dX4_weigh_39 ?_
            refine lv_iload_n hx hb dX4_weigh_42 rfl (lv_at hl 3 rfl) ?_
            obtain ⟨hv_12, h⟩ := h
            refine va_iald hx hb hK hP 12 0 rfl rfl hv_12 dX4_weigh_43 ?_
            refine lv_isub hx hb dX4_weigh_44 ?_
            refine lv_imul hx hb dX4_weigh_45 ?_
            refine lv_istore_n (lv' := [(2, .int (aa_8 * ((10 : Int32) - (t_digits aa_9.toNatClampNeg)))), (0, .ref (aa 10)), (1, .int a_1), (3, .int aa_9)]) hx hb dX4_weigh_46 rfl hl (by decide) rfl (fun ls hl => ?_)
            refine lv_iinc (v := (aa_9 + (1 : Int32))) (lv' := [(3, .int (aa_9 + (1 : Int32))), (2, .int (aa_8 * ((10 : Int32) - (t_digits aa_9.toNatClampNeg)))), (0, .ref (aa 10)), (1, .int a_1)]) hx hb dX4_weigh_47 hl (k := 3) rfl rfl (by decide) rfl (fun ls hl => ?_)
            refine lv_goto (tgt := 4) hx hb dX4_weigh_50 (by decide) ?_
            exact ih (aa_8 * ((10 : Int32) - (t_digits aa_9.toNatClampNeg))) (aa_9 + (1 : Int32)) _ _ _ hP hD hS (lv_sub hl [2, 3, 1, 0] rfl) h
          · have h := h.2 hc_14
            refine lv_aload_n hx hb dX4_weigh_27 rfl (lv_at hl 0 rfl) ?_
            refine va_get (D := (dC, dI)) (ci := 4) (v := .ref (aa 12)) (C := RX4) (T := TX4) (N := 9) hx hb hts hi_X4 hown hK hP 10 rfl rfl 1 (by decide) fl_15 (fun _ h9 => h9) rfl dX4_weigh_28 ?_
            refine lv_iload_n hx hb dX4_weigh_31 rfl (lv_at hl 3 rfl) ?_
            obtain ⟨hv_13, h⟩ := h
            refine va_iald hx hb hK hP 12 0 rfl rfl hv_13 dX4_weigh_32 ?_
            refine lv_goto (tgt := 45) hx hb dX4_weigh_33 (by decide) ?_
            refine lv_imul hx hb dX4_weigh_45 ?_
            refine lv_istore_n (lv' := [(2, .int (aa_8 * (t_digits aa_9.toNatClampNeg))), (0, .ref (aa 10)), (1, .int a_1), (3, .int aa_9)]) hx hb dX4_weigh_46 rfl hl (by decide) rfl (fun ls hl => ?_)
            refine lv_iinc (v := (aa_9 + (1 : Int32))) (lv' := [(3, .int (aa_9 + (1 : Int32))), (2, .int (aa_8 * (t_digits aa_9.toNatClampNeg))), (0, .ref (aa 10)), (1, .int a_1)]) hx hb dX4_weigh_47 hl (k := 3) rfl rfl (by decide) rfl (fun ls hl => ?_)
            refine lv_goto (tgt := 4) hx hb dX4_weigh_50 (by decide) ?_
            exact ih (aa_8 * (t_digits aa_9.toNatClampNeg)) (aa_9 + (1 : Int32)) _ _ _ hP hD hS (lv_sub hl [2, 3, 1, 0] rfl) h
  refine lp_4 _ (fun xx_10 H locs ls hP hD hS hl h => ?_) ni (1 : Int32) (0 : Int32) _ _ _ hP hD hS (lv_sub hl [2, 3, 1, 0] rfl) h
  refine lv_iload_n hx hb dX4_weigh_53 rfl (lv_at hl 0 rfl) ?_
  exact xq_ri hQ hx hb hr hP hK hD hS () rfl h dX4_weigh_54 hlocks
def w_X4_findCases_L12  (x_causes : Nat → Int32) (x_effects : Nat → Int32) (x_follows : Int32) (t_digits : Nat → Int32) (t_things : Int32) (post : (Nat → Int32) → (Nat → Int32) → Int32 → Int64 → Prop) (kk : (Nat → Int32) → (Nat → Int32) → Int32 → Int64 → Prop) : Nat → Int32 → (Nat → Int32) → (Nat → Int32) → Int32 → Int64 → Prop
  | 0, _, _, _, _, _ => False
  | f_12 + 1, a_2, t_caseRow, t_weights, t_caseCount, t_caseSet => w_X4_sets t_things (fun (rr_1 : Int32) => (rr_1 ≤ a_2 → (kk t_caseRow t_weights t_caseCount t_caseSet)) ∧ (¬ rr_1 ≤ a_2 → (((64 : Int32) ≤ a_2 → (kk t_caseRow t_weights t_caseCount t_caseSet)) ∧ (¬ (64 : Int32) ≤ a_2 → (w_X4_allFollows x_causes x_effects x_follows a_2 (fun (rr_2 : Int32) => (rr_2 = 0 → (w_X4_findCases_L12 x_causes x_effects x_follows t_digits t_things post kk f_12 (a_2 + (1 : Int32)) t_caseRow t_weights t_caseCount t_caseSet)) ∧ (¬ rr_2 = 0 → ((vp_in t_caseCount 64) ∧ (w_X4_weigh t_digits t_things a_2 (fun (rr_4 : Int32) => (vp_in a_2 64) ∧ (w_X4_findCases_L12 x_causes x_effects x_follows t_digits t_things post kk f_12 (a_2 + (1 : Int32)) (upd t_caseRow t_caseCount.toNatClampNeg a_2) (upd t_weights a_2.toNatClampNeg rr_4) (t_caseCount + (1 : Int32)) (t_caseSet ||| ((1 : Int64) <<< (Int32.toInt64 a_2 &&& 63))))))))))))))
def w_X4_findCases (x_causes : Nat → Int32) (x_effects : Nat → Int32) (x_follows : Int32) (t_digits : Nat → Int32) (t_caseRow : Nat → Int32) (t_weights : Nat → Int32) (t_things : Int32) (t_caseCount : Int32) (t_caseSet : Int64) (post : (Nat → Int32) → (Nat → Int32) → Int32 → Int64 → Prop) : Prop := ∃ e_12, w_X4_findCases_L12 x_causes x_effects x_follows t_digits t_things post (fun (xx_17 : Nat → Int32) (xx_18 : Nat → Int32) (xx_19 : Int32) (xx_20 : Int64) => post xx_17 xx_18 xx_19 xx_20) e_12 (0 : Int32) t_caseRow t_weights (0 : Int32) (0 : Int64)
set_option maxHeartbeats 4000000 in
set_option maxRecDepth 100000 in
theorem m_X4_findCases (l : Launch) (dC : Nat → ClassId) (dI : Nat → Nat → Nat) (cyI cyJ : ClassId) (aa : Nat → Nat) (sz : Nat) {s_lanes : Nat → Int32} {s_sizes : Nat → Int32} {s_cells : Nat → Int32} {x_kinds : Nat → Int32} {x_digits : Nat → Int32} {x_causes : Nat → Int32} {x_effects : Nat → Int32} {x_things : Int32} {x_follows : Int32} {x_due : Int32} {t_kinds : Nat → Int32} {t_digits : Nat → Int32} {t_caseRow : Nat → Int32} {t_weights : Nat → Int32} {t_order : Nat → Int32} {t_calls : Nat → Int32} {t_things : Int32} {t_caseCount : Int32} {t_caseSet : Int64} {p_callsOfCase : Nat → Int64} {p_partOfCase : Nat → Int32} {p_callsOfPart : Nat → Int64} {p_cases : Int32} {p_parts : Int32} {r_cases : Nat → Int32} {r_hours : Nat → Int32} {r_sets : Nat → Int32} {r_count : Int32} {u_lists : Nat → Int32} {u_breaths : Nat → Int32} {u_heard : Nat → Int32} {u_traced : Int32} {u_lastFault : Int32} {post : (Nat → Int32) → (Nat → Int32) → Int32 → Int64 → Prop} (h : w_X4_findCases x_causes x_effects x_follows t_digits t_caseRow t_weights t_things t_caseCount t_caseSet post) : Met l yX4_findCases wsX4_findCases (xq_R 2 44) (va_Pc [.ref (aa 10), .ref (aa 5)] (xq_P (dC, dI) [(cyI, .int), (cyJ, .long)] (wc_u cyI cyJ aa s_lanes s_sizes s_cells x_kinds x_digits x_causes x_effects x_things x_follows x_due t_kinds t_digits t_caseRow t_weights t_order t_calls t_things t_caseCount t_caseSet p_callsOfCase p_partOfCase p_callsOfPart p_cases p_parts r_cases r_hours r_sets r_count u_lists u_breaths u_heard u_traced u_lastFault) sz)) (va_Qv (fun (uu : (Nat → Int32) × (Nat → Int32) × Int32 × Int64) => post uu.1 uu.2.1 uu.2.2.1 uu.2.2.2) (fun (uu : (Nat → Int32) × (Nat → Int32) × Int32 × Int64) => xq_B (dC, dI) [(cyI, .int), (cyJ, .long)] (va_A (wc_u cyI cyJ aa s_lanes s_sizes s_cells x_kinds x_digits x_causes x_effects x_things x_follows x_due t_kinds t_digits t_caseRow t_weights t_order t_calls t_things t_caseCount t_caseSet p_callsOfCase p_partOfCase p_callsOfPart p_cases p_parts r_cases r_hours r_sets r_count u_lists u_breaths u_heard u_traced u_lastFault) sz) (wc_u cyI cyJ aa s_lanes s_sizes s_cells x_kinds x_digits x_causes x_effects x_things x_follows x_due t_kinds t_digits uu.1 uu.2.1 t_order t_calls t_things uu.2.2.1 uu.2.2.2 p_callsOfCase p_partOfCase p_callsOfPart p_cases p_parts r_cases r_hours r_sets r_count u_lists u_breaths u_heard u_traced u_lastFault)) (va_A (wc_u cyI cyJ aa s_lanes s_sizes s_cells x_kinds x_digits x_causes x_effects x_things x_follows x_due t_kinds t_digits t_caseRow t_weights t_order t_calls t_things t_caseCount t_caseSet p_callsOfCase p_partOfCase p_callsOfPart p_cases p_parts r_cases r_hours r_sets r_count u_lists u_breaths u_heard u_traced u_lastFault) sz)) 0 0 (va_A (wc_u cyI cyJ aa s_lanes s_sizes s_cells x_kinds x_digits x_causes x_effects x_things x_follows x_due t_kinds t_digits t_caseRow t_weights t_order t_calls t_things t_caseCount t_caseSet p_callsOfCase p_partOfCase p_callsOfPart p_cases p_parts r_cases r_hours r_sets r_count u_lists u_breaths u_heard u_traced u_lastFault) sz) := by
  refine xq_M (cc := cX4_findCases) (maxL := 3) (ret := none) (QA := fun A => va_Qv (fun (uu : (Nat → Int32) × (Nat → Int32) × Int32 × Int64) => post uu.1 uu.2.1 uu.2.2.1 uu.2.2.2) (fun (uu : (Nat → Int32) × (Nat → Int32) × Int32 × Int64) => xq_B (dC, dI) [(cyI, .int), (cyJ, .long)] A (wc_u cyI cyJ aa s_lanes s_sizes s_cells x_kinds x_digits x_causes x_effects x_things x_follows x_due t_kinds t_digits uu.1 uu.2.1 t_order t_calls t_things uu.2.2.1 uu.2.2.2 p_callsOfCase p_partOfCase p_callsOfPart p_cases p_parts r_cases r_hours r_sets r_count u_lists u_breaths u_heard u_traced u_lastFault)) A) (by decide) rfl (Nat.le_of_ble_eq_true rfl) ?_
  intro p e s m args below meth c A ls Q hQ hx hb hr hml hts hown hlocks hsz hP hK hD hA hS hN hl
  subst hsz
  have hl : lv_has ls 3 [(0, .ref (aa 10)), (1, .ref (aa 5))] := hl
  have hi_X4 : ∀ w ∈ wsX40, w ∈ wsX4_findCases := fun _ h => List.mem_cons_of_mem _ (List.mem_append_left _ (List.mem_append_right _ h))
  have fl_18 := hts (.fieldLink RX4 18 "UnsaidCalls$Town" "caseRow" "[I") (by decide +kernel)
  have fl_21 := hts (.fieldLink RX4 21 "UnsaidCalls$Town" "weights" "[I") (by decide +kernel)
  have fl_38 := hts (.fieldLink RX4 38 "UnsaidCalls$Town" "caseSet" "J") (by decide +kernel)
  have fl_73 := hts (.fieldLink RX4 73 "UnsaidCalls$Town" "caseCount" "I") (by decide +kernel)
  unfold w_X4_findCases at h
  refine lv_aload_n hx hb dX4_findCases_0 rfl (lv_at hl 0 rfl) ?_
  refine lv_lconst (v := (0 : Int64)) hx hb dX4_findCases_1 (by decide) ?_
  refine va_put (D := (dC, dI)) (ci := 4) (v := .long (0 : Int64)) (ty := .long) (C := RX4) (T := TX4) (N := 9) hx hb hts hi_X4 tyX4 tyX4_ok nmX4 hown hK hP hD hS 10 rfl rfl 8 (by decide) fl_38 (fun _ h9 => h9) rfl (by decide +kernel) rfl rfl (Nat.le_of_ble_eq_true rfl) dX4_findCases_2 (fun H locs hP hD hS => ?_)
  have hP : va_P (dC, dI) vwCl (wc_u cyI cyJ aa s_lanes s_sizes s_cells x_kinds x_digits x_causes x_effects x_things x_follows x_due t_kinds t_digits t_caseRow t_weights t_order t_calls t_things t_caseCount (0 : Int64) p_callsOfCase p_partOfCase p_callsOfPart p_cases p_parts r_cases r_hours r_sets r_count u_lists u_breaths u_heard u_traced u_lastFault) H := hP
  have hD : va_D A (wc_u cyI cyJ aa s_lanes s_sizes s_cells x_kinds x_digits x_causes x_effects x_things x_follows x_due t_kinds t_digits t_caseRow t_weights t_order t_calls t_things t_caseCount (0 : Int64) p_callsOfCase p_partOfCase p_callsOfPart p_cases p_parts r_cases r_hours r_sets r_count u_lists u_breaths u_heard u_traced u_lastFault) := hD
  refine lv_aload_n hx hb dX4_findCases_5 rfl (lv_at hl 0 rfl) ?_
  refine lv_iconst (v := (0 : Int32)) hx hb dX4_findCases_6 (by decide) ?_
  refine va_put (D := (dC, dI)) (ci := 4) (v := .int (0 : Int32)) (ty := .int) (C := RX4) (T := TX4) (N := 9) hx hb hts hi_X4 tyX4 tyX4_ok nmX4 hown hK hP hD hS 10 rfl rfl 7 (by decide) fl_73 (fun _ h9 => h9) rfl (by decide +kernel) rfl rfl (Nat.le_of_ble_eq_true rfl) dX4_findCases_7 (fun H locs hP hD hS => ?_)
  have hP : va_P (dC, dI) vwCl (wc_u cyI cyJ aa s_lanes s_sizes s_cells x_kinds x_digits x_causes x_effects x_things x_follows x_due t_kinds t_digits t_caseRow t_weights t_order t_calls t_things (0 : Int32) (0 : Int64) p_callsOfCase p_partOfCase p_callsOfPart p_cases p_parts r_cases r_hours r_sets r_count u_lists u_breaths u_heard u_traced u_lastFault) H := hP
  have hD : va_D A (wc_u cyI cyJ aa s_lanes s_sizes s_cells x_kinds x_digits x_causes x_effects x_things x_follows x_due t_kinds t_digits t_caseRow t_weights t_order t_calls t_things (0 : Int32) (0 : Int64) p_callsOfCase p_partOfCase p_callsOfPart p_cases p_parts r_cases r_hours r_sets r_count u_lists u_breaths u_heard u_traced u_lastFault) := hD
  refine lv_iconst (v := (0 : Int32)) hx hb dX4_findCases_10 (by decide) ?_
  refine lv_istore_n (lv' := [(2, .int (0 : Int32)), (0, .ref (aa 10)), (1, .ref (aa 5))]) hx hb dX4_findCases_11 rfl hl (by decide) rfl (fun ls hl => ?_)
  obtain ⟨ni, h⟩ := h
  have lp_12 : ∀ (kk : (Nat → Int32) → (Nat → Int32) → Int32 → Int64 → Prop), (∀ (xx_17 : Nat → Int32) (xx_18 : Nat → Int32) (xx_19 : Int32) (xx_20 : Int64) (H : Heap) (locs : List Loc) (ls : Array Slot), va_P (dC, dI) vwCl (wc_u cyI cyJ aa s_lanes s_sizes s_cells x_kinds x_digits x_causes x_effects x_things x_follows x_due t_kinds t_digits xx_17 xx_18 t_order t_calls t_things xx_19 xx_20 p_callsOfCase p_partOfCase p_callsOfPart p_cases p_parts r_cases r_hours r_sets r_count u_lists u_breaths u_heard u_traced u_lastFault) H → va_D A (wc_u cyI cyJ aa s_lanes s_sizes s_cells x_kinds x_digits x_causes x_effects x_things x_follows x_due t_kinds t_digits xx_17 xx_18 t_order t_calls t_things xx_19 xx_20 p_callsOfCase p_partOfCase p_callsOfPart p_cases p_parts r_cases r_hours r_sets r_count u_lists u_breaths u_heard u_traced u_lastFault) → va_S A s.heap H locs → lv_has ls 3 [] → kk xx_17 xx_18 xx_19 xx_20 → W p l e (xq_R 2 44) s m args below meth c H locs 0 0 Q (F0 m 84 ls [])) → ∀ (ni : Nat) (aa_12 : Int32) (cc_13 : Nat → Int32) (cc_14 : Nat → Int32) (cc_15 : Int32) (cc_16 : Int64) (H : Heap) (locs : List Loc) (ls : Array Slot), va_P (dC, dI) vwCl (wc_u cyI cyJ aa s_lanes s_sizes s_cells x_kinds x_digits x_causes x_effects x_things x_follows x_due t_kinds t_digits cc_13 cc_14 t_order t_calls t_things cc_15 cc_16 p_callsOfCase p_partOfCase p_callsOfPart p_cases p_parts r_cases r_hours r_sets r_count u_lists u_breaths u_heard u_traced u_lastFault) H → va_D A (wc_u cyI cyJ aa s_lanes s_sizes s_cells x_kinds x_digits x_causes x_effects x_things x_follows x_due t_kinds t_digits cc_13 cc_14 t_order t_calls t_things cc_15 cc_16 p_callsOfCase p_partOfCase p_callsOfPart p_cases p_parts r_cases r_hours r_sets r_count u_lists u_breaths u_heard u_traced u_lastFault) → va_S A s.heap H locs → lv_has ls 3 [(0, .ref (aa 10)), (1, .ref (aa 5)), (2, .int aa_12)] → w_X4_findCases_L12 x_causes x_effects x_follows t_digits t_things post kk ni aa_12 cc_13 cc_14 cc_15 cc_16 → W p l e (xq_R 2 44) s m args below meth c H locs 0 0 Q (F0 m 12 ls []) := by
    intro kk kx ni
    induction ni with
    | zero => intros; exact False.elim (by assumption)
    | succ ni ih =>
      intro aa_12 cc_13 cc_14 cc_15 cc_16 H locs ls hP hD hS hl h
      rw [w_X4_findCases_L12] at h
      refine lv_iload_n hx hb dX4_findCases_12 rfl (lv_at hl 2 rfl) ?_
      refine lv_aload_n hx hb dX4_findCases_13 rfl (lv_at hl 0 rfl) ?_
      refine xq_ci (va_runV (As := []) (rest := [.int aa_12]) ⟨hx, hb, hml, hown, hts⟩ (m_X4_sets l dC dI cyI cyJ aa H.size h) (cwV 0 hts gX4_findCases_X4_sets rfl rfl rfl (by decide +kernel) ⟨Nat.le_of_ble_eq_true rfl, Nat.le_of_ble_eq_true rfl⟩) (xq_preV hK hP hD hN (ci := 4) (q0 := 10) rfl rfl) rfl rfl hl.1 rfl (lv_room (Nat.le_of_ble_eq_true rfl)) dX4_findCases_14 ⟨Nat.le_refl _, Nat.le_refl _⟩) hD hS hA (fun rr_21 uu H locs h hP hD hS => ?_)
      have hP : va_P (dC, dI) vwCl (wc_u cyI cyJ aa s_lanes s_sizes s_cells x_kinds x_digits x_causes x_effects x_things x_follows x_due t_kinds t_digits cc_13 cc_14 t_order t_calls t_things cc_15 cc_16 p_callsOfCase p_partOfCase p_callsOfPart p_cases p_parts r_cases r_hours r_sets r_count u_lists u_breaths u_heard u_traced u_lastFault) H := hP
      have hD : va_D A (wc_u cyI cyJ aa s_lanes s_sizes s_cells x_kinds x_digits x_causes x_effects x_things x_follows x_due t_kinds t_digits cc_13 cc_14 t_order t_calls t_things cc_15 cc_16 p_callsOfCase p_partOfCase p_callsOfPart p_cases p_parts r_cases r_hours r_sets r_count u_lists u_breaths u_heard u_traced u_lastFault) := hD
      refine lv_icmp_ge (tgt := 84) hx hb dX4_findCases_17 (by decide) (fun hc_30 => ?_) (fun hc_30 => ?_)
      · have h := h.1 hc_30
        exact kx cc_13 cc_14 cc_15 cc_16 _ _ _ hP hD hS (lv_sub hl [] rfl) h
      · have h := h.2 hc_30
        refine lv_iload_n hx hb dX4_findCases_20 rfl (lv_at hl 2 rfl) ?_
        refine lv_bipush (v := (64 : Int32)) hx hb dX4_findCases_21 (by decide) ?_
        refine lv_icmp_ge (tgt := 84) hx hb dX4_findCases_23 (by decide) (fun hc_29 => ?_) (fun hc_29 => ?_)
        · have h := h.1 hc_29
          exact kx cc_13 cc_14 cc_15 cc_16 _ _ _ hP hD hS (lv_sub hl [] rfl) h
        · have h := h.2 hc_29
          refine lv_aload_n hx hb dX4_findCases_26 rfl (lv_at hl 0 rfl) ?_
          refine lv_iload_n hx hb dX4_findCases_27 rfl (lv_at hl 2 rfl) ?_
          refine lv_aload_n hx hb dX4_findCases_28 rfl (lv_at hl 1 rfl) ?_
          refine xq_ci (va_runV (As := [.int aa_12, .ref (aa 5)]) (rest := []) ⟨hx, hb, hml, hown, hts⟩ (m_X4_allFollows l dC dI cyI cyJ aa H.size h) (cwV 2 hts gX4_findCases_X4_allFollows rfl rfl rfl (by decide +kernel) ⟨Nat.le_of_ble_eq_true rfl, Nat.le_of_ble_eq_true rfl⟩) (xq_preV hK hP hD hN (ci := 4) (q0 := 10) rfl rfl) rfl rfl hl.1 rfl (lv_room (Nat.le_of_ble_eq_true rfl)) dX4_findCases_29 ⟨Nat.le_refl _, Nat.le_refl _⟩) hD hS hA (fun rr_22 uu H locs h hP hD hS => ?_)
          have hP : va_P (dC, dI) vwCl (wc_u cyI cyJ aa s_lanes s_sizes s_cells x_kinds x_digits x_causes x_effects x_things x_follows x_due t_kinds t_digits cc_13 cc_14 t_order t_calls t_things cc_15 cc_16 p_callsOfCase p_partOfCase p_callsOfPart p_cases p_parts r_cases r_hours r_sets r_count u_lists u_breaths u_heard u_traced u_lastFault) H := hP
          have hD : va_D A (wc_u cyI cyJ aa s_lanes s_sizes s_cells x_kinds x_digits x_causes x_effects x_things x_follows x_due t_kinds t_digits cc_13 cc_14 t_order t_calls t_things cc_15 cc_16 p_callsOfCase p_partOfCase p_callsOfPart p_cases p_parts r_cases r_hours r_sets r_count u_lists u_breaths u_heard u_traced u_lastFault) := hD
          refine lv_if_eq (tgt := 78) hx hb dX4_findCases_32 (by decide) (fun hc_27 => ?_) (fun hc_27 => ?_)
          · have h := h.1 hc_27
            refine lv_iinc (v := (aa_12 + (1 : Int32))) (lv' := [(2, .int (aa_12 + (1 : Int32))), (0, .ref (aa 10)), (1, .ref (aa 5))]) hx hb dX4_findCases_78 hl (k := 2) rfl rfl (by decide) rfl (fun ls hl => ?_)
            refine lv_goto (tgt := 12) hx hb dX4_findCases_81 (by decide) ?_
            exact ih (aa_12 + (1 : Int32)) cc_13 cc_14 cc_15 cc_16 _ _ _ hP hD hS (lv_sub hl [1, 2, 0] rfl) h
          · have h := h.2 hc_27
            refine lv_aload_n hx hb dX4_findCases_35 rfl (lv_at hl 0 rfl) ?_
            refine va_get (D := (dC, dI)) (ci := 4) (v := .ref (aa 13)) (C := RX4) (T := TX4) (N := 9) hx hb hts hi_X4 hown hK hP 10 rfl rfl 2 (by decide) fl_18 (fun _ h9 => h9) rfl dX4_findCases_36 ?_
            refine lv_aload_n hx hb dX4_findCases_39 rfl (lv_at hl 0 rfl) ?_
            refine va_get (D := (dC, dI)) (ci := 4) (v := .int cc_15) (C := RX4) (T := TX4) (N := 9) hx hb hts hi_X4 hown hK hP 10 rfl rfl 7 (by decide) fl_73 (fun _ h9 => h9) rfl dX4_findCases_40 ?_
            refine lv_iload_n hx hb dX4_findCases_43 rfl (lv_at hl 2 rfl) ?_
            obtain ⟨hv_23, h⟩ := h
            refine va_iast hx hb hK hP hD hS 13 0 rfl rfl hv_23 dX4_findCases_44 (fun H locs hP hD hS => ?_)
            have hP : va_P (dC, dI) vwCl (wc_u cyI cyJ aa s_lanes s_sizes s_cells x_kinds x_digits x_causes x_effects x_things x_follows x_due t_kinds t_digits (upd cc_13 cc_15.toNatClampNeg aa_12) cc_14 t_order t_calls t_things cc_15 cc_16 p_callsOfCase p_partOfCase p_callsOfPart p_cases p_parts r_cases r_hours r_sets r_count u_lists u_breaths u_heard u_traced u_lastFault) H := hP
            have hD : va_D A (wc_u cyI cyJ aa s_lanes s_sizes s_cells x_kinds x_digits x_causes x_effects x_things x_follows x_due t_kinds t_digits (upd cc_13 cc_15.toNatClampNeg aa_12) cc_14 t_order t_calls t_things cc_15 cc_16 p_callsOfCase p_partOfCase p_callsOfPart p_cases p_parts r_cases r_hours r_sets r_count u_lists u_breaths u_heard u_traced u_lastFault) := hD
            refine lv_aload_n hx hb dX4_findCases_45 rfl (lv_at hl 0 rfl) ?_
            refine va_get (D := (dC, dI)) (ci := 4) (v := .ref (aa 14)) (C := RX4) (T := TX4) (N := 9) hx hb hts hi_X4 hown hK hP 10 rfl rfl 3 (by decide) fl_21 (fun _ h9 => h9) rfl dX4_findCases_46 ?_
            refine lv_iload_n hx hb dX4_findCases_49 rfl (lv_at hl 2 rfl) ?_
            refine lv_aload_n hx hb dX4_findCases_50 rfl (lv_at hl 0 rfl) ?_
            refine lv_iload_n hx hb dX4_findCases_51 rfl (lv_at hl 2 rfl) ?_
            refine xq_ci (va_runV (As := [.int aa_12]) (rest := [.int aa_12, .ref (aa 14)]) ⟨hx, hb, hml, hown, hts⟩ (m_X4_weigh l dC dI cyI cyJ aa H.size h) (cwV 1 hts gX4_findCases_X4_weigh rfl rfl rfl (by decide +kernel) ⟨Nat.le_of_ble_eq_true rfl, Nat.le_of_ble_eq_true rfl⟩) (xq_preV hK hP hD hN (ci := 4) (q0 := 10) rfl rfl) rfl rfl hl.1 rfl (lv_room (Nat.le_of_ble_eq_true rfl)) dX4_findCases_52 ⟨Nat.le_refl _, Nat.le_refl _⟩) hD hS hA (fun rr_24 uu H locs h hP hD hS => ?_)
            have hP : va_P (dC, dI) vwCl (wc_u cyI cyJ aa s_lanes s_sizes s_cells x_kinds x_digits x_causes x_effects x_things x_follows x_due t_kinds t_digits (upd cc_13 cc_15.toNatClampNeg aa_12) cc_14 t_order t_calls t_things cc_15 cc_16 p_callsOfCase p_partOfCase p_callsOfPart p_cases p_parts r_cases r_hours r_sets r_count u_lists u_breaths u_heard u_traced u_lastFault) H := hP
            have hD : va_D A (wc_u cyI cyJ aa s_lanes s_sizes s_cells x_kinds x_digits x_causes x_effects x_things x_follows x_due t_kinds t_digits (upd cc_13 cc_15.toNatClampNeg aa_12) cc_14 t_order t_calls t_things cc_15 cc_16 p_callsOfCase p_partOfCase p_callsOfPart p_cases p_parts r_cases r_hours r_sets r_count u_lists u_breaths u_heard u_traced u_lastFault) := hD
            obtain ⟨hv_25, h⟩ := h
            refine va_iast hx hb hK hP hD hS 14 0 rfl rfl hv_25 dX4_findCases_55 (fun H locs hP hD hS => ?_)
            have hP : va_P (dC, dI) vwCl (wc_u cyI cyJ aa s_lanes s_sizes s_cells x_kinds x_digits x_causes x_effects x_things x_follows x_due t_kinds t_digits (upd cc_13 cc_15.toNatClampNeg aa_12) (upd cc_14 aa_12.toNatClampNeg rr_24) t_order t_calls t_things cc_15 cc_16 p_callsOfCase p_partOfCase p_callsOfPart p_cases p_parts r_cases r_hours r_sets r_count u_lists u_breaths u_heard u_traced u_lastFault) H := hP
            have hD : va_D A (wc_u cyI cyJ aa s_lanes s_sizes s_cells x_kinds x_digits x_causes x_effects x_things x_follows x_due t_kinds t_digits (upd cc_13 cc_15.toNatClampNeg aa_12) (upd cc_14 aa_12.toNatClampNeg rr_24) t_order t_calls t_things cc_15 cc_16 p_callsOfCase p_partOfCase p_callsOfPart p_cases p_parts r_cases r_hours r_sets r_count u_lists u_breaths u_heard u_traced u_lastFault) := hD
            refine lv_aload_n hx hb dX4_findCases_56 rfl (lv_at hl 0 rfl) ?_
            refine lv_dup hx hb dX4_findCases_57 rfl ?_
            refine va_get (D := (dC, dI)) (ci := 4) (v := .long cc_16) (C := RX4) (T := TX4) (N := 9) hx hb hts hi_X4 hown hK hP 10 rfl rfl 8 (by decide) fl_38 (fun _ h9 => h9) rfl dX4_findCases_58 ?_
            refine lv_lconst (v := (1 : Int64)) hx hb dX4_findCases_61 (by decide) ?_
            refine lv_iload_n hx hb dX4_findCases_62 rfl (lv_at hl 2 rfl) ?_
            refine lv_lshl (v := ((1 : Int64) <<< (Int32.toInt64 aa_12 &&& 63))) hx hb dX4_findCases_63 rfl ?_
            refine lv_lor hx hb dX4_findCases_64 ?_
            refine va_put (D := (dC, dI)) (ci := 4) (v := .long (cc_16 ||| ((1 : Int64) <<< (Int32.toInt64 aa_12 &&& 63)))) (ty := .long) (C := RX4) (T := TX4) (N := 9) hx hb hts hi_X4 tyX4 tyX4_ok nmX4 hown hK hP hD hS 10 rfl rfl 8 (by decide) fl_38 (fun _ h9 => h9) rfl (by decide +kernel) rfl rfl (Nat.le_of_ble_eq_true rfl) dX4_findCases_65 (fun H locs hP hD hS => ?_)
            have hP : va_P (dC, dI) vwCl (wc_u cyI cyJ aa s_lanes s_sizes s_cells x_kinds x_digits x_causes x_effects x_things x_follows x_due t_kinds t_digits (upd cc_13 cc_15.toNatClampNeg aa_12) (upd cc_14 aa_12.toNatClampNeg rr_24) t_order t_calls t_things cc_15 (cc_16 ||| ((1 : Int64) <<< (Int32.toInt64 aa_12 &&& 63))) p_callsOfCase p_partOfCase p_callsOfPart p_cases p_parts r_cases r_hours r_sets r_count u_lists u_breaths u_heard u_traced u_lastFault) H := hP
            have hD : va_D A (wc_u cyI cyJ aa s_lanes s_sizes s_cells x_kinds x_digits x_causes x_effects x_things x_follows x_due t_kinds t_digits (upd cc_13 cc_15.toNatClampNeg aa_12) (upd cc_14 aa_12.toNatClampNeg rr_24) t_order t_calls t_things cc_15 (cc_16 ||| ((1 : Int64) <<< (Int32.toInt64 aa_12 &&& 63))) p_callsOfCase p_partOfCase p_callsOfPart p_cases p_parts r_cases r_hours r_sets r_count u_lists u_breaths u_heard u_traced u_lastFault) := hD
            refine lv_aload_n hx hb dX4_findCases_68 rfl (lv_at hl 0 rfl) ?_
            refine lv_dup hx hb dX4_findCases_69 rfl ?_
            refine va_get (D := (dC, dI)) (ci := 4) (v := .int cc_15) (C := RX4) (T := TX4) (N := 9) hx hb hts hi_X4 hown hK hP 10 rfl rfl 7 (by decide) fl_73 (fun _ h9 => h9) rfl dX4_findCases_70 ?_
            refine lv_iconst (v := (1 : Int32)) hx hb dX4_findCases_73 (by decide) ?_
            refine lv_iadd hx hb dX4_findCases_74 ?_
            refine va_put (D := (dC, dI)) (ci := 4) (v := .int (cc_15 + (1 : Int32))) (ty := .int) (C := RX4) (T := TX4) (N := 9) hx hb hts hi_X4 tyX4 tyX4_ok nmX4 hown hK hP hD hS 10 rfl rfl 7 (by decide) fl_73 (fun _ h9 => h9) rfl (by decide +kernel) rfl rfl (Nat.le_of_ble_eq_true rfl) dX4_findCases_75 (fun H locs hP hD hS => ?_)
            have hP : va_P (dC, dI) vwCl (wc_u cyI cyJ aa s_lanes s_sizes s_cells x_kinds x_digits x_causes x_effects x_things x_follows x_due t_kinds t_digits (upd cc_13 cc_15.toNatClampNeg aa_12) (upd cc_14 aa_12.toNatClampNeg rr_24) t_order t_calls t_things (cc_15 + (1 : Int32)) (cc_16 ||| ((1 : Int64) <<< (Int32.toInt64 aa_12 &&& 63))) p_callsOfCase p_partOfCase p_callsOfPart p_cases p_parts r_cases r_hours r_sets r_count u_lists u_breaths u_heard u_traced u_lastFault) H := hP
            have hD : va_D A (wc_u cyI cyJ aa s_lanes s_sizes s_cells x_kinds x_digits x_causes x_effects x_things x_follows x_due t_kinds t_digits (upd cc_13 cc_15.toNatClampNeg aa_12) (upd cc_14 aa_12.toNatClampNeg rr_24) t_order t_calls t_things (cc_15 + (1 : Int32)) (cc_16 ||| ((1 : Int64) <<< (Int32.toInt64 aa_12 &&& 63))) p_callsOfCase p_partOfCase p_callsOfPart p_cases p_parts r_cases r_hours r_sets r_count u_lists u_breaths u_heard u_traced u_lastFault) := hD
            refine lv_iinc (v := (aa_12 + (1 : Int32))) (lv' := [(2, .int (aa_12 + (1 : Int32))), (0, .ref (aa 10)), (1, .ref (aa 5))]) hx hb dX4_findCases_78 hl (k := 2) rfl rfl (by decide) rfl (fun ls hl => ?_)
            refine lv_goto (tgt := 12) hx hb dX4_findCases_81 (by decide) ?_
            exact ih (aa_12 + (1 : Int32)) (upd cc_13 cc_15.toNatClampNeg aa_12) (upd cc_14 aa_12.toNatClampNeg rr_24) (cc_15 + (1 : Int32)) (cc_16 ||| ((1 : Int64) <<< (Int32.toInt64 aa_12 &&& 63))) _ _ _ hP hD hS (lv_sub hl [1, 2, 0] rfl) h
  refine lp_12 _ (fun xx_17 xx_18 xx_19 xx_20 H locs ls hP hD hS hl h => ?_) ni (0 : Int32) t_caseRow t_weights (0 : Int32) (0 : Int64) _ _ _ hP hD hS (lv_sub hl [1, 2, 0] rfl) h
  exact xq_rv hQ hx hb hr hP hK hD hS (xx_17, xx_18, xx_19, xx_20) rfl h dX4_findCases_84 hlocks
def w_X4_orderThings_L11 (a_2 : Int32) (t_kinds : Nat → Int32) (t_things : Int32) (post : (Nat → Int32) → Prop) (kk : Int32 → (Nat → Int32) → Prop) : Nat → Int32 → Int32 → (Nat → Int32) → Prop
  | 0, _, _, _ => False
  | f_11 + 1, a_1, a_3, t_order => (t_things ≤ a_3 → (kk a_1 t_order)) ∧ (¬ t_things ≤ a_3 → (((6 : Int32) ≤ a_1 → (kk a_1 t_order)) ∧ (¬ (6 : Int32) ≤ a_1 → ((vp_in a_3 6) ∧ (xq_j1 (fun (kj_3 : Int32 → Prop) => (¬ (t_kinds a_3.toNatClampNeg) = (2 : Int32) → (kj_3 (0 : Int32))) ∧ ((t_kinds a_3.toNatClampNeg) = (2 : Int32) → (kj_3 (1 : Int32)))) (fun (jj_2 : Int32) => xq_j1 (fun (kj_6 : Int32 → Prop) => (¬ a_2 = 0 → (kj_6 (0 : Int32))) ∧ (a_2 = 0 → (kj_6 (1 : Int32)))) (fun (jj_5 : Int32) => (¬ jj_2 = jj_5 → (w_X4_orderThings_L11 a_2 t_kinds t_things post kk f_11 a_1 (a_3 + (1 : Int32)) t_order)) ∧ (jj_2 = jj_5 → ((vp_in a_1 6) ∧ (w_X4_orderThings_L11 a_2 t_kinds t_things post kk f_11 (a_1 + (1 : Int32)) (a_3 + (1 : Int32)) (upd t_order a_1.toNatClampNeg a_3)))))))))))
def w_X4_orderThings_L4  (t_kinds : Nat → Int32) (t_things : Int32) (post : (Nat → Int32) → Prop) (kk : (Nat → Int32) → Prop) : Nat → Int32 → Int32 → (Nat → Int32) → Prop
  | 0, _, _, _ => False
  | f_4 + 1, a_1, a_2, t_order => ((2 : Int32) ≤ a_2 → (kk t_order)) ∧ (¬ (2 : Int32) ≤ a_2 → (∃ e_11, w_X4_orderThings_L11 a_2 t_kinds t_things post (fun (xx_4 : Int32) (xx_5 : Nat → Int32) => w_X4_orderThings_L4 t_kinds t_things post kk f_4 xx_4 (a_2 + (1 : Int32)) xx_5) e_11 a_1 (0 : Int32) t_order))
def w_X4_orderThings (t_kinds : Nat → Int32) (t_order : Nat → Int32) (t_things : Int32) (post : (Nat → Int32) → Prop) : Prop := ∃ e_4, w_X4_orderThings_L4 t_kinds t_things post (fun (xx_21 : Nat → Int32) => post xx_21) e_4 (0 : Int32) (0 : Int32) t_order
set_option maxHeartbeats 4000000 in
set_option maxRecDepth 100000 in
theorem m_X4_orderThings (l : Launch) (dC : Nat → ClassId) (dI : Nat → Nat → Nat) (cyI cyJ : ClassId) (aa : Nat → Nat) (sz : Nat) {s_lanes : Nat → Int32} {s_sizes : Nat → Int32} {s_cells : Nat → Int32} {x_kinds : Nat → Int32} {x_digits : Nat → Int32} {x_causes : Nat → Int32} {x_effects : Nat → Int32} {x_things : Int32} {x_follows : Int32} {x_due : Int32} {t_kinds : Nat → Int32} {t_digits : Nat → Int32} {t_caseRow : Nat → Int32} {t_weights : Nat → Int32} {t_order : Nat → Int32} {t_calls : Nat → Int32} {t_things : Int32} {t_caseCount : Int32} {t_caseSet : Int64} {p_callsOfCase : Nat → Int64} {p_partOfCase : Nat → Int32} {p_callsOfPart : Nat → Int64} {p_cases : Int32} {p_parts : Int32} {r_cases : Nat → Int32} {r_hours : Nat → Int32} {r_sets : Nat → Int32} {r_count : Int32} {u_lists : Nat → Int32} {u_breaths : Nat → Int32} {u_heard : Nat → Int32} {u_traced : Int32} {u_lastFault : Int32} {post : (Nat → Int32) → Prop} (h : w_X4_orderThings t_kinds t_order t_things post) : Met l yX4_orderThings wsX4_orderThings (xq_R 0 0) (va_Pc [.ref (aa 10)] (xq_P (dC, dI) [(cyI, .int), (cyJ, .long)] (wc_u cyI cyJ aa s_lanes s_sizes s_cells x_kinds x_digits x_causes x_effects x_things x_follows x_due t_kinds t_digits t_caseRow t_weights t_order t_calls t_things t_caseCount t_caseSet p_callsOfCase p_partOfCase p_callsOfPart p_cases p_parts r_cases r_hours r_sets r_count u_lists u_breaths u_heard u_traced u_lastFault) sz)) (va_Qv (fun (uu : (Nat → Int32)) => post uu) (fun (uu : (Nat → Int32)) => xq_B (dC, dI) [(cyI, .int), (cyJ, .long)] (va_A (wc_u cyI cyJ aa s_lanes s_sizes s_cells x_kinds x_digits x_causes x_effects x_things x_follows x_due t_kinds t_digits t_caseRow t_weights t_order t_calls t_things t_caseCount t_caseSet p_callsOfCase p_partOfCase p_callsOfPart p_cases p_parts r_cases r_hours r_sets r_count u_lists u_breaths u_heard u_traced u_lastFault) sz) (wc_u cyI cyJ aa s_lanes s_sizes s_cells x_kinds x_digits x_causes x_effects x_things x_follows x_due t_kinds t_digits t_caseRow t_weights uu t_calls t_things t_caseCount t_caseSet p_callsOfCase p_partOfCase p_callsOfPart p_cases p_parts r_cases r_hours r_sets r_count u_lists u_breaths u_heard u_traced u_lastFault)) (va_A (wc_u cyI cyJ aa s_lanes s_sizes s_cells x_kinds x_digits x_causes x_effects x_things x_follows x_due t_kinds t_digits t_caseRow t_weights t_order t_calls t_things t_caseCount t_caseSet p_callsOfCase p_partOfCase p_callsOfPart p_cases p_parts r_cases r_hours r_sets r_count u_lists u_breaths u_heard u_traced u_lastFault) sz)) 0 0 (va_A (wc_u cyI cyJ aa s_lanes s_sizes s_cells x_kinds x_digits x_causes x_effects x_things x_follows x_due t_kinds t_digits t_caseRow t_weights t_order t_calls t_things t_caseCount t_caseSet p_callsOfCase p_partOfCase p_callsOfPart p_cases p_parts r_cases r_hours r_sets r_count u_lists u_breaths u_heard u_traced u_lastFault) sz) := by
  refine xq_M (cc := cX4_orderThings) (maxL := 5) (ret := none) (QA := fun A => va_Qv (fun (uu : (Nat → Int32)) => post uu) (fun (uu : (Nat → Int32)) => xq_B (dC, dI) [(cyI, .int), (cyJ, .long)] A (wc_u cyI cyJ aa s_lanes s_sizes s_cells x_kinds x_digits x_causes x_effects x_things x_follows x_due t_kinds t_digits t_caseRow t_weights uu t_calls t_things t_caseCount t_caseSet p_callsOfCase p_partOfCase p_callsOfPart p_cases p_parts r_cases r_hours r_sets r_count u_lists u_breaths u_heard u_traced u_lastFault)) A) (by decide) rfl (Nat.le_of_ble_eq_true rfl) ?_
  intro p e s m args below meth c A ls Q hQ hx hb hr hml hts hown hlocks hsz hP hK hD hA hS hN hl
  subst hsz
  have hl : lv_has ls 5 [(0, .ref (aa 10))] := hl
  have hi_X4 : ∀ w ∈ wsX40, w ∈ wsX4_orderThings := fun _ h => List.mem_cons_of_mem _ (List.mem_append_right _ h)
  have fl_9 := hts (.fieldLink RX4 9 "UnsaidCalls$Town" "kinds" "[I") (by decide +kernel)
  have fl_24 := hts (.fieldLink RX4 24 "UnsaidCalls$Town" "order" "[I") (by decide +kernel)
  have fl_30 := hts (.fieldLink RX4 30 "UnsaidCalls$Town" "things" "I") (by decide +kernel)
  unfold w_X4_orderThings at h
  refine lv_iconst (v := (0 : Int32)) hx hb dX4_orderThings_0 (by decide) ?_
  refine lv_istore_n (lv' := [(1, .int (0 : Int32)), (0, .ref (aa 10))]) hx hb dX4_orderThings_1 rfl hl (by decide) rfl (fun ls hl => ?_)
  refine lv_iconst (v := (0 : Int32)) hx hb dX4_orderThings_2 (by decide) ?_
  refine lv_istore_n (lv' := [(2, .int (0 : Int32)), (1, .int (0 : Int32)), (0, .ref (aa 10))]) hx hb dX4_orderThings_3 rfl hl (by decide) rfl (fun ls hl => ?_)
  obtain ⟨ni, h⟩ := h
  have lp_4 : ∀ (kk : (Nat → Int32) → Prop), (∀ (xx_21 : Nat → Int32) (H : Heap) (locs : List Loc) (ls : Array Slot), va_P (dC, dI) vwCl (wc_u cyI cyJ aa s_lanes s_sizes s_cells x_kinds x_digits x_causes x_effects x_things x_follows x_due t_kinds t_digits t_caseRow t_weights xx_21 t_calls t_things t_caseCount t_caseSet p_callsOfCase p_partOfCase p_callsOfPart p_cases p_parts r_cases r_hours r_sets r_count u_lists u_breaths u_heard u_traced u_lastFault) H → va_D A (wc_u cyI cyJ aa s_lanes s_sizes s_cells x_kinds x_digits x_causes x_effects x_things x_follows x_due t_kinds t_digits t_caseRow t_weights xx_21 t_calls t_things t_caseCount t_caseSet p_callsOfCase p_partOfCase p_callsOfPart p_cases p_parts r_cases r_hours r_sets r_count u_lists u_breaths u_heard u_traced u_lastFault) → va_S A s.heap H locs → lv_has ls 5 [] → kk xx_21 → W p l e (xq_R 0 0) s m args below meth c H locs 0 0 Q (F0 m 78 ls [])) → ∀ (ni : Nat) (aa_18 : Int32) (aa_19 : Int32) (cc_20 : Nat → Int32) (H : Heap) (locs : List Loc) (ls : Array Slot), va_P (dC, dI) vwCl (wc_u cyI cyJ aa s_lanes s_sizes s_cells x_kinds x_digits x_causes x_effects x_things x_follows x_due t_kinds t_digits t_caseRow t_weights cc_20 t_calls t_things t_caseCount t_caseSet p_callsOfCase p_partOfCase p_callsOfPart p_cases p_parts r_cases r_hours r_sets r_count u_lists u_breaths u_heard u_traced u_lastFault) H → va_D A (wc_u cyI cyJ aa s_lanes s_sizes s_cells x_kinds x_digits x_causes x_effects x_things x_follows x_due t_kinds t_digits t_caseRow t_weights cc_20 t_calls t_things t_caseCount t_caseSet p_callsOfCase p_partOfCase p_callsOfPart p_cases p_parts r_cases r_hours r_sets r_count u_lists u_breaths u_heard u_traced u_lastFault) → va_S A s.heap H locs → lv_has ls 5 [(0, .ref (aa 10)), (1, .int aa_18), (2, .int aa_19)] → w_X4_orderThings_L4 t_kinds t_things post kk ni aa_18 aa_19 cc_20 → W p l e (xq_R 0 0) s m args below meth c H locs 0 0 Q (F0 m 4 ls []) := by
    intro kk kx ni
    induction ni with
    | zero => intros; exact False.elim (by assumption)
    | succ ni ih =>
      intro aa_18 aa_19 cc_20 H locs ls hP hD hS hl h
      rw [w_X4_orderThings_L4] at h
      refine lv_iload_n hx hb dX4_orderThings_4 rfl (lv_at hl 2 rfl) ?_
      refine lv_iconst (v := (2 : Int32)) hx hb dX4_orderThings_5 (by decide) ?_
      refine lv_icmp_ge (tgt := 78) hx hb dX4_orderThings_6 (by decide) (fun hc_38 => ?_) (fun hc_38 => ?_)
      · have h := h.1 hc_38
        exact kx cc_20 _ _ _ hP hD hS (lv_sub hl [] rfl) h
      · have h := h.2 hc_38
        refine lv_iconst (v := (0 : Int32)) hx hb dX4_orderThings_9 (by decide) ?_
        refine lv_istore_n (lv' := [(3, .int (0 : Int32)), (0, .ref (aa 10)), (1, .int aa_18), (2, .int aa_19)]) hx hb dX4_orderThings_10 rfl hl (by decide) rfl (fun ls hl => ?_)
        obtain ⟨ni, h⟩ := h
        have lp_11 : ∀ (kk : Int32 → (Nat → Int32) → Prop), (∀ (xx_25 : Int32) (xx_26 : Nat → Int32) (H : Heap) (locs : List Loc) (ls : Array Slot), va_P (dC, dI) vwCl (wc_u cyI cyJ aa s_lanes s_sizes s_cells x_kinds x_digits x_causes x_effects x_things x_follows x_due t_kinds t_digits t_caseRow t_weights xx_26 t_calls t_things t_caseCount t_caseSet p_callsOfCase p_partOfCase p_callsOfPart p_cases p_parts r_cases r_hours r_sets r_count u_lists u_breaths u_heard u_traced u_lastFault) H → va_D A (wc_u cyI cyJ aa s_lanes s_sizes s_cells x_kinds x_digits x_causes x_effects x_things x_follows x_due t_kinds t_digits t_caseRow t_weights xx_26 t_calls t_things t_caseCount t_caseSet p_callsOfCase p_partOfCase p_callsOfPart p_cases p_parts r_cases r_hours r_sets r_count u_lists u_breaths u_heard u_traced u_lastFault) → va_S A s.heap H locs → lv_has ls 5 [(0, .ref (aa 10)), (1, .int xx_25), (2, .int aa_19)] → kk xx_25 xx_26 → W p l e (xq_R 0 0) s m args below meth c H locs 0 0 Q (F0 m 72 ls [])) → ∀ (ni : Nat) (aa_22 : Int32) (aa_23 : Int32) (cc_24 : Nat → Int32) (H : Heap) (locs : List Loc) (ls : Array Slot), va_P (dC, dI) vwCl (wc_u cyI cyJ aa s_lanes s_sizes s_cells x_kinds x_digits x_causes x_effects x_things x_follows x_due t_kinds t_digits t_caseRow t_weights cc_24 t_calls t_things t_caseCount t_caseSet p_callsOfCase p_partOfCase p_callsOfPart p_cases p_parts r_cases r_hours r_sets r_count u_lists u_breaths u_heard u_traced u_lastFault) H → va_D A (wc_u cyI cyJ aa s_lanes s_sizes s_cells x_kinds x_digits x_causes x_effects x_things x_follows x_due t_kinds t_digits t_caseRow t_weights cc_24 t_calls t_things t_caseCount t_caseSet p_callsOfCase p_partOfCase p_callsOfPart p_cases p_parts r_cases r_hours r_sets r_count u_lists u_breaths u_heard u_traced u_lastFault) → va_S A s.heap H locs → lv_has ls 5 [(0, .ref (aa 10)), (1, .int aa_22), (2, .int aa_19), (3, .int aa_23)] → w_X4_orderThings_L11 aa_19 t_kinds t_things post kk ni aa_22 aa_23 cc_24 → W p l e (xq_R 0 0) s m args below meth c H locs 0 0 Q (F0 m 11 ls []) := by
          intro kk kx ni
          induction ni with
          | zero => intros; exact False.elim (by assumption)
          | succ ni ih =>
            intro aa_22 aa_23 cc_24 H locs ls hP hD hS hl h
            rw [w_X4_orderThings_L11] at h
            refine lv_iload_n hx hb dX4_orderThings_11 rfl (lv_at hl 3 rfl) ?_
            refine lv_aload_n hx hb dX4_orderThings_12 rfl (lv_at hl 0 rfl) ?_
            refine va_get (D := (dC, dI)) (ci := 4) (v := .int t_things) (C := RX4) (T := TX4) (N := 9) hx hb hts hi_X4 hown hK hP 10 rfl rfl 6 (by decide) fl_30 (fun _ h9 => h9) rfl dX4_orderThings_13 ?_
            refine lv_icmp_ge (tgt := 72) hx hb dX4_orderThings_16 (by decide) (fun hc_37 => ?_) (fun hc_37 => ?_)
            · have h := h.1 hc_37
              exact kx aa_22 cc_24 _ _ _ hP hD hS (lv_sub hl [0, 1, 2] rfl) h
            · have h := h.2 hc_37
              refine lv_iload_n hx hb dX4_orderThings_19 rfl (lv_at hl 1 rfl) ?_
              refine lv_bipush (v := (6 : Int32)) hx hb dX4_orderThings_20 (by decide) ?_
              refine lv_icmp_ge (tgt := 72) hx hb dX4_orderThings_22 (by decide) (fun hc_36 => ?_) (fun hc_36 => ?_)
              · have h := h.1 hc_36
                exact kx aa_22 cc_24 _ _ _ hP hD hS (lv_sub hl [0, 1, 2] rfl) h
              · have h := h.2 hc_36
                refine lv_aload_n hx hb dX4_orderThings_25 rfl (lv_at hl 0 rfl) ?_
                refine va_get (D := (dC, dI)) (ci := 4) (v := .ref (aa 11)) (C := RX4) (T := TX4) (N := 9) hx hb hts hi_X4 hown hK hP 10 rfl rfl 0 (by decide) fl_9 (fun _ h9 => h9) rfl dX4_orderThings_26 ?_
                refine lv_iload_n hx hb dX4_orderThings_29 rfl (lv_at hl 3 rfl) ?_
                obtain ⟨hv_27, h⟩ := h
                refine va_iald hx hb hK hP 11 0 rfl rfl hv_27 dX4_orderThings_30 ?_
                refine lv_iconst (v := (2 : Int32)) hx hb dX4_orderThings_31 (by decide) ?_
                refine xq_j1_go (X := fun (jj_28 : Int32) => ∀ (H : Heap) (locs : List Loc) (ls : Array Slot), va_P (dC, dI) vwCl (wc_u cyI cyJ aa s_lanes s_sizes s_cells x_kinds x_digits x_causes x_effects x_things x_follows x_due t_kinds t_digits t_caseRow t_weights cc_24 t_calls t_things t_caseCount t_caseSet p_callsOfCase p_partOfCase p_callsOfPart p_cases p_parts r_cases r_hours r_sets r_count u_lists u_breaths u_heard u_traced u_lastFault) H → va_D A (wc_u cyI cyJ aa s_lanes s_sizes s_cells x_kinds x_digits x_causes x_effects x_things x_follows x_due t_kinds t_digits t_caseRow t_weights cc_24 t_calls t_things t_caseCount t_caseSet p_callsOfCase p_partOfCase p_callsOfPart p_cases p_parts r_cases r_hours r_sets r_count u_lists u_breaths u_heard u_traced u_lastFault) → va_S A s.heap H locs → lv_has ls 5 [(0, .ref (aa 10)), (1, .int aa_22), (2, .int aa_19), (3, .int aa_23)] → W p l e (xq_R 0 0) s m args below meth c H locs 0 0 Q (F0 m 40 ls [.int jj_28])) h (fun jj_28 h H locs ls hP hD hS hl => ?_) (fun kj_29 h => ?_)
                · refine lv_istore (lv' := [(4, .int jj_28), (0, .ref (aa 10)), (1, .int aa_22), (2, .int aa_19), (3, .int aa_23)]) hx hb dX4_orderThings_40 hl (by decide) rfl (fun ls hl => ?_)
                  refine lv_iload hx hb dX4_orderThings_42 (lv_at hl 0 rfl) ?_
                  refine lv_iload_n hx hb dX4_orderThings_44 rfl (lv_at hl 3 rfl) ?_
                  refine xq_j1_go (X := fun (jj_31 : Int32) => ∀ (H : Heap) (locs : List Loc) (ls : Array Slot), va_P (dC, dI) vwCl (wc_u cyI cyJ aa s_lanes s_sizes s_cells x_kinds x_digits x_causes x_effects x_things x_follows x_due t_kinds t_digits t_caseRow t_weights cc_24 t_calls t_things t_caseCount t_caseSet p_callsOfCase p_partOfCase p_callsOfPart p_cases p_parts r_cases r_hours r_sets r_count u_lists u_breaths u_heard u_traced u_lastFault) H → va_D A (wc_u cyI cyJ aa s_lanes s_sizes s_cells x_kinds x_digits x_causes x_effects x_things x_follows x_due t_kinds t_digits t_caseRow t_weights cc_24 t_calls t_things t_caseCount t_caseSet p_callsOfCase p_partOfCase p_callsOfPart p_cases p_parts r_cases r_hours r_sets r_count u_lists u_breaths u_heard u_traced u_lastFault) → va_S A s.heap H locs → lv_has ls 5 [(0, .ref (aa 10)), (1, .int aa_22), (2, .int aa_19), (3, .int aa_23)] → W p l e (xq_R 0 0) s m args below meth c H locs 0 0 Q (F0 m 53 ls [.int jj_31, .int jj_28])) h (fun jj_31 h H locs ls hP hD hS hl => ?_) (fun kj_32 h => ?_)
                  · refine lv_icmp_ne (tgt := 66) hx hb dX4_orderThings_53 (by decide) (fun hc_35 => ?_) (fun hc_35 => ?_)
                    · have h := h.1 hc_35
                      refine lv_iinc (v := (aa_23 + (1 : Int32))) (lv' := [(3, .int (aa_23 + (1 : Int32))), (0, .ref (aa 10)), (1, .int aa_22), (2, .int aa_19)]) hx hb dX4_orderThings_66 hl (k := 3) rfl rfl (by decide) rfl (fun ls hl => ?_)
                      refine lv_goto (tgt := 11) hx hb dX4_orderThings_69 (by decide) ?_
                      exact ih aa_22 (aa_23 + (1 : Int32)) cc_24 _ _ _ hP hD hS (lv_sub hl [1, 2, 3, 0] rfl) h
                    · have h := h.2 hc_35
                      refine lv_aload_n hx hb dX4_orderThings_56 rfl (lv_at hl 0 rfl) ?_
                      refine va_get (D := (dC, dI)) (ci := 4) (v := .ref (aa 15)) (C := RX4) (T := TX4) (N := 9) hx hb hts hi_X4 hown hK hP 10 rfl rfl 4 (by decide) fl_24 (fun _ h9 => h9) rfl dX4_orderThings_57 ?_
                      refine lv_iload_n hx hb dX4_orderThings_60 rfl (lv_at hl 1 rfl) ?_
                      refine lv_iload_n hx hb dX4_orderThings_61 rfl (lv_at hl 3 rfl) ?_
                      obtain ⟨hv_34, h⟩ := h
                      refine va_iast hx hb hK hP hD hS 15 0 rfl rfl hv_34 dX4_orderThings_62 (fun H locs hP hD hS => ?_)
                      have hP : va_P (dC, dI) vwCl (wc_u cyI cyJ aa s_lanes s_sizes s_cells x_kinds x_digits x_causes x_effects x_things x_follows x_due t_kinds t_digits t_caseRow t_weights (upd cc_24 aa_22.toNatClampNeg aa_23) t_calls t_things t_caseCount t_caseSet p_callsOfCase p_partOfCase p_callsOfPart p_cases p_parts r_cases r_hours r_sets r_count u_lists u_breaths u_heard u_traced u_lastFault) H := hP
                      have hD : va_D A (wc_u cyI cyJ aa s_lanes s_sizes s_cells x_kinds x_digits x_causes x_effects x_things x_follows x_due t_kinds t_digits t_caseRow t_weights (upd cc_24 aa_22.toNatClampNeg aa_23) t_calls t_things t_caseCount t_caseSet p_callsOfCase p_partOfCase p_callsOfPart p_cases p_parts r_cases r_hours r_sets r_count u_lists u_breaths u_heard u_traced u_lastFault) := hD
                      refine lv_iinc (v := (aa_22 + (1 : Int32))) (lv' := [(1, .int (aa_22 + (1 : Int32))), (0, .ref (aa 10)), (2, .int aa_19), (3, .int aa_23)]) hx hb dX4_orderThings_63 hl (k := 1) rfl rfl (by decide) rfl (fun ls hl => ?_)
                      refine lv_iinc (v := (aa_23 + (1 : Int32))) (lv' := [(3, .int (aa_23 + (1 : Int32))), (1, .int (aa_22 + (1 : Int32))), (0, .ref (aa 10)), (2, .int aa_19)]) hx hb dX4_orderThings_66 hl (k := 3) rfl rfl (by decide) rfl (fun ls hl => ?_)
                      refine lv_goto (tgt := 11) hx hb dX4_orderThings_69 (by decide) ?_
                      exact ih (aa_22 + (1 : Int32)) (aa_23 + (1 : Int32)) (upd cc_24 aa_22.toNatClampNeg aa_23) _ _ _ hP hD hS (lv_sub hl [2, 1, 3, 0] rfl) h
                  · refine lv_if_ne (tgt := 52) hx hb dX4_orderThings_45 (by decide) (fun hc_33 => ?_) (fun hc_33 => ?_)
                    · have h := h.1 hc_33
                      refine lv_iconst (v := (0 : Int32)) hx hb dX4_orderThings_52 (by decide) ?_
                      exact kj_32 (0 : Int32) h _ _ _ hP hD hS (lv_sub hl [1, 2, 3, 4] rfl)
                    · have h := h.2 hc_33
                      refine lv_iconst (v := (1 : Int32)) hx hb dX4_orderThings_48 (by decide) ?_
                      refine lv_goto (tgt := 53) hx hb dX4_orderThings_49 (by decide) ?_
                      exact kj_32 (1 : Int32) h _ _ _ hP hD hS (lv_sub hl [1, 2, 3, 4] rfl)
                · refine lv_icmp_ne (tgt := 39) hx hb dX4_orderThings_32 (by decide) (fun hc_30 => ?_) (fun hc_30 => ?_)
                  · have h := h.1 hc_30
                    refine lv_iconst (v := (0 : Int32)) hx hb dX4_orderThings_39 (by decide) ?_
                    exact kj_29 (0 : Int32) h _ _ _ hP hD hS (lv_sub hl [0, 1, 2, 3] rfl)
                  · have h := h.2 hc_30
                    refine lv_iconst (v := (1 : Int32)) hx hb dX4_orderThings_35 (by decide) ?_
                    refine lv_goto (tgt := 40) hx hb dX4_orderThings_36 (by decide) ?_
                    exact kj_29 (1 : Int32) h _ _ _ hP hD hS (lv_sub hl [0, 1, 2, 3] rfl)
        refine lp_11 _ (fun xx_25 xx_26 H locs ls hP hD hS hl h => ?_) ni aa_18 (0 : Int32) cc_20 _ _ _ hP hD hS (lv_sub hl [1, 2, 3, 0] rfl) h
        refine lv_iinc (v := (aa_19 + (1 : Int32))) (lv' := [(2, .int (aa_19 + (1 : Int32))), (0, .ref (aa 10)), (1, .int xx_25)]) hx hb dX4_orderThings_72 hl (k := 2) rfl rfl (by decide) rfl (fun ls hl => ?_)
        refine lv_goto (tgt := 4) hx hb dX4_orderThings_75 (by decide) ?_
        exact ih xx_25 (aa_19 + (1 : Int32)) xx_26 _ _ _ hP hD hS (lv_sub hl [1, 2, 0] rfl) h
  refine lp_4 _ (fun xx_21 H locs ls hP hD hS hl h => ?_) ni (0 : Int32) (0 : Int32) t_order _ _ _ hP hD hS (lv_sub hl [2, 1, 0] rfl) h
  exact xq_rv hQ hx hb hr hP hK hD hS xx_21 rfl h dX4_orderThings_78 hlocks
def w_X4_build_L10  (x_kinds : Nat → Int32) (x_digits : Nat → Int32) (x_causes : Nat → Int32) (x_effects : Nat → Int32) (x_things : Int32) (x_follows : Int32) (t_caseRow : Nat → Int32) (t_weights : Nat → Int32) (t_order : Nat → Int32) (t_calls : Nat → Int32) (t_things : Int32) (t_caseCount : Int32) (t_caseSet : Int64) (post : (Nat → Int32) → (Nat → Int32) → (Nat → Int32) → (Nat → Int32) → (Nat → Int32) → (Nat → Int32) → Int32 → Int32 → Int64 → Prop) (kk : (Nat → Int32) → (Nat → Int32) → Prop) : Nat → Int32 → (Nat → Int32) → (Nat → Int32) → Prop
  | 0, _, _, _ => False
  | f_10 + 1, a_2, t_kinds, t_digits => (t_things ≤ a_2 → (kk t_kinds t_digits)) ∧ (¬ t_things ≤ a_2 → (((6 : Int32) ≤ a_2 → (kk t_kinds t_digits)) ∧ (¬ (6 : Int32) ≤ a_2 → ((vp_in a_2 6) ∧ ((vp_in a_2 6) ∧ ((vp_in a_2 6) ∧ ((vp_in a_2 6) ∧ (w_X4_build_L10 x_kinds x_digits x_causes x_effects x_things x_follows t_caseRow t_weights t_order t_calls t_things t_caseCount t_caseSet post kk f_10 (a_2 + (1 : Int32)) (upd t_kinds a_2.toNatClampNeg (x_kinds a_2.toNatClampNeg)) (upd t_digits a_2.toNatClampNeg (x_digits a_2.toNatClampNeg))))))))))
def w_X4_build_L65  (x_kinds : Nat → Int32) (x_digits : Nat → Int32) (x_causes : Nat → Int32) (x_effects : Nat → Int32) (x_things : Int32) (x_follows : Int32) (t_kinds : Nat → Int32) (t_digits : Nat → Int32) (t_caseRow : Nat → Int32) (t_weights : Nat → Int32) (t_order : Nat → Int32) (t_things : Int32) (t_caseCount : Int32) (t_caseSet : Int64) (post : (Nat → Int32) → (Nat → Int32) → (Nat → Int32) → (Nat → Int32) → (Nat → Int32) → (Nat → Int32) → Int32 → Int32 → Int64 → Prop) (kk : (Nat → Int32) → Prop) : Nat → Int32 → (Nat → Int32) → Prop
  | 0, _, _ => False
  | f_65 + 1, a_2, t_calls => w_X4_sets t_things (fun (rr_17 : Int32) => (rr_17 ≤ a_2 → (kk t_calls)) ∧ (¬ rr_17 ≤ a_2 → (((64 : Int32) ≤ a_2 → (kk t_calls)) ∧ (¬ (64 : Int32) ≤ a_2 → (w_X4_fillCalls t_kinds t_order t_calls t_things a_2 (fun (cc_18 : Nat → Int32) => w_X4_build_L65 x_kinds x_digits x_causes x_effects x_things x_follows t_kinds t_digits t_caseRow t_weights t_order t_things t_caseCount t_caseSet post kk f_65 (a_2 + (1 : Int32)) cc_18))))))
def w_X4_build (x_kinds : Nat → Int32) (x_digits : Nat → Int32) (x_causes : Nat → Int32) (x_effects : Nat → Int32) (x_things : Int32) (x_follows : Int32) (t_kinds : Nat → Int32) (t_digits : Nat → Int32) (t_caseRow : Nat → Int32) (t_weights : Nat → Int32) (t_order : Nat → Int32) (t_calls : Nat → Int32) (t_things : Int32) (t_caseCount : Int32) (t_caseSet : Int64) (post : (Nat → Int32) → (Nat → Int32) → (Nat → Int32) → (Nat → Int32) → (Nat → Int32) → (Nat → Int32) → Int32 → Int32 → Int64 → Prop) : Prop := ∃ e_10, w_X4_build_L10 x_kinds x_digits x_causes x_effects x_things x_follows t_caseRow t_weights t_order t_calls x_things t_caseCount t_caseSet post (fun (xx_10 : Nat → Int32) (xx_11 : Nat → Int32) => w_X4_findCases x_causes x_effects x_follows xx_11 t_caseRow t_weights x_things t_caseCount t_caseSet (fun (cc_12 : Nat → Int32) (cc_13 : Nat → Int32) (cc_14 : Int32) (cc_15 : Int64) => w_X4_orderThings xx_10 t_order x_things (fun (cc_16 : Nat → Int32) => ∃ e_65, w_X4_build_L65 x_kinds x_digits x_causes x_effects x_things x_follows xx_10 xx_11 cc_12 cc_13 cc_16 x_things cc_14 cc_15 post (fun (xx_25 : Nat → Int32) => post xx_10 xx_11 cc_12 cc_13 cc_16 xx_25 x_things cc_14 cc_15) e_65 (0 : Int32) t_calls))) e_10 (0 : Int32) t_kinds t_digits
set_option maxHeartbeats 4000000 in
set_option maxRecDepth 100000 in
theorem m_X4_build (l : Launch) (dC : Nat → ClassId) (dI : Nat → Nat → Nat) (cyI cyJ : ClassId) (aa : Nat → Nat) (sz : Nat) {s_lanes : Nat → Int32} {s_sizes : Nat → Int32} {s_cells : Nat → Int32} {x_kinds : Nat → Int32} {x_digits : Nat → Int32} {x_causes : Nat → Int32} {x_effects : Nat → Int32} {x_things : Int32} {x_follows : Int32} {x_due : Int32} {t_kinds : Nat → Int32} {t_digits : Nat → Int32} {t_caseRow : Nat → Int32} {t_weights : Nat → Int32} {t_order : Nat → Int32} {t_calls : Nat → Int32} {t_things : Int32} {t_caseCount : Int32} {t_caseSet : Int64} {p_callsOfCase : Nat → Int64} {p_partOfCase : Nat → Int32} {p_callsOfPart : Nat → Int64} {p_cases : Int32} {p_parts : Int32} {r_cases : Nat → Int32} {r_hours : Nat → Int32} {r_sets : Nat → Int32} {r_count : Int32} {u_lists : Nat → Int32} {u_breaths : Nat → Int32} {u_heard : Nat → Int32} {u_traced : Int32} {u_lastFault : Int32} {post : (Nat → Int32) → (Nat → Int32) → (Nat → Int32) → (Nat → Int32) → (Nat → Int32) → (Nat → Int32) → Int32 → Int32 → Int64 → Prop} (h : w_X4_build x_kinds x_digits x_causes x_effects x_things x_follows t_kinds t_digits t_caseRow t_weights t_order t_calls t_things t_caseCount t_caseSet post) : Met l yX4_build wsX4_build (xq_R 3 66) (va_Pc [.ref (aa 10), .ref (aa 5)] (xq_P (dC, dI) [(cyI, .int), (cyJ, .long)] (wc_u cyI cyJ aa s_lanes s_sizes s_cells x_kinds x_digits x_causes x_effects x_things x_follows x_due t_kinds t_digits t_caseRow t_weights t_order t_calls t_things t_caseCount t_caseSet p_callsOfCase p_partOfCase p_callsOfPart p_cases p_parts r_cases r_hours r_sets r_count u_lists u_breaths u_heard u_traced u_lastFault) sz)) (va_Qv (fun (uu : (Nat → Int32) × (Nat → Int32) × (Nat → Int32) × (Nat → Int32) × (Nat → Int32) × (Nat → Int32) × Int32 × Int32 × Int64) => post uu.1 uu.2.1 uu.2.2.1 uu.2.2.2.1 uu.2.2.2.2.1 uu.2.2.2.2.2.1 uu.2.2.2.2.2.2.1 uu.2.2.2.2.2.2.2.1 uu.2.2.2.2.2.2.2.2) (fun (uu : (Nat → Int32) × (Nat → Int32) × (Nat → Int32) × (Nat → Int32) × (Nat → Int32) × (Nat → Int32) × Int32 × Int32 × Int64) => xq_B (dC, dI) [(cyI, .int), (cyJ, .long)] (va_A (wc_u cyI cyJ aa s_lanes s_sizes s_cells x_kinds x_digits x_causes x_effects x_things x_follows x_due t_kinds t_digits t_caseRow t_weights t_order t_calls t_things t_caseCount t_caseSet p_callsOfCase p_partOfCase p_callsOfPart p_cases p_parts r_cases r_hours r_sets r_count u_lists u_breaths u_heard u_traced u_lastFault) sz) (wc_u cyI cyJ aa s_lanes s_sizes s_cells x_kinds x_digits x_causes x_effects x_things x_follows x_due uu.1 uu.2.1 uu.2.2.1 uu.2.2.2.1 uu.2.2.2.2.1 uu.2.2.2.2.2.1 uu.2.2.2.2.2.2.1 uu.2.2.2.2.2.2.2.1 uu.2.2.2.2.2.2.2.2 p_callsOfCase p_partOfCase p_callsOfPart p_cases p_parts r_cases r_hours r_sets r_count u_lists u_breaths u_heard u_traced u_lastFault)) (va_A (wc_u cyI cyJ aa s_lanes s_sizes s_cells x_kinds x_digits x_causes x_effects x_things x_follows x_due t_kinds t_digits t_caseRow t_weights t_order t_calls t_things t_caseCount t_caseSet p_callsOfCase p_partOfCase p_callsOfPart p_cases p_parts r_cases r_hours r_sets r_count u_lists u_breaths u_heard u_traced u_lastFault) sz)) 0 0 (va_A (wc_u cyI cyJ aa s_lanes s_sizes s_cells x_kinds x_digits x_causes x_effects x_things x_follows x_due t_kinds t_digits t_caseRow t_weights t_order t_calls t_things t_caseCount t_caseSet p_callsOfCase p_partOfCase p_callsOfPart p_cases p_parts r_cases r_hours r_sets r_count u_lists u_breaths u_heard u_traced u_lastFault) sz) := by
  refine xq_M (cc := cX4_build) (maxL := 3) (ret := none) (QA := fun A => va_Qv (fun (uu : (Nat → Int32) × (Nat → Int32) × (Nat → Int32) × (Nat → Int32) × (Nat → Int32) × (Nat → Int32) × Int32 × Int32 × Int64) => post uu.1 uu.2.1 uu.2.2.1 uu.2.2.2.1 uu.2.2.2.2.1 uu.2.2.2.2.2.1 uu.2.2.2.2.2.2.1 uu.2.2.2.2.2.2.2.1 uu.2.2.2.2.2.2.2.2) (fun (uu : (Nat → Int32) × (Nat → Int32) × (Nat → Int32) × (Nat → Int32) × (Nat → Int32) × (Nat → Int32) × Int32 × Int32 × Int64) => xq_B (dC, dI) [(cyI, .int), (cyJ, .long)] A (wc_u cyI cyJ aa s_lanes s_sizes s_cells x_kinds x_digits x_causes x_effects x_things x_follows x_due uu.1 uu.2.1 uu.2.2.1 uu.2.2.2.1 uu.2.2.2.2.1 uu.2.2.2.2.2.1 uu.2.2.2.2.2.2.1 uu.2.2.2.2.2.2.2.1 uu.2.2.2.2.2.2.2.2 p_callsOfCase p_partOfCase p_callsOfPart p_cases p_parts r_cases r_hours r_sets r_count u_lists u_breaths u_heard u_traced u_lastFault)) A) (by decide) rfl (Nat.le_of_ble_eq_true rfl) ?_
  intro p e s m args below meth c A ls Q hQ hx hb hr hml hts hown hlocks hsz hP hK hD hA hS hN hl
  subst hsz
  have hl : lv_has ls 3 [(0, .ref (aa 10)), (1, .ref (aa 5))] := hl
  have hi_X3 : ∀ w ∈ wsX30, w ∈ wsX4_build := fun _ h => List.mem_cons_of_mem _ (List.mem_append_left _ (List.mem_append_right _ h))
  have hi_X4 : ∀ w ∈ wsX40, w ∈ wsX4_build := fun _ h => List.mem_cons_of_mem _ (List.mem_append_right _ h)
  have fl_9 := hts (.fieldLink RX4 9 "UnsaidCalls$Town" "kinds" "[I") (by decide +kernel)
  have fl_15 := hts (.fieldLink RX4 15 "UnsaidCalls$Town" "digits" "[I") (by decide +kernel)
  have fl_30 := hts (.fieldLink RX4 30 "UnsaidCalls$Town" "things" "I") (by decide +kernel)
  have fl_45 := hts (.fieldLink RX4 45 "UnsaidCalls$Text" "things" "I") (by decide +kernel)
  have fl_48 := hts (.fieldLink RX4 48 "UnsaidCalls$Text" "kinds" "[I") (by decide +kernel)
  have fl_49 := hts (.fieldLink RX4 49 "UnsaidCalls$Text" "digits" "[I") (by decide +kernel)
  unfold w_X4_build at h
  refine lv_aload_n hx hb dX4_build_0 rfl (lv_at hl 0 rfl) ?_
  refine lv_aload_n hx hb dX4_build_1 rfl (lv_at hl 1 rfl) ?_
  refine va_get (D := (dC, dI)) (ci := 3) (v := .int x_things) (C := RX3) (T := TX3) (N := 7) hx hb hts hi_X3 hown hK hP 5 rfl rfl 4 (by decide) fl_45 (fun _ h9 => h9) rfl dX4_build_2 ?_
  refine va_put (D := (dC, dI)) (ci := 4) (v := .int x_things) (ty := .int) (C := RX4) (T := TX4) (N := 9) hx hb hts hi_X4 tyX4 tyX4_ok nmX4 hown hK hP hD hS 10 rfl rfl 6 (by decide) fl_30 (fun _ h9 => h9) rfl (by decide +kernel) rfl rfl (Nat.le_of_ble_eq_true rfl) dX4_build_5 (fun H locs hP hD hS => ?_)
  have hP : va_P (dC, dI) vwCl (wc_u cyI cyJ aa s_lanes s_sizes s_cells x_kinds x_digits x_causes x_effects x_things x_follows x_due t_kinds t_digits t_caseRow t_weights t_order t_calls x_things t_caseCount t_caseSet p_callsOfCase p_partOfCase p_callsOfPart p_cases p_parts r_cases r_hours r_sets r_count u_lists u_breaths u_heard u_traced u_lastFault) H := hP
  have hD : va_D A (wc_u cyI cyJ aa s_lanes s_sizes s_cells x_kinds x_digits x_causes x_effects x_things x_follows x_due t_kinds t_digits t_caseRow t_weights t_order t_calls x_things t_caseCount t_caseSet p_callsOfCase p_partOfCase p_callsOfPart p_cases p_parts r_cases r_hours r_sets r_count u_lists u_breaths u_heard u_traced u_lastFault) := hD
  refine lv_iconst (v := (0 : Int32)) hx hb dX4_build_8 (by decide) ?_
  refine lv_istore_n (lv' := [(2, .int (0 : Int32)), (0, .ref (aa 10)), (1, .ref (aa 5))]) hx hb dX4_build_9 rfl hl (by decide) rfl (fun ls hl => ?_)
  obtain ⟨ni, h⟩ := h
  have lp_10 : ∀ (kk : (Nat → Int32) → (Nat → Int32) → Prop), (∀ (xx_10 : Nat → Int32) (xx_11 : Nat → Int32) (H : Heap) (locs : List Loc) (ls : Array Slot), va_P (dC, dI) vwCl (wc_u cyI cyJ aa s_lanes s_sizes s_cells x_kinds x_digits x_causes x_effects x_things x_follows x_due xx_10 xx_11 t_caseRow t_weights t_order t_calls x_things t_caseCount t_caseSet p_callsOfCase p_partOfCase p_callsOfPart p_cases p_parts r_cases r_hours r_sets r_count u_lists u_breaths u_heard u_traced u_lastFault) H → va_D A (wc_u cyI cyJ aa s_lanes s_sizes s_cells x_kinds x_digits x_causes x_effects x_things x_follows x_due xx_10 xx_11 t_caseRow t_weights t_order t_calls x_things t_caseCount t_caseSet p_callsOfCase p_partOfCase p_callsOfPart p_cases p_parts r_cases r_hours r_sets r_count u_lists u_breaths u_heard u_traced u_lastFault) → va_S A s.heap H locs → lv_has ls 3 [(0, .ref (aa 10)), (1, .ref (aa 5))] → kk xx_10 xx_11 → W p l e (xq_R 3 66) s m args below meth c H locs 0 0 Q (F0 m 54 ls [])) → ∀ (ni : Nat) (aa_7 : Int32) (cc_8 : Nat → Int32) (cc_9 : Nat → Int32) (H : Heap) (locs : List Loc) (ls : Array Slot), va_P (dC, dI) vwCl (wc_u cyI cyJ aa s_lanes s_sizes s_cells x_kinds x_digits x_causes x_effects x_things x_follows x_due cc_8 cc_9 t_caseRow t_weights t_order t_calls x_things t_caseCount t_caseSet p_callsOfCase p_partOfCase p_callsOfPart p_cases p_parts r_cases r_hours r_sets r_count u_lists u_breaths u_heard u_traced u_lastFault) H → va_D A (wc_u cyI cyJ aa s_lanes s_sizes s_cells x_kinds x_digits x_causes x_effects x_things x_follows x_due cc_8 cc_9 t_caseRow t_weights t_order t_calls x_things t_caseCount t_caseSet p_callsOfCase p_partOfCase p_callsOfPart p_cases p_parts r_cases r_hours r_sets r_count u_lists u_breaths u_heard u_traced u_lastFault) → va_S A s.heap H locs → lv_has ls 3 [(0, .ref (aa 10)), (1, .ref (aa 5)), (2, .int aa_7)] → w_X4_build_L10 x_kinds x_digits x_causes x_effects x_things x_follows t_caseRow t_weights t_order t_calls x_things t_caseCount t_caseSet post kk ni aa_7 cc_8 cc_9 → W p l e (xq_R 3 66) s m args below meth c H locs 0 0 Q (F0 m 10 ls []) := by
    intro kk kx ni
    induction ni with
    | zero => intros; exact False.elim (by assumption)
    | succ ni ih =>
      intro aa_7 cc_8 cc_9 H locs ls hP hD hS hl h
      rw [w_X4_build_L10] at h
      refine lv_iload_n hx hb dX4_build_10 rfl (lv_at hl 2 rfl) ?_
      refine lv_aload_n hx hb dX4_build_11 rfl (lv_at hl 0 rfl) ?_
      refine va_get (D := (dC, dI)) (ci := 4) (v := .int x_things) (C := RX4) (T := TX4) (N := 9) hx hb hts hi_X4 hown hK hP 10 rfl rfl 6 (by decide) fl_30 (fun _ h9 => h9) rfl dX4_build_12 ?_
      refine lv_icmp_ge (tgt := 54) hx hb dX4_build_15 (by decide) (fun hc_39 => ?_) (fun hc_39 => ?_)
      · have h := h.1 hc_39
        exact kx cc_8 cc_9 _ _ _ hP hD hS (lv_sub hl [0, 1] rfl) h
      · have h := h.2 hc_39
        refine lv_iload_n hx hb dX4_build_18 rfl (lv_at hl 2 rfl) ?_
        refine lv_bipush (v := (6 : Int32)) hx hb dX4_build_19 (by decide) ?_
        refine lv_icmp_ge (tgt := 54) hx hb dX4_build_21 (by decide) (fun hc_38 => ?_) (fun hc_38 => ?_)
        · have h := h.1 hc_38
          exact kx cc_8 cc_9 _ _ _ hP hD hS (lv_sub hl [0, 1] rfl) h
        · have h := h.2 hc_38
          refine lv_aload_n hx hb dX4_build_24 rfl (lv_at hl 0 rfl) ?_
          refine va_get (D := (dC, dI)) (ci := 4) (v := .ref (aa 11)) (C := RX4) (T := TX4) (N := 9) hx hb hts hi_X4 hown hK hP 10 rfl rfl 0 (by decide) fl_9 (fun _ h9 => h9) rfl dX4_build_25 ?_
          refine lv_iload_n hx hb dX4_build_28 rfl (lv_at hl 2 rfl) ?_
          refine lv_aload_n hx hb dX4_build_29 rfl (lv_at hl 1 rfl) ?_
          refine va_get (D := (dC, dI)) (ci := 3) (v := .ref (aa 6)) (C := RX3) (T := TX3) (N := 7) hx hb hts hi_X3 hown hK hP 5 rfl rfl 0 (by decide) fl_48 (fun _ h9 => h9) rfl dX4_build_30 ?_
          refine lv_iload_n hx hb dX4_build_33 rfl (lv_at hl 2 rfl) ?_
          obtain ⟨hv_34, h⟩ := h
          refine va_iald hx hb hK hP 6 0 rfl rfl hv_34 dX4_build_34 ?_
          obtain ⟨hv_35, h⟩ := h
          refine va_iast hx hb hK hP hD hS 11 0 rfl rfl hv_35 dX4_build_35 (fun H locs hP hD hS => ?_)
          have hP : va_P (dC, dI) vwCl (wc_u cyI cyJ aa s_lanes s_sizes s_cells x_kinds x_digits x_causes x_effects x_things x_follows x_due (upd cc_8 aa_7.toNatClampNeg (x_kinds aa_7.toNatClampNeg)) cc_9 t_caseRow t_weights t_order t_calls x_things t_caseCount t_caseSet p_callsOfCase p_partOfCase p_callsOfPart p_cases p_parts r_cases r_hours r_sets r_count u_lists u_breaths u_heard u_traced u_lastFault) H := hP
          have hD : va_D A (wc_u cyI cyJ aa s_lanes s_sizes s_cells x_kinds x_digits x_causes x_effects x_things x_follows x_due (upd cc_8 aa_7.toNatClampNeg (x_kinds aa_7.toNatClampNeg)) cc_9 t_caseRow t_weights t_order t_calls x_things t_caseCount t_caseSet p_callsOfCase p_partOfCase p_callsOfPart p_cases p_parts r_cases r_hours r_sets r_count u_lists u_breaths u_heard u_traced u_lastFault) := hD
          refine lv_aload_n hx hb dX4_build_36 rfl (lv_at hl 0 rfl) ?_
          refine va_get (D := (dC, dI)) (ci := 4) (v := .ref (aa 12)) (C := RX4) (T := TX4) (N := 9) hx hb hts hi_X4 hown hK hP 10 rfl rfl 1 (by decide) fl_15 (fun _ h9 => h9) rfl dX4_build_37 ?_
          refine lv_iload_n hx hb dX4_build_40 rfl (lv_at hl 2 rfl) ?_
          refine lv_aload_n hx hb dX4_build_41 rfl (lv_at hl 1 rfl) ?_
          refine va_get (D := (dC, dI)) (ci := 3) (v := .ref (aa 7)) (C := RX3) (T := TX3) (N := 7) hx hb hts hi_X3 hown hK hP 5 rfl rfl 1 (by decide) fl_49 (fun _ h9 => h9) rfl dX4_build_42 ?_
          refine lv_iload_n hx hb dX4_build_45 rfl (lv_at hl 2 rfl) ?_
          obtain ⟨hv_36, h⟩ := h
          refine va_iald hx hb hK hP 7 0 rfl rfl hv_36 dX4_build_46 ?_
          obtain ⟨hv_37, h⟩ := h
          refine va_iast hx hb hK hP hD hS 12 0 rfl rfl hv_37 dX4_build_47 (fun H locs hP hD hS => ?_)
          have hP : va_P (dC, dI) vwCl (wc_u cyI cyJ aa s_lanes s_sizes s_cells x_kinds x_digits x_causes x_effects x_things x_follows x_due (upd cc_8 aa_7.toNatClampNeg (x_kinds aa_7.toNatClampNeg)) (upd cc_9 aa_7.toNatClampNeg (x_digits aa_7.toNatClampNeg)) t_caseRow t_weights t_order t_calls x_things t_caseCount t_caseSet p_callsOfCase p_partOfCase p_callsOfPart p_cases p_parts r_cases r_hours r_sets r_count u_lists u_breaths u_heard u_traced u_lastFault) H := hP
          have hD : va_D A (wc_u cyI cyJ aa s_lanes s_sizes s_cells x_kinds x_digits x_causes x_effects x_things x_follows x_due (upd cc_8 aa_7.toNatClampNeg (x_kinds aa_7.toNatClampNeg)) (upd cc_9 aa_7.toNatClampNeg (x_digits aa_7.toNatClampNeg)) t_caseRow t_weights t_order t_calls x_things t_caseCount t_caseSet p_callsOfCase p_partOfCase p_callsOfPart p_cases p_parts r_cases r_hours r_sets r_count u_lists u_breaths u_heard u_traced u_lastFault) := hD
          refine lv_iinc (v := (aa_7 + (1 : Int32))) (lv' := [(2, .int (aa_7 + (1 : Int32))), (0, .ref (aa 10)), (1, .ref (aa 5))]) hx hb dX4_build_48 hl (k := 2) rfl rfl (by decide) rfl (fun ls hl => ?_)
          refine lv_goto (tgt := 10) hx hb dX4_build_51 (by decide) ?_
          exact ih (aa_7 + (1 : Int32)) (upd cc_8 aa_7.toNatClampNeg (x_kinds aa_7.toNatClampNeg)) (upd cc_9 aa_7.toNatClampNeg (x_digits aa_7.toNatClampNeg)) _ _ _ hP hD hS (lv_sub hl [1, 2, 0] rfl) h
  refine lp_10 _ (fun xx_10 xx_11 H locs ls hP hD hS hl h => ?_) ni (0 : Int32) t_kinds t_digits _ _ _ hP hD hS (lv_sub hl [1, 2, 0] rfl) h
  refine lv_aload_n hx hb dX4_build_54 rfl (lv_at hl 0 rfl) ?_
  refine lv_aload_n hx hb dX4_build_55 rfl (lv_at hl 1 rfl) ?_
  refine xq_cv (va_runV (As := [.ref (aa 5)]) (rest := []) ⟨hx, hb, hml, hown, hts⟩ (m_X4_findCases l dC dI cyI cyJ aa H.size h) (cwV 1 hts gX4_build_X4_findCases rfl rfl rfl (by decide +kernel) ⟨Nat.le_of_ble_eq_true rfl, Nat.le_of_ble_eq_true rfl⟩) (xq_preV hK hP hD hN (ci := 4) (q0 := 10) rfl rfl) rfl rfl hl.1 rfl (lv_room (Nat.le_of_ble_eq_true rfl)) dX4_build_56 ⟨Nat.le_refl _, Nat.le_refl _⟩) hD hS hA (fun uu H locs h hP hD hS => ?_)
  obtain ⟨cc_12, cc_13, cc_14, cc_15⟩ := uu
  have hP : va_P (dC, dI) vwCl (wc_u cyI cyJ aa s_lanes s_sizes s_cells x_kinds x_digits x_causes x_effects x_things x_follows x_due xx_10 xx_11 cc_12 cc_13 t_order t_calls x_things cc_14 cc_15 p_callsOfCase p_partOfCase p_callsOfPart p_cases p_parts r_cases r_hours r_sets r_count u_lists u_breaths u_heard u_traced u_lastFault) H := hP
  have hD : va_D A (wc_u cyI cyJ aa s_lanes s_sizes s_cells x_kinds x_digits x_causes x_effects x_things x_follows x_due xx_10 xx_11 cc_12 cc_13 t_order t_calls x_things cc_14 cc_15 p_callsOfCase p_partOfCase p_callsOfPart p_cases p_parts r_cases r_hours r_sets r_count u_lists u_breaths u_heard u_traced u_lastFault) := hD
  refine lv_aload_n hx hb dX4_build_59 rfl (lv_at hl 0 rfl) ?_
  refine xq_cv (va_runV (As := []) (rest := []) ⟨hx, hb, hml, hown, hts⟩ (m_X4_orderThings l dC dI cyI cyJ aa H.size h) (cwV 0 hts gX4_build_X4_orderThings rfl rfl rfl (by decide +kernel) ⟨Nat.le_of_ble_eq_true rfl, Nat.le_of_ble_eq_true rfl⟩) (xq_preV hK hP hD hN (ci := 4) (q0 := 10) rfl rfl) rfl rfl hl.1 rfl (lv_room (Nat.le_of_ble_eq_true rfl)) dX4_build_60 ⟨Nat.le_refl _, Nat.le_refl _⟩) hD hS hA (fun uu H locs h hP hD hS => ?_)
  obtain ⟨cc_16, rfl⟩ : ∃ z, z = uu := ⟨_, rfl⟩
  have hP : va_P (dC, dI) vwCl (wc_u cyI cyJ aa s_lanes s_sizes s_cells x_kinds x_digits x_causes x_effects x_things x_follows x_due xx_10 xx_11 cc_12 cc_13 cc_16 t_calls x_things cc_14 cc_15 p_callsOfCase p_partOfCase p_callsOfPart p_cases p_parts r_cases r_hours r_sets r_count u_lists u_breaths u_heard u_traced u_lastFault) H := hP
  have hD : va_D A (wc_u cyI cyJ aa s_lanes s_sizes s_cells x_kinds x_digits x_causes x_effects x_things x_follows x_due xx_10 xx_11 cc_12 cc_13 cc_16 t_calls x_things cc_14 cc_15 p_callsOfCase p_partOfCase p_callsOfPart p_cases p_parts r_cases r_hours r_sets r_count u_lists u_breaths u_heard u_traced u_lastFault) := hD
  refine lv_iconst (v := (0 : Int32)) hx hb dX4_build_63 (by decide) ?_
  refine lv_istore_n (lv' := [(2, .int (0 : Int32)), (0, .ref (aa 10)), (1, .ref (aa 5))]) hx hb dX4_build_64 rfl hl (by decide) rfl (fun ls hl => ?_)
  obtain ⟨ni, h⟩ := h
  have lp_65 : ∀ (kk : (Nat → Int32) → Prop), (∀ (xx_25 : Nat → Int32) (H : Heap) (locs : List Loc) (ls : Array Slot), va_P (dC, dI) vwCl (wc_u cyI cyJ aa s_lanes s_sizes s_cells x_kinds x_digits x_causes x_effects x_things x_follows x_due xx_10 xx_11 cc_12 cc_13 cc_16 xx_25 x_things cc_14 cc_15 p_callsOfCase p_partOfCase p_callsOfPart p_cases p_parts r_cases r_hours r_sets r_count u_lists u_breaths u_heard u_traced u_lastFault) H → va_D A (wc_u cyI cyJ aa s_lanes s_sizes s_cells x_kinds x_digits x_causes x_effects x_things x_follows x_due xx_10 xx_11 cc_12 cc_13 cc_16 xx_25 x_things cc_14 cc_15 p_callsOfCase p_partOfCase p_callsOfPart p_cases p_parts r_cases r_hours r_sets r_count u_lists u_breaths u_heard u_traced u_lastFault) → va_S A s.heap H locs → lv_has ls 3 [] → kk xx_25 → W p l e (xq_R 3 66) s m args below meth c H locs 0 0 Q (F0 m 90 ls [])) → ∀ (ni : Nat) (aa_23 : Int32) (cc_24 : Nat → Int32) (H : Heap) (locs : List Loc) (ls : Array Slot), va_P (dC, dI) vwCl (wc_u cyI cyJ aa s_lanes s_sizes s_cells x_kinds x_digits x_causes x_effects x_things x_follows x_due xx_10 xx_11 cc_12 cc_13 cc_16 cc_24 x_things cc_14 cc_15 p_callsOfCase p_partOfCase p_callsOfPart p_cases p_parts r_cases r_hours r_sets r_count u_lists u_breaths u_heard u_traced u_lastFault) H → va_D A (wc_u cyI cyJ aa s_lanes s_sizes s_cells x_kinds x_digits x_causes x_effects x_things x_follows x_due xx_10 xx_11 cc_12 cc_13 cc_16 cc_24 x_things cc_14 cc_15 p_callsOfCase p_partOfCase p_callsOfPart p_cases p_parts r_cases r_hours r_sets r_count u_lists u_breaths u_heard u_traced u_lastFault) → va_S A s.heap H locs → lv_has ls 3 [(0, .ref (aa 10)), (2, .int aa_23)] → w_X4_build_L65 x_kinds x_digits x_causes x_effects x_things x_follows xx_10 xx_11 cc_12 cc_13 cc_16 x_things cc_14 cc_15 post kk ni aa_23 cc_24 → W p l e (xq_R 3 66) s m args below meth c H locs 0 0 Q (F0 m 65 ls []) := by
    intro kk kx ni
    induction ni with
    | zero => intros; exact False.elim (by assumption)
    | succ ni ih =>
      intro aa_23 cc_24 H locs ls hP hD hS hl h
      rw [w_X4_build_L65] at h
      refine lv_iload_n hx hb dX4_build_65 rfl (lv_at hl 1 rfl) ?_
      refine lv_aload_n hx hb dX4_build_66 rfl (lv_at hl 0 rfl) ?_
      refine xq_ci (va_runV (As := []) (rest := [.int aa_23]) ⟨hx, hb, hml, hown, hts⟩ (m_X4_sets l dC dI cyI cyJ aa H.size h) (cwV 0 hts gX4_build_X4_sets rfl rfl rfl (by decide +kernel) ⟨Nat.le_of_ble_eq_true rfl, Nat.le_of_ble_eq_true rfl⟩) (xq_preV hK hP hD hN (ci := 4) (q0 := 10) rfl rfl) rfl rfl hl.1 rfl (lv_room (Nat.le_of_ble_eq_true rfl)) dX4_build_67 ⟨Nat.le_refl _, Nat.le_refl _⟩) hD hS hA (fun rr_26 uu H locs h hP hD hS => ?_)
      have hP : va_P (dC, dI) vwCl (wc_u cyI cyJ aa s_lanes s_sizes s_cells x_kinds x_digits x_causes x_effects x_things x_follows x_due xx_10 xx_11 cc_12 cc_13 cc_16 cc_24 x_things cc_14 cc_15 p_callsOfCase p_partOfCase p_callsOfPart p_cases p_parts r_cases r_hours r_sets r_count u_lists u_breaths u_heard u_traced u_lastFault) H := hP
      have hD : va_D A (wc_u cyI cyJ aa s_lanes s_sizes s_cells x_kinds x_digits x_causes x_effects x_things x_follows x_due xx_10 xx_11 cc_12 cc_13 cc_16 cc_24 x_things cc_14 cc_15 p_callsOfCase p_partOfCase p_callsOfPart p_cases p_parts r_cases r_hours r_sets r_count u_lists u_breaths u_heard u_traced u_lastFault) := hD
      refine lv_icmp_ge (tgt := 90) hx hb dX4_build_70 (by decide) (fun hc_30 => ?_) (fun hc_30 => ?_)
      · have h := h.1 hc_30
        exact kx cc_24 _ _ _ hP hD hS (lv_sub hl [] rfl) h
      · have h := h.2 hc_30
        refine lv_iload_n hx hb dX4_build_73 rfl (lv_at hl 1 rfl) ?_
        refine lv_bipush (v := (64 : Int32)) hx hb dX4_build_74 (by decide) ?_
        refine lv_icmp_ge (tgt := 90) hx hb dX4_build_76 (by decide) (fun hc_29 => ?_) (fun hc_29 => ?_)
        · have h := h.1 hc_29
          exact kx cc_24 _ _ _ hP hD hS (lv_sub hl [] rfl) h
        · have h := h.2 hc_29
          refine lv_aload_n hx hb dX4_build_79 rfl (lv_at hl 0 rfl) ?_
          refine lv_iload_n hx hb dX4_build_80 rfl (lv_at hl 1 rfl) ?_
          refine xq_cv (va_runV (As := [.int aa_23]) (rest := []) ⟨hx, hb, hml, hown, hts⟩ (m_X4_fillCalls l dC dI cyI cyJ aa H.size h) (cwV 1 hts gX4_build_X4_fillCalls rfl rfl rfl (by decide +kernel) ⟨Nat.le_of_ble_eq_true rfl, Nat.le_of_ble_eq_true rfl⟩) (xq_preV hK hP hD hN (ci := 4) (q0 := 10) rfl rfl) rfl rfl hl.1 rfl (lv_room (Nat.le_of_ble_eq_true rfl)) dX4_build_81 ⟨Nat.le_refl _, Nat.le_refl _⟩) hD hS hA (fun uu H locs h hP hD hS => ?_)
          obtain ⟨cc_27, rfl⟩ : ∃ z, z = uu := ⟨_, rfl⟩
          have hP : va_P (dC, dI) vwCl (wc_u cyI cyJ aa s_lanes s_sizes s_cells x_kinds x_digits x_causes x_effects x_things x_follows x_due xx_10 xx_11 cc_12 cc_13 cc_16 cc_27 x_things cc_14 cc_15 p_callsOfCase p_partOfCase p_callsOfPart p_cases p_parts r_cases r_hours r_sets r_count u_lists u_breaths u_heard u_traced u_lastFault) H := hP
          have hD : va_D A (wc_u cyI cyJ aa s_lanes s_sizes s_cells x_kinds x_digits x_causes x_effects x_things x_follows x_due xx_10 xx_11 cc_12 cc_13 cc_16 cc_27 x_things cc_14 cc_15 p_callsOfCase p_partOfCase p_callsOfPart p_cases p_parts r_cases r_hours r_sets r_count u_lists u_breaths u_heard u_traced u_lastFault) := hD
          refine lv_iinc (v := (aa_23 + (1 : Int32))) (lv' := [(2, .int (aa_23 + (1 : Int32))), (0, .ref (aa 10))]) hx hb dX4_build_84 hl (k := 1) rfl rfl (by decide) rfl (fun ls hl => ?_)
          refine lv_goto (tgt := 65) hx hb dX4_build_87 (by decide) ?_
          exact ih (aa_23 + (1 : Int32)) cc_27 _ _ _ hP hD hS (lv_sub hl [1, 0] rfl) h
  refine lp_65 _ (fun xx_25 H locs ls hP hD hS hl h => ?_) ni (0 : Int32) t_calls _ _ _ hP hD hS (lv_sub hl [1, 0] rfl) h
  exact xq_rv hQ hx hb hr hP hK hD hS (xx_10, xx_11, cc_12, cc_13, cc_16, xx_25, x_things, cc_14, cc_15) rfl h dX4_build_90 hlocks
def w_X4_isCase (t_caseSet : Int64) (a_1 : Int32) (post : Int32 → Prop) : Prop := (a_1 < 0 → (post (0 : Int32))) ∧ (¬ a_1 < 0 → (((64 : Int32) ≤ a_1 → (post (0 : Int32))) ∧ (¬ (64 : Int32) ≤ a_1 → ((¬ (lg_cmp ((t_caseSet >>> (Int32.toInt64 a_1 &&& 63)) &&& (1 : Int64)) (1 : Int64)) = 0 → (post (0 : Int32))) ∧ ((lg_cmp ((t_caseSet >>> (Int32.toInt64 a_1 &&& 63)) &&& (1 : Int64)) (1 : Int64)) = 0 → (post (1 : Int32)))))))
set_option maxHeartbeats 4000000 in
set_option maxRecDepth 100000 in
theorem m_X4_isCase (l : Launch) (dC : Nat → ClassId) (dI : Nat → Nat → Nat) (cyI cyJ : ClassId) (aa : Nat → Nat) (sz : Nat) {s_lanes : Nat → Int32} {s_sizes : Nat → Int32} {s_cells : Nat → Int32} {x_kinds : Nat → Int32} {x_digits : Nat → Int32} {x_causes : Nat → Int32} {x_effects : Nat → Int32} {x_things : Int32} {x_follows : Int32} {x_due : Int32} {t_kinds : Nat → Int32} {t_digits : Nat → Int32} {t_caseRow : Nat → Int32} {t_weights : Nat → Int32} {t_order : Nat → Int32} {t_calls : Nat → Int32} {t_things : Int32} {t_caseCount : Int32} {t_caseSet : Int64} {p_callsOfCase : Nat → Int64} {p_partOfCase : Nat → Int32} {p_callsOfPart : Nat → Int64} {p_cases : Int32} {p_parts : Int32} {r_cases : Nat → Int32} {r_hours : Nat → Int32} {r_sets : Nat → Int32} {r_count : Int32} {u_lists : Nat → Int32} {u_breaths : Nat → Int32} {u_heard : Nat → Int32} {u_traced : Int32} {u_lastFault : Int32} {a_1 : Int32} {post : Int32 → Prop} (h : w_X4_isCase t_caseSet a_1 post) : Met l yX4_isCase wsX4_isCase (xq_R 0 0) (va_Pc [.ref (aa 10), .int a_1] (xq_P (dC, dI) [(cyI, .int), (cyJ, .long)] (wc_u cyI cyJ aa s_lanes s_sizes s_cells x_kinds x_digits x_causes x_effects x_things x_follows x_due t_kinds t_digits t_caseRow t_weights t_order t_calls t_things t_caseCount t_caseSet p_callsOfCase p_partOfCase p_callsOfPart p_cases p_parts r_cases r_hours r_sets r_count u_lists u_breaths u_heard u_traced u_lastFault) sz)) (va_Qi (fun (rr : Int32) (uu : Unit) => post rr ) (fun (uu : Unit) => xq_B (dC, dI) [(cyI, .int), (cyJ, .long)] (va_A (wc_u cyI cyJ aa s_lanes s_sizes s_cells x_kinds x_digits x_causes x_effects x_things x_follows x_due t_kinds t_digits t_caseRow t_weights t_order t_calls t_things t_caseCount t_caseSet p_callsOfCase p_partOfCase p_callsOfPart p_cases p_parts r_cases r_hours r_sets r_count u_lists u_breaths u_heard u_traced u_lastFault) sz) (wc_u cyI cyJ aa s_lanes s_sizes s_cells x_kinds x_digits x_causes x_effects x_things x_follows x_due t_kinds t_digits t_caseRow t_weights t_order t_calls t_things t_caseCount t_caseSet p_callsOfCase p_partOfCase p_callsOfPart p_cases p_parts r_cases r_hours r_sets r_count u_lists u_breaths u_heard u_traced u_lastFault)) (va_A (wc_u cyI cyJ aa s_lanes s_sizes s_cells x_kinds x_digits x_causes x_effects x_things x_follows x_due t_kinds t_digits t_caseRow t_weights t_order t_calls t_things t_caseCount t_caseSet p_callsOfCase p_partOfCase p_callsOfPart p_cases p_parts r_cases r_hours r_sets r_count u_lists u_breaths u_heard u_traced u_lastFault) sz)) 0 0 (va_A (wc_u cyI cyJ aa s_lanes s_sizes s_cells x_kinds x_digits x_causes x_effects x_things x_follows x_due t_kinds t_digits t_caseRow t_weights t_order t_calls t_things t_caseCount t_caseSet p_callsOfCase p_partOfCase p_callsOfPart p_cases p_parts r_cases r_hours r_sets r_count u_lists u_breaths u_heard u_traced u_lastFault) sz) := by
  refine xq_M (cc := cX4_isCase) (maxL := 2) (ret := (some .boolean)) (QA := fun A => va_Qi (fun (rr : Int32) (uu : Unit) => post rr ) (fun (uu : Unit) => xq_B (dC, dI) [(cyI, .int), (cyJ, .long)] A (wc_u cyI cyJ aa s_lanes s_sizes s_cells x_kinds x_digits x_causes x_effects x_things x_follows x_due t_kinds t_digits t_caseRow t_weights t_order t_calls t_things t_caseCount t_caseSet p_callsOfCase p_partOfCase p_callsOfPart p_cases p_parts r_cases r_hours r_sets r_count u_lists u_breaths u_heard u_traced u_lastFault)) A) (by decide) rfl (Nat.le_of_ble_eq_true rfl) ?_
  intro p e s m args below meth c A ls Q hQ hx hb hr hml hts hown hlocks hsz hP hK hD hA hS hN hl
  subst hsz
  have hl : lv_has ls 2 [(0, .ref (aa 10)), (1, .int a_1)] := hl
  have hi_X4 : ∀ w ∈ wsX40, w ∈ wsX4_isCase := fun _ h => List.mem_cons_of_mem _ (List.mem_append_right _ h)
  have fl_38 := hts (.fieldLink RX4 38 "UnsaidCalls$Town" "caseSet" "J") (by decide +kernel)
  unfold w_X4_isCase at h
  refine lv_iload_n hx hb dX4_isCase_0 rfl (lv_at hl 1 rfl) ?_
  refine lv_if_lt (tgt := 27) hx hb dX4_isCase_1 (by decide) (fun hc_3 => ?_) (fun hc_3 => ?_)
  · have h := h.1 hc_3
    refine lv_iconst (v := (0 : Int32)) hx hb dX4_isCase_27 (by decide) ?_
    exact xq_rz hQ hx hb hr (by decide) hP hK hD hS () rfl h dX4_isCase_28 hlocks
  · have h := h.2 hc_3
    refine lv_iload_n hx hb dX4_isCase_4 rfl (lv_at hl 1 rfl) ?_
    refine lv_bipush (v := (64 : Int32)) hx hb dX4_isCase_5 (by decide) ?_
    refine lv_icmp_ge (tgt := 27) hx hb dX4_isCase_7 (by decide) (fun hc_2 => ?_) (fun hc_2 => ?_)
    · have h := h.1 hc_2
      refine lv_iconst (v := (0 : Int32)) hx hb dX4_isCase_27 (by decide) ?_
      exact xq_rz hQ hx hb hr (by decide) hP hK hD hS () rfl h dX4_isCase_28 hlocks
    · have h := h.2 hc_2
      refine lv_aload_n hx hb dX4_isCase_10 rfl (lv_at hl 0 rfl) ?_
      refine va_get (D := (dC, dI)) (ci := 4) (v := .long t_caseSet) (C := RX4) (T := TX4) (N := 9) hx hb hts hi_X4 hown hK hP 10 rfl rfl 8 (by decide) fl_38 (fun _ h9 => h9) rfl dX4_isCase_11 ?_
      refine lv_iload_n hx hb dX4_isCase_14 rfl (lv_at hl 1 rfl) ?_
      refine lv_lshr (v := (t_caseSet >>> (Int32.toInt64 a_1 &&& 63))) hx hb dX4_isCase_15 rfl ?_
      refine lv_lconst (v := (1 : Int64)) hx hb dX4_isCase_16 (by decide) ?_
      refine lv_land hx hb dX4_isCase_17 ?_
      refine lv_lconst (v := (1 : Int64)) hx hb dX4_isCase_18 (by decide) ?_
      refine W.lcmp hx hb dX4_isCase_19 ?_
      refine lv_if_ne (tgt := 27) hx hb dX4_isCase_20 (by decide) (fun hc_1 => ?_) (fun hc_1 => ?_)
      · have h := h.1 hc_1
        refine lv_iconst (v := (0 : Int32)) hx hb dX4_isCase_27 (by decide) ?_
        exact xq_rz hQ hx hb hr (by decide) hP hK hD hS () rfl h dX4_isCase_28 hlocks
      · have h := h.2 hc_1
        refine lv_iconst (v := (1 : Int32)) hx hb dX4_isCase_23 (by decide) ?_
        refine lv_goto (tgt := 28) hx hb dX4_isCase_24 (by decide) ?_
        exact xq_rz hQ hx hb hr (by decide) hP hK hD hS () rfl h dX4_isCase_28 hlocks
def w_X4_isSet (t_things : Int32) (a_1 : Int32) (post : Int32 → Prop) : Prop := w_X4_allThings t_things (fun (rr_1 : Int32) => (¬ (a_1 &&& (rr_1 ^^^ (-1 : Int32))) = 0 → (post (0 : Int32))) ∧ ((a_1 &&& (rr_1 ^^^ (-1 : Int32))) = 0 → (post (1 : Int32))))
set_option maxHeartbeats 4000000 in
set_option maxRecDepth 100000 in
theorem m_X4_isSet (l : Launch) (dC : Nat → ClassId) (dI : Nat → Nat → Nat) (cyI cyJ : ClassId) (aa : Nat → Nat) (sz : Nat) {s_lanes : Nat → Int32} {s_sizes : Nat → Int32} {s_cells : Nat → Int32} {x_kinds : Nat → Int32} {x_digits : Nat → Int32} {x_causes : Nat → Int32} {x_effects : Nat → Int32} {x_things : Int32} {x_follows : Int32} {x_due : Int32} {t_kinds : Nat → Int32} {t_digits : Nat → Int32} {t_caseRow : Nat → Int32} {t_weights : Nat → Int32} {t_order : Nat → Int32} {t_calls : Nat → Int32} {t_things : Int32} {t_caseCount : Int32} {t_caseSet : Int64} {p_callsOfCase : Nat → Int64} {p_partOfCase : Nat → Int32} {p_callsOfPart : Nat → Int64} {p_cases : Int32} {p_parts : Int32} {r_cases : Nat → Int32} {r_hours : Nat → Int32} {r_sets : Nat → Int32} {r_count : Int32} {u_lists : Nat → Int32} {u_breaths : Nat → Int32} {u_heard : Nat → Int32} {u_traced : Int32} {u_lastFault : Int32} {a_1 : Int32} {post : Int32 → Prop} (h : w_X4_isSet t_things a_1 post) : Met l yX4_isSet wsX4_isSet (xq_R 2 40) (va_Pc [.ref (aa 10), .int a_1] (xq_P (dC, dI) [(cyI, .int), (cyJ, .long)] (wc_u cyI cyJ aa s_lanes s_sizes s_cells x_kinds x_digits x_causes x_effects x_things x_follows x_due t_kinds t_digits t_caseRow t_weights t_order t_calls t_things t_caseCount t_caseSet p_callsOfCase p_partOfCase p_callsOfPart p_cases p_parts r_cases r_hours r_sets r_count u_lists u_breaths u_heard u_traced u_lastFault) sz)) (va_Qi (fun (rr : Int32) (uu : Unit) => post rr ) (fun (uu : Unit) => xq_B (dC, dI) [(cyI, .int), (cyJ, .long)] (va_A (wc_u cyI cyJ aa s_lanes s_sizes s_cells x_kinds x_digits x_causes x_effects x_things x_follows x_due t_kinds t_digits t_caseRow t_weights t_order t_calls t_things t_caseCount t_caseSet p_callsOfCase p_partOfCase p_callsOfPart p_cases p_parts r_cases r_hours r_sets r_count u_lists u_breaths u_heard u_traced u_lastFault) sz) (wc_u cyI cyJ aa s_lanes s_sizes s_cells x_kinds x_digits x_causes x_effects x_things x_follows x_due t_kinds t_digits t_caseRow t_weights t_order t_calls t_things t_caseCount t_caseSet p_callsOfCase p_partOfCase p_callsOfPart p_cases p_parts r_cases r_hours r_sets r_count u_lists u_breaths u_heard u_traced u_lastFault)) (va_A (wc_u cyI cyJ aa s_lanes s_sizes s_cells x_kinds x_digits x_causes x_effects x_things x_follows x_due t_kinds t_digits t_caseRow t_weights t_order t_calls t_things t_caseCount t_caseSet p_callsOfCase p_partOfCase p_callsOfPart p_cases p_parts r_cases r_hours r_sets r_count u_lists u_breaths u_heard u_traced u_lastFault) sz)) 0 0 (va_A (wc_u cyI cyJ aa s_lanes s_sizes s_cells x_kinds x_digits x_causes x_effects x_things x_follows x_due t_kinds t_digits t_caseRow t_weights t_order t_calls t_things t_caseCount t_caseSet p_callsOfCase p_partOfCase p_callsOfPart p_cases p_parts r_cases r_hours r_sets r_count u_lists u_breaths u_heard u_traced u_lastFault) sz) := by
  refine xq_M (cc := cX4_isSet) (maxL := 2) (ret := (some .boolean)) (QA := fun A => va_Qi (fun (rr : Int32) (uu : Unit) => post rr ) (fun (uu : Unit) => xq_B (dC, dI) [(cyI, .int), (cyJ, .long)] A (wc_u cyI cyJ aa s_lanes s_sizes s_cells x_kinds x_digits x_causes x_effects x_things x_follows x_due t_kinds t_digits t_caseRow t_weights t_order t_calls t_things t_caseCount t_caseSet p_callsOfCase p_partOfCase p_callsOfPart p_cases p_parts r_cases r_hours r_sets r_count u_lists u_breaths u_heard u_traced u_lastFault)) A) (by decide) rfl (Nat.le_of_ble_eq_true rfl) ?_
  intro p e s m args below meth c A ls Q hQ hx hb hr hml hts hown hlocks hsz hP hK hD hA hS hN hl
  subst hsz
  have hl : lv_has ls 2 [(0, .ref (aa 10)), (1, .int a_1)] := hl
  unfold w_X4_isSet at h
  refine lv_iload_n hx hb dX4_isSet_0 rfl (lv_at hl 1 rfl) ?_
  refine lv_aload_n hx hb dX4_isSet_1 rfl (lv_at hl 0 rfl) ?_
  refine xq_ci (va_runV (As := []) (rest := [.int a_1]) ⟨hx, hb, hml, hown, hts⟩ (m_X4_allThings l dC dI cyI cyJ aa s.heap.size h) (cwV 0 hts gX4_isSet_X4_allThings rfl rfl rfl (by decide +kernel) ⟨Nat.le_of_ble_eq_true rfl, Nat.le_of_ble_eq_true rfl⟩) (xq_preV hK hP hD hN (ci := 4) (q0 := 10) rfl rfl) rfl rfl hl.1 rfl (lv_room (Nat.le_of_ble_eq_true rfl)) dX4_isSet_2 ⟨Nat.le_refl _, Nat.le_refl _⟩) hD hS hA (fun rr_1 uu H locs h hP hD hS => ?_)
  have hP : va_P (dC, dI) vwCl (wc_u cyI cyJ aa s_lanes s_sizes s_cells x_kinds x_digits x_causes x_effects x_things x_follows x_due t_kinds t_digits t_caseRow t_weights t_order t_calls t_things t_caseCount t_caseSet p_callsOfCase p_partOfCase p_callsOfPart p_cases p_parts r_cases r_hours r_sets r_count u_lists u_breaths u_heard u_traced u_lastFault) H := hP
  have hD : va_D A (wc_u cyI cyJ aa s_lanes s_sizes s_cells x_kinds x_digits x_causes x_effects x_things x_follows x_due t_kinds t_digits t_caseRow t_weights t_order t_calls t_things t_caseCount t_caseSet p_callsOfCase p_partOfCase p_callsOfPart p_cases p_parts r_cases r_hours r_sets r_count u_lists u_breaths u_heard u_traced u_lastFault) := hD
  refine lv_iconst (v := (-1 : Int32)) hx hb dX4_isSet_5 (by decide) ?_
  refine lv_ixor hx hb dX4_isSet_6 ?_
  refine lv_iand hx hb dX4_isSet_7 ?_
  refine lv_if_ne (tgt := 15) hx hb dX4_isSet_8 (by decide) (fun hc_2 => ?_) (fun hc_2 => ?_)
  · have h := h.1 hc_2
    refine lv_iconst (v := (0 : Int32)) hx hb dX4_isSet_15 (by decide) ?_
    exact xq_rz hQ hx hb hr (by decide) hP hK hD hS () rfl h dX4_isSet_16 hlocks
  · have h := h.2 hc_2
    refine lv_iconst (v := (1 : Int32)) hx hb dX4_isSet_11 (by decide) ?_
    refine lv_goto (tgt := 16) hx hb dX4_isSet_12 (by decide) ?_
    exact xq_rz hQ hx hb hr (by decide) hP hK hD hS () rfl h dX4_isSet_16 hlocks
