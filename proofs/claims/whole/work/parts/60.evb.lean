theorem ev_14 {s_lanes : Nat → Int32} {s_sizes : Nat → Int32} {s_cells : Nat → Int32} {x_kinds : Nat → Int32} {x_digits : Nat → Int32} {x_causes : Nat → Int32} {x_effects : Nat → Int32} {x_things : Int32} {x_follows : Int32} {x_due : Int32} {t_kinds : Nat → Int32} {t_digits : Nat → Int32} {t_caseRow : Nat → Int32} {t_weights : Nat → Int32} {t_order : Nat → Int32} {t_calls : Nat → Int32} {t_things : Int32} {t_caseCount : Int32} {t_caseSet : Int64} {p_callsOfCase : Nat → Int64} {p_partOfCase : Nat → Int32} {p_callsOfPart : Nat → Int64} {p_cases : Int32} {p_parts : Int32} {r_cases : Nat → Int32} {r_hours : Nat → Int32} {r_sets : Nat → Int32} {r_count : Int32} {u_lists : Nat → Int32} {u_breaths : Nat → Int32} {u_heard : Nat → Int32} {u_traced : Int32} {u_lastFault : Int32} {n_fault : Int32} {n_things : Int32} {n_kindOf : Nat → Int32} {n_digitOf : Nat → Int32} {n_follows : Int32} {n_ifOf : Nat → Int32} {n_thenOf : Nat → Int32} {n_listOf : Nat → Int32} {n_breathOf : Nat → Int32} {n_heardOf : Nat → Int32} {n_readAt : Int32} {n_readThings : Int32} {n_readFollows : Int32} {n_readKind : Nat → Int32} {n_readDigit : Nat → Int32} {n_readIf : Nat → Int32} {n_readThen : Nat → Int32} {n_readings : Int32} {n_readingIn : Nat → Int32} {n_readingHour : Nat → Int32} {n_readingOf : Nat → Int32} {n_breathWas : Nat → Int32} {n_sheetSize : Nat → Int32} {n_sheetLane : Nat → Int32} {n_sheet : Nat → Int32} {n_hands : Nat → Int32} {n_traceNow : Int32} (h_i : iv_u s_lanes s_sizes s_cells x_kinds x_digits x_causes x_effects x_things x_follows x_due t_kinds t_digits t_caseRow t_weights t_order t_calls t_things t_caseCount t_caseSet p_callsOfCase p_partOfCase p_callsOfPart p_cases p_parts r_cases r_hours r_sets r_count u_lists u_breaths u_heard u_traced u_lastFault n_fault n_things n_kindOf n_digitOf n_follows n_ifOf n_thenOf n_listOf n_breathOf n_heardOf n_readAt n_readThings n_readFollows n_readKind n_readDigit n_readIf n_readThen n_readings n_readingIn n_readingHour n_readingOf n_breathWas n_sheetSize n_sheetLane n_sheet n_hands n_traceNow) (y_0 y_1 y_2 y_3 : Int32) : w_X5_secret t_caseRow t_calls t_things t_caseCount t_caseSet u_breaths y_0 y_1 y_2 y_3 (fun (r_1 : Int32) => w_X6_secret n_things n_kindOf n_follows n_ifOf n_thenOf n_breathOf y_0 y_1 y_2 y_3 (fun (r_2 : Int32) => r_1 = r_2 ∧ iv_u s_lanes s_sizes s_cells x_kinds x_digits x_causes x_effects x_things x_follows x_due t_kinds t_digits t_caseRow t_weights t_order t_calls t_things t_caseCount t_caseSet p_callsOfCase p_partOfCase p_callsOfPart p_cases p_parts r_cases r_hours r_sets r_count u_lists u_breaths u_heard u_traced u_lastFault n_fault n_things n_kindOf n_digitOf n_follows n_ifOf n_thenOf n_listOf n_breathOf n_heardOf n_readAt n_readThings n_readFollows n_readKind n_readDigit n_readIf n_readThen n_readings n_readingIn n_readingHour n_readingOf n_breathWas n_sheetSize n_sheetLane n_sheet n_hands n_traceNow)) := by 
  obtain ⟨n, fo, rc, kd, dg, fi, ft, li, br, mi, mr, rx, rh, hA, hH, hR, hS, hT, hF⟩ := iv_of h_i
  have hA2 := hA
  obtain ⟨hn, hfo, rfl, rfl, rfl, hf, hft, hk, hd, htk, htd, hpT, hcs, hW, hc⟩ := hA
  have h64 := pa_p2 hn
  have hH2 := hH
  obtain ⟨h1, h2, h3, h4, h5, h6⟩ := hH2
  refine s_X5_secret hn hpT hcs hc (fun h hh => ⟨(h1 h hh).2.2.1, (h1 h hh).2.2.2⟩) (fun a => ?_) (fun a b => ?_) (fun x of t hr hx hp hof ht hhr a b c d => ?_)
  · refine s_X6_secret hn hfo hf hk (fun h hh => ⟨(h2 h hh).2.2.1, (h2 h hh).2.2.2⟩) (fun a' => ?_) (fun a' b' => ?_) (fun x' of' t' hr' hx' hp' hof' ht' hhr' a' b' c' d' => ?_)
    · exact ⟨rfl, iv_mk hA2 hH hR hS hT hF⟩
    · exact absurd a' a
    · refine absurd ⟨?_, ?_, ?_⟩ a
      · rw [a', pc_ci_nI (by omega)]; exact hp'
      · have := iv_ti c' (by omega); omega
      · have := iv_ti d' (by omega); omega
  · refine s_X6_secret hn hfo hf hk (fun h hh => ⟨(h2 h hh).2.2.1, (h2 h hh).2.2.2⟩) (fun a' => ?_) (fun a' b' => ?_) (fun x' of' t' hr' hx' hp' hof' ht' hhr' a' b' c' d' => ?_)
    · exact absurd a a'
    · exact ⟨rfl, iv_mk hA2 hH hR hS hT hF⟩
    · have := iv_ti b' (by omega); omega
  · have h0 := (pc_lt hp).2
    obtain ⟨rfl, rfl, rfl⟩ := h4 h0
    have hcond : pc_ci n fo fi ft y_0 = true ∧ (0 ≤ y_2.toInt ∧ y_2.toInt < n) ∧ (0 ≤ y_3.toInt ∧ y_3.toInt < 6) := by
      refine ⟨by rw [a, pc_ci_nI (by omega)]; exact hp, ?_, ?_⟩
      · have := iv_ti c (by omega); omega
      · have := iv_ti d (by omega); omega
    have hof2 : 0 ≤ y_1.toInt ∧ y_1.toInt < (2 ^ n : Nat) := by have := iv_ti b (by omega); omega
    refine ⟨fun l hl hs hmin => ?_, fun hno => ?_⟩ <;> refine s_X6_secret hn hfo hf hk (fun h hh => ⟨(h2 h hh).2.2.1, (h2 h hh).2.2.2⟩) (fun a' => absurd hcond a') (fun a' b' => absurd hof2 b') (fun x' of' t' hr' hx' hp' hof' ht' hhr' a' b' c' d' => ?_)
    all_goals
      have i1 := iv_inj a a' (by omega) (by omega)
      have i2 := iv_inj b b' (by omega) (by omega)
      have i3 := iv_inj c c' (by omega) (by omega)
      have i4 := iv_inj d d' (by omega) (by omega)
      subst i1 i2 i3 i4
    · refine ⟨fun l' hl' hs' hmin' => ?_, fun hno' => ?_⟩
      · have : l = l' := by
          rcases Nat.lt_trichotomy l l' with g | g | g
          · rw [hmin' l g] at hs; cases hs
          · exact g
          · rw [hmin l' g] at hs'; cases hs'
        subst this
        exact ⟨rfl, iv_mk hA2 hH hR hS hT hF⟩
      · rw [hno' l hl] at hs; cases hs
    · refine ⟨fun l' hl' hs' hmin' => ?_, fun hno' => ⟨rfl, iv_mk hA2 hH hR hS hT hF⟩⟩
      rw [hno l' hl'] at hs'; cases hs'
theorem ev_15 {s_lanes : Nat → Int32} {s_sizes : Nat → Int32} {s_cells : Nat → Int32} {x_kinds : Nat → Int32} {x_digits : Nat → Int32} {x_causes : Nat → Int32} {x_effects : Nat → Int32} {x_things : Int32} {x_follows : Int32} {x_due : Int32} {t_kinds : Nat → Int32} {t_digits : Nat → Int32} {t_caseRow : Nat → Int32} {t_weights : Nat → Int32} {t_order : Nat → Int32} {t_calls : Nat → Int32} {t_things : Int32} {t_caseCount : Int32} {t_caseSet : Int64} {p_callsOfCase : Nat → Int64} {p_partOfCase : Nat → Int32} {p_callsOfPart : Nat → Int64} {p_cases : Int32} {p_parts : Int32} {r_cases : Nat → Int32} {r_hours : Nat → Int32} {r_sets : Nat → Int32} {r_count : Int32} {u_lists : Nat → Int32} {u_breaths : Nat → Int32} {u_heard : Nat → Int32} {u_traced : Int32} {u_lastFault : Int32} {n_fault : Int32} {n_things : Int32} {n_kindOf : Nat → Int32} {n_digitOf : Nat → Int32} {n_follows : Int32} {n_ifOf : Nat → Int32} {n_thenOf : Nat → Int32} {n_listOf : Nat → Int32} {n_breathOf : Nat → Int32} {n_heardOf : Nat → Int32} {n_readAt : Int32} {n_readThings : Int32} {n_readFollows : Int32} {n_readKind : Nat → Int32} {n_readDigit : Nat → Int32} {n_readIf : Nat → Int32} {n_readThen : Nat → Int32} {n_readings : Int32} {n_readingIn : Nat → Int32} {n_readingHour : Nat → Int32} {n_readingOf : Nat → Int32} {n_breathWas : Nat → Int32} {n_sheetSize : Nat → Int32} {n_sheetLane : Nat → Int32} {n_sheet : Nat → Int32} {n_hands : Nat → Int32} {n_traceNow : Int32} (h_i : iv_u s_lanes s_sizes s_cells x_kinds x_digits x_causes x_effects x_things x_follows x_due t_kinds t_digits t_caseRow t_weights t_order t_calls t_things t_caseCount t_caseSet p_callsOfCase p_partOfCase p_callsOfPart p_cases p_parts r_cases r_hours r_sets r_count u_lists u_breaths u_heard u_traced u_lastFault n_fault n_things n_kindOf n_digitOf n_follows n_ifOf n_thenOf n_listOf n_breathOf n_heardOf n_readAt n_readThings n_readFollows n_readKind n_readDigit n_readIf n_readThen n_readings n_readingIn n_readingHour n_readingOf n_breathWas n_sheetSize n_sheetLane n_sheet n_hands n_traceNow) (y_0 y_1 : Int32) : w_X5_shortest t_caseRow t_calls t_things t_caseCount u_breaths y_0 y_1 (fun (r_1 : Int32) => w_X6_shortest n_things n_kindOf n_follows n_ifOf n_thenOf n_breathOf y_0 y_1 (fun (r_2 : Int32) => r_1 = r_2 ∧ iv_u s_lanes s_sizes s_cells x_kinds x_digits x_causes x_effects x_things x_follows x_due t_kinds t_digits t_caseRow t_weights t_order t_calls t_things t_caseCount t_caseSet p_callsOfCase p_partOfCase p_callsOfPart p_cases p_parts r_cases r_hours r_sets r_count u_lists u_breaths u_heard u_traced u_lastFault n_fault n_things n_kindOf n_digitOf n_follows n_ifOf n_thenOf n_listOf n_breathOf n_heardOf n_readAt n_readThings n_readFollows n_readKind n_readDigit n_readIf n_readThen n_readings n_readingIn n_readingHour n_readingOf n_breathWas n_sheetSize n_sheetLane n_sheet n_hands n_traceNow)) := by 
  obtain ⟨n, fo, rc, kd, dg, fi, ft, li, br, mi, mr, rx, rh, hA, hH, hR, hS, hT, hF⟩ := iv_of h_i
  have hA2 := hA
  obtain ⟨hn, hfo, rfl, rfl, rfl, hf, hft, hk, hd, htk, htd, hpT, hcs, hW, hc⟩ := hA
  have h64 := pa_p2 hn
  have hH2 := hH
  obtain ⟨h1, h2, h3, h4, h5, h6⟩ := hH2
  refine s_X5_shortest hn hpT hc (fun h hh => ⟨(h1 h hh).2.2.1, (h1 h hh).2.2.2⟩) (fun a => ?_) (fun t h ht hh a b => ?_) <;> refine s_X6_shortest hn hfo hf hk (fun h hh => ⟨(h2 h hh).2.2.1, (h2 h hh).2.2.2⟩) (fun a' => ?_) (fun t' h' ht' hh' a' b' => ?_)
  · exact ⟨rfl, iv_mk hA2 hH hR hS hT hF⟩
  · have e1 := iv_ti a' (by omega)
    have e2 := iv_ti b' (by omega)
    omega
  · have e1 := iv_ti a (by omega)
    have e2 := iv_ti b (by omega)
    omega
  · have i1 := iv_inj a a' (by omega) (by omega)
    have i2 := iv_inj b b' (by omega) (by omega)
    subst i1 i2
    obtain ⟨rfl, rfl, rfl⟩ := h4 (by omega)
    exact ⟨rfl, iv_mk hA2 hH hR hS hT hF⟩
theorem ev_16 {s_lanes : Nat → Int32} {s_sizes : Nat → Int32} {s_cells : Nat → Int32} {x_kinds : Nat → Int32} {x_digits : Nat → Int32} {x_causes : Nat → Int32} {x_effects : Nat → Int32} {x_things : Int32} {x_follows : Int32} {x_due : Int32} {t_kinds : Nat → Int32} {t_digits : Nat → Int32} {t_caseRow : Nat → Int32} {t_weights : Nat → Int32} {t_order : Nat → Int32} {t_calls : Nat → Int32} {t_things : Int32} {t_caseCount : Int32} {t_caseSet : Int64} {p_callsOfCase : Nat → Int64} {p_partOfCase : Nat → Int32} {p_callsOfPart : Nat → Int64} {p_cases : Int32} {p_parts : Int32} {r_cases : Nat → Int32} {r_hours : Nat → Int32} {r_sets : Nat → Int32} {r_count : Int32} {u_lists : Nat → Int32} {u_breaths : Nat → Int32} {u_heard : Nat → Int32} {u_traced : Int32} {u_lastFault : Int32} {n_fault : Int32} {n_things : Int32} {n_kindOf : Nat → Int32} {n_digitOf : Nat → Int32} {n_follows : Int32} {n_ifOf : Nat → Int32} {n_thenOf : Nat → Int32} {n_listOf : Nat → Int32} {n_breathOf : Nat → Int32} {n_heardOf : Nat → Int32} {n_readAt : Int32} {n_readThings : Int32} {n_readFollows : Int32} {n_readKind : Nat → Int32} {n_readDigit : Nat → Int32} {n_readIf : Nat → Int32} {n_readThen : Nat → Int32} {n_readings : Int32} {n_readingIn : Nat → Int32} {n_readingHour : Nat → Int32} {n_readingOf : Nat → Int32} {n_breathWas : Nat → Int32} {n_sheetSize : Nat → Int32} {n_sheetLane : Nat → Int32} {n_sheet : Nat → Int32} {n_hands : Nat → Int32} {n_traceNow : Int32} (h_i : iv_u s_lanes s_sizes s_cells x_kinds x_digits x_causes x_effects x_things x_follows x_due t_kinds t_digits t_caseRow t_weights t_order t_calls t_things t_caseCount t_caseSet p_callsOfCase p_partOfCase p_callsOfPart p_cases p_parts r_cases r_hours r_sets r_count u_lists u_breaths u_heard u_traced u_lastFault n_fault n_things n_kindOf n_digitOf n_follows n_ifOf n_thenOf n_listOf n_breathOf n_heardOf n_readAt n_readThings n_readFollows n_readKind n_readDigit n_readIf n_readThen n_readings n_readingIn n_readingHour n_readingOf n_breathWas n_sheetSize n_sheetLane n_sheet n_hands n_traceNow) (y_0 y_1 y_2 : Int32) : w_X5_two t_caseRow t_calls t_things t_caseCount p_callsOfCase p_partOfCase p_cases p_parts u_breaths y_0 y_1 y_2 (fun (r_1 : Int32) (k_p_callsOfCase : Nat → Int64) (k_p_partOfCase : Nat → Int32) (k_p_cases : Int32) (k_p_parts : Int32) => w_X6_two n_things n_kindOf n_follows n_ifOf n_thenOf n_breathOf y_0 y_1 y_2 (fun (r_2 : Int32) => r_1 = r_2 ∧ iv_u s_lanes s_sizes s_cells x_kinds x_digits x_causes x_effects x_things x_follows x_due t_kinds t_digits t_caseRow t_weights t_order t_calls t_things t_caseCount t_caseSet k_p_callsOfCase k_p_partOfCase p_callsOfPart k_p_cases k_p_parts r_cases r_hours r_sets r_count u_lists u_breaths u_heard u_traced u_lastFault n_fault n_things n_kindOf n_digitOf n_follows n_ifOf n_thenOf n_listOf n_breathOf n_heardOf n_readAt n_readThings n_readFollows n_readKind n_readDigit n_readIf n_readThen n_readings n_readingIn n_readingHour n_readingOf n_breathWas n_sheetSize n_sheetLane n_sheet n_hands n_traceNow)) := by 
  obtain ⟨n, fo, rc, kd, dg, fi, ft, li, br, mi, mr, rx, rh, hA, hH, hR, hS, hT, hF⟩ := iv_of h_i
  have hA2 := hA
  obtain ⟨hn, hfo, rfl, rfl, rfl, hf, hft, hk, hd, htk, htd, hpT, hcs, hW, hc⟩ := hA
  have h64 := pa_p2 hn
  have hH2 := hH
  obtain ⟨h1, h2, h3, h4, h5, h6⟩ := hH2
  refine s_X5_two hn hpT hc (fun h hh => ⟨(h1 h hh).2.2.1, (h1 h hh).2.2.2⟩) (fun a g f c1 c2 => ?_) (fun a b g f c1 c2 => ?_) (fun a b c g f c1 c2 => ?_) (fun h o1 o2 hh ho1 ho2 a b c d g f c1 c2 => ?_) <;> refine s_X6_two hn hfo hf hk (fun h hh => ⟨(h2 h hh).2.2.1, (h2 h hh).2.2.2⟩) (fun a' => ?_) (fun a' b' => ?_) (fun a' b' c' => ?_) (fun h' o1' o2' hh' ho1' ho2' a' b' c' d' => ?_)
  · exact ⟨rfl, iv_mk hA2 hH hR hS hT hF⟩
  · exact absurd a' a
  · exact absurd a' a
  · have := iv_ti c' (by omega); omega
  · exact absurd a a'
  · exact ⟨rfl, iv_mk hA2 hH hR hS hT hF⟩
  · exact absurd b' b
  · have e1 := iv_ti a' (by omega)
    have e2 := iv_ti b' (by omega)
    omega
  · exact absurd a a'
  · exact absurd b b'
  · exact ⟨rfl, iv_mk hA2 hH hR hS hT hF⟩
  · omega
  · have := iv_ti c (by omega); omega
  · have e1 := iv_ti a (by omega)
    have e2 := iv_ti b (by omega)
    omega
  · omega
  · have i1 := iv_inj a a' (by omega) (by omega)
    have i2 := iv_inj b b' (by omega) (by omega)
    have i3 := iv_inj c c' (by omega) (by omega)
    subst i1 i2 i3
    obtain ⟨rfl, rfl, rfl⟩ := h4 d
    exact ⟨rfl, iv_mk hA2 hH hR hS hT hF⟩
theorem ev_19 {s_lanes : Nat → Int32} {s_sizes : Nat → Int32} {s_cells : Nat → Int32} {x_kinds : Nat → Int32} {x_digits : Nat → Int32} {x_causes : Nat → Int32} {x_effects : Nat → Int32} {x_things : Int32} {x_follows : Int32} {x_due : Int32} {t_kinds : Nat → Int32} {t_digits : Nat → Int32} {t_caseRow : Nat → Int32} {t_weights : Nat → Int32} {t_order : Nat → Int32} {t_calls : Nat → Int32} {t_things : Int32} {t_caseCount : Int32} {t_caseSet : Int64} {p_callsOfCase : Nat → Int64} {p_partOfCase : Nat → Int32} {p_callsOfPart : Nat → Int64} {p_cases : Int32} {p_parts : Int32} {r_cases : Nat → Int32} {r_hours : Nat → Int32} {r_sets : Nat → Int32} {r_count : Int32} {u_lists : Nat → Int32} {u_breaths : Nat → Int32} {u_heard : Nat → Int32} {u_traced : Int32} {u_lastFault : Int32} {n_fault : Int32} {n_things : Int32} {n_kindOf : Nat → Int32} {n_digitOf : Nat → Int32} {n_follows : Int32} {n_ifOf : Nat → Int32} {n_thenOf : Nat → Int32} {n_listOf : Nat → Int32} {n_breathOf : Nat → Int32} {n_heardOf : Nat → Int32} {n_readAt : Int32} {n_readThings : Int32} {n_readFollows : Int32} {n_readKind : Nat → Int32} {n_readDigit : Nat → Int32} {n_readIf : Nat → Int32} {n_readThen : Nat → Int32} {n_readings : Int32} {n_readingIn : Nat → Int32} {n_readingHour : Nat → Int32} {n_readingOf : Nat → Int32} {n_breathWas : Nat → Int32} {n_sheetSize : Nat → Int32} {n_sheetLane : Nat → Int32} {n_sheet : Nat → Int32} {n_hands : Nat → Int32} {n_traceNow : Int32} (h_i : iv_u s_lanes s_sizes s_cells x_kinds x_digits x_causes x_effects x_things x_follows x_due t_kinds t_digits t_caseRow t_weights t_order t_calls t_things t_caseCount t_caseSet p_callsOfCase p_partOfCase p_callsOfPart p_cases p_parts r_cases r_hours r_sets r_count u_lists u_breaths u_heard u_traced u_lastFault n_fault n_things n_kindOf n_digitOf n_follows n_ifOf n_thenOf n_listOf n_breathOf n_heardOf n_readAt n_readThings n_readFollows n_readKind n_readDigit n_readIf n_readThen n_readings n_readingIn n_readingHour n_readingOf n_breathWas n_sheetSize n_sheetLane n_sheet n_hands n_traceNow) (y_0 y_1 : Int32) : w_X5_rules t_calls t_things r_cases r_hours r_sets r_count u_breaths y_0 y_1 (fun (r_1 : Int32) => w_X6_rules n_things n_kindOf n_breathOf n_readings n_readingIn n_readingHour n_readingOf y_0 y_1 (fun (r_2 : Int32) => r_1 = r_2 ∧ iv_u s_lanes s_sizes s_cells x_kinds x_digits x_causes x_effects x_things x_follows x_due t_kinds t_digits t_caseRow t_weights t_order t_calls t_things t_caseCount t_caseSet p_callsOfCase p_partOfCase p_callsOfPart p_cases p_parts r_cases r_hours r_sets r_count u_lists u_breaths u_heard u_traced u_lastFault n_fault n_things n_kindOf n_digitOf n_follows n_ifOf n_thenOf n_listOf n_breathOf n_heardOf n_readAt n_readThings n_readFollows n_readKind n_readDigit n_readIf n_readThen n_readings n_readingIn n_readingHour n_readingOf n_breathWas n_sheetSize n_sheetLane n_sheet n_hands n_traceNow)) := by 
  obtain ⟨n, fo, rc, kd, dg, fi, ft, li, br, mi, mr, rx, rh, hA, hH, hR, hS, hT, hF⟩ := iv_of h_i
  have hA2 := hA
  obtain ⟨hn, hfo, rfl, rfl, rfl, hf, hft, hk, hd, htk, htd, hpT, hcs, hW, hc⟩ := hA
  have h64 := pa_p2 hn
  have hH2 := hH
  obtain ⟨h1, h2, h3, h4, h5, h6⟩ := hH2
  have hR2 := hR
  obtain ⟨g1, rfl, rfl, rfl, g2, g3⟩ := hR2
  refine s_X5_rules hn hc (fun h hh => ⟨(h1 h hh).2.2.1, (h1 h hh).2.2.2⟩) g1 g2 (fun a => ?_) (fun a b => ?_) (fun h hh a b c => ?_)
  · refine s_X6_rules hn hk (fun h hh => ⟨(h2 h hh).2.2.1, (h2 h hh).2.2.2⟩) g1 g3 (fun a' => ?_) (fun a' b' => ?_) (fun h' hh' a' b' c' => ?_)
    · exact ⟨rfl, iv_mk hA2 hH hR hS hT hF⟩
    · exact absurd a' a
    · have := iv_ti a' (by omega); omega
  · refine s_X6_rules hn hk (fun h hh => ⟨(h2 h hh).2.2.1, (h2 h hh).2.2.2⟩) g1 g3 (fun a' => ?_) (fun a' b' => ?_) (fun h' hh' a' b' c' => ?_)
    · exact absurd a a'
    · exact ⟨rfl, iv_mk hA2 hH hR hS hT hF⟩
    · omega
  · obtain ⟨rfl, rfl, rfl⟩ := h4 c
    have ea := iv_ti a (by omega)
    refine ⟨fun l hl hs hmin => ?_, fun hno => ?_⟩ <;> refine s_X6_rules hn hk (fun h hh => ⟨(h2 h hh).2.2.1, (h2 h hh).2.2.2⟩) g1 g3 (fun a' => by omega) (fun a' b' => by omega) (fun h' hh' a' b' c' => ?_)
    all_goals
      have i1 := iv_inj a a' (by omega) (by omega)
      subst i1
    · refine ⟨fun l' hl' hs' hmin' => ?_, fun hno' => ?_⟩
      · have : l = l' := by
          rcases Nat.lt_trichotomy l l' with g | g | g
          · rw [hmin' l g] at hs; cases hs
          · exact g
          · rw [hmin l' g] at hs'; cases hs'
        subst this
        exact ⟨rfl, iv_mk hA2 hH hR hS hT hF⟩
      · rw [hno' l hl] at hs; cases hs
    · refine ⟨fun l' hl' hs' hmin' => ?_, fun hno' => ⟨rfl, iv_mk hA2 hH hR hS hT hF⟩⟩
      rw [hno l' hl'] at hs'; cases hs'
theorem ev_26 {s_lanes : Nat → Int32} {s_sizes : Nat → Int32} {s_cells : Nat → Int32} {x_kinds : Nat → Int32} {x_digits : Nat → Int32} {x_causes : Nat → Int32} {x_effects : Nat → Int32} {x_things : Int32} {x_follows : Int32} {x_due : Int32} {t_kinds : Nat → Int32} {t_digits : Nat → Int32} {t_caseRow : Nat → Int32} {t_weights : Nat → Int32} {t_order : Nat → Int32} {t_calls : Nat → Int32} {t_things : Int32} {t_caseCount : Int32} {t_caseSet : Int64} {p_callsOfCase : Nat → Int64} {p_partOfCase : Nat → Int32} {p_callsOfPart : Nat → Int64} {p_cases : Int32} {p_parts : Int32} {r_cases : Nat → Int32} {r_hours : Nat → Int32} {r_sets : Nat → Int32} {r_count : Int32} {u_lists : Nat → Int32} {u_breaths : Nat → Int32} {u_heard : Nat → Int32} {u_traced : Int32} {u_lastFault : Int32} {n_fault : Int32} {n_things : Int32} {n_kindOf : Nat → Int32} {n_digitOf : Nat → Int32} {n_follows : Int32} {n_ifOf : Nat → Int32} {n_thenOf : Nat → Int32} {n_listOf : Nat → Int32} {n_breathOf : Nat → Int32} {n_heardOf : Nat → Int32} {n_readAt : Int32} {n_readThings : Int32} {n_readFollows : Int32} {n_readKind : Nat → Int32} {n_readDigit : Nat → Int32} {n_readIf : Nat → Int32} {n_readThen : Nat → Int32} {n_readings : Int32} {n_readingIn : Nat → Int32} {n_readingHour : Nat → Int32} {n_readingOf : Nat → Int32} {n_breathWas : Nat → Int32} {n_sheetSize : Nat → Int32} {n_sheetLane : Nat → Int32} {n_sheet : Nat → Int32} {n_hands : Nat → Int32} {n_traceNow : Int32} (h_i : iv_u s_lanes s_sizes s_cells x_kinds x_digits x_causes x_effects x_things x_follows x_due t_kinds t_digits t_caseRow t_weights t_order t_calls t_things t_caseCount t_caseSet p_callsOfCase p_partOfCase p_callsOfPart p_cases p_parts r_cases r_hours r_sets r_count u_lists u_breaths u_heard u_traced u_lastFault n_fault n_things n_kindOf n_digitOf n_follows n_ifOf n_thenOf n_listOf n_breathOf n_heardOf n_readAt n_readThings n_readFollows n_readKind n_readDigit n_readIf n_readThen n_readings n_readingIn n_readingHour n_readingOf n_breathWas n_sheetSize n_sheetLane n_sheet n_hands n_traceNow) (y_0 : Int32) : w_X5_tell t_kinds t_digits t_things u_traced y_0 (fun (r_1 : Int32) (k_u_traced : Int32) => w_X6_tell n_things n_kindOf n_digitOf n_traceNow y_0 (fun (r_2 : Int32) (k_n_traceNow : Int32) => r_1 = r_2 ∧ iv_u s_lanes s_sizes s_cells x_kinds x_digits x_causes x_effects x_things x_follows x_due t_kinds t_digits t_caseRow t_weights t_order t_calls t_things t_caseCount t_caseSet p_callsOfCase p_partOfCase p_callsOfPart p_cases p_parts r_cases r_hours r_sets r_count u_lists u_breaths u_heard k_u_traced u_lastFault n_fault n_things n_kindOf n_digitOf n_follows n_ifOf n_thenOf n_listOf n_breathOf n_heardOf n_readAt n_readThings n_readFollows n_readKind n_readDigit n_readIf n_readThen n_readings n_readingIn n_readingHour n_readingOf n_breathWas n_sheetSize n_sheetLane n_sheet n_hands k_n_traceNow)) := by 
  obtain ⟨n, fo, rc, kd, dg, fi, ft, li, br, mi, mr, rx, rh, hA, hH, hR, hS, hT, hF⟩ := iv_of h_i
  have hA2 := hA
  obtain ⟨hn, hfo, rfl, rfl, rfl, hf, hft, hk, hd, htk, htd, hpT, hcs, hW, hc⟩ := hA
  have h64 := pa_p2 hn
  subst hT
  unfold w_X5_tell
  rw [s_isThing hn]
  by_cases c : 0 ≤ y_0.toInt ∧ y_0.toInt < n
  · obtain ⟨t, ht, rfl⟩ := pa_of c.1 c.2 (by omega)
    have v := pa_vp (N := 6) (show t < 6 by omega) (by omega)
    have e1 := (hk t ht).1
    have e2 := (hd t ht).1
    have e3 := (htk t ht).1
    have e4 := htd t ht
    have kb := (hk t ht).2
    rw [decide_eq_true c, pa_cl (by omega), e3, e4]
    have l1 : nI (kd t) = (1 : Int32) ↔ kd t = 1 := pn_lit (k := 1) (by omega) (by omega)
    have l2 : nI (kd t) = (2 : Int32) ↔ kd t = 2 := pn_lit (k := 2) (by omega) (by omega)
    have l0 : nI (kd t) = (0 : Int32) ↔ kd t = 0 := pn_lit (k := 0) (by omega) (by omega)
    have m0 : nI (kd t) ≤ (0 : Int32) ↔ kd t ≤ 0 := pa_leN (b := 0) (by omega) (by omega)
    unfold w_X5_tellThing w_X5_tellLong w_X5_tellDreaded w_X5_tellLong w_X5_tellThing w_X5_leaveTrace
    rw [l1, l2]
    refine ⟨fun _ => ⟨v, fun a2 => ⟨fun a1 => ⟨v, ?_⟩, fun a1 => ⟨v, ?_⟩⟩, fun a2 => ⟨v, ?_⟩⟩, fun q => absurd q (by decide)⟩
    all_goals
      dsimp only
      unfold w_X6_tell w_X6_traced
      rw [s_noThing hn, decide_eq_true c, pa_cl (by omega), e1, e2, l0, l1, l2, m0]
      refine ⟨fun _ => ⟨v, ?_⟩, fun q => absurd rfl q⟩
    · refine xq_use1 _ (fun K hK => ⟨fun _ => hK, fun q => absurd q a2⟩) (xq_use1 _ (fun K hK => ⟨fun _ => hK, fun q => absurd (by omega) q⟩) (xq_use1 _ (fun K hK => ⟨fun _ => hK, fun q => absurd q a2⟩) ⟨v, fun q => absurd (by omega) q, fun _ => ⟨rfl, iv_mk hA2 hH hR hS rfl hF⟩⟩))
    · refine xq_use1 _ (fun K hK => ⟨fun _ => hK, fun q => absurd q a2⟩) (xq_use1 _ (fun K hK => ⟨fun q => by omega, fun _ => hK⟩) (xq_use1 _ (fun K hK => ⟨fun _ => hK, fun q => absurd q a2⟩) ⟨v, fun q => ⟨fun q1 => absurd a1 q1, fun _ => ⟨rfl, iv_mk hA2 hH hR hS rfl hF⟩⟩, fun q => by omega⟩))
    · refine xq_use1 _ (fun K hK => ⟨fun q => absurd a2 q, fun _ => hK⟩) (xq_use1 _ (fun K hK => ⟨fun q => by omega, fun _ => hK⟩) (xq_use1 _ (fun K hK => ⟨fun q => absurd a2 q, fun _ => hK⟩) ⟨v, fun q => ⟨fun q1 => ⟨?_, iv_mk hA2 hH hR hS rfl hF⟩, fun q1 => by omega⟩, fun q => by omega⟩))
      rw [show (2 : Int32) = nI 2 from rfl, show (100 : Int32) = nI 100 from rfl, pk_mul, nI_add, nI_add, nI_add]
      congr 1
      omega
  · rw [decide_eq_false c]
    refine ⟨fun q => absurd rfl q, fun _ => ?_⟩
    unfold w_X6_tell
    refine (s_noThing hn _ _).mpr ?_
    rw [decide_eq_false c]
    exact ⟨fun q => absurd q (by decide), fun _ => ⟨rfl, iv_mk hA2 hH hR hS rfl hF⟩⟩
theorem ev_27 {s_lanes : Nat → Int32} {s_sizes : Nat → Int32} {s_cells : Nat → Int32} {x_kinds : Nat → Int32} {x_digits : Nat → Int32} {x_causes : Nat → Int32} {x_effects : Nat → Int32} {x_things : Int32} {x_follows : Int32} {x_due : Int32} {t_kinds : Nat → Int32} {t_digits : Nat → Int32} {t_caseRow : Nat → Int32} {t_weights : Nat → Int32} {t_order : Nat → Int32} {t_calls : Nat → Int32} {t_things : Int32} {t_caseCount : Int32} {t_caseSet : Int64} {p_callsOfCase : Nat → Int64} {p_partOfCase : Nat → Int32} {p_callsOfPart : Nat → Int64} {p_cases : Int32} {p_parts : Int32} {r_cases : Nat → Int32} {r_hours : Nat → Int32} {r_sets : Nat → Int32} {r_count : Int32} {u_lists : Nat → Int32} {u_breaths : Nat → Int32} {u_heard : Nat → Int32} {u_traced : Int32} {u_lastFault : Int32} {n_fault : Int32} {n_things : Int32} {n_kindOf : Nat → Int32} {n_digitOf : Nat → Int32} {n_follows : Int32} {n_ifOf : Nat → Int32} {n_thenOf : Nat → Int32} {n_listOf : Nat → Int32} {n_breathOf : Nat → Int32} {n_heardOf : Nat → Int32} {n_readAt : Int32} {n_readThings : Int32} {n_readFollows : Int32} {n_readKind : Nat → Int32} {n_readDigit : Nat → Int32} {n_readIf : Nat → Int32} {n_readThen : Nat → Int32} {n_readings : Int32} {n_readingIn : Nat → Int32} {n_readingHour : Nat → Int32} {n_readingOf : Nat → Int32} {n_breathWas : Nat → Int32} {n_sheetSize : Nat → Int32} {n_sheetLane : Nat → Int32} {n_sheet : Nat → Int32} {n_hands : Nat → Int32} {n_traceNow : Int32} (h_i : iv_u s_lanes s_sizes s_cells x_kinds x_digits x_causes x_effects x_things x_follows x_due t_kinds t_digits t_caseRow t_weights t_order t_calls t_things t_caseCount t_caseSet p_callsOfCase p_partOfCase p_callsOfPart p_cases p_parts r_cases r_hours r_sets r_count u_lists u_breaths u_heard u_traced u_lastFault n_fault n_things n_kindOf n_digitOf n_follows n_ifOf n_thenOf n_listOf n_breathOf n_heardOf n_readAt n_readThings n_readFollows n_readKind n_readDigit n_readIf n_readThen n_readings n_readingIn n_readingHour n_readingOf n_breathWas n_sheetSize n_sheetLane n_sheet n_hands n_traceNow) (y_0 : Int32) : w_X5_fear t_kinds t_things u_traced y_0 (fun (r_1 : Int32) (k_u_traced : Int32) => w_X6_fear n_things n_kindOf n_traceNow y_0 (fun (r_2 : Int32) (k_n_traceNow : Int32) => r_1 = r_2 ∧ iv_u s_lanes s_sizes s_cells x_kinds x_digits x_causes x_effects x_things x_follows x_due t_kinds t_digits t_caseRow t_weights t_order t_calls t_things t_caseCount t_caseSet p_callsOfCase p_partOfCase p_callsOfPart p_cases p_parts r_cases r_hours r_sets r_count u_lists u_breaths u_heard k_u_traced u_lastFault n_fault n_things n_kindOf n_digitOf n_follows n_ifOf n_thenOf n_listOf n_breathOf n_heardOf n_readAt n_readThings n_readFollows n_readKind n_readDigit n_readIf n_readThen n_readings n_readingIn n_readingHour n_readingOf n_breathWas n_sheetSize n_sheetLane n_sheet n_hands k_n_traceNow)) := by 
  obtain ⟨n, fo, rc, kd, dg, fi, ft, li, br, mi, mr, rx, rh, hA, hH, hR, hS, hT, hF⟩ := iv_of h_i
  have hA2 := hA
  obtain ⟨hn, hfo, rfl, rfl, rfl, hf, hft, hk, hd, htk, htd, hpT, hcs, hW, hc⟩ := hA
  have h64 := pa_p2 hn
  subst hT
  unfold w_X5_fear
  rw [s_isThing hn]
  by_cases c : 0 ≤ y_0.toInt ∧ y_0.toInt < n
  · obtain ⟨t, ht, rfl⟩ := pa_of c.1 c.2 (by omega)
    have v := pa_vp (N := 6) (show t < 6 by omega) (by omega)
    have e1 := (hk t ht).1
    have e3 := (htk t ht).1
    have kb := (hk t ht).2
    rw [decide_eq_true c, pa_cl (by omega), e3]
    have l2 : nI (kd t) = (2 : Int32) ↔ kd t = 2 := pn_lit (k := 2) (by omega) (by omega)
    unfold w_X5_fearLent w_X5_fearDreaded w_X5_leaveTrace
    rw [l2]
    refine ⟨fun _ => ⟨v, fun a2 => ?_, fun a2 => ?_⟩, fun q => absurd q (by decide)⟩
    all_goals
      dsimp only
      unfold w_X6_fear w_X6_traced
      rw [s_noThing hn, decide_eq_true c, pa_cl (by omega), e1, l2]
      refine ⟨fun _ => ⟨v, ?_⟩, fun q => absurd rfl q⟩
    · exact xq_use1 _ (fun K hK => ⟨fun _ => hK, fun q => absurd q a2⟩) ⟨v, fun _ => ⟨rfl, iv_mk hA2 hH hR hS rfl hF⟩, fun q => absurd q a2⟩
    · exact xq_use1 _ (fun K hK => ⟨fun q => absurd a2 q, fun _ => hK⟩) ⟨v, fun q => absurd a2 q, fun _ => ⟨rfl, iv_mk hA2 hH hR hS rfl hF⟩⟩
  · rw [decide_eq_false c]
    refine ⟨fun q => absurd rfl q, fun _ => ?_⟩
    unfold w_X6_fear
    refine (s_noThing hn _ _).mpr ?_
    rw [decide_eq_false c]
    exact ⟨fun q => absurd q (by decide), fun _ => ⟨rfl, iv_mk hA2 hH hR hS rfl hF⟩⟩
theorem ev_28 {s_lanes : Nat → Int32} {s_sizes : Nat → Int32} {s_cells : Nat → Int32} {x_kinds : Nat → Int32} {x_digits : Nat → Int32} {x_causes : Nat → Int32} {x_effects : Nat → Int32} {x_things : Int32} {x_follows : Int32} {x_due : Int32} {t_kinds : Nat → Int32} {t_digits : Nat → Int32} {t_caseRow : Nat → Int32} {t_weights : Nat → Int32} {t_order : Nat → Int32} {t_calls : Nat → Int32} {t_things : Int32} {t_caseCount : Int32} {t_caseSet : Int64} {p_callsOfCase : Nat → Int64} {p_partOfCase : Nat → Int32} {p_callsOfPart : Nat → Int64} {p_cases : Int32} {p_parts : Int32} {r_cases : Nat → Int32} {r_hours : Nat → Int32} {r_sets : Nat → Int32} {r_count : Int32} {u_lists : Nat → Int32} {u_breaths : Nat → Int32} {u_heard : Nat → Int32} {u_traced : Int32} {u_lastFault : Int32} {n_fault : Int32} {n_things : Int32} {n_kindOf : Nat → Int32} {n_digitOf : Nat → Int32} {n_follows : Int32} {n_ifOf : Nat → Int32} {n_thenOf : Nat → Int32} {n_listOf : Nat → Int32} {n_breathOf : Nat → Int32} {n_heardOf : Nat → Int32} {n_readAt : Int32} {n_readThings : Int32} {n_readFollows : Int32} {n_readKind : Nat → Int32} {n_readDigit : Nat → Int32} {n_readIf : Nat → Int32} {n_readThen : Nat → Int32} {n_readings : Int32} {n_readingIn : Nat → Int32} {n_readingHour : Nat → Int32} {n_readingOf : Nat → Int32} {n_breathWas : Nat → Int32} {n_sheetSize : Nat → Int32} {n_sheetLane : Nat → Int32} {n_sheet : Nat → Int32} {n_hands : Nat → Int32} {n_traceNow : Int32} (h_i : iv_u s_lanes s_sizes s_cells x_kinds x_digits x_causes x_effects x_things x_follows x_due t_kinds t_digits t_caseRow t_weights t_order t_calls t_things t_caseCount t_caseSet p_callsOfCase p_partOfCase p_callsOfPart p_cases p_parts r_cases r_hours r_sets r_count u_lists u_breaths u_heard u_traced u_lastFault n_fault n_things n_kindOf n_digitOf n_follows n_ifOf n_thenOf n_listOf n_breathOf n_heardOf n_readAt n_readThings n_readFollows n_readKind n_readDigit n_readIf n_readThen n_readings n_readingIn n_readingHour n_readingOf n_breathWas n_sheetSize n_sheetLane n_sheet n_hands n_traceNow) (y_0 y_1 : Int32) : w_X5_as t_kinds t_things u_lastFault y_0 y_1 (fun (r_1 : Int32) (k_u_lastFault : Int32) => w_X6_as n_fault n_things n_kindOf y_0 y_1 (fun (r_2 : Int32) (k_n_fault : Int32) => r_1 = r_2 ∧ iv_u s_lanes s_sizes s_cells x_kinds x_digits x_causes x_effects x_things x_follows x_due t_kinds t_digits t_caseRow t_weights t_order t_calls t_things t_caseCount t_caseSet p_callsOfCase p_partOfCase p_callsOfPart p_cases p_parts r_cases r_hours r_sets r_count u_lists u_breaths u_heard u_traced k_u_lastFault k_n_fault n_things n_kindOf n_digitOf n_follows n_ifOf n_thenOf n_listOf n_breathOf n_heardOf n_readAt n_readThings n_readFollows n_readKind n_readDigit n_readIf n_readThen n_readings n_readingIn n_readingHour n_readingOf n_breathWas n_sheetSize n_sheetLane n_sheet n_hands n_traceNow)) := by 
  obtain ⟨n, fo, rc, kd, dg, fi, ft, li, br, mi, mr, rx, rh, hA, hH, hR, hS, hT, hF⟩ := iv_of h_i
  have hA2 := hA
  obtain ⟨hn, hfo, rfl, rfl, rfl, hf, hft, hk, hd, htk, htd, hpT, hcs, hW, hc⟩ := hA
  have h64 := pa_p2 hn
  unfold w_X5_as
  rw [s_isThing hn]
  by_cases c : 0 ≤ y_0.toInt ∧ y_0.toInt < n
  · obtain ⟨t, ht, rfl⟩ := pa_of c.1 c.2 (by omega)
    have v := pa_vp (N := 6) (show t < 6 by omega) (by omega)
    have e1 := (hk t ht).1
    have e3 := (htk t ht).1
    have kb := (hk t ht).2
    rw [decide_eq_true c, pa_cl (by omega), e3, pa_l0, pa_lt y_1 3, show (3 : Int32).toInt = 3 from rfl]
    have z0 : (0 : Int64).toInt = 0 := rfl
    have z2 : (2 : Int64).toInt = 2 := rfl
    refine ⟨fun _ => ⟨fun a => ?_, fun a => ⟨fun b => ⟨v, fun d => ?_, fun d => ?_⟩, fun b => ?_⟩⟩, fun q => absurd q (by decide)⟩
    · unfold w_X6_as
      refine (s_noThing hn _ _).mpr ?_
      rw [decide_eq_true c, s_in, pa_i64, decide_eq_false (by omega)]
      exact ⟨fun _ => ⟨fun q => absurd rfl q, fun _ => ⟨rfl, iv_mk hA2 hH hR hS hT rfl⟩⟩, fun q => absurd rfl q⟩
    · unfold w_X5_faulted
      dsimp only
      unfold w_X6_as
      rw [s_noThing hn, decide_eq_true c, s_in, pa_i64, decide_eq_true (by omega), pa_cl (by omega), e1]
      exact ⟨fun _ => ⟨fun _ => ⟨v, fun _ => ⟨rfl, iv_mk hA2 hH hR hS hT rfl⟩, fun q => absurd d q⟩, fun q => absurd q (by decide)⟩, fun q => absurd rfl q⟩
    · unfold w_X6_as
      refine (s_noThing hn _ _).mpr ?_
      rw [decide_eq_true c, s_in, pa_i64, decide_eq_true (by omega), pa_cl (by omega), e1]
      exact ⟨fun _ => ⟨fun _ => ⟨v, fun q => absurd q d, fun _ => ⟨rfl, iv_mk hA2 hH hR hS hT rfl⟩⟩, fun q => absurd q (by decide)⟩, fun q => absurd rfl q⟩
    · unfold w_X6_as
      refine (s_noThing hn _ _).mpr ?_
      rw [decide_eq_true c, s_in, pa_i64, decide_eq_false (by omega)]
      exact ⟨fun _ => ⟨fun q => absurd rfl q, fun _ => ⟨rfl, iv_mk hA2 hH hR hS hT rfl⟩⟩, fun q => absurd rfl q⟩
  · rw [decide_eq_false c]
    refine ⟨fun q => absurd rfl q, fun _ => ?_⟩
    unfold w_X6_as
    refine (s_noThing hn _ _).mpr ?_
    rw [decide_eq_false c]
    exact ⟨fun q => absurd q (by decide), fun _ => ⟨rfl, iv_mk hA2 hH hR hS hT rfl⟩⟩
theorem ev_29 {s_lanes : Nat → Int32} {s_sizes : Nat → Int32} {s_cells : Nat → Int32} {x_kinds : Nat → Int32} {x_digits : Nat → Int32} {x_causes : Nat → Int32} {x_effects : Nat → Int32} {x_things : Int32} {x_follows : Int32} {x_due : Int32} {t_kinds : Nat → Int32} {t_digits : Nat → Int32} {t_caseRow : Nat → Int32} {t_weights : Nat → Int32} {t_order : Nat → Int32} {t_calls : Nat → Int32} {t_things : Int32} {t_caseCount : Int32} {t_caseSet : Int64} {p_callsOfCase : Nat → Int64} {p_partOfCase : Nat → Int32} {p_callsOfPart : Nat → Int64} {p_cases : Int32} {p_parts : Int32} {r_cases : Nat → Int32} {r_hours : Nat → Int32} {r_sets : Nat → Int32} {r_count : Int32} {u_lists : Nat → Int32} {u_breaths : Nat → Int32} {u_heard : Nat → Int32} {u_traced : Int32} {u_lastFault : Int32} {n_fault : Int32} {n_things : Int32} {n_kindOf : Nat → Int32} {n_digitOf : Nat → Int32} {n_follows : Int32} {n_ifOf : Nat → Int32} {n_thenOf : Nat → Int32} {n_listOf : Nat → Int32} {n_breathOf : Nat → Int32} {n_heardOf : Nat → Int32} {n_readAt : Int32} {n_readThings : Int32} {n_readFollows : Int32} {n_readKind : Nat → Int32} {n_readDigit : Nat → Int32} {n_readIf : Nat → Int32} {n_readThen : Nat → Int32} {n_readings : Int32} {n_readingIn : Nat → Int32} {n_readingHour : Nat → Int32} {n_readingOf : Nat → Int32} {n_breathWas : Nat → Int32} {n_sheetSize : Nat → Int32} {n_sheetLane : Nat → Int32} {n_sheet : Nat → Int32} {n_hands : Nat → Int32} {n_traceNow : Int32} (h_i : iv_u s_lanes s_sizes s_cells x_kinds x_digits x_causes x_effects x_things x_follows x_due t_kinds t_digits t_caseRow t_weights t_order t_calls t_things t_caseCount t_caseSet p_callsOfCase p_partOfCase p_callsOfPart p_cases p_parts r_cases r_hours r_sets r_count u_lists u_breaths u_heard u_traced u_lastFault n_fault n_things n_kindOf n_digitOf n_follows n_ifOf n_thenOf n_listOf n_breathOf n_heardOf n_readAt n_readThings n_readFollows n_readKind n_readDigit n_readIf n_readThen n_readings n_readingIn n_readingHour n_readingOf n_breathWas n_sheetSize n_sheetLane n_sheet n_hands n_traceNow)  : w_X5_trace u_traced (fun (r_1 : Int32) => w_X6_trace n_traceNow (fun (r_2 : Int32) => r_1 = r_2 ∧ iv_u s_lanes s_sizes s_cells x_kinds x_digits x_causes x_effects x_things x_follows x_due t_kinds t_digits t_caseRow t_weights t_order t_calls t_things t_caseCount t_caseSet p_callsOfCase p_partOfCase p_callsOfPart p_cases p_parts r_cases r_hours r_sets r_count u_lists u_breaths u_heard u_traced u_lastFault n_fault n_things n_kindOf n_digitOf n_follows n_ifOf n_thenOf n_listOf n_breathOf n_heardOf n_readAt n_readThings n_readFollows n_readKind n_readDigit n_readIf n_readThen n_readings n_readingIn n_readingHour n_readingOf n_breathWas n_sheetSize n_sheetLane n_sheet n_hands n_traceNow)) := by 
  obtain ⟨n, fo, rc, kd, dg, fi, ft, li, br, mi, mr, rx, rh, hA, hH, hR, hS, hT, hF⟩ := iv_of h_i
  have hA2 := hA
  obtain ⟨hn, hfo, rfl, rfl, rfl, hf, hft, hk, hd, htk, htd, hpT, hcs, hW, hc⟩ := hA
  have h64 := pa_p2 hn
  exact ⟨hT, iv_mk hA2 hH hR hS hT hF⟩
theorem ev_30 {s_lanes : Nat → Int32} {s_sizes : Nat → Int32} {s_cells : Nat → Int32} {x_kinds : Nat → Int32} {x_digits : Nat → Int32} {x_causes : Nat → Int32} {x_effects : Nat → Int32} {x_things : Int32} {x_follows : Int32} {x_due : Int32} {t_kinds : Nat → Int32} {t_digits : Nat → Int32} {t_caseRow : Nat → Int32} {t_weights : Nat → Int32} {t_order : Nat → Int32} {t_calls : Nat → Int32} {t_things : Int32} {t_caseCount : Int32} {t_caseSet : Int64} {p_callsOfCase : Nat → Int64} {p_partOfCase : Nat → Int32} {p_callsOfPart : Nat → Int64} {p_cases : Int32} {p_parts : Int32} {r_cases : Nat → Int32} {r_hours : Nat → Int32} {r_sets : Nat → Int32} {r_count : Int32} {u_lists : Nat → Int32} {u_breaths : Nat → Int32} {u_heard : Nat → Int32} {u_traced : Int32} {u_lastFault : Int32} {n_fault : Int32} {n_things : Int32} {n_kindOf : Nat → Int32} {n_digitOf : Nat → Int32} {n_follows : Int32} {n_ifOf : Nat → Int32} {n_thenOf : Nat → Int32} {n_listOf : Nat → Int32} {n_breathOf : Nat → Int32} {n_heardOf : Nat → Int32} {n_readAt : Int32} {n_readThings : Int32} {n_readFollows : Int32} {n_readKind : Nat → Int32} {n_readDigit : Nat → Int32} {n_readIf : Nat → Int32} {n_readThen : Nat → Int32} {n_readings : Int32} {n_readingIn : Nat → Int32} {n_readingHour : Nat → Int32} {n_readingOf : Nat → Int32} {n_breathWas : Nat → Int32} {n_sheetSize : Nat → Int32} {n_sheetLane : Nat → Int32} {n_sheet : Nat → Int32} {n_hands : Nat → Int32} {n_traceNow : Int32} (h_i : iv_u s_lanes s_sizes s_cells x_kinds x_digits x_causes x_effects x_things x_follows x_due t_kinds t_digits t_caseRow t_weights t_order t_calls t_things t_caseCount t_caseSet p_callsOfCase p_partOfCase p_callsOfPart p_cases p_parts r_cases r_hours r_sets r_count u_lists u_breaths u_heard u_traced u_lastFault n_fault n_things n_kindOf n_digitOf n_follows n_ifOf n_thenOf n_listOf n_breathOf n_heardOf n_readAt n_readThings n_readFollows n_readKind n_readDigit n_readIf n_readThen n_readings n_readingIn n_readingHour n_readingOf n_breathWas n_sheetSize n_sheetLane n_sheet n_hands n_traceNow)  : w_X5_fault u_lastFault (fun (r_1 : Int32) => w_X6_fault n_fault (fun (r_2 : Int32) => r_1 = r_2 ∧ iv_u s_lanes s_sizes s_cells x_kinds x_digits x_causes x_effects x_things x_follows x_due t_kinds t_digits t_caseRow t_weights t_order t_calls t_things t_caseCount t_caseSet p_callsOfCase p_partOfCase p_callsOfPart p_cases p_parts r_cases r_hours r_sets r_count u_lists u_breaths u_heard u_traced u_lastFault n_fault n_things n_kindOf n_digitOf n_follows n_ifOf n_thenOf n_listOf n_breathOf n_heardOf n_readAt n_readThings n_readFollows n_readKind n_readDigit n_readIf n_readThen n_readings n_readingIn n_readingHour n_readingOf n_breathWas n_sheetSize n_sheetLane n_sheet n_hands n_traceNow)) := by 
  obtain ⟨n, fo, rc, kd, dg, fi, ft, li, br, mi, mr, rx, rh, hA, hH, hR, hS, hT, hF⟩ := iv_of h_i
  have hA2 := hA
  obtain ⟨hn, hfo, rfl, rfl, rfl, hf, hft, hk, hd, htk, htd, hpT, hcs, hW, hc⟩ := hA
  have h64 := pa_p2 hn
  exact ⟨hF, iv_mk hA2 hH hR hS hT hF⟩
