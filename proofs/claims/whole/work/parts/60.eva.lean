theorem ev_1 {s_lanes : Nat → Int32} {s_sizes : Nat → Int32} {s_cells : Nat → Int32} {x_kinds : Nat → Int32} {x_digits : Nat → Int32} {x_causes : Nat → Int32} {x_effects : Nat → Int32} {x_things : Int32} {x_follows : Int32} {x_due : Int32} {t_kinds : Nat → Int32} {t_digits : Nat → Int32} {t_caseRow : Nat → Int32} {t_weights : Nat → Int32} {t_order : Nat → Int32} {t_calls : Nat → Int32} {t_things : Int32} {t_caseCount : Int32} {t_caseSet : Int64} {p_callsOfCase : Nat → Int64} {p_partOfCase : Nat → Int32} {p_callsOfPart : Nat → Int64} {p_cases : Int32} {p_parts : Int32} {r_cases : Nat → Int32} {r_hours : Nat → Int32} {r_sets : Nat → Int32} {r_count : Int32} {u_lists : Nat → Int32} {u_breaths : Nat → Int32} {u_heard : Nat → Int32} {u_traced : Int32} {u_lastFault : Int32} {n_fault : Int32} {n_things : Int32} {n_kindOf : Nat → Int32} {n_digitOf : Nat → Int32} {n_follows : Int32} {n_ifOf : Nat → Int32} {n_thenOf : Nat → Int32} {n_listOf : Nat → Int32} {n_breathOf : Nat → Int32} {n_heardOf : Nat → Int32} {n_readAt : Int32} {n_readThings : Int32} {n_readFollows : Int32} {n_readKind : Nat → Int32} {n_readDigit : Nat → Int32} {n_readIf : Nat → Int32} {n_readThen : Nat → Int32} {n_readings : Int32} {n_readingIn : Nat → Int32} {n_readingHour : Nat → Int32} {n_readingOf : Nat → Int32} {n_breathWas : Nat → Int32} {n_sheetSize : Nat → Int32} {n_sheetLane : Nat → Int32} {n_sheet : Nat → Int32} {n_hands : Nat → Int32} {n_traceNow : Int32} (h_i : iv_u s_lanes s_sizes s_cells x_kinds x_digits x_causes x_effects x_things x_follows x_due t_kinds t_digits t_caseRow t_weights t_order t_calls t_things t_caseCount t_caseSet p_callsOfCase p_partOfCase p_callsOfPart p_cases p_parts r_cases r_hours r_sets r_count u_lists u_breaths u_heard u_traced u_lastFault n_fault n_things n_kindOf n_digitOf n_follows n_ifOf n_thenOf n_listOf n_breathOf n_heardOf n_readAt n_readThings n_readFollows n_readKind n_readDigit n_readIf n_readThen n_readings n_readingIn n_readingHour n_readingOf n_breathWas n_sheetSize n_sheetLane n_sheet n_hands n_traceNow) (y_0 y_1 : Int32) : w_X5_ofThing t_kinds t_digits t_things y_0 y_1 (fun (r_1 : Int32) => w_X6_ofThing n_things n_kindOf n_digitOf y_0 y_1 (fun (r_2 : Int32) => r_1 = r_2 ∧ iv_u s_lanes s_sizes s_cells x_kinds x_digits x_causes x_effects x_things x_follows x_due t_kinds t_digits t_caseRow t_weights t_order t_calls t_things t_caseCount t_caseSet p_callsOfCase p_partOfCase p_callsOfPart p_cases p_parts r_cases r_hours r_sets r_count u_lists u_breaths u_heard u_traced u_lastFault n_fault n_things n_kindOf n_digitOf n_follows n_ifOf n_thenOf n_listOf n_breathOf n_heardOf n_readAt n_readThings n_readFollows n_readKind n_readDigit n_readIf n_readThen n_readings n_readingIn n_readingHour n_readingOf n_breathWas n_sheetSize n_sheetLane n_sheet n_hands n_traceNow)) := by 
  obtain ⟨n, fo, rc, kd, dg, fi, ft, li, br, mi, mr, rx, rh, hA, hH, hR, hS, hT, hF⟩ := iv_of h_i
  have hA2 := hA
  obtain ⟨hn, hfo, rfl, rfl, rfl, hf, hft, hk, hd, htk, htd, hpT, hcs, hW, hc⟩ := hA
  have h64 := pa_p2 hn
  unfold w_X5_ofThing
  rw [s_isThing hn]
  by_cases c : 0 ≤ y_0.toInt ∧ y_0.toInt < n
  · obtain ⟨t, ht, rfl⟩ := pa_of c.1 c.2 (by omega)
    rw [decide_eq_true c]
    refine ⟨fun _ => ?_, fun q => absurd q (by decide)⟩
    have e1 := (hk t ht).1
    have e2 := (hd t ht).1
    have e3 := (htk t ht).1
    have e4 := htd t ht
    have key : ∀ post : Int32 → Prop, (¬ y_1 = 0 → (¬ y_1 = 1 → (¬ y_1 = 2 → post (-2)) ∧ (y_1 = 2 → post (nI (kd t) + 1))) ∧ (y_1 = 1 → post (nI (dg t)))) ∧ (y_1 = 0 → post (nI (kd t))) → w_X6_ofThing (nI n) n_kindOf n_digitOf (nI t) y_1 post := fun post h => by
      unfold w_X6_ofThing
      rw [s_noThing hn, decide_eq_true c, pa_cl (by omega), e1, e2]
      have v := pa_vp (N := 6) (show t < 6 by omega) (by omega)
      exact ⟨fun _ => ⟨fun a => ⟨fun b => ⟨fun c => (h.1 a).1 b |>.1 c, fun c => ⟨v, (h.1 a).1 b |>.2 c⟩⟩, fun b => ⟨v, (h.1 a).2 b⟩⟩, fun a => ⟨v, h.2 a⟩⟩, fun q => absurd rfl q⟩
    have v := pa_vp (N := 6) (show t < 6 by omega) (by omega)
    rw [pa_cl (by omega), e3, e4]
    refine ⟨fun a => ⟨fun b => ⟨fun c => key _ ?_, fun c => ⟨v, (s_words _ _).mpr (key _ ?_)⟩⟩, fun b => ⟨v, key _ ?_⟩⟩, fun a => ⟨v, key _ ?_⟩⟩
    · exact ⟨fun _ => ⟨fun _ => ⟨fun _ => ⟨rfl, iv_mk hA2 hH hR hS hT hF⟩, fun q => absurd q c⟩, fun q => absurd q b⟩, fun q => absurd q a⟩
    · exact ⟨fun _ => ⟨fun _ => ⟨fun q => absurd c q, fun q => ⟨rfl, iv_mk hA2 hH hR hS hT hF⟩⟩, fun q => absurd q b⟩, fun q => absurd q a⟩
    · exact ⟨fun _ => ⟨fun q => absurd b q, fun q => ⟨rfl, iv_mk hA2 hH hR hS hT hF⟩⟩, fun q => absurd q a⟩
    · exact ⟨fun q => absurd a q, fun q => ⟨rfl, iv_mk hA2 hH hR hS hT hF⟩⟩
  · rw [decide_eq_false c]
    refine ⟨fun q => absurd rfl q, fun _ => ?_⟩
    unfold w_X6_ofThing
    refine (s_noThing hn _ _).mpr ?_
    rw [decide_eq_false c]
    exact ⟨fun q => absurd q (by decide), fun _ => ⟨rfl, iv_mk hA2 hH hR hS hT hF⟩⟩
theorem ev_2 {s_lanes : Nat → Int32} {s_sizes : Nat → Int32} {s_cells : Nat → Int32} {x_kinds : Nat → Int32} {x_digits : Nat → Int32} {x_causes : Nat → Int32} {x_effects : Nat → Int32} {x_things : Int32} {x_follows : Int32} {x_due : Int32} {t_kinds : Nat → Int32} {t_digits : Nat → Int32} {t_caseRow : Nat → Int32} {t_weights : Nat → Int32} {t_order : Nat → Int32} {t_calls : Nat → Int32} {t_things : Int32} {t_caseCount : Int32} {t_caseSet : Int64} {p_callsOfCase : Nat → Int64} {p_partOfCase : Nat → Int32} {p_callsOfPart : Nat → Int64} {p_cases : Int32} {p_parts : Int32} {r_cases : Nat → Int32} {r_hours : Nat → Int32} {r_sets : Nat → Int32} {r_count : Int32} {u_lists : Nat → Int32} {u_breaths : Nat → Int32} {u_heard : Nat → Int32} {u_traced : Int32} {u_lastFault : Int32} {n_fault : Int32} {n_things : Int32} {n_kindOf : Nat → Int32} {n_digitOf : Nat → Int32} {n_follows : Int32} {n_ifOf : Nat → Int32} {n_thenOf : Nat → Int32} {n_listOf : Nat → Int32} {n_breathOf : Nat → Int32} {n_heardOf : Nat → Int32} {n_readAt : Int32} {n_readThings : Int32} {n_readFollows : Int32} {n_readKind : Nat → Int32} {n_readDigit : Nat → Int32} {n_readIf : Nat → Int32} {n_readThen : Nat → Int32} {n_readings : Int32} {n_readingIn : Nat → Int32} {n_readingHour : Nat → Int32} {n_readingOf : Nat → Int32} {n_breathWas : Nat → Int32} {n_sheetSize : Nat → Int32} {n_sheetLane : Nat → Int32} {n_sheet : Nat → Int32} {n_hands : Nat → Int32} {n_traceNow : Int32} (h_i : iv_u s_lanes s_sizes s_cells x_kinds x_digits x_causes x_effects x_things x_follows x_due t_kinds t_digits t_caseRow t_weights t_order t_calls t_things t_caseCount t_caseSet p_callsOfCase p_partOfCase p_callsOfPart p_cases p_parts r_cases r_hours r_sets r_count u_lists u_breaths u_heard u_traced u_lastFault n_fault n_things n_kindOf n_digitOf n_follows n_ifOf n_thenOf n_listOf n_breathOf n_heardOf n_readAt n_readThings n_readFollows n_readKind n_readDigit n_readIf n_readThen n_readings n_readingIn n_readingHour n_readingOf n_breathWas n_sheetSize n_sheetLane n_sheet n_hands n_traceNow)  : w_X5_cases t_caseSet (fun (r_1 : Int64) => w_X6_cases n_things n_follows n_ifOf n_thenOf (fun (r_2 : Int64) => r_1 = r_2 ∧ iv_u s_lanes s_sizes s_cells x_kinds x_digits x_causes x_effects x_things x_follows x_due t_kinds t_digits t_caseRow t_weights t_order t_calls t_things t_caseCount t_caseSet p_callsOfCase p_partOfCase p_callsOfPart p_cases p_parts r_cases r_hours r_sets r_count u_lists u_breaths u_heard u_traced u_lastFault n_fault n_things n_kindOf n_digitOf n_follows n_ifOf n_thenOf n_listOf n_breathOf n_heardOf n_readAt n_readThings n_readFollows n_readKind n_readDigit n_readIf n_readThen n_readings n_readingIn n_readingHour n_readingOf n_breathWas n_sheetSize n_sheetLane n_sheet n_hands n_traceNow)) := by 
  obtain ⟨n, fo, rc, kd, dg, fi, ft, li, br, mi, mr, rx, rh, hA, hH, hR, hS, hT, hF⟩ := iv_of h_i
  have hA2 := hA
  obtain ⟨hn, hfo, rfl, rfl, rfl, hf, hft, hk, hd, htk, htd, hpT, hcs, hW, hc⟩ := hA
  have h64 := pa_p2 hn
  unfold w_X5_cases
  subst hcs
  exact s_X6_casesP hn hfo hf ⟨rfl, iv_mk hA2 hH hR hS hT hF⟩
theorem ev_3 {s_lanes : Nat → Int32} {s_sizes : Nat → Int32} {s_cells : Nat → Int32} {x_kinds : Nat → Int32} {x_digits : Nat → Int32} {x_causes : Nat → Int32} {x_effects : Nat → Int32} {x_things : Int32} {x_follows : Int32} {x_due : Int32} {t_kinds : Nat → Int32} {t_digits : Nat → Int32} {t_caseRow : Nat → Int32} {t_weights : Nat → Int32} {t_order : Nat → Int32} {t_calls : Nat → Int32} {t_things : Int32} {t_caseCount : Int32} {t_caseSet : Int64} {p_callsOfCase : Nat → Int64} {p_partOfCase : Nat → Int32} {p_callsOfPart : Nat → Int64} {p_cases : Int32} {p_parts : Int32} {r_cases : Nat → Int32} {r_hours : Nat → Int32} {r_sets : Nat → Int32} {r_count : Int32} {u_lists : Nat → Int32} {u_breaths : Nat → Int32} {u_heard : Nat → Int32} {u_traced : Int32} {u_lastFault : Int32} {n_fault : Int32} {n_things : Int32} {n_kindOf : Nat → Int32} {n_digitOf : Nat → Int32} {n_follows : Int32} {n_ifOf : Nat → Int32} {n_thenOf : Nat → Int32} {n_listOf : Nat → Int32} {n_breathOf : Nat → Int32} {n_heardOf : Nat → Int32} {n_readAt : Int32} {n_readThings : Int32} {n_readFollows : Int32} {n_readKind : Nat → Int32} {n_readDigit : Nat → Int32} {n_readIf : Nat → Int32} {n_readThen : Nat → Int32} {n_readings : Int32} {n_readingIn : Nat → Int32} {n_readingHour : Nat → Int32} {n_readingOf : Nat → Int32} {n_breathWas : Nat → Int32} {n_sheetSize : Nat → Int32} {n_sheetLane : Nat → Int32} {n_sheet : Nat → Int32} {n_hands : Nat → Int32} {n_traceNow : Int32} (h_i : iv_u s_lanes s_sizes s_cells x_kinds x_digits x_causes x_effects x_things x_follows x_due t_kinds t_digits t_caseRow t_weights t_order t_calls t_things t_caseCount t_caseSet p_callsOfCase p_partOfCase p_callsOfPart p_cases p_parts r_cases r_hours r_sets r_count u_lists u_breaths u_heard u_traced u_lastFault n_fault n_things n_kindOf n_digitOf n_follows n_ifOf n_thenOf n_listOf n_breathOf n_heardOf n_readAt n_readThings n_readFollows n_readKind n_readDigit n_readIf n_readThen n_readings n_readingIn n_readingHour n_readingOf n_breathWas n_sheetSize n_sheetLane n_sheet n_hands n_traceNow) (y_0 : Int32) : w_X5_weight t_weights t_caseSet y_0 (fun (r_1 : Int32) => w_X6_weight n_things n_digitOf n_follows n_ifOf n_thenOf y_0 (fun (r_2 : Int32) => r_1 = r_2 ∧ iv_u s_lanes s_sizes s_cells x_kinds x_digits x_causes x_effects x_things x_follows x_due t_kinds t_digits t_caseRow t_weights t_order t_calls t_things t_caseCount t_caseSet p_callsOfCase p_partOfCase p_callsOfPart p_cases p_parts r_cases r_hours r_sets r_count u_lists u_breaths u_heard u_traced u_lastFault n_fault n_things n_kindOf n_digitOf n_follows n_ifOf n_thenOf n_listOf n_breathOf n_heardOf n_readAt n_readThings n_readFollows n_readKind n_readDigit n_readIf n_readThen n_readings n_readingIn n_readingHour n_readingOf n_breathWas n_sheetSize n_sheetLane n_sheet n_hands n_traceNow)) := by 
  obtain ⟨n, fo, rc, kd, dg, fi, ft, li, br, mi, mr, rx, rh, hA, hH, hR, hS, hT, hF⟩ := iv_of h_i
  have hA2 := hA
  obtain ⟨hn, hfo, rfl, rfl, rfl, hf, hft, hk, hd, htk, htd, hpT, hcs, hW, hc⟩ := hA
  have h64 := pa_p2 hn
  unfold w_X5_weight
  refine s_X4_isCase hn hcs _ ?_
  by_cases c : pc_ci n fo fi ft y_0 = true
  · obtain ⟨x, hx, rfl, hp, h0⟩ := pc_ci_of hn c
    rw [c]
    refine ⟨fun q => absurd q (by decide), fun _ => ⟨pa_vp (by omega) (by omega), ?_⟩⟩
    rw [pa_cl (by omega), hW x hp]
    unfold w_X6_weight
    refine s_isCase hn hfo hf _ ?_
    rw [c]
    exact ⟨fun q => absurd q (by decide), fun _ => s_X6_weightOf hn hd (by omega) ⟨rfl, iv_mk hA2 hH hR hS hT hF⟩⟩
  · rw [Bool.not_eq_true] at c
    rw [c]
    refine ⟨fun _ => ?_, fun q => absurd rfl q⟩
    unfold w_X6_weight
    refine s_isCase hn hfo hf _ ?_
    rw [c]
    exact ⟨fun _ => ⟨rfl, iv_mk hA2 hH hR hS hT hF⟩, fun q => absurd rfl q⟩
theorem ev_6 {s_lanes : Nat → Int32} {s_sizes : Nat → Int32} {s_cells : Nat → Int32} {x_kinds : Nat → Int32} {x_digits : Nat → Int32} {x_causes : Nat → Int32} {x_effects : Nat → Int32} {x_things : Int32} {x_follows : Int32} {x_due : Int32} {t_kinds : Nat → Int32} {t_digits : Nat → Int32} {t_caseRow : Nat → Int32} {t_weights : Nat → Int32} {t_order : Nat → Int32} {t_calls : Nat → Int32} {t_things : Int32} {t_caseCount : Int32} {t_caseSet : Int64} {p_callsOfCase : Nat → Int64} {p_partOfCase : Nat → Int32} {p_callsOfPart : Nat → Int64} {p_cases : Int32} {p_parts : Int32} {r_cases : Nat → Int32} {r_hours : Nat → Int32} {r_sets : Nat → Int32} {r_count : Int32} {u_lists : Nat → Int32} {u_breaths : Nat → Int32} {u_heard : Nat → Int32} {u_traced : Int32} {u_lastFault : Int32} {n_fault : Int32} {n_things : Int32} {n_kindOf : Nat → Int32} {n_digitOf : Nat → Int32} {n_follows : Int32} {n_ifOf : Nat → Int32} {n_thenOf : Nat → Int32} {n_listOf : Nat → Int32} {n_breathOf : Nat → Int32} {n_heardOf : Nat → Int32} {n_readAt : Int32} {n_readThings : Int32} {n_readFollows : Int32} {n_readKind : Nat → Int32} {n_readDigit : Nat → Int32} {n_readIf : Nat → Int32} {n_readThen : Nat → Int32} {n_readings : Int32} {n_readingIn : Nat → Int32} {n_readingHour : Nat → Int32} {n_readingOf : Nat → Int32} {n_breathWas : Nat → Int32} {n_sheetSize : Nat → Int32} {n_sheetLane : Nat → Int32} {n_sheet : Nat → Int32} {n_hands : Nat → Int32} {n_traceNow : Int32} (h_i : iv_u s_lanes s_sizes s_cells x_kinds x_digits x_causes x_effects x_things x_follows x_due t_kinds t_digits t_caseRow t_weights t_order t_calls t_things t_caseCount t_caseSet p_callsOfCase p_partOfCase p_callsOfPart p_cases p_parts r_cases r_hours r_sets r_count u_lists u_breaths u_heard u_traced u_lastFault n_fault n_things n_kindOf n_digitOf n_follows n_ifOf n_thenOf n_listOf n_breathOf n_heardOf n_readAt n_readThings n_readFollows n_readKind n_readDigit n_readIf n_readThen n_readings n_readingIn n_readingHour n_readingOf n_breathWas n_sheetSize n_sheetLane n_sheet n_hands n_traceNow) (y_0 y_1 : Int32) : w_X5_called t_calls t_caseSet u_lists u_breaths y_0 y_1 (fun (r_1 : Int32) => w_X6_called n_things n_kindOf n_follows n_ifOf n_thenOf n_listOf n_breathOf y_0 y_1 (fun (r_2 : Int32) => r_1 = r_2 ∧ iv_u s_lanes s_sizes s_cells x_kinds x_digits x_causes x_effects x_things x_follows x_due t_kinds t_digits t_caseRow t_weights t_order t_calls t_things t_caseCount t_caseSet p_callsOfCase p_partOfCase p_callsOfPart p_cases p_parts r_cases r_hours r_sets r_count u_lists u_breaths u_heard u_traced u_lastFault n_fault n_things n_kindOf n_digitOf n_follows n_ifOf n_thenOf n_listOf n_breathOf n_heardOf n_readAt n_readThings n_readFollows n_readKind n_readDigit n_readIf n_readThen n_readings n_readingIn n_readingHour n_readingOf n_breathWas n_sheetSize n_sheetLane n_sheet n_hands n_traceNow)) := by 
  obtain ⟨n, fo, rc, kd, dg, fi, ft, li, br, mi, mr, rx, rh, hA, hH, hR, hS, hT, hF⟩ := iv_of h_i
  have hA2 := hA
  obtain ⟨hn, hfo, rfl, rfl, rfl, hf, hft, hk, hd, htk, htd, hpT, hcs, hW, hc⟩ := hA
  have h64 := pa_p2 hn
  have hH2 := hH
  obtain ⟨h1, h2, h3, h4, h5, h6⟩ := hH2
  unfold w_X5_called
  refine s_X4_isCase hn hcs _ ?_
  by_cases c : pc_ci n fo fi ft y_0 = true
  · obtain ⟨x, hx, rfl, hp, h0⟩ := pc_ci_of hn c
    obtain ⟨rfl, rfl, rfl⟩ := h4 h0
    rw [c, s_isHour]
    refine ⟨fun q => absurd q (by decide), fun _ => ?_⟩
    by_cases c2 : 0 ≤ y_1.toInt ∧ y_1.toInt < 6
    · obtain ⟨h, hh, rfl⟩ := pa_of (n := 6) c2.1 c2.2 (by omega)
      rw [decide_eq_true c2]
      refine ⟨fun _ => ?_, fun q => absurd q (by decide)⟩
      obtain ⟨g1, g2, g3, g4⟩ := h1 h hh
      obtain ⟨k1, k2, k3, k4⟩ := h2 h hh
      refine s_callOfHour hn hc hh g1 g2 g3 g4 (by omega) ?_
      unfold w_X6_called
      refine s_isCase hn hfo hf _ ?_
      rw [c, s_noHour, decide_eq_true c2]
      exact ⟨fun q => absurd q (by decide), fun _ => ⟨fun _ => s_calledIn hn hk hh k1 (by omega) k3 k4 (by omega) ⟨rfl, iv_mk hA2 hH hR hS hT hF⟩, fun q => absurd rfl q⟩⟩
    · rw [decide_eq_false c2]
      refine ⟨fun q => absurd rfl q, fun _ => ?_⟩
      unfold w_X6_called
      refine s_isCase hn hfo hf _ ?_
      rw [c, s_noHour, decide_eq_false c2]
      exact ⟨fun q => absurd q (by decide), fun _ => ⟨fun q => absurd q (by decide), fun _ => ⟨rfl, iv_mk hA2 hH hR hS hT hF⟩⟩⟩
  · rw [Bool.not_eq_true] at c
    rw [c]
    refine ⟨fun _ => ?_, fun q => absurd rfl q⟩
    unfold w_X6_called
    refine s_isCase hn hfo hf _ ?_
    rw [c]
    exact ⟨fun _ => ⟨rfl, iv_mk hA2 hH hR hS hT hF⟩, fun q => absurd rfl q⟩
theorem ev_8 {s_lanes : Nat → Int32} {s_sizes : Nat → Int32} {s_cells : Nat → Int32} {x_kinds : Nat → Int32} {x_digits : Nat → Int32} {x_causes : Nat → Int32} {x_effects : Nat → Int32} {x_things : Int32} {x_follows : Int32} {x_due : Int32} {t_kinds : Nat → Int32} {t_digits : Nat → Int32} {t_caseRow : Nat → Int32} {t_weights : Nat → Int32} {t_order : Nat → Int32} {t_calls : Nat → Int32} {t_things : Int32} {t_caseCount : Int32} {t_caseSet : Int64} {p_callsOfCase : Nat → Int64} {p_partOfCase : Nat → Int32} {p_callsOfPart : Nat → Int64} {p_cases : Int32} {p_parts : Int32} {r_cases : Nat → Int32} {r_hours : Nat → Int32} {r_sets : Nat → Int32} {r_count : Int32} {u_lists : Nat → Int32} {u_breaths : Nat → Int32} {u_heard : Nat → Int32} {u_traced : Int32} {u_lastFault : Int32} {n_fault : Int32} {n_things : Int32} {n_kindOf : Nat → Int32} {n_digitOf : Nat → Int32} {n_follows : Int32} {n_ifOf : Nat → Int32} {n_thenOf : Nat → Int32} {n_listOf : Nat → Int32} {n_breathOf : Nat → Int32} {n_heardOf : Nat → Int32} {n_readAt : Int32} {n_readThings : Int32} {n_readFollows : Int32} {n_readKind : Nat → Int32} {n_readDigit : Nat → Int32} {n_readIf : Nat → Int32} {n_readThen : Nat → Int32} {n_readings : Int32} {n_readingIn : Nat → Int32} {n_readingHour : Nat → Int32} {n_readingOf : Nat → Int32} {n_breathWas : Nat → Int32} {n_sheetSize : Nat → Int32} {n_sheetLane : Nat → Int32} {n_sheet : Nat → Int32} {n_hands : Nat → Int32} {n_traceNow : Int32} (h_i : iv_u s_lanes s_sizes s_cells x_kinds x_digits x_causes x_effects x_things x_follows x_due t_kinds t_digits t_caseRow t_weights t_order t_calls t_things t_caseCount t_caseSet p_callsOfCase p_partOfCase p_callsOfPart p_cases p_parts r_cases r_hours r_sets r_count u_lists u_breaths u_heard u_traced u_lastFault n_fault n_things n_kindOf n_digitOf n_follows n_ifOf n_thenOf n_listOf n_breathOf n_heardOf n_readAt n_readThings n_readFollows n_readKind n_readDigit n_readIf n_readThen n_readings n_readingIn n_readingHour n_readingOf n_breathWas n_sheetSize n_sheetLane n_sheet n_hands n_traceNow)  : w_X5_thought t_caseRow t_calls t_caseCount u_lists u_breaths u_heard (fun (r_1 : Int64) => w_X6_thought n_things n_kindOf n_follows n_ifOf n_thenOf n_listOf n_breathOf n_heardOf (fun (r_2 : Int64) => r_1 = r_2 ∧ iv_u s_lanes s_sizes s_cells x_kinds x_digits x_causes x_effects x_things x_follows x_due t_kinds t_digits t_caseRow t_weights t_order t_calls t_things t_caseCount t_caseSet p_callsOfCase p_partOfCase p_callsOfPart p_cases p_parts r_cases r_hours r_sets r_count u_lists u_breaths u_heard u_traced u_lastFault n_fault n_things n_kindOf n_digitOf n_follows n_ifOf n_thenOf n_listOf n_breathOf n_heardOf n_readAt n_readThings n_readFollows n_readKind n_readDigit n_readIf n_readThen n_readings n_readingIn n_readingHour n_readingOf n_breathWas n_sheetSize n_sheetLane n_sheet n_hands n_traceNow)) := by 
  obtain ⟨n, fo, rc, kd, dg, fi, ft, li, br, mi, mr, rx, rh, hA, hH, hR, hS, hT, hF⟩ := iv_of h_i
  have hA2 := hA
  obtain ⟨hn, hfo, rfl, rfl, rfl, hf, hft, hk, hd, htk, htd, hpT, hcs, hW, hc⟩ := hA
  have h64 := pa_p2 hn
  have hE := iv_tb (fo := fo) (kd := kd) (fi := fi) (ft := ft) hH
  have hH2 := hH
  obtain ⟨h1, h2, h3, h4, h5, h6⟩ := hH2
  refine s_X5_thought hn hpT hc h1 ?_
  refine s_X6_thought hn hfo hf hk h2 h3 ?_
  rw [hE]
  exact ⟨rfl, iv_mk hA2 hH hR hS hT hF⟩
theorem ev_9 {s_lanes : Nat → Int32} {s_sizes : Nat → Int32} {s_cells : Nat → Int32} {x_kinds : Nat → Int32} {x_digits : Nat → Int32} {x_causes : Nat → Int32} {x_effects : Nat → Int32} {x_things : Int32} {x_follows : Int32} {x_due : Int32} {t_kinds : Nat → Int32} {t_digits : Nat → Int32} {t_caseRow : Nat → Int32} {t_weights : Nat → Int32} {t_order : Nat → Int32} {t_calls : Nat → Int32} {t_things : Int32} {t_caseCount : Int32} {t_caseSet : Int64} {p_callsOfCase : Nat → Int64} {p_partOfCase : Nat → Int32} {p_callsOfPart : Nat → Int64} {p_cases : Int32} {p_parts : Int32} {r_cases : Nat → Int32} {r_hours : Nat → Int32} {r_sets : Nat → Int32} {r_count : Int32} {u_lists : Nat → Int32} {u_breaths : Nat → Int32} {u_heard : Nat → Int32} {u_traced : Int32} {u_lastFault : Int32} {n_fault : Int32} {n_things : Int32} {n_kindOf : Nat → Int32} {n_digitOf : Nat → Int32} {n_follows : Int32} {n_ifOf : Nat → Int32} {n_thenOf : Nat → Int32} {n_listOf : Nat → Int32} {n_breathOf : Nat → Int32} {n_heardOf : Nat → Int32} {n_readAt : Int32} {n_readThings : Int32} {n_readFollows : Int32} {n_readKind : Nat → Int32} {n_readDigit : Nat → Int32} {n_readIf : Nat → Int32} {n_readThen : Nat → Int32} {n_readings : Int32} {n_readingIn : Nat → Int32} {n_readingHour : Nat → Int32} {n_readingOf : Nat → Int32} {n_breathWas : Nat → Int32} {n_sheetSize : Nat → Int32} {n_sheetLane : Nat → Int32} {n_sheet : Nat → Int32} {n_hands : Nat → Int32} {n_traceNow : Int32} (h_i : iv_u s_lanes s_sizes s_cells x_kinds x_digits x_causes x_effects x_things x_follows x_due t_kinds t_digits t_caseRow t_weights t_order t_calls t_things t_caseCount t_caseSet p_callsOfCase p_partOfCase p_callsOfPart p_cases p_parts r_cases r_hours r_sets r_count u_lists u_breaths u_heard u_traced u_lastFault n_fault n_things n_kindOf n_digitOf n_follows n_ifOf n_thenOf n_listOf n_breathOf n_heardOf n_readAt n_readThings n_readFollows n_readKind n_readDigit n_readIf n_readThen n_readings n_readingIn n_readingHour n_readingOf n_breathWas n_sheetSize n_sheetLane n_sheet n_hands n_traceNow) (y_0 : Int32) : w_X5_sure t_caseRow t_calls t_things t_caseCount u_lists u_breaths u_heard y_0 (fun (r_1 : Int32) => w_X6_sure n_things n_kindOf n_follows n_ifOf n_thenOf n_listOf n_breathOf n_heardOf y_0 (fun (r_2 : Int32) => r_1 = r_2 ∧ iv_u s_lanes s_sizes s_cells x_kinds x_digits x_causes x_effects x_things x_follows x_due t_kinds t_digits t_caseRow t_weights t_order t_calls t_things t_caseCount t_caseSet p_callsOfCase p_partOfCase p_callsOfPart p_cases p_parts r_cases r_hours r_sets r_count u_lists u_breaths u_heard u_traced u_lastFault n_fault n_things n_kindOf n_digitOf n_follows n_ifOf n_thenOf n_listOf n_breathOf n_heardOf n_readAt n_readThings n_readFollows n_readKind n_readDigit n_readIf n_readThen n_readings n_readingIn n_readingHour n_readingOf n_breathWas n_sheetSize n_sheetLane n_sheet n_hands n_traceNow)) := by 
  obtain ⟨n, fo, rc, kd, dg, fi, ft, li, br, mi, mr, rx, rh, hA, hH, hR, hS, hT, hF⟩ := iv_of h_i
  have hA2 := hA
  obtain ⟨hn, hfo, rfl, rfl, rfl, hf, hft, hk, hd, htk, htd, hpT, hcs, hW, hc⟩ := hA
  have h64 := pa_p2 hn
  have hE := iv_tb (fo := fo) (kd := kd) (fi := fi) (ft := ft) hH
  have hH2 := hH
  obtain ⟨h1, h2, h3, h4, h5, h6⟩ := hH2
  refine s_X5_sure hn hpT hc h1 (fun a => ?_) (fun a b => ?_) (fun a b => ?_) <;> refine s_X6_sure hn hfo hf hk h2 h3 (fun a2 => ?_) (fun a2 b2 => ?_) (fun a2 b2 => ?_)
  · exact ⟨rfl, iv_mk hA2 hH hR hS hT hF⟩
  · exact absurd a2 a
  · exact absurd a2 a
  · exact absurd a a2
  · exact ⟨rfl, iv_mk hA2 hH hR hS hT hF⟩
  · omega
  · exact absurd a a2
  · omega
  · unfold pf_sure; rw [hE]; exact ⟨rfl, iv_mk hA2 hH hR hS hT hF⟩
theorem ev_10 {s_lanes : Nat → Int32} {s_sizes : Nat → Int32} {s_cells : Nat → Int32} {x_kinds : Nat → Int32} {x_digits : Nat → Int32} {x_causes : Nat → Int32} {x_effects : Nat → Int32} {x_things : Int32} {x_follows : Int32} {x_due : Int32} {t_kinds : Nat → Int32} {t_digits : Nat → Int32} {t_caseRow : Nat → Int32} {t_weights : Nat → Int32} {t_order : Nat → Int32} {t_calls : Nat → Int32} {t_things : Int32} {t_caseCount : Int32} {t_caseSet : Int64} {p_callsOfCase : Nat → Int64} {p_partOfCase : Nat → Int32} {p_callsOfPart : Nat → Int64} {p_cases : Int32} {p_parts : Int32} {r_cases : Nat → Int32} {r_hours : Nat → Int32} {r_sets : Nat → Int32} {r_count : Int32} {u_lists : Nat → Int32} {u_breaths : Nat → Int32} {u_heard : Nat → Int32} {u_traced : Int32} {u_lastFault : Int32} {n_fault : Int32} {n_things : Int32} {n_kindOf : Nat → Int32} {n_digitOf : Nat → Int32} {n_follows : Int32} {n_ifOf : Nat → Int32} {n_thenOf : Nat → Int32} {n_listOf : Nat → Int32} {n_breathOf : Nat → Int32} {n_heardOf : Nat → Int32} {n_readAt : Int32} {n_readThings : Int32} {n_readFollows : Int32} {n_readKind : Nat → Int32} {n_readDigit : Nat → Int32} {n_readIf : Nat → Int32} {n_readThen : Nat → Int32} {n_readings : Int32} {n_readingIn : Nat → Int32} {n_readingHour : Nat → Int32} {n_readingOf : Nat → Int32} {n_breathWas : Nat → Int32} {n_sheetSize : Nat → Int32} {n_sheetLane : Nat → Int32} {n_sheet : Nat → Int32} {n_hands : Nat → Int32} {n_traceNow : Int32} (h_i : iv_u s_lanes s_sizes s_cells x_kinds x_digits x_causes x_effects x_things x_follows x_due t_kinds t_digits t_caseRow t_weights t_order t_calls t_things t_caseCount t_caseSet p_callsOfCase p_partOfCase p_callsOfPart p_cases p_parts r_cases r_hours r_sets r_count u_lists u_breaths u_heard u_traced u_lastFault n_fault n_things n_kindOf n_digitOf n_follows n_ifOf n_thenOf n_listOf n_breathOf n_heardOf n_readAt n_readThings n_readFollows n_readKind n_readDigit n_readIf n_readThen n_readings n_readingIn n_readingHour n_readingOf n_breathWas n_sheetSize n_sheetLane n_sheet n_hands n_traceNow) (y_0 y_1 : Int32) : w_X5_chance t_caseRow t_weights t_calls t_things t_caseCount u_lists u_breaths u_heard y_0 y_1 (fun (r_1 : Int64) => w_X6_chance n_things n_kindOf n_digitOf n_follows n_ifOf n_thenOf n_listOf n_breathOf n_heardOf y_0 y_1 (fun (r_2 : Int64) => r_1 = r_2 ∧ iv_u s_lanes s_sizes s_cells x_kinds x_digits x_causes x_effects x_things x_follows x_due t_kinds t_digits t_caseRow t_weights t_order t_calls t_things t_caseCount t_caseSet p_callsOfCase p_partOfCase p_callsOfPart p_cases p_parts r_cases r_hours r_sets r_count u_lists u_breaths u_heard u_traced u_lastFault n_fault n_things n_kindOf n_digitOf n_follows n_ifOf n_thenOf n_listOf n_breathOf n_heardOf n_readAt n_readThings n_readFollows n_readKind n_readDigit n_readIf n_readThen n_readings n_readingIn n_readingHour n_readingOf n_breathWas n_sheetSize n_sheetLane n_sheet n_hands n_traceNow)) := by 
  obtain ⟨n, fo, rc, kd, dg, fi, ft, li, br, mi, mr, rx, rh, hA, hH, hR, hS, hT, hF⟩ := iv_of h_i
  have hA2 := hA
  obtain ⟨hn, hfo, rfl, rfl, rfl, hf, hft, hk, hd, htk, htd, hpT, hcs, hW, hc⟩ := hA
  have h64 := pa_p2 hn
  have hE := iv_tb (fo := fo) (kd := kd) (fi := fi) (ft := ft) hH
  have hH2 := hH
  obtain ⟨h1, h2, h3, h4, h5, h6⟩ := hH2
  refine s_X5_chance (t := 0) hn hpT hW (fun t ht => (hd t ht).2) hc h1 (fun a => ?_) (fun a => ?_) (fun t ht a b => ?_) <;> refine s_X6_chance (t := 0) hn hfo hf hk hd h2 h3 (fun a2 => ?_) (fun a2 => ?_) (fun t2 ht2 a2 b2 => ?_)
  · exact ⟨rfl, iv_mk hA2 hH hR hS hT hF⟩
  · exact ⟨rfl, iv_mk hA2 hH hR hS hT hF⟩
  · have := iv_ti a2 (by omega); omega
  · exact ⟨rfl, iv_mk hA2 hH hR hS hT hF⟩
  · exact ⟨rfl, iv_mk hA2 hH hR hS hT hF⟩
  · exact absurd b2 a
  · have := iv_ti a (by omega); omega
  · exact absurd b a2
  · have := iv_inj a a2 (by omega) (by omega)
    subst this
    rw [hE]; exact ⟨rfl, iv_mk hA2 hH hR hS hT hF⟩
theorem ev_11 {s_lanes : Nat → Int32} {s_sizes : Nat → Int32} {s_cells : Nat → Int32} {x_kinds : Nat → Int32} {x_digits : Nat → Int32} {x_causes : Nat → Int32} {x_effects : Nat → Int32} {x_things : Int32} {x_follows : Int32} {x_due : Int32} {t_kinds : Nat → Int32} {t_digits : Nat → Int32} {t_caseRow : Nat → Int32} {t_weights : Nat → Int32} {t_order : Nat → Int32} {t_calls : Nat → Int32} {t_things : Int32} {t_caseCount : Int32} {t_caseSet : Int64} {p_callsOfCase : Nat → Int64} {p_partOfCase : Nat → Int32} {p_callsOfPart : Nat → Int64} {p_cases : Int32} {p_parts : Int32} {r_cases : Nat → Int32} {r_hours : Nat → Int32} {r_sets : Nat → Int32} {r_count : Int32} {u_lists : Nat → Int32} {u_breaths : Nat → Int32} {u_heard : Nat → Int32} {u_traced : Int32} {u_lastFault : Int32} {n_fault : Int32} {n_things : Int32} {n_kindOf : Nat → Int32} {n_digitOf : Nat → Int32} {n_follows : Int32} {n_ifOf : Nat → Int32} {n_thenOf : Nat → Int32} {n_listOf : Nat → Int32} {n_breathOf : Nat → Int32} {n_heardOf : Nat → Int32} {n_readAt : Int32} {n_readThings : Int32} {n_readFollows : Int32} {n_readKind : Nat → Int32} {n_readDigit : Nat → Int32} {n_readIf : Nat → Int32} {n_readThen : Nat → Int32} {n_readings : Int32} {n_readingIn : Nat → Int32} {n_readingHour : Nat → Int32} {n_readingOf : Nat → Int32} {n_breathWas : Nat → Int32} {n_sheetSize : Nat → Int32} {n_sheetLane : Nat → Int32} {n_sheet : Nat → Int32} {n_hands : Nat → Int32} {n_traceNow : Int32} (h_i : iv_u s_lanes s_sizes s_cells x_kinds x_digits x_causes x_effects x_things x_follows x_due t_kinds t_digits t_caseRow t_weights t_order t_calls t_things t_caseCount t_caseSet p_callsOfCase p_partOfCase p_callsOfPart p_cases p_parts r_cases r_hours r_sets r_count u_lists u_breaths u_heard u_traced u_lastFault n_fault n_things n_kindOf n_digitOf n_follows n_ifOf n_thenOf n_listOf n_breathOf n_heardOf n_readAt n_readThings n_readFollows n_readKind n_readDigit n_readIf n_readThen n_readings n_readingIn n_readingHour n_readingOf n_breathWas n_sheetSize n_sheetLane n_sheet n_hands n_traceNow) (y_0 : Int32) : w_X5_parts t_caseRow t_calls t_things t_caseCount p_callsOfCase p_partOfCase p_cases p_parts u_lists u_breaths y_0 (fun (r_1 : Int32) (k_p_callsOfCase : Nat → Int64) (k_p_partOfCase : Nat → Int32) (k_p_cases : Int32) (k_p_parts : Int32) => w_X6_parts n_things n_kindOf n_follows n_ifOf n_thenOf n_listOf n_breathOf y_0 (fun (r_2 : Int32) => r_1 = r_2 ∧ iv_u s_lanes s_sizes s_cells x_kinds x_digits x_causes x_effects x_things x_follows x_due t_kinds t_digits t_caseRow t_weights t_order t_calls t_things t_caseCount t_caseSet k_p_callsOfCase k_p_partOfCase p_callsOfPart k_p_cases k_p_parts r_cases r_hours r_sets r_count u_lists u_breaths u_heard u_traced u_lastFault n_fault n_things n_kindOf n_digitOf n_follows n_ifOf n_thenOf n_listOf n_breathOf n_heardOf n_readAt n_readThings n_readFollows n_readKind n_readDigit n_readIf n_readThen n_readings n_readingIn n_readingHour n_readingOf n_breathWas n_sheetSize n_sheetLane n_sheet n_hands n_traceNow)) := by 
  obtain ⟨n, fo, rc, kd, dg, fi, ft, li, br, mi, mr, rx, rh, hA, hH, hR, hS, hT, hF⟩ := iv_of h_i
  have hA2 := hA
  obtain ⟨hn, hfo, rfl, rfl, rfl, hf, hft, hk, hd, htk, htd, hpT, hcs, hW, hc⟩ := hA
  have h64 := pa_p2 hn
  have hH2 := hH
  obtain ⟨h1, h2, h3, h4, h5, h6⟩ := hH2
  refine s_X5_parts hn hpT hc h1 (fun a g f c1 c2 => ?_) (fun a b g f c1 c2 => ?_) (fun N hN a b g f c1 c2 => ?_) <;> refine s_X6_parts hn hfo hf hk h2 (fun a2 => ?_) (fun a2 b2 => ?_) (fun N2 hN2 a2 b2 => ?_)
  · exact ⟨rfl, iv_mk hA2 hH hR hS hT hF⟩
  · exact absurd a2 a
  · have := iv_ti a2 (by omega); omega
  · exact absurd a a2
  · exact ⟨rfl, iv_mk hA2 hH hR hS hT hF⟩
  · omega
  · have := iv_ti a (by omega); omega
  · omega
  · have := iv_inj a a2 (by omega) (by omega)
    subst this
    obtain ⟨rfl, rfl, rfl⟩ := h4 b
    exact ⟨rfl, iv_mk hA2 hH hR hS hT hF⟩
theorem ev_12 {s_lanes : Nat → Int32} {s_sizes : Nat → Int32} {s_cells : Nat → Int32} {x_kinds : Nat → Int32} {x_digits : Nat → Int32} {x_causes : Nat → Int32} {x_effects : Nat → Int32} {x_things : Int32} {x_follows : Int32} {x_due : Int32} {t_kinds : Nat → Int32} {t_digits : Nat → Int32} {t_caseRow : Nat → Int32} {t_weights : Nat → Int32} {t_order : Nat → Int32} {t_calls : Nat → Int32} {t_things : Int32} {t_caseCount : Int32} {t_caseSet : Int64} {p_callsOfCase : Nat → Int64} {p_partOfCase : Nat → Int32} {p_callsOfPart : Nat → Int64} {p_cases : Int32} {p_parts : Int32} {r_cases : Nat → Int32} {r_hours : Nat → Int32} {r_sets : Nat → Int32} {r_count : Int32} {u_lists : Nat → Int32} {u_breaths : Nat → Int32} {u_heard : Nat → Int32} {u_traced : Int32} {u_lastFault : Int32} {n_fault : Int32} {n_things : Int32} {n_kindOf : Nat → Int32} {n_digitOf : Nat → Int32} {n_follows : Int32} {n_ifOf : Nat → Int32} {n_thenOf : Nat → Int32} {n_listOf : Nat → Int32} {n_breathOf : Nat → Int32} {n_heardOf : Nat → Int32} {n_readAt : Int32} {n_readThings : Int32} {n_readFollows : Int32} {n_readKind : Nat → Int32} {n_readDigit : Nat → Int32} {n_readIf : Nat → Int32} {n_readThen : Nat → Int32} {n_readings : Int32} {n_readingIn : Nat → Int32} {n_readingHour : Nat → Int32} {n_readingOf : Nat → Int32} {n_breathWas : Nat → Int32} {n_sheetSize : Nat → Int32} {n_sheetLane : Nat → Int32} {n_sheet : Nat → Int32} {n_hands : Nat → Int32} {n_traceNow : Int32} (h_i : iv_u s_lanes s_sizes s_cells x_kinds x_digits x_causes x_effects x_things x_follows x_due t_kinds t_digits t_caseRow t_weights t_order t_calls t_things t_caseCount t_caseSet p_callsOfCase p_partOfCase p_callsOfPart p_cases p_parts r_cases r_hours r_sets r_count u_lists u_breaths u_heard u_traced u_lastFault n_fault n_things n_kindOf n_digitOf n_follows n_ifOf n_thenOf n_listOf n_breathOf n_heardOf n_readAt n_readThings n_readFollows n_readKind n_readDigit n_readIf n_readThen n_readings n_readingIn n_readingHour n_readingOf n_breathWas n_sheetSize n_sheetLane n_sheet n_hands n_traceNow) (y_0 y_1 : Int32) : w_X5_best t_caseRow t_calls t_things t_caseCount p_callsOfCase p_partOfCase p_callsOfPart p_cases p_parts u_lists u_breaths y_0 y_1 (fun (r_1 : Int32) (k_p_callsOfCase : Nat → Int64) (k_p_partOfCase : Nat → Int32) (k_p_callsOfPart : Nat → Int64) (k_p_cases : Int32) (k_p_parts : Int32) => w_X6_best n_things n_kindOf n_follows n_ifOf n_thenOf n_listOf n_breathOf y_0 y_1 (fun (r_2 : Int32) (k_n_listOf : Nat → Int32) => r_1 = r_2 ∧ iv_u s_lanes s_sizes s_cells x_kinds x_digits x_causes x_effects x_things x_follows x_due t_kinds t_digits t_caseRow t_weights t_order t_calls t_things t_caseCount t_caseSet k_p_callsOfCase k_p_partOfCase k_p_callsOfPart k_p_cases k_p_parts r_cases r_hours r_sets r_count u_lists u_breaths u_heard u_traced u_lastFault n_fault n_things n_kindOf n_digitOf n_follows n_ifOf n_thenOf k_n_listOf n_breathOf n_heardOf n_readAt n_readThings n_readFollows n_readKind n_readDigit n_readIf n_readThen n_readings n_readingIn n_readingHour n_readingOf n_breathWas n_sheetSize n_sheetLane n_sheet n_hands n_traceNow)) := by 
  obtain ⟨n, fo, rc, kd, dg, fi, ft, li, br, mi, mr, rx, rh, hA, hH, hR, hS, hT, hF⟩ := iv_of h_i
  have hA2 := hA
  obtain ⟨hn, hfo, rfl, rfl, rfl, hf, hft, hk, hd, htk, htd, hpT, hcs, hW, hc⟩ := hA
  have h64 := pa_p2 hn
  have hH2 := hH
  obtain ⟨h1, h2, h3, h4, h5, h6⟩ := hH2
  refine s_X5_best hn hpT hc h1 (fun a g f g2 c1 c2 => ?_) (fun a b g f g2 c1 c2 => ?_) (fun a b c g f g2 c1 c2 => ?_) (fun h hh a b c g f g2 c1 c2 => ?_) <;> refine s_X6_best hn hfo hf hk h2 (fun a' => ?_) (fun a' b' => ?_) (fun a' b' c' => ?_) (fun h' hh' a' b' c' => ?_)
  · exact ⟨rfl, iv_mk hA2 hH hR hS hT hF⟩
  · exact absurd a' a
  · exact absurd a' a
  · have := iv_ti a' (by omega); omega
  · exact absurd a a'
  · exact ⟨rfl, iv_mk hA2 hH hR hS hT hF⟩
  · exact absurd b' b
  · exact absurd b' b
  · exact absurd a a'
  · exact absurd b b'
  · exact ⟨rfl, iv_mk hA2 hH hR hS hT hF⟩
  · omega
  · have := iv_ti a (by omega); omega
  · exact absurd b b'
  · omega
  · have := iv_inj a a' (by omega) (by omega)
    subst this
    obtain ⟨rfl, rfl, rfl⟩ := h4 c
    exact ⟨rfl, iv_mk hA2 hH hR hS hT hF⟩
theorem ev_13 {s_lanes : Nat → Int32} {s_sizes : Nat → Int32} {s_cells : Nat → Int32} {x_kinds : Nat → Int32} {x_digits : Nat → Int32} {x_causes : Nat → Int32} {x_effects : Nat → Int32} {x_things : Int32} {x_follows : Int32} {x_due : Int32} {t_kinds : Nat → Int32} {t_digits : Nat → Int32} {t_caseRow : Nat → Int32} {t_weights : Nat → Int32} {t_order : Nat → Int32} {t_calls : Nat → Int32} {t_things : Int32} {t_caseCount : Int32} {t_caseSet : Int64} {p_callsOfCase : Nat → Int64} {p_partOfCase : Nat → Int32} {p_callsOfPart : Nat → Int64} {p_cases : Int32} {p_parts : Int32} {r_cases : Nat → Int32} {r_hours : Nat → Int32} {r_sets : Nat → Int32} {r_count : Int32} {u_lists : Nat → Int32} {u_breaths : Nat → Int32} {u_heard : Nat → Int32} {u_traced : Int32} {u_lastFault : Int32} {n_fault : Int32} {n_things : Int32} {n_kindOf : Nat → Int32} {n_digitOf : Nat → Int32} {n_follows : Int32} {n_ifOf : Nat → Int32} {n_thenOf : Nat → Int32} {n_listOf : Nat → Int32} {n_breathOf : Nat → Int32} {n_heardOf : Nat → Int32} {n_readAt : Int32} {n_readThings : Int32} {n_readFollows : Int32} {n_readKind : Nat → Int32} {n_readDigit : Nat → Int32} {n_readIf : Nat → Int32} {n_readThen : Nat → Int32} {n_readings : Int32} {n_readingIn : Nat → Int32} {n_readingHour : Nat → Int32} {n_readingOf : Nat → Int32} {n_breathWas : Nat → Int32} {n_sheetSize : Nat → Int32} {n_sheetLane : Nat → Int32} {n_sheet : Nat → Int32} {n_hands : Nat → Int32} {n_traceNow : Int32} (h_i : iv_u s_lanes s_sizes s_cells x_kinds x_digits x_causes x_effects x_things x_follows x_due t_kinds t_digits t_caseRow t_weights t_order t_calls t_things t_caseCount t_caseSet p_callsOfCase p_partOfCase p_callsOfPart p_cases p_parts r_cases r_hours r_sets r_count u_lists u_breaths u_heard u_traced u_lastFault n_fault n_things n_kindOf n_digitOf n_follows n_ifOf n_thenOf n_listOf n_breathOf n_heardOf n_readAt n_readThings n_readFollows n_readKind n_readDigit n_readIf n_readThen n_readings n_readingIn n_readingHour n_readingOf n_breathWas n_sheetSize n_sheetLane n_sheet n_hands n_traceNow) (y_0 y_1 : Int32) : w_X5_words t_kinds t_caseRow t_weights t_calls t_things t_caseCount u_lists u_breaths y_0 y_1 (fun (r_1 : Int64) => w_X6_words n_things n_kindOf n_digitOf n_follows n_ifOf n_thenOf n_listOf n_breathOf y_0 y_1 (fun (r_2 : Int64) => r_1 = r_2 ∧ iv_u s_lanes s_sizes s_cells x_kinds x_digits x_causes x_effects x_things x_follows x_due t_kinds t_digits t_caseRow t_weights t_order t_calls t_things t_caseCount t_caseSet p_callsOfCase p_partOfCase p_callsOfPart p_cases p_parts r_cases r_hours r_sets r_count u_lists u_breaths u_heard u_traced u_lastFault n_fault n_things n_kindOf n_digitOf n_follows n_ifOf n_thenOf n_listOf n_breathOf n_heardOf n_readAt n_readThings n_readFollows n_readKind n_readDigit n_readIf n_readThen n_readings n_readingIn n_readingHour n_readingOf n_breathWas n_sheetSize n_sheetLane n_sheet n_hands n_traceNow)) := by 
  obtain ⟨n, fo, rc, kd, dg, fi, ft, li, br, mi, mr, rx, rh, hA, hH, hR, hS, hT, hF⟩ := iv_of h_i
  have hA2 := hA
  obtain ⟨hn, hfo, rfl, rfl, rfl, hf, hft, hk, hd, htk, htd, hpT, hcs, hW, hc⟩ := hA
  have h64 := pa_p2 hn
  have hH2 := hH
  obtain ⟨h1, h2, h3, h4, h5, h6⟩ := hH2
  refine s_X5_words hn hpT hW htk (fun t ht => (hd t ht).2) hc h1 (fun a => ?_) (fun a => ?_) (fun a => ?_) (fun h hh a b c => ?_) <;> refine s_X6_words hn hfo hf hft hk hd h2 (fun a' => ?_) (fun a' => ?_) (fun a' => ?_) (fun h' hh' a' b' c' => ?_)
  · exact ⟨rfl, iv_mk hA2 hH hR hS hT hF⟩
  · exact ⟨rfl, iv_mk hA2 hH hR hS hT hF⟩
  · exact ⟨rfl, iv_mk hA2 hH hR hS hT hF⟩
  · have := iv_ti a' (by omega); omega
  · exact ⟨rfl, iv_mk hA2 hH hR hS hT hF⟩
  · exact ⟨rfl, iv_mk hA2 hH hR hS hT hF⟩
  · exact ⟨rfl, iv_mk hA2 hH hR hS hT hF⟩
  · exact absurd b' a
  · exact ⟨rfl, iv_mk hA2 hH hR hS hT hF⟩
  · exact ⟨rfl, iv_mk hA2 hH hR hS hT hF⟩
  · exact ⟨rfl, iv_mk hA2 hH hR hS hT hF⟩
  · omega
  · have := iv_ti a (by omega); omega
  · exact absurd b a'
  · omega
  · have := iv_inj a a' (by omega) (by omega)
    subst this
    obtain ⟨rfl, rfl, rfl⟩ := h4 c
    exact ⟨rfl, iv_mk hA2 hH hR hS hT hF⟩
