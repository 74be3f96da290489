theorem ev_4 {s_lanes : Nat → Int32} {s_sizes : Nat → Int32} {s_cells : Nat → Int32} {x_kinds : Nat → Int32} {x_digits : Nat → Int32} {x_causes : Nat → Int32} {x_effects : Nat → Int32} {x_things : Int32} {x_follows : Int32} {x_due : Int32} {t_kinds : Nat → Int32} {t_digits : Nat → Int32} {t_caseRow : Nat → Int32} {t_weights : Nat → Int32} {t_order : Nat → Int32} {t_calls : Nat → Int32} {t_things : Int32} {t_caseCount : Int32} {t_caseSet : Int64} {p_callsOfCase : Nat → Int64} {p_partOfCase : Nat → Int32} {p_callsOfPart : Nat → Int64} {p_cases : Int32} {p_parts : Int32} {r_cases : Nat → Int32} {r_hours : Nat → Int32} {r_sets : Nat → Int32} {r_count : Int32} {u_lists : Nat → Int32} {u_breaths : Nat → Int32} {u_heard : Nat → Int32} {u_traced : Int32} {u_lastFault : Int32} {n_fault : Int32} {n_things : Int32} {n_kindOf : Nat → Int32} {n_digitOf : Nat → Int32} {n_follows : Int32} {n_ifOf : Nat → Int32} {n_thenOf : Nat → Int32} {n_listOf : Nat → Int32} {n_breathOf : Nat → Int32} {n_heardOf : Nat → Int32} {n_readAt : Int32} {n_readThings : Int32} {n_readFollows : Int32} {n_readKind : Nat → Int32} {n_readDigit : Nat → Int32} {n_readIf : Nat → Int32} {n_readThen : Nat → Int32} {n_readings : Int32} {n_readingIn : Nat → Int32} {n_readingHour : Nat → Int32} {n_readingOf : Nat → Int32} {n_breathWas : Nat → Int32} {n_sheetSize : Nat → Int32} {n_sheetLane : Nat → Int32} {n_sheet : Nat → Int32} {n_hands : Nat → Int32} {n_traceNow : Int32} (h_i : iv_u s_lanes s_sizes s_cells x_kinds x_digits x_causes x_effects x_things x_follows x_due t_kinds t_digits t_caseRow t_weights t_order t_calls t_things t_caseCount t_caseSet p_callsOfCase p_partOfCase p_callsOfPart p_cases p_parts r_cases r_hours r_sets r_count u_lists u_breaths u_heard u_traced u_lastFault n_fault n_things n_kindOf n_digitOf n_follows n_ifOf n_thenOf n_listOf n_breathOf n_heardOf n_readAt n_readThings n_readFollows n_readKind n_readDigit n_readIf n_readThen n_readings n_readingIn n_readingHour n_readingOf n_breathWas n_sheetSize n_sheetLane n_sheet n_hands n_traceNow) (y_0 y_1 : Int32) : w_X5_list t_things u_lists y_0 y_1 (fun (r_1 : Int32) (k_u_lists : Nat → Int32) => w_X6_list n_things n_listOf y_0 y_1 (fun (r_2 : Int32) (k_n_listOf : Nat → Int32) => r_1 = r_2 ∧ iv_u s_lanes s_sizes s_cells x_kinds x_digits x_causes x_effects x_things x_follows x_due t_kinds t_digits t_caseRow t_weights t_order t_calls t_things t_caseCount t_caseSet p_callsOfCase p_partOfCase p_callsOfPart p_cases p_parts r_cases r_hours r_sets r_count k_u_lists u_breaths u_heard u_traced u_lastFault n_fault n_things n_kindOf n_digitOf n_follows n_ifOf n_thenOf k_n_listOf n_breathOf n_heardOf n_readAt n_readThings n_readFollows n_readKind n_readDigit n_readIf n_readThen n_readings n_readingIn n_readingHour n_readingOf n_breathWas n_sheetSize n_sheetLane n_sheet n_hands n_traceNow)) := by 
  obtain ⟨n, fo, rc, kd, dg, fi, ft, li, br, mi, mr, rx, rh, hA, hH, hR, hS, hT, hF⟩ := iv_of h_i
  have hA2 := hA
  obtain ⟨hn, hfo, rfl, rfl, rfl, hf, hft, hk, hd, htk, htd, hpT, hcs, hW, hc⟩ := hA
  have h64 := pa_p2 hn
  have hH2 := hH
  obtain ⟨h1, h2, h3, h4, h5, h6⟩ := hH2
  unfold w_X5_list w_X5_refusalOfSet
  rw [s_isHour]
  by_cases c : 0 ≤ y_0.toInt ∧ y_0.toInt < 6
  · obtain ⟨h, hh, rfl⟩ := pa_of (n := 6) c.1 c.2 (by omega)
    rw [decide_eq_true c]
    refine ⟨fun _ => ?_, fun q => absurd q (by decide)⟩
    rw [s_isSet hn]
    by_cases c2 : 0 ≤ y_1.toInt ∧ y_1.toInt < (2 ^ n : Nat)
    · obtain ⟨l, hl, rfl⟩ := pa_of c2.1 c2.2 (by omega)
      rw [decide_eq_true c2]
      refine ⟨fun _ => ?_, fun q => absurd q (by decide)⟩
      rw [s_hasTown hn]
      by_cases c3 : 0 < n
      · obtain ⟨rfl, rfl, rfl⟩ := h4 c3
        have v := pa_vp (N := 6) hh (by omega)
        rw [decide_eq_true c3]
        refine ⟨fun q => absurd q (by decide), fun _ => ⟨fun _ => ⟨v, v, ?_⟩, fun q => absurd rfl q⟩⟩
        rw [pa_cl (by omega), (h1 h hh).1]
        unfold w_X6_list
        refine (s_noHour _ _).mpr ?_
        rw [decide_eq_true c]
        refine ⟨fun _ => (s_isOfThings hn _ _).mpr ?_, fun q => absurd rfl q⟩
        rw [decide_eq_true c2]
        refine ⟨fun _ => ⟨fun _ => ⟨v, v, ?_⟩, fun q => ?_⟩, fun q => absurd q (by decide)⟩
        · rw [pa_cl (by omega), (h2 h hh).1]
          refine ⟨rfl, iv_mk hA2 (li := pn_up li h l) (mi := pn_up li h l) (br := br) (mr := br) ⟨fun j hj => ?_, fun j hj => ?_, h3, fun _ => ⟨rfl, rfl, rfl⟩, h5, h6⟩ hR hS hT hF⟩
          · obtain ⟨g1, g2, g3⟩ := h1 j hj
            by_cases e : j = h
            · subst e; rw [pk_us, pn_us]; exact ⟨rfl, hl, g3⟩
            · rw [pk_un e, pn_un _ _ e]; exact ⟨g1, g2, g3⟩
          · obtain ⟨g1, g2, g3⟩ := h2 j hj
            by_cases e : j = h
            · subst e; rw [pk_us, pn_us]; exact ⟨rfl, hl, g3⟩
            · rw [pk_un e, pn_un _ _ e]; exact ⟨g1, g2, g3⟩
        · rw [show (0 : Int32) = nI 0 from rfl, pa_nIinj (by omega) (by omega)] at q; omega
      · have e0 : n = 0 := by omega
        subst e0
        rw [decide_eq_false c3]
        refine ⟨fun _ => ⟨fun q => absurd q (by decide), fun _ => ?_⟩, fun q => absurd rfl q⟩
        unfold w_X6_list
        refine (s_noHour _ _).mpr ?_
        rw [decide_eq_true c]
        refine ⟨fun _ => (s_isOfThings hn _ _).mpr ?_, fun q => absurd rfl q⟩
        rw [decide_eq_true c2]
        exact ⟨fun _ => ⟨fun q => absurd rfl q, fun _ => ⟨rfl, iv_mk hA2 hH hR hS hT hF⟩⟩, fun q => absurd q (by decide)⟩
    · rw [decide_eq_false c2]
      refine ⟨fun q => absurd rfl q, fun _ => ⟨fun q => absurd q (by decide), fun _ => ?_⟩⟩
      unfold w_X6_list
      refine (s_noHour _ _).mpr ?_
      rw [decide_eq_true c]
      refine ⟨fun _ => (s_isOfThings hn _ _).mpr ?_, fun q => absurd rfl q⟩
      rw [decide_eq_false c2]
      exact ⟨fun q => absurd rfl q, fun _ => ⟨rfl, iv_mk hA2 hH hR hS hT hF⟩⟩
  · rw [decide_eq_false c]
    refine ⟨fun q => absurd rfl q, fun _ => ⟨fun q => absurd q (by decide), fun _ => ?_⟩⟩
    unfold w_X6_list
    refine (s_noHour _ _).mpr ?_
    rw [decide_eq_false c]
    exact ⟨fun q => absurd q (by decide), fun _ => ⟨rfl, iv_mk hA2 hH hR hS hT hF⟩⟩
theorem ev_5 {s_lanes : Nat → Int32} {s_sizes : Nat → Int32} {s_cells : Nat → Int32} {x_kinds : Nat → Int32} {x_digits : Nat → Int32} {x_causes : Nat → Int32} {x_effects : Nat → Int32} {x_things : Int32} {x_follows : Int32} {x_due : Int32} {t_kinds : Nat → Int32} {t_digits : Nat → Int32} {t_caseRow : Nat → Int32} {t_weights : Nat → Int32} {t_order : Nat → Int32} {t_calls : Nat → Int32} {t_things : Int32} {t_caseCount : Int32} {t_caseSet : Int64} {p_callsOfCase : Nat → Int64} {p_partOfCase : Nat → Int32} {p_callsOfPart : Nat → Int64} {p_cases : Int32} {p_parts : Int32} {r_cases : Nat → Int32} {r_hours : Nat → Int32} {r_sets : Nat → Int32} {r_count : Int32} {u_lists : Nat → Int32} {u_breaths : Nat → Int32} {u_heard : Nat → Int32} {u_traced : Int32} {u_lastFault : Int32} {n_fault : Int32} {n_things : Int32} {n_kindOf : Nat → Int32} {n_digitOf : Nat → Int32} {n_follows : Int32} {n_ifOf : Nat → Int32} {n_thenOf : Nat → Int32} {n_listOf : Nat → Int32} {n_breathOf : Nat → Int32} {n_heardOf : Nat → Int32} {n_readAt : Int32} {n_readThings : Int32} {n_readFollows : Int32} {n_readKind : Nat → Int32} {n_readDigit : Nat → Int32} {n_readIf : Nat → Int32} {n_readThen : Nat → Int32} {n_readings : Int32} {n_readingIn : Nat → Int32} {n_readingHour : Nat → Int32} {n_readingOf : Nat → Int32} {n_breathWas : Nat → Int32} {n_sheetSize : Nat → Int32} {n_sheetLane : Nat → Int32} {n_sheet : Nat → Int32} {n_hands : Nat → Int32} {n_traceNow : Int32} (h_i : iv_u s_lanes s_sizes s_cells x_kinds x_digits x_causes x_effects x_things x_follows x_due t_kinds t_digits t_caseRow t_weights t_order t_calls t_things t_caseCount t_caseSet p_callsOfCase p_partOfCase p_callsOfPart p_cases p_parts r_cases r_hours r_sets r_count u_lists u_breaths u_heard u_traced u_lastFault n_fault n_things n_kindOf n_digitOf n_follows n_ifOf n_thenOf n_listOf n_breathOf n_heardOf n_readAt n_readThings n_readFollows n_readKind n_readDigit n_readIf n_readThen n_readings n_readingIn n_readingHour n_readingOf n_breathWas n_sheetSize n_sheetLane n_sheet n_hands n_traceNow) (y_0 y_1 : Int32) : w_X5_breath t_things u_breaths y_0 y_1 (fun (r_1 : Int32) (k_u_breaths : Nat → Int32) => w_X6_breath n_things n_breathOf y_0 y_1 (fun (r_2 : Int32) (k_n_breathOf : Nat → Int32) => r_1 = r_2 ∧ iv_u s_lanes s_sizes s_cells x_kinds x_digits x_causes x_effects x_things x_follows x_due t_kinds t_digits t_caseRow t_weights t_order t_calls t_things t_caseCount t_caseSet p_callsOfCase p_partOfCase p_callsOfPart p_cases p_parts r_cases r_hours r_sets r_count u_lists k_u_breaths u_heard u_traced u_lastFault n_fault n_things n_kindOf n_digitOf n_follows n_ifOf n_thenOf n_listOf k_n_breathOf n_heardOf n_readAt n_readThings n_readFollows n_readKind n_readDigit n_readIf n_readThen n_readings n_readingIn n_readingHour n_readingOf n_breathWas n_sheetSize n_sheetLane n_sheet n_hands n_traceNow)) := by 
  obtain ⟨n, fo, rc, kd, dg, fi, ft, li, br, mi, mr, rx, rh, hA, hH, hR, hS, hT, hF⟩ := iv_of h_i
  have hA2 := hA
  obtain ⟨hn, hfo, rfl, rfl, rfl, hf, hft, hk, hd, htk, htd, hpT, hcs, hW, hc⟩ := hA
  have h64 := pa_p2 hn
  have hH2 := hH
  obtain ⟨h1, h2, h3, h4, h5, h6⟩ := hH2
  have z0 : (0 : Int64).toInt = 0 := rfl
  have z18 : (18 : Int64).toInt = 18 := rfl
  unfold w_X5_breath
  rw [s_isHour]
  by_cases c : 0 ≤ y_0.toInt ∧ y_0.toInt < 6
  · obtain ⟨h, hh, rfl⟩ := pa_of (n := 6) c.1 c.2 (by omega)
    rw [decide_eq_true c]
    refine ⟨fun _ => ?_, fun q => absurd q (by decide)⟩
    rw [s_isBreath]
    by_cases c2 : 0 ≤ y_1.toInt ∧ y_1.toInt ≤ 18
    · obtain ⟨l, hl, rfl⟩ := pa_of (n := 19) c2.1 (by omega) (by omega)
      rw [decide_eq_true c2]
      refine ⟨fun _ => ?_, fun q => absurd q (by decide)⟩
      rw [s_hasTown hn]
      by_cases c3 : 0 < n
      · obtain ⟨rfl, rfl, rfl⟩ := h4 c3
        have v := pa_vp (N := 6) hh (by omega)
        rw [decide_eq_true c3]
        refine ⟨fun _ => ⟨v, v, ?_⟩, fun q => absurd q (by decide)⟩
        rw [pa_cl (by omega), (h1 h hh).2.2.1]
        unfold w_X6_breath
        refine (s_noHour _ _).mpr ?_
        rw [decide_eq_true c]
        refine ⟨fun _ => (s_in _ _ _ _).mpr ?_, fun q => absurd rfl q⟩
        rw [pa_i64, decide_eq_true (by omega)]
        refine ⟨fun _ => ⟨fun _ => ⟨v, v, ?_⟩, fun q => ?_⟩, fun q => absurd q (by decide)⟩
        · rw [pa_cl (by omega), (h2 h hh).2.2.1]
          refine ⟨rfl, iv_mk hA2 (br := pn_up br h l) (mr := pn_up br h l) (li := li) (mi := li) ⟨fun j hj => ?_, fun j hj => ?_, h3, fun _ => ⟨rfl, rfl, rfl⟩, h5, h6⟩ hR hS hT hF⟩
          · obtain ⟨g1, g2, g3, g4⟩ := h1 j hj
            by_cases e : j = h
            · subst e; rw [pk_us, pn_us]; exact ⟨g1, g2, rfl, by omega⟩
            · rw [pk_un e, pn_un _ _ e]; exact ⟨g1, g2, g3, g4⟩
          · obtain ⟨g1, g2, g3, g4⟩ := h2 j hj
            by_cases e : j = h
            · subst e; rw [pk_us, pn_us]; exact ⟨g1, g2, rfl, by omega⟩
            · rw [pk_un e, pn_un _ _ e]; exact ⟨g1, g2, g3, g4⟩
        · rw [show (0 : Int32) = nI 0 from rfl, pa_nIinj (by omega) (by omega)] at q; omega
      · have e0 : n = 0 := by omega
        subst e0
        rw [decide_eq_false c3]
        refine ⟨fun q => absurd rfl q, fun _ => ?_⟩
        unfold w_X6_breath
        refine (s_noHour _ _).mpr ?_
        rw [decide_eq_true c]
        refine ⟨fun _ => (s_in _ _ _ _).mpr ?_, fun q => absurd rfl q⟩
        rw [pa_i64, decide_eq_true (by omega)]
        exact ⟨fun _ => ⟨fun q => absurd rfl q, fun _ => ⟨rfl, iv_mk hA2 hH hR hS hT hF⟩⟩, fun q => absurd q (by decide)⟩
    · rw [decide_eq_false c2]
      refine ⟨fun q => absurd rfl q, fun _ => ?_⟩
      unfold w_X6_breath
      refine (s_noHour _ _).mpr ?_
      rw [decide_eq_true c]
      refine ⟨fun _ => (s_in _ _ _ _).mpr ?_, fun q => absurd rfl q⟩
      rw [pa_i64, decide_eq_false (by omega)]
      exact ⟨fun q => absurd rfl q, fun _ => ⟨rfl, iv_mk hA2 hH hR hS hT hF⟩⟩
  · rw [decide_eq_false c]
    refine ⟨fun q => absurd rfl q, fun _ => ?_⟩
    unfold w_X6_breath
    refine (s_noHour _ _).mpr ?_
    rw [decide_eq_false c]
    exact ⟨fun q => absurd q (by decide), fun _ => ⟨rfl, iv_mk hA2 hH hR hS hT hF⟩⟩
theorem ev_7 {s_lanes : Nat → Int32} {s_sizes : Nat → Int32} {s_cells : Nat → Int32} {x_kinds : Nat → Int32} {x_digits : Nat → Int32} {x_causes : Nat → Int32} {x_effects : Nat → Int32} {x_things : Int32} {x_follows : Int32} {x_due : Int32} {t_kinds : Nat → Int32} {t_digits : Nat → Int32} {t_caseRow : Nat → Int32} {t_weights : Nat → Int32} {t_order : Nat → Int32} {t_calls : Nat → Int32} {t_things : Int32} {t_caseCount : Int32} {t_caseSet : Int64} {p_callsOfCase : Nat → Int64} {p_partOfCase : Nat → Int32} {p_callsOfPart : Nat → Int64} {p_cases : Int32} {p_parts : Int32} {r_cases : Nat → Int32} {r_hours : Nat → Int32} {r_sets : Nat → Int32} {r_count : Int32} {u_lists : Nat → Int32} {u_breaths : Nat → Int32} {u_heard : Nat → Int32} {u_traced : Int32} {u_lastFault : Int32} {n_fault : Int32} {n_things : Int32} {n_kindOf : Nat → Int32} {n_digitOf : Nat → Int32} {n_follows : Int32} {n_ifOf : Nat → Int32} {n_thenOf : Nat → Int32} {n_listOf : Nat → Int32} {n_breathOf : Nat → Int32} {n_heardOf : Nat → Int32} {n_readAt : Int32} {n_readThings : Int32} {n_readFollows : Int32} {n_readKind : Nat → Int32} {n_readDigit : Nat → Int32} {n_readIf : Nat → Int32} {n_readThen : Nat → Int32} {n_readings : Int32} {n_readingIn : Nat → Int32} {n_readingHour : Nat → Int32} {n_readingOf : Nat → Int32} {n_breathWas : Nat → Int32} {n_sheetSize : Nat → Int32} {n_sheetLane : Nat → Int32} {n_sheet : Nat → Int32} {n_hands : Nat → Int32} {n_traceNow : Int32} (h_i : iv_u s_lanes s_sizes s_cells x_kinds x_digits x_causes x_effects x_things x_follows x_due t_kinds t_digits t_caseRow t_weights t_order t_calls t_things t_caseCount t_caseSet p_callsOfCase p_partOfCase p_callsOfPart p_cases p_parts r_cases r_hours r_sets r_count u_lists u_breaths u_heard u_traced u_lastFault n_fault n_things n_kindOf n_digitOf n_follows n_ifOf n_thenOf n_listOf n_breathOf n_heardOf n_readAt n_readThings n_readFollows n_readKind n_readDigit n_readIf n_readThen n_readings n_readingIn n_readingHour n_readingOf n_breathWas n_sheetSize n_sheetLane n_sheet n_hands n_traceNow) (y_0 y_1 : Int32) : w_X5_hear t_things u_heard y_0 y_1 (fun (r_1 : Int32) (k_u_heard : Nat → Int32) => w_X6_hear n_things n_heardOf y_0 y_1 (fun (r_2 : Int32) (k_n_heardOf : Nat → Int32) => r_1 = r_2 ∧ iv_u s_lanes s_sizes s_cells x_kinds x_digits x_causes x_effects x_things x_follows x_due t_kinds t_digits t_caseRow t_weights t_order t_calls t_things t_caseCount t_caseSet p_callsOfCase p_partOfCase p_callsOfPart p_cases p_parts r_cases r_hours r_sets r_count u_lists u_breaths k_u_heard u_traced u_lastFault n_fault n_things n_kindOf n_digitOf n_follows n_ifOf n_thenOf n_listOf n_breathOf k_n_heardOf n_readAt n_readThings n_readFollows n_readKind n_readDigit n_readIf n_readThen n_readings n_readingIn n_readingHour n_readingOf n_breathWas n_sheetSize n_sheetLane n_sheet n_hands n_traceNow)) := by 
  obtain ⟨n, fo, rc, kd, dg, fi, ft, li, br, mi, mr, rx, rh, hA, hH, hR, hS, hT, hF⟩ := iv_of h_i
  have hA2 := hA
  obtain ⟨hn, hfo, rfl, rfl, rfl, hf, hft, hk, hd, htk, htd, hpT, hcs, hW, hc⟩ := hA
  have h64 := pa_p2 hn
  have hH2 := hH
  obtain ⟨h1, h2, h3, h4, h5, h6⟩ := hH2
  unfold w_X5_hear
  have hok : ∃ j1 : Int32, (y_1 = -9 → j1 = 0) ∧ (¬ y_1 = -9 → j1 = y_1) := by
    by_cases e : y_1 = -9
    · exact ⟨0, fun _ => rfl, fun q => absurd e q⟩
    · exact ⟨y_1, fun q => absurd q e, fun _ => rfl⟩
  obtain ⟨j1, j2, j3⟩ := hok
  refine xq_use1 j1 (fun K hK => ⟨fun q => by rw [← j3 q]; exact hK, fun q => by rw [← j2 q]; exact hK⟩) ?_
  unfold w_X5_refusalOfSet
  rw [s_isHour]
  by_cases c : 0 ≤ y_0.toInt ∧ y_0.toInt < 6
  · obtain ⟨h, hh, rfl⟩ := pa_of (n := 6) c.1 c.2 (by omega)
    have v := pa_vp (N := 6) hh (by omega)
    rw [decide_eq_true c]
    refine ⟨fun _ => ?_, fun q => absurd q (by decide)⟩
    rw [s_isSet hn]
    by_cases c2 : 0 ≤ j1.toInt ∧ j1.toInt < (2 ^ n : Nat)
    · rw [decide_eq_true c2]
      refine ⟨fun _ => ?_, fun q => absurd q (by decide)⟩
      rw [s_hasTown hn]
      have key : ∀ post : Int32 → (Nat → Int32) → Prop, (¬ nI n = 0 → post (n_heardOf h) (upd n_heardOf h y_1)) → (nI n = 0 → post (-3) n_heardOf) → w_X6_hear (nI n) n_heardOf (nI h) y_1 post := fun post p1 p2 => by
        unfold w_X6_hear
        refine (s_noHour _ _).mpr ?_
        rw [decide_eq_true c]
        refine ⟨fun _ => xq_use0 (fun K hK => ⟨fun _ => hK, fun q => (s_isOfThings hn _ _).mpr ?_⟩) ?_, fun q => absurd rfl q⟩
        · rw [j3 q] at c2
          rw [decide_eq_true c2]
          exact ⟨fun _ => hK, fun q => absurd q (by decide)⟩
        · rw [pa_cl (by omega)]
          exact ⟨fun q => ⟨v, v, p1 q⟩, p2⟩
      by_cases c3 : 0 < n
      · obtain ⟨rfl, rfl, rfl⟩ := h4 c3
        rw [decide_eq_true c3]
        refine ⟨fun q => absurd q (by decide), fun _ => ⟨fun _ => ⟨v, v, ?_⟩, fun q => absurd rfl q⟩⟩
        rw [pa_cl (by omega)]
        refine key _ (fun _ => ⟨rfl, iv_mk hA2 (li := li) (mi := li) (br := br) (mr := br) ⟨h1, h2, fun j hj => ?_, fun _ => ⟨rfl, rfl, rfl⟩, fun e => by omega, fun j hj => ?_⟩ hR hS hT hF⟩) (fun q => ?_)
        · by_cases e : j = h
          · subst e; rw [pk_us]
            by_cases e9 : y_1 = -9
            · exact Or.inl e9
            · rw [j3 e9] at c2; exact Or.inr c2.1
          · rw [pk_un e]; exact h3 j hj
        · rfl
        · rw [show (0 : Int32) = nI 0 from rfl, pa_nIinj (by omega) (by omega)] at q; omega
      · have e0 : n = 0 := by omega
        subst e0
        rw [decide_eq_false c3]
        refine ⟨fun _ => ⟨fun q => absurd q (by decide), fun _ => ?_⟩, fun q => absurd rfl q⟩
        exact key _ (fun q => absurd rfl q) (fun _ => ⟨rfl, iv_mk hA2 hH hR hS hT hF⟩)
    · rw [decide_eq_false c2]
      refine ⟨fun q => absurd rfl q, fun _ => ⟨fun q => absurd q (by decide), fun _ => ?_⟩⟩
      have e9 : ¬ y_1 = -9 := fun e => by
        rw [j2 e] at c2
        exact c2 ⟨by decide, by rw [show (0 : Int32).toInt = 0 from rfl]; have := pa_p1 n; omega⟩
      rw [j3 e9] at c2
      unfold w_X6_hear
      refine (s_noHour _ _).mpr ?_
      rw [decide_eq_true c]
      refine ⟨fun _ => ⟨fun q => absurd q e9, fun _ => (s_isOfThings hn _ _).mpr ?_⟩, fun q => absurd rfl q⟩
      rw [decide_eq_false c2]
      exact ⟨fun q => absurd rfl q, fun _ => ⟨rfl, iv_mk hA2 hH hR hS hT hF⟩⟩
  · rw [decide_eq_false c]
    refine ⟨fun q => absurd rfl q, fun _ => ⟨fun q => absurd q (by decide), fun _ => ?_⟩⟩
    unfold w_X6_hear
    refine (s_noHour _ _).mpr ?_
    rw [decide_eq_false c]
    exact ⟨fun q => absurd q (by decide), fun _ => ⟨rfl, iv_mk hA2 hH hR hS hT hF⟩⟩
theorem ev_17 {s_lanes : Nat → Int32} {s_sizes : Nat → Int32} {s_cells : Nat → Int32} {x_kinds : Nat → Int32} {x_digits : Nat → Int32} {x_causes : Nat → Int32} {x_effects : Nat → Int32} {x_things : Int32} {x_follows : Int32} {x_due : Int32} {t_kinds : Nat → Int32} {t_digits : Nat → Int32} {t_caseRow : Nat → Int32} {t_weights : Nat → Int32} {t_order : Nat → Int32} {t_calls : Nat → Int32} {t_things : Int32} {t_caseCount : Int32} {t_caseSet : Int64} {p_callsOfCase : Nat → Int64} {p_partOfCase : Nat → Int32} {p_callsOfPart : Nat → Int64} {p_cases : Int32} {p_parts : Int32} {r_cases : Nat → Int32} {r_hours : Nat → Int32} {r_sets : Nat → Int32} {r_count : Int32} {u_lists : Nat → Int32} {u_breaths : Nat → Int32} {u_heard : Nat → Int32} {u_traced : Int32} {u_lastFault : Int32} {n_fault : Int32} {n_things : Int32} {n_kindOf : Nat → Int32} {n_digitOf : Nat → Int32} {n_follows : Int32} {n_ifOf : Nat → Int32} {n_thenOf : Nat → Int32} {n_listOf : Nat → Int32} {n_breathOf : Nat → Int32} {n_heardOf : Nat → Int32} {n_readAt : Int32} {n_readThings : Int32} {n_readFollows : Int32} {n_readKind : Nat → Int32} {n_readDigit : Nat → Int32} {n_readIf : Nat → Int32} {n_readThen : Nat → Int32} {n_readings : Int32} {n_readingIn : Nat → Int32} {n_readingHour : Nat → Int32} {n_readingOf : Nat → Int32} {n_breathWas : Nat → Int32} {n_sheetSize : Nat → Int32} {n_sheetLane : Nat → Int32} {n_sheet : Nat → Int32} {n_hands : Nat → Int32} {n_traceNow : Int32} (h_i : iv_u s_lanes s_sizes s_cells x_kinds x_digits x_causes x_effects x_things x_follows x_due t_kinds t_digits t_caseRow t_weights t_order t_calls t_things t_caseCount t_caseSet p_callsOfCase p_partOfCase p_callsOfPart p_cases p_parts r_cases r_hours r_sets r_count u_lists u_breaths u_heard u_traced u_lastFault n_fault n_things n_kindOf n_digitOf n_follows n_ifOf n_thenOf n_listOf n_breathOf n_heardOf n_readAt n_readThings n_readFollows n_readKind n_readDigit n_readIf n_readThen n_readings n_readingIn n_readingHour n_readingOf n_breathWas n_sheetSize n_sheetLane n_sheet n_hands n_traceNow) (y_0 y_1 y_2 : Int32) : w_X5_reading t_things t_caseSet r_cases r_hours r_sets r_count y_0 y_1 y_2 (fun (r_1 : Int32) (k_r_cases : Nat → Int32) (k_r_hours : Nat → Int32) (k_r_sets : Nat → Int32) (k_r_count : Int32) => w_X6_reading n_things n_follows n_ifOf n_thenOf n_readings n_readingIn n_readingHour n_readingOf y_0 y_1 y_2 (fun (r_2 : Int32) (k_n_readings : Int32) (k_n_readingIn : Nat → Int32) (k_n_readingHour : Nat → Int32) (k_n_readingOf : Nat → Int32) => r_1 = r_2 ∧ iv_u s_lanes s_sizes s_cells x_kinds x_digits x_causes x_effects x_things x_follows x_due t_kinds t_digits t_caseRow t_weights t_order t_calls t_things t_caseCount t_caseSet p_callsOfCase p_partOfCase p_callsOfPart p_cases p_parts k_r_cases k_r_hours k_r_sets k_r_count u_lists u_breaths u_heard u_traced u_lastFault n_fault n_things n_kindOf n_digitOf n_follows n_ifOf n_thenOf n_listOf n_breathOf n_heardOf n_readAt n_readThings n_readFollows n_readKind n_readDigit n_readIf n_readThen k_n_readings k_n_readingIn k_n_readingHour k_n_readingOf n_breathWas n_sheetSize n_sheetLane n_sheet n_hands n_traceNow)) := by 
  obtain ⟨n, fo, rc, kd, dg, fi, ft, li, br, mi, mr, rx, rh, hA, hH, hR, hS, hT, hF⟩ := iv_of h_i
  have hA2 := hA
  obtain ⟨hn, hfo, rfl, rfl, rfl, hf, hft, hk, hd, htk, htd, hpT, hcs, hW, hc⟩ := hA
  have h64 := pa_p2 hn
  have hR2 := hR
  obtain ⟨g1, rfl, rfl, rfl, g2, g3⟩ := hR2
  unfold w_X5_reading
  refine s_X4_isCase hn hcs _ ?_
  by_cases c : pc_ci n fo fi ft y_0 = true
  · obtain ⟨x, hx, rfl, hp, h0⟩ := pc_ci_of hn c
    rw [c]
    refine ⟨fun q => absurd q (by decide), fun _ => (s_isHour _ _).mpr ?_⟩
    by_cases c2 : 0 ≤ y_1.toInt ∧ y_1.toInt < 6
    · obtain ⟨h, hh, rfl⟩ := pa_of (n := 6) c2.1 c2.2 (by omega)
      rw [decide_eq_true c2]
      refine ⟨fun _ => (s_isSet hn _ _).mpr ?_, fun q => absurd q (by decide)⟩
      by_cases c3 : 0 ≤ y_2.toInt ∧ y_2.toInt < (2 ^ n : Nat)
      · rw [decide_eq_true c3]
        refine ⟨fun _ => ?_, fun q => absurd q (by decide)⟩
        have key : ∀ post : Int32 → Int32 → (Nat → Int32) → (Nat → Int32) → (Nat → Int32) → Prop, (¬ rc = 8 → post (nI rc) (nI (rc + 1)) (upd n_readingIn rc (nI x)) (upd n_readingHour rc (nI h)) (upd r_sets rc y_2)) → (rc = 8 → post (-4) (nI rc) n_readingIn n_readingHour r_sets) → w_X6_reading (nI n) (nI fo) n_ifOf n_thenOf (nI rc) n_readingIn n_readingHour r_sets (nI x) (nI h) y_2 post := fun post p1 p2 => by
          unfold w_X6_reading
          refine s_isCase hn hfo hf _ ?_
          rw [c]
          refine ⟨fun q => absurd q (by decide), fun _ => (s_noHour _ _).mpr ?_⟩
          rw [decide_eq_true c2]
          refine ⟨fun _ => (s_isOfThings hn _ _).mpr ?_, fun q => absurd rfl q⟩
          rw [decide_eq_true c3, show (8 : Int32) = nI 8 from rfl, pn_lit (by omega) (by omega), pa_cl (by omega), pa_s1]
          refine ⟨fun _ => ⟨fun q => ?_, p2⟩, fun q => absurd q (by decide)⟩
          have v := pa_vp (N := 8) (show rc < 8 by omega) (by omega)
          refine ⟨v, v, v, ?_⟩
          have : nI (rc + 1) - 1 = nI rc := by
            have : ∀ r, r ≤ 8 → nI (r + 1) - 1 = nI r := by decide
            exact this rc g1
          rw [this]
          exact p1 q
        rw [show (8 : Int32) = nI 8 from rfl, pa_ltN (by omega) (by omega)]
        refine ⟨fun q => ?_, fun q => key _ (fun q2 => by omega) (fun q2 => ⟨rfl, iv_mk hA2 hH hR hS hT hF⟩)⟩
        have v := pa_vp (N := 8) (show rc < 8 by omega) (by omega)
        unfold w_X1_take
        rw [show (8 : Int32) = nI 8 from rfl, pa_leN (by omega) (by omega), pa_cl (by omega), pa_s1]
        refine ⟨fun q2 => by omega, fun _ => ⟨v, v, v, key _ (fun q2 => ⟨rfl, iv_mk hA2 hH (rc := rc + 1) (rx := pn_up rx rc x) (rh := pn_up rh rc h) ⟨by omega, rfl, rfl, rfl, fun r hr => ?_, fun r hr => ?_⟩ hS hT hF⟩) (fun q2 => by omega)⟩⟩
        · by_cases e : r = rc
          · subst e; rw [pk_us, pk_us, pn_us, pn_us]; exact ⟨rfl, by omega, rfl, hh⟩
          · rw [pk_un e, pk_un e, pn_un _ _ e, pn_un _ _ e]; exact g2 r (by omega)
        · by_cases e : r = rc
          · subst e; rw [pk_us, pk_us, pn_us, pn_us]; exact ⟨rfl, by omega, rfl, hh⟩
          · rw [pk_un e, pk_un e, pn_un _ _ e, pn_un _ _ e]; exact g3 r (by omega)
      · rw [decide_eq_false c3]
        refine ⟨fun q => absurd rfl q, fun _ => ?_⟩
        unfold w_X6_reading
        refine s_isCase hn hfo hf _ ?_
        rw [c]
        refine ⟨fun q => absurd q (by decide), fun _ => (s_noHour _ _).mpr ?_⟩
        rw [decide_eq_true c2]
        refine ⟨fun _ => (s_isOfThings hn _ _).mpr ?_, fun q => absurd rfl q⟩
        rw [decide_eq_false c3]
        exact ⟨fun q => absurd rfl q, fun _ => ⟨rfl, iv_mk hA2 hH hR hS hT hF⟩⟩
    · rw [decide_eq_false c2]
      refine ⟨fun q => absurd rfl q, fun _ => ?_⟩
      unfold w_X6_reading
      refine s_isCase hn hfo hf _ ?_
      rw [c]
      refine ⟨fun q => absurd q (by decide), fun _ => (s_noHour _ _).mpr ?_⟩
      rw [decide_eq_false c2]
      exact ⟨fun q => absurd q (by decide), fun _ => ⟨rfl, iv_mk hA2 hH hR hS hT hF⟩⟩
  · rw [Bool.not_eq_true] at c
    rw [c]
    refine ⟨fun _ => ?_, fun q => absurd rfl q⟩
    unfold w_X6_reading
    refine s_isCase hn hfo hf _ ?_
    rw [c]
    exact ⟨fun _ => ⟨rfl, iv_mk hA2 hH hR hS hT hF⟩, fun q => absurd rfl q⟩
theorem ev_18 {s_lanes : Nat → Int32} {s_sizes : Nat → Int32} {s_cells : Nat → Int32} {x_kinds : Nat → Int32} {x_digits : Nat → Int32} {x_causes : Nat → Int32} {x_effects : Nat → Int32} {x_things : Int32} {x_follows : Int32} {x_due : Int32} {t_kinds : Nat → Int32} {t_digits : Nat → Int32} {t_caseRow : Nat → Int32} {t_weights : Nat → Int32} {t_order : Nat → Int32} {t_calls : Nat → Int32} {t_things : Int32} {t_caseCount : Int32} {t_caseSet : Int64} {p_callsOfCase : Nat → Int64} {p_partOfCase : Nat → Int32} {p_callsOfPart : Nat → Int64} {p_cases : Int32} {p_parts : Int32} {r_cases : Nat → Int32} {r_hours : Nat → Int32} {r_sets : Nat → Int32} {r_count : Int32} {u_lists : Nat → Int32} {u_breaths : Nat → Int32} {u_heard : Nat → Int32} {u_traced : Int32} {u_lastFault : Int32} {n_fault : Int32} {n_things : Int32} {n_kindOf : Nat → Int32} {n_digitOf : Nat → Int32} {n_follows : Int32} {n_ifOf : Nat → Int32} {n_thenOf : Nat → Int32} {n_listOf : Nat → Int32} {n_breathOf : Nat → Int32} {n_heardOf : Nat → Int32} {n_readAt : Int32} {n_readThings : Int32} {n_readFollows : Int32} {n_readKind : Nat → Int32} {n_readDigit : Nat → Int32} {n_readIf : Nat → Int32} {n_readThen : Nat → Int32} {n_readings : Int32} {n_readingIn : Nat → Int32} {n_readingHour : Nat → Int32} {n_readingOf : Nat → Int32} {n_breathWas : Nat → Int32} {n_sheetSize : Nat → Int32} {n_sheetLane : Nat → Int32} {n_sheet : Nat → Int32} {n_hands : Nat → Int32} {n_traceNow : Int32} (h_i : iv_u s_lanes s_sizes s_cells x_kinds x_digits x_causes x_effects x_things x_follows x_due t_kinds t_digits t_caseRow t_weights t_order t_calls t_things t_caseCount t_caseSet p_callsOfCase p_partOfCase p_callsOfPart p_cases p_parts r_cases r_hours r_sets r_count u_lists u_breaths u_heard u_traced u_lastFault n_fault n_things n_kindOf n_digitOf n_follows n_ifOf n_thenOf n_listOf n_breathOf n_heardOf n_readAt n_readThings n_readFollows n_readKind n_readDigit n_readIf n_readThen n_readings n_readingIn n_readingHour n_readingOf n_breathWas n_sheetSize n_sheetLane n_sheet n_hands n_traceNow) (y_0 : Int32) : w_X5_back r_count y_0 (fun (r_1 : Int32) (k_r_count : Int32) => w_X6_back n_readings y_0 (fun (r_2 : Int32) (k_n_readings : Int32) => r_1 = r_2 ∧ iv_u s_lanes s_sizes s_cells x_kinds x_digits x_causes x_effects x_things x_follows x_due t_kinds t_digits t_caseRow t_weights t_order t_calls t_things t_caseCount t_caseSet p_callsOfCase p_partOfCase p_callsOfPart p_cases p_parts r_cases r_hours r_sets k_r_count u_lists u_breaths u_heard u_traced u_lastFault n_fault n_things n_kindOf n_digitOf n_follows n_ifOf n_thenOf n_listOf n_breathOf n_heardOf n_readAt n_readThings n_readFollows n_readKind n_readDigit n_readIf n_readThen k_n_readings n_readingIn n_readingHour n_readingOf n_breathWas n_sheetSize n_sheetLane n_sheet n_hands n_traceNow)) := by 
  obtain ⟨n, fo, rc, kd, dg, fi, ft, li, br, mi, mr, rx, rh, hA, hH, hR, hS, hT, hF⟩ := iv_of h_i
  have hA2 := hA
  obtain ⟨hn, hfo, rfl, rfl, rfl, hf, hft, hk, hd, htk, htd, hpT, hcs, hW, hc⟩ := hA
  have h64 := pa_p2 hn
  have hR2 := hR
  obtain ⟨g1, rfl, rfl, rfl, g2, g3⟩ := hR2
  unfold w_X5_back
  have z0 : (0 : Int64).toInt = 0 := rfl
  have ec : (nI rc).toInt = rc := pa_nI rc (by omega)
  rw [pa_l0, pa_le]
  refine ⟨fun q => ?_, fun q => ⟨fun q2 => ?_, fun q2 => ?_⟩⟩
  · unfold w_X6_back
    refine (s_in _ _ _ _).mpr ?_
    rw [pa_i64, pa_i64, decide_eq_false (by omega)]
    exact ⟨fun q => absurd rfl q, fun _ => ⟨rfl, iv_mk hA2 hH hR hS hT hF⟩⟩
  · obtain ⟨k, hk2, rfl⟩ := pa_of (x := y_0) (n := rc + 1) (by omega) (by omega) (by omega)
    have e : nI rc - nI k = nI (rc - k) := by
      have : ∀ r, r < 9 → ∀ k, k < r + 1 → nI r - nI k = nI (r - k) := by decide
      exact this rc (by omega) k hk2
    unfold w_X6_back
    refine (s_in _ _ _ _).mpr ?_
    rw [pa_i64, pa_i64, decide_eq_true (by omega), e]
    exact ⟨fun _ => ⟨rfl, iv_mk hA2 hH (rc := rc - k) (rx := rx) (rh := rh) ⟨by omega, rfl, rfl, rfl, fun r hr => g2 r (by omega), fun r hr => g3 r (by omega)⟩ hS hT hF⟩, fun q => absurd q (by decide)⟩
  · unfold w_X6_back
    refine (s_in _ _ _ _).mpr ?_
    rw [pa_i64, pa_i64, decide_eq_false (by omega)]
    exact ⟨fun q => absurd rfl q, fun _ => ⟨rfl, iv_mk hA2 hH hR hS hT hF⟩⟩
theorem ev_20 {s_lanes : Nat → Int32} {s_sizes : Nat → Int32} {s_cells : Nat → Int32} {x_kinds : Nat → Int32} {x_digits : Nat → Int32} {x_causes : Nat → Int32} {x_effects : Nat → Int32} {x_things : Int32} {x_follows : Int32} {x_due : Int32} {t_kinds : Nat → Int32} {t_digits : Nat → Int32} {t_caseRow : Nat → Int32} {t_weights : Nat → Int32} {t_order : Nat → Int32} {t_calls : Nat → Int32} {t_things : Int32} {t_caseCount : Int32} {t_caseSet : Int64} {p_callsOfCase : Nat → Int64} {p_partOfCase : Nat → Int32} {p_callsOfPart : Nat → Int64} {p_cases : Int32} {p_parts : Int32} {r_cases : Nat → Int32} {r_hours : Nat → Int32} {r_sets : Nat → Int32} {r_count : Int32} {u_lists : Nat → Int32} {u_breaths : Nat → Int32} {u_heard : Nat → Int32} {u_traced : Int32} {u_lastFault : Int32} {n_fault : Int32} {n_things : Int32} {n_kindOf : Nat → Int32} {n_digitOf : Nat → Int32} {n_follows : Int32} {n_ifOf : Nat → Int32} {n_thenOf : Nat → Int32} {n_listOf : Nat → Int32} {n_breathOf : Nat → Int32} {n_heardOf : Nat → Int32} {n_readAt : Int32} {n_readThings : Int32} {n_readFollows : Int32} {n_readKind : Nat → Int32} {n_readDigit : Nat → Int32} {n_readIf : Nat → Int32} {n_readThen : Nat → Int32} {n_readings : Int32} {n_readingIn : Nat → Int32} {n_readingHour : Nat → Int32} {n_readingOf : Nat → Int32} {n_breathWas : Nat → Int32} {n_sheetSize : Nat → Int32} {n_sheetLane : Nat → Int32} {n_sheet : Nat → Int32} {n_hands : Nat → Int32} {n_traceNow : Int32} (h_i : iv_u s_lanes s_sizes s_cells x_kinds x_digits x_causes x_effects x_things x_follows x_due t_kinds t_digits t_caseRow t_weights t_order t_calls t_things t_caseCount t_caseSet p_callsOfCase p_partOfCase p_callsOfPart p_cases p_parts r_cases r_hours r_sets r_count u_lists u_breaths u_heard u_traced u_lastFault n_fault n_things n_kindOf n_digitOf n_follows n_ifOf n_thenOf n_listOf n_breathOf n_heardOf n_readAt n_readThings n_readFollows n_readKind n_readDigit n_readIf n_readThen n_readings n_readingIn n_readingHour n_readingOf n_breathWas n_sheetSize n_sheetLane n_sheet n_hands n_traceNow) (y_0 y_1 y_2 y_3 : Int32) : w_X5_night s_lanes s_sizes s_cells t_caseRow t_calls t_things t_caseCount p_callsOfCase p_partOfCase p_cases p_parts u_lists u_lastFault y_0 y_1 y_2 y_3 (fun (r_1 : Int32) (k_p_callsOfCase : Nat → Int64) (k_p_partOfCase : Nat → Int32) (k_p_cases : Int32) (k_p_parts : Int32) (k_u_lastFault : Int32) => w_X6_night n_fault n_things n_kindOf n_follows n_ifOf n_thenOf n_listOf n_breathOf n_breathWas n_sheetSize n_sheetLane n_sheet y_0 y_1 y_2 y_3 (fun (r_2 : Int32) (k_n_fault : Int32) (k_n_breathOf : Nat → Int32) (k_n_breathWas : Nat → Int32) => r_1 = r_2 ∧ iv_u s_lanes s_sizes s_cells x_kinds x_digits x_causes x_effects x_things x_follows x_due t_kinds t_digits t_caseRow t_weights t_order t_calls t_things t_caseCount t_caseSet k_p_callsOfCase k_p_partOfCase p_callsOfPart k_p_cases k_p_parts r_cases r_hours r_sets r_count u_lists u_breaths u_heard u_traced k_u_lastFault k_n_fault n_things n_kindOf n_digitOf n_follows n_ifOf n_thenOf n_listOf k_n_breathOf n_heardOf n_readAt n_readThings n_readFollows n_readKind n_readDigit n_readIf n_readThen n_readings n_readingIn n_readingHour n_readingOf k_n_breathWas n_sheetSize n_sheetLane n_sheet n_hands n_traceNow)) := by 
  obtain ⟨n, fo, rc, kd, dg, fi, ft, li, br, mi, mr, rx, rh, hA, hH, hR, hS, hT, hF⟩ := iv_of h_i
  have hA2 := hA
  obtain ⟨hn, hfo, rfl, rfl, rfl, hf, hft, hk, hd, htk, htd, hpT, hcs, hW, hc⟩ := hA
  have h64 := pa_p2 hn
  have hH2 := hH
  obtain ⟨h1, h2, h3, h4, h5, h6⟩ := hH2
  rcases Nat.eq_zero_or_pos n with e | e
  · subst e
    have w1 : ∀ h, h < 6 → n_listOf h = nI (mi h) ∧ mi h < 2 ^ 0 ∧ n_breathOf h = nI (mr h) ∧ mr h ≤ 18 := h2
    obtain ⟨r, f, hC, hM⟩ := s_night0 (lf := u_lastFault) (nf := n_fault) (fo := fo) (t_caseRow := t_caseRow) (t_calls := t_calls) (u_lists := u_lists) (p_partOfCase := p_partOfCase) (p_callsOfCase := p_callsOfCase) (p_cases := p_cases) (p_parts := p_parts) (t_caseCount := t_caseCount) (n_kindOf := n_kindOf) (n_ifOf := n_ifOf) (n_thenOf := n_thenOf) (n_listOf := n_listOf) (n_breathOf := n_breathOf) (n_breathWas := n_breathWas) hS y_0 y_1 y_2 y_3
    exact hC _ (fun g p c1 c2 => hM _ (fun bw => ⟨rfl, iv_mk hA2 hH hR hS hT rfl⟩))
  · obtain ⟨rfl, rfl, rfl⟩ := h4 e
    obtain ⟨r, f, hC, hM⟩ := s_night (lf := u_lastFault) (nf := n_fault) (p_partOfCase := p_partOfCase) (p_callsOfCase := p_callsOfCase) (p_cases := p_cases) (p_parts := p_parts) (n_breathWas := n_breathWas) hn hfo hS hpT hc h1 hf hk h2 y_0 y_1 y_2 y_3
    exact hC _ (fun g p c1 c2 => hM _ (fun bw => ⟨rfl, iv_mk hA2 hH hR hS hT rfl⟩))
theorem ev_31 {s_lanes : Nat → Int32} {s_sizes : Nat → Int32} {s_cells : Nat → Int32} {x_kinds : Nat → Int32} {x_digits : Nat → Int32} {x_causes : Nat → Int32} {x_effects : Nat → Int32} {x_things : Int32} {x_follows : Int32} {x_due : Int32} {t_kinds : Nat → Int32} {t_digits : Nat → Int32} {t_caseRow : Nat → Int32} {t_weights : Nat → Int32} {t_order : Nat → Int32} {t_calls : Nat → Int32} {t_things : Int32} {t_caseCount : Int32} {t_caseSet : Int64} {p_callsOfCase : Nat → Int64} {p_partOfCase : Nat → Int32} {p_callsOfPart : Nat → Int64} {p_cases : Int32} {p_parts : Int32} {r_cases : Nat → Int32} {r_hours : Nat → Int32} {r_sets : Nat → Int32} {r_count : Int32} {u_lists : Nat → Int32} {u_breaths : Nat → Int32} {u_heard : Nat → Int32} {u_traced : Int32} {u_lastFault : Int32} {n_fault : Int32} {n_things : Int32} {n_kindOf : Nat → Int32} {n_digitOf : Nat → Int32} {n_follows : Int32} {n_ifOf : Nat → Int32} {n_thenOf : Nat → Int32} {n_listOf : Nat → Int32} {n_breathOf : Nat → Int32} {n_heardOf : Nat → Int32} {n_readAt : Int32} {n_readThings : Int32} {n_readFollows : Int32} {n_readKind : Nat → Int32} {n_readDigit : Nat → Int32} {n_readIf : Nat → Int32} {n_readThen : Nat → Int32} {n_readings : Int32} {n_readingIn : Nat → Int32} {n_readingHour : Nat → Int32} {n_readingOf : Nat → Int32} {n_breathWas : Nat → Int32} {n_sheetSize : Nat → Int32} {n_sheetLane : Nat → Int32} {n_sheet : Nat → Int32} {n_hands : Nat → Int32} {n_traceNow : Int32} (h_i : iv_u s_lanes s_sizes s_cells x_kinds x_digits x_causes x_effects x_things x_follows x_due t_kinds t_digits t_caseRow t_weights t_order t_calls t_things t_caseCount t_caseSet p_callsOfCase p_partOfCase p_callsOfPart p_cases p_parts r_cases r_hours r_sets r_count u_lists u_breaths u_heard u_traced u_lastFault n_fault n_things n_kindOf n_digitOf n_follows n_ifOf n_thenOf n_listOf n_breathOf n_heardOf n_readAt n_readThings n_readFollows n_readKind n_readDigit n_readIf n_readThen n_readings n_readingIn n_readingHour n_readingOf n_breathWas n_sheetSize n_sheetLane n_sheet n_hands n_traceNow) (y_0 : Int32) : w_X5_many t_things t_caseCount r_count u_heard y_0 (fun (r_1 : Int32) => w_X6_many n_things n_follows n_ifOf n_thenOf n_heardOf n_readings y_0 (fun (r_2 : Int32) => r_1 = r_2 ∧ iv_u s_lanes s_sizes s_cells x_kinds x_digits x_causes x_effects x_things x_follows x_due t_kinds t_digits t_caseRow t_weights t_order t_calls t_things t_caseCount t_caseSet p_callsOfCase p_partOfCase p_callsOfPart p_cases p_parts r_cases r_hours r_sets r_count u_lists u_breaths u_heard u_traced u_lastFault n_fault n_things n_kindOf n_digitOf n_follows n_ifOf n_thenOf n_listOf n_breathOf n_heardOf n_readAt n_readThings n_readFollows n_readKind n_readDigit n_readIf n_readThen n_readings n_readingIn n_readingHour n_readingOf n_breathWas n_sheetSize n_sheetLane n_sheet n_hands n_traceNow)) := by 
  obtain ⟨n, fo, rc, kd, dg, fi, ft, li, br, mi, mr, rx, rh, hA, hH, hR, hS, hT, hF⟩ := iv_of h_i
  have hA2 := hA
  obtain ⟨hn, hfo, rfl, rfl, rfl, hf, hft, hk, hd, htk, htd, hpT, hcs, hW, hc⟩ := hA
  have h64 := pa_p2 hn
  have hH2 := hH
  obtain ⟨h1, h2, h3, h4, h5, h6⟩ := hH2
  have hR2 := hR
  obtain ⟨g1, rfl, rfl, rfl, g2, g3⟩ := hR2
  have key : ∀ post : Int32 → Prop, (y_0 = 0 → post (nI n)) → (y_0 = 1 → post t_caseCount) → (y_0 = 2 → post (nI (iv_ct u_heard 6))) → (y_0 = 3 → post (nI rc)) → (¬ y_0 = 0 → ¬ y_0 = 1 → ¬ y_0 = 2 → ¬ y_0 = 3 → post (-2)) → w_X6_many (nI n) (nI fo) n_ifOf n_thenOf n_heardOf (nI rc) y_0 post := fun post p0 p1 p2 p3 p4 => by
    unfold w_X6_many
    refine s_many7 hn hfo hf ?_
    have : iv_ct (if n = 0 then fun _ => -9 else n_heardOf) 6 = iv_ct u_heard 6 := by
      rcases Nat.eq_zero_or_pos n with e | e
      · rw [if_pos e]; exact iv_ctc (fun h hh => (h5 e h hh).symm)
      · rw [if_neg (by omega), (h4 e).2.2]
    refine s_many40 hn h3 ?_
    rw [this, ← hpT.1]
    exact ⟨p0, p1, p2, p3, p4⟩
  unfold w_X5_many
  refine ⟨fun a => ⟨fun b => ⟨fun c => ⟨fun d => ?_, fun d => ?_⟩, fun c => ?_⟩, fun b => ?_⟩, fun a => ?_⟩
  · exact key _ (fun q => absurd q a) (fun q => absurd q b) (fun q => absurd q c) (fun q => absurd q d) (fun _ _ _ _ => ⟨rfl, iv_mk hA2 hH hR hS hT hF⟩)
  · exact key _ (fun q => absurd q a) (fun q => absurd q b) (fun q => absurd q c) (fun q => ⟨rfl, iv_mk hA2 hH hR hS hT hF⟩) (fun _ _ _ q => absurd d q)
  · refine s_countHeard ?_
    exact key _ (fun q => absurd q a) (fun q => absurd q b) (fun q => ⟨rfl, iv_mk hA2 hH hR hS hT hF⟩) (fun q => absurd (c.symm.trans q) (by decide)) (fun _ _ q _ => absurd c q)
  · exact key _ (fun q => absurd q a) (fun q => ⟨rfl, iv_mk hA2 hH hR hS hT hF⟩) (fun q => absurd (b.symm.trans q) (by decide)) (fun q => absurd (b.symm.trans q) (by decide)) (fun _ q _ _ => absurd b q)
  · exact key _ (fun q => ⟨rfl, iv_mk hA2 hH hR hS hT hF⟩) (fun q => absurd (a.symm.trans q) (by decide)) (fun q => absurd (a.symm.trans q) (by decide)) (fun q => absurd (a.symm.trans q) (by decide)) (fun q _ _ _ => absurd a q)
