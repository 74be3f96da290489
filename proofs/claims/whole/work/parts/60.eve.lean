theorem ev_21 {s_lanes : Nat → Int32} {s_sizes : Nat → Int32} {s_cells : Nat → Int32} {x_kinds : Nat → Int32} {x_digits : Nat → Int32} {x_causes : Nat → Int32} {x_effects : Nat → Int32} {x_things : Int32} {x_follows : Int32} {x_due : Int32} {t_kinds : Nat → Int32} {t_digits : Nat → Int32} {t_caseRow : Nat → Int32} {t_weights : Nat → Int32} {t_order : Nat → Int32} {t_calls : Nat → Int32} {t_things : Int32} {t_caseCount : Int32} {t_caseSet : Int64} {p_callsOfCase : Nat → Int64} {p_partOfCase : Nat → Int32} {p_callsOfPart : Nat → Int64} {p_cases : Int32} {p_parts : Int32} {r_cases : Nat → Int32} {r_hours : Nat → Int32} {r_sets : Nat → Int32} {r_count : Int32} {u_lists : Nat → Int32} {u_breaths : Nat → Int32} {u_heard : Nat → Int32} {u_traced : Int32} {u_lastFault : Int32} {n_fault : Int32} {n_things : Int32} {n_kindOf : Nat → Int32} {n_digitOf : Nat → Int32} {n_follows : Int32} {n_ifOf : Nat → Int32} {n_thenOf : Nat → Int32} {n_listOf : Nat → Int32} {n_breathOf : Nat → Int32} {n_heardOf : Nat → Int32} {n_readAt : Int32} {n_readThings : Int32} {n_readFollows : Int32} {n_readKind : Nat → Int32} {n_readDigit : Nat → Int32} {n_readIf : Nat → Int32} {n_readThen : Nat → Int32} {n_readings : Int32} {n_readingIn : Nat → Int32} {n_readingHour : Nat → Int32} {n_readingOf : Nat → Int32} {n_breathWas : Nat → Int32} {n_sheetSize : Nat → Int32} {n_sheetLane : Nat → Int32} {n_sheet : Nat → Int32} {n_hands : Nat → Int32} {n_traceNow : Int32} (h_i : iv_u s_lanes s_sizes s_cells x_kinds x_digits x_causes x_effects x_things x_follows x_due t_kinds t_digits t_caseRow t_weights t_order t_calls t_things t_caseCount t_caseSet p_callsOfCase p_partOfCase p_callsOfPart p_cases p_parts r_cases r_hours r_sets r_count u_lists u_breaths u_heard u_traced u_lastFault n_fault n_things n_kindOf n_digitOf n_follows n_ifOf n_thenOf n_listOf n_breathOf n_heardOf n_readAt n_readThings n_readFollows n_readKind n_readDigit n_readIf n_readThen n_readings n_readingIn n_readingHour n_readingOf n_breathWas n_sheetSize n_sheetLane n_sheet n_hands n_traceNow) (y_0 y_1 y_2 : Int32) : w_X5_sheet s_lanes s_sizes s_cells u_lastFault y_0 y_1 y_2 (fun (r_1 : Int32) (k_s_lanes : Nat → Int32) (k_s_sizes : Nat → Int32) (k_s_cells : Nat → Int32) (k_u_lastFault : Int32) => w_X6_sheet n_fault n_sheetSize n_sheetLane n_sheet y_0 y_1 y_2 (fun (r_2 : Int32) (k_n_fault : Int32) (k_n_sheetSize : Nat → Int32) (k_n_sheetLane : Nat → Int32) (k_n_sheet : Nat → Int32) => r_1 = r_2 ∧ iv_u k_s_lanes k_s_sizes k_s_cells x_kinds x_digits x_causes x_effects x_things x_follows x_due t_kinds t_digits t_caseRow t_weights t_order t_calls t_things t_caseCount t_caseSet p_callsOfCase p_partOfCase p_callsOfPart p_cases p_parts r_cases r_hours r_sets r_count u_lists u_breaths u_heard u_traced k_u_lastFault k_n_fault n_things n_kindOf n_digitOf n_follows n_ifOf n_thenOf n_listOf n_breathOf n_heardOf n_readAt n_readThings n_readFollows n_readKind n_readDigit n_readIf n_readThen n_readings n_readingIn n_readingHour n_readingOf n_breathWas k_n_sheetSize k_n_sheetLane k_n_sheet n_hands n_traceNow)) := by 
  obtain ⟨n, fo, rc, kd, dg, fi, ft, li, br, mi, mr, rx, rh, hA, hH, hR, hS, hT, hF⟩ := iv_of h_i
  have hA2 := hA
  obtain ⟨hn, hfo, rfl, rfl, rfl, hf, hft, hk, hd, htk, htd, hpT, hcs, hW, hc⟩ := hA
  have h64 := pa_p2 hn
  have z0 : (0 : Int64).toInt = 0 := rfl
  have z2 : (2 : Int64).toInt = 2 := rfl
  unfold w_X5_sheet
  rw [s_isSheet]
  by_cases c : 0 ≤ y_0.toInt ∧ y_0.toInt < 4
  · obtain ⟨k, hk4, rfl⟩ := ps_of (n := 4) (by omega) c
    have v := pa_vp (N := 4) hk4 (by omega)
    rw [decide_eq_true c]
    refine ⟨fun _ => (s_isLane _ _).mpr ?_, fun q => absurd q (by decide)⟩
    by_cases c2 : 0 ≤ y_1.toInt ∧ y_1.toInt < 3
    · obtain ⟨la, hla, rfl⟩ := ps_of (n := 3) (by omega) c2
      rw [decide_eq_true c2, pa_le y_2 60, pa_le 0 y_2, show (60 : Int32).toInt = 60 from rfl, show (0 : Int32).toInt = 0 from rfl]
      have key : ∀ post : Int32 → Int32 → (Nat → Int32) → (Nat → Int32) → (Nat → Int32) → Prop, (¬ y_2.toInt ≤ 60 → post (-2) 0 n_sheetSize n_sheetLane n_sheet) → (y_2.toInt ≤ 60 → ¬ 0 ≤ y_2.toInt → post (-14) 4 n_sheetSize n_sheetLane n_sheet) → (∀ N, N ≤ 60 → y_2 = nI N → ∀ m, (∀ i, i < N → m (60 * k + i) = 0) → (∀ j, (∀ i, i < 60 → j ≠ 60 * k + i) → m j = n_sheet j) → post 1 0 (upd n_sheetSize k y_2) (upd n_sheetLane k (nI la)) m) → w_X6_sheet n_fault n_sheetSize n_sheetLane n_sheet (nI k) (nI la) y_2 post := fun post p1 p2 p3 => by
        unfold w_X6_sheet
        refine (s_noSheet _ _).mpr ?_
        rw [decide_eq_true c]
        refine ⟨fun _ => (s_in _ _ _ _).mpr ?_, fun q => absurd rfl q⟩
        rw [pa_i64, decide_eq_true (by omega), pa_le y_2 60, pa_le 0 y_2, show (60 : Int32).toInt = 60 from rfl, show (0 : Int32).toInt = 0 from rfl]
        by_cases d1 : y_2.toInt ≤ 60
        · refine ⟨fun q => absurd q (by decide), fun _ => ⟨fun _ => ⟨fun d2 => ⟨v, v, ?_⟩, p2 d1⟩, fun q => absurd d1 q⟩⟩
          obtain ⟨N, hN, rfl⟩ := pa_of (x := y_2) (n := 61) d2 (by omega) (by omega)
          rw [pa_cl (by omega)]
          exact s_sheet65 hk4 (by omega) (fun m m1 m2 => p3 N (by omega) rfl m m1 m2)
        · exact xq_use0 (fun K hK => ⟨fun q => absurd q (by decide), fun _ => ⟨fun q => absurd q d1, fun _ => hK⟩⟩) (p1 d1)
      refine ⟨fun q => absurd q (by decide), fun _ => ⟨fun d1 => ⟨fun d2 => ?_, fun d2 => ?_⟩, fun d1 => ?_⟩⟩
      · refine s_renew hk4 (fun cc m1 m2 => ?_)
        refine key _ (fun q => absurd d1 q) (fun _ q => absurd d2 q) (fun N hN e m n1 n2 => ?_)
        subst e
        refine ⟨rfl, iv_mk hA2 hH hR ?_ hT rfl⟩
        intro k' hk'
        by_cases e : k' = k
        · subst e
          refine Or.inr ⟨la, N, by omega, hN, pk_us, pk_us, pk_us, pk_us, fun i hi => ?_⟩
          rw [m1 i (by omega), n1 i hi]
        · refine px_other (hS k' hk') (pk_un e) (pk_un e) (pk_un e) (pk_un e) (fun i hi => m2 _ (fun i' hi' => by omega)) (fun i hi => n2 _ (fun i' hi' => by omega))
      · exact key _ (fun q => absurd d1 q) (fun _ q => ⟨rfl, iv_mk hA2 hH hR hS hT rfl⟩) (fun N hN e m n1 n2 => by have := iv_ti e (by omega); omega)
      · exact key _ (fun q => ⟨rfl, iv_mk hA2 hH hR hS hT rfl⟩) (fun q => absurd q d1) (fun N hN e m n1 n2 => by have := iv_ti e (by omega); omega)
    · rw [decide_eq_false c2]
      refine ⟨fun _ => ?_, fun q => absurd rfl q⟩
      unfold w_X6_sheet
      refine (s_noSheet _ _).mpr ?_
      rw [decide_eq_true c]
      refine ⟨fun _ => (s_in _ _ _ _).mpr ?_, fun q => absurd rfl q⟩
      rw [pa_i64, decide_eq_false (by omega)]
      exact xq_use0 (fun K hK => ⟨fun _ => hK, fun q => absurd rfl q⟩) ⟨rfl, iv_mk hA2 hH hR hS hT rfl⟩
  · rw [decide_eq_false c]
    refine ⟨fun q => absurd rfl q, fun _ => ?_⟩
    unfold w_X6_sheet
    refine (s_noSheet _ _).mpr ?_
    rw [decide_eq_false c]
    exact ⟨fun q => absurd q (by decide), fun _ => ⟨rfl, iv_mk hA2 hH hR hS hT rfl⟩⟩
theorem ev_22 {s_lanes : Nat → Int32} {s_sizes : Nat → Int32} {s_cells : Nat → Int32} {x_kinds : Nat → Int32} {x_digits : Nat → Int32} {x_causes : Nat → Int32} {x_effects : Nat → Int32} {x_things : Int32} {x_follows : Int32} {x_due : Int32} {t_kinds : Nat → Int32} {t_digits : Nat → Int32} {t_caseRow : Nat → Int32} {t_weights : Nat → Int32} {t_order : Nat → Int32} {t_calls : Nat → Int32} {t_things : Int32} {t_caseCount : Int32} {t_caseSet : Int64} {p_callsOfCase : Nat → Int64} {p_partOfCase : Nat → Int32} {p_callsOfPart : Nat → Int64} {p_cases : Int32} {p_parts : Int32} {r_cases : Nat → Int32} {r_hours : Nat → Int32} {r_sets : Nat → Int32} {r_count : Int32} {u_lists : Nat → Int32} {u_breaths : Nat → Int32} {u_heard : Nat → Int32} {u_traced : Int32} {u_lastFault : Int32} {n_fault : Int32} {n_things : Int32} {n_kindOf : Nat → Int32} {n_digitOf : Nat → Int32} {n_follows : Int32} {n_ifOf : Nat → Int32} {n_thenOf : Nat → Int32} {n_listOf : Nat → Int32} {n_breathOf : Nat → Int32} {n_heardOf : Nat → Int32} {n_readAt : Int32} {n_readThings : Int32} {n_readFollows : Int32} {n_readKind : Nat → Int32} {n_readDigit : Nat → Int32} {n_readIf : Nat → Int32} {n_readThen : Nat → Int32} {n_readings : Int32} {n_readingIn : Nat → Int32} {n_readingHour : Nat → Int32} {n_readingOf : Nat → Int32} {n_breathWas : Nat → Int32} {n_sheetSize : Nat → Int32} {n_sheetLane : Nat → Int32} {n_sheet : Nat → Int32} {n_hands : Nat → Int32} {n_traceNow : Int32} (h_i : iv_u s_lanes s_sizes s_cells x_kinds x_digits x_causes x_effects x_things x_follows x_due t_kinds t_digits t_caseRow t_weights t_order t_calls t_things t_caseCount t_caseSet p_callsOfCase p_partOfCase p_callsOfPart p_cases p_parts r_cases r_hours r_sets r_count u_lists u_breaths u_heard u_traced u_lastFault n_fault n_things n_kindOf n_digitOf n_follows n_ifOf n_thenOf n_listOf n_breathOf n_heardOf n_readAt n_readThings n_readFollows n_readKind n_readDigit n_readIf n_readThen n_readings n_readingIn n_readingHour n_readingOf n_breathWas n_sheetSize n_sheetLane n_sheet n_hands n_traceNow) (y_0 : Int32) : w_X5_lose s_lanes s_sizes y_0 (fun (r_1 : Int32) (k_s_lanes : Nat → Int32) (k_s_sizes : Nat → Int32) => w_X6_lose n_sheetSize y_0 (fun (r_2 : Int32) (k_n_sheetSize : Nat → Int32) => r_1 = r_2 ∧ iv_u k_s_lanes k_s_sizes s_cells x_kinds x_digits x_causes x_effects x_things x_follows x_due t_kinds t_digits t_caseRow t_weights t_order t_calls t_things t_caseCount t_caseSet p_callsOfCase p_partOfCase p_callsOfPart p_cases p_parts r_cases r_hours r_sets r_count u_lists u_breaths u_heard u_traced u_lastFault n_fault n_things n_kindOf n_digitOf n_follows n_ifOf n_thenOf n_listOf n_breathOf n_heardOf n_readAt n_readThings n_readFollows n_readKind n_readDigit n_readIf n_readThen n_readings n_readingIn n_readingHour n_readingOf n_breathWas k_n_sheetSize n_sheetLane n_sheet n_hands n_traceNow)) := by 
  obtain ⟨n, fo, rc, kd, dg, fi, ft, li, br, mi, mr, rx, rh, hA, hH, hR, hS, hT, hF⟩ := iv_of h_i
  have hA2 := hA
  obtain ⟨hn, hfo, rfl, rfl, rfl, hf, hft, hk, hd, htk, htd, hpT, hcs, hW, hc⟩ := hA
  have h64 := pa_p2 hn
  unfold w_X5_lose
  rw [s_isSheet]
  by_cases c : 0 ≤ y_0.toInt ∧ y_0.toInt < 4
  · obtain ⟨k, hk4, rfl⟩ := ps_of (n := 4) (by omega) c
    have v := pa_vp (N := 4) hk4 (by omega)
    rw [decide_eq_true c]
    refine ⟨fun _ => (s_hasRow hk4 _).mpr ?_, fun q => absurd q (by decide)⟩
    have hS2 : iv_s (upd s_lanes k (-1)) (upd s_sizes k 0) s_cells (upd n_sheetSize k (-1)) n_sheetLane n_sheet := by
      intro k' hk'
      by_cases e : k' = k
      · subst e; exact Or.inl ⟨pk_us, pk_us, pk_us⟩
      · exact px_other (hS k' hk') (pk_un e) (pk_un e) (pk_un e) rfl (fun _ _ => rfl) (fun _ _ => rfl)
    rcases hS k hk4 with ⟨v1, v2, v3⟩ | ⟨la, sz, v1, v2, v3, v4, v5, v6, v7⟩
    · rw [decide_eq_false (by simp [v1])]
      refine xq_use1 0 (fun K hK => ⟨fun _ => hK, fun q => absurd rfl q⟩) ?_
      unfold w_X2_drop
      rw [pa_cl (by omega)]
      refine ⟨v, v, ?_⟩
      unfold w_X6_lose
      refine (s_noSheet _ _).mpr ?_
      rw [decide_eq_true c, pa_cl (by omega), v2]
      exact ⟨fun _ => ⟨v, xq_use1 0 (fun K hK => ⟨fun q => absurd q (by decide), fun _ => hK⟩) ⟨v, rfl, iv_mk hA2 hH hR hS2 hT hF⟩⟩, fun q => absurd rfl q⟩
    · rw [decide_eq_true (by rw [v3]; exact ps_lane v1)]
      refine xq_use1 1 (fun K hK => ⟨fun q => absurd q (by decide), fun _ => hK⟩) ?_
      unfold w_X2_drop
      rw [pa_cl (by omega)]
      refine ⟨v, v, ?_⟩
      unfold w_X6_lose
      refine (s_noSheet _ _).mpr ?_
      rw [decide_eq_true c, pa_cl (by omega), v6, pa_le 0, pa_nI sz (by omega), show (0 : Int32).toInt = 0 from rfl]
      exact ⟨fun _ => ⟨v, xq_use1 1 (fun K hK => ⟨fun _ => hK, fun q => absurd (by omega) q⟩) ⟨v, rfl, iv_mk hA2 hH hR hS2 hT hF⟩⟩, fun q => absurd rfl q⟩
  · rw [decide_eq_false c]
    refine ⟨fun q => absurd rfl q, fun _ => ?_⟩
    unfold w_X6_lose
    refine (s_noSheet _ _).mpr ?_
    rw [decide_eq_false c]
    exact ⟨fun q => absurd q (by decide), fun _ => ⟨rfl, iv_mk hA2 hH hR hS hT hF⟩⟩
theorem ev_23 {s_lanes : Nat → Int32} {s_sizes : Nat → Int32} {s_cells : Nat → Int32} {x_kinds : Nat → Int32} {x_digits : Nat → Int32} {x_causes : Nat → Int32} {x_effects : Nat → Int32} {x_things : Int32} {x_follows : Int32} {x_due : Int32} {t_kinds : Nat → Int32} {t_digits : Nat → Int32} {t_caseRow : Nat → Int32} {t_weights : Nat → Int32} {t_order : Nat → Int32} {t_calls : Nat → Int32} {t_things : Int32} {t_caseCount : Int32} {t_caseSet : Int64} {p_callsOfCase : Nat → Int64} {p_partOfCase : Nat → Int32} {p_callsOfPart : Nat → Int64} {p_cases : Int32} {p_parts : Int32} {r_cases : Nat → Int32} {r_hours : Nat → Int32} {r_sets : Nat → Int32} {r_count : Int32} {u_lists : Nat → Int32} {u_breaths : Nat → Int32} {u_heard : Nat → Int32} {u_traced : Int32} {u_lastFault : Int32} {n_fault : Int32} {n_things : Int32} {n_kindOf : Nat → Int32} {n_digitOf : Nat → Int32} {n_follows : Int32} {n_ifOf : Nat → Int32} {n_thenOf : Nat → Int32} {n_listOf : Nat → Int32} {n_breathOf : Nat → Int32} {n_heardOf : Nat → Int32} {n_readAt : Int32} {n_readThings : Int32} {n_readFollows : Int32} {n_readKind : Nat → Int32} {n_readDigit : Nat → Int32} {n_readIf : Nat → Int32} {n_readThen : Nat → Int32} {n_readings : Int32} {n_readingIn : Nat → Int32} {n_readingHour : Nat → Int32} {n_readingOf : Nat → Int32} {n_breathWas : Nat → Int32} {n_sheetSize : Nat → Int32} {n_sheetLane : Nat → Int32} {n_sheet : Nat → Int32} {n_hands : Nat → Int32} {n_traceNow : Int32} (h_i : iv_u s_lanes s_sizes s_cells x_kinds x_digits x_causes x_effects x_things x_follows x_due t_kinds t_digits t_caseRow t_weights t_order t_calls t_things t_caseCount t_caseSet p_callsOfCase p_partOfCase p_callsOfPart p_cases p_parts r_cases r_hours r_sets r_count u_lists u_breaths u_heard u_traced u_lastFault n_fault n_things n_kindOf n_digitOf n_follows n_ifOf n_thenOf n_listOf n_breathOf n_heardOf n_readAt n_readThings n_readFollows n_readKind n_readDigit n_readIf n_readThen n_readings n_readingIn n_readingHour n_readingOf n_breathWas n_sheetSize n_sheetLane n_sheet n_hands n_traceNow) (y_0 y_1 y_2 : Int32) : w_X5_put s_lanes s_sizes s_cells u_lastFault y_0 y_1 y_2 (fun (r_1 : Int32) (k_s_cells : Nat → Int32) (k_u_lastFault : Int32) => w_X6_put n_fault n_sheetSize n_sheetLane n_sheet y_0 y_1 y_2 (fun (r_2 : Int32) (k_n_fault : Int32) (k_n_sheet : Nat → Int32) => r_1 = r_2 ∧ iv_u s_lanes s_sizes k_s_cells x_kinds x_digits x_causes x_effects x_things x_follows x_due t_kinds t_digits t_caseRow t_weights t_order t_calls t_things t_caseCount t_caseSet p_callsOfCase p_partOfCase p_callsOfPart p_cases p_parts r_cases r_hours r_sets r_count u_lists u_breaths u_heard u_traced k_u_lastFault k_n_fault n_things n_kindOf n_digitOf n_follows n_ifOf n_thenOf n_listOf n_breathOf n_heardOf n_readAt n_readThings n_readFollows n_readKind n_readDigit n_readIf n_readThen n_readings n_readingIn n_readingHour n_readingOf n_breathWas n_sheetSize n_sheetLane k_n_sheet n_hands n_traceNow)) := by 
  obtain ⟨n, fo, rc, kd, dg, fi, ft, li, br, mi, mr, rx, rh, hA, hH, hR, hS, hT, hF⟩ := iv_of h_i
  have hA2 := hA
  obtain ⟨hn, hfo, rfl, rfl, rfl, hf, hft, hk, hd, htk, htd, hpT, hcs, hW, hc⟩ := hA
  have h64 := pa_p2 hn
  unfold w_X5_put
  rw [s_isSheet]
  by_cases c : 0 ≤ y_0.toInt ∧ y_0.toInt < 4
  · obtain ⟨k, hk4, rfl⟩ := ps_of (n := 4) (by omega) c
    have v := pa_vp (N := 4) hk4 (by omega)
    rw [decide_eq_true c]
    refine ⟨fun _ => (s_hasRow hk4 _).mpr ?_, fun q => absurd q (by decide)⟩
    rcases hS k hk4 with ⟨v1, v2, v3⟩ | ⟨la, sz, v1, v2, v3, v4, v5, v6, v7⟩
    · rw [decide_eq_false (by simp [v1])]
      refine ⟨fun q => absurd rfl q, fun _ => ?_⟩
      have zz : (n_sheetSize k).toInt < 0 := by rw [v2]; decide
      unfold w_X5_faulted
      dsimp only
      unfold w_X6_put
      refine (s_noSheet _ _).mpr ?_
      rw [decide_eq_true c]
      refine ⟨fun _ => s_noCell _ hk4 _ (fun _ => ⟨fun q => absurd q (by decide), fun _ => s_noCell _ hk4 _ (fun _ => ⟨rfl, iv_mk hA2 hH hR hS hT rfl⟩) (fun q => by omega) (fun q => by omega)⟩) (fun q => by omega) (fun q => by omega), fun q => absurd rfl q⟩
    · rw [decide_eq_true (by rw [v3]; exact ps_lane v1)]
      have es : (s_sizes k).toInt = sz := by rw [v5, pa_nI _ (by omega)]
      have en : (n_sheetSize k).toInt = sz := by rw [v6, pa_nI _ (by omega)]
      refine ⟨fun _ => s_isCell _ hk4 _ ?_, fun q => absurd q (by decide)⟩
      rw [es]
      by_cases d : 0 ≤ y_1.toInt ∧ y_1.toInt < sz
      · obtain ⟨i, hi, rfl⟩ := pa_of (x := y_1) (n := sz) d.1 d.2 (by omega)
        rw [decide_eq_true d]
        refine ⟨fun _ => ?_, fun q => absurd q (by decide)⟩
        unfold w_X2_write
        rw [pa_cl (n := k) (by omega), px_l, pa_cl (n := 60 * k + i) (by omega)]
        have hcut : ∃ cv : Int32, (nI la = 0 → cv = Int8.toInt32 (Int32.toInt8 y_2)) ∧ (¬ nI la = 0 → nI la = 1 → cv = Int16.toInt32 (Int32.toInt16 y_2)) ∧ (¬ nI la = 0 → ¬ nI la = 1 → cv = y_2) := by
          by_cases l0 : nI la = 0
          · exact ⟨_, fun _ => rfl, fun q => absurd l0 q, fun q => absurd l0 q⟩
          · by_cases l1 : nI la = 1
            · exact ⟨_, fun q => absurd q l0, fun _ _ => rfl, fun _ q => absurd l1 q⟩
            · exact ⟨_, fun q => absurd q l0, fun _ q => absurd q l1, fun _ _ => rfl⟩
        obtain ⟨cv, x0, x1, x2⟩ := hcut
        refine ⟨v, xq_use1 cv (fun K hK => ⟨fun q0 => ⟨v, fun q1 => ?_, fun q1 => ?_⟩, fun q0 => ?_⟩) ⟨pa_vp (by omega) (by omega), ?_⟩⟩
        · rw [v3] at q0 q1; rw [x2 q0 q1] at hK; exact hK
        · rw [v3] at q0 q1; rw [x1 q0 q1] at hK; exact hK
        · rw [v3] at q0; rw [x0 q0] at hK; exact hK
        unfold w_X6_put
        refine (s_noSheet _ _).mpr ?_
        rw [decide_eq_true c]
        refine ⟨fun _ => s_noCell _ hk4 _ (fun q => by omega) (fun q q1 => by omega) (fun _ _ => ⟨fun _ => ⟨v, ?_⟩, fun q => absurd (by decide) q⟩), fun q => absurd rfl q⟩
        rw [pa_cl (n := k) (by omega), px_r, pa_cl (n := 60 * k + i) (by omega)]
        refine xq_use1 cv (fun K hK => ⟨fun q0 => ⟨v, fun q1 => ?_, fun q1 => ?_⟩, fun q0 => ?_⟩) ⟨pa_vp (by omega) (by omega), rfl, iv_mk hA2 hH hR ?_ hT rfl⟩
        · rw [v4] at q0 q1; rw [x2 q0 q1] at hK; exact hK
        · rw [v4] at q0 q1; rw [x1 q0 q1] at hK; exact hK
        · rw [v4] at q0; rw [x0 q0] at hK; exact hK
        intro k' hk'
        by_cases e : k' = k
        · subst e
          refine Or.inr ⟨la, sz, v1, v2, v3, v4, v5, v6, fun i' hi' => ?_⟩
          by_cases e2 : i' = i
          · subst e2; rw [pk_us, pk_us]
          · rw [pk_un (by omega), pk_un (by omega)]; exact v7 i' hi'
        · exact px_other (hS k' hk') rfl rfl rfl rfl (fun i' hi' => pk_un (by omega)) (fun i' hi' => pk_un (by omega))
      · rw [decide_eq_false d]
        refine ⟨fun q => absurd rfl q, fun _ => ?_⟩
        unfold w_X5_faulted
        dsimp only
        unfold w_X6_put
        refine (s_noSheet _ _).mpr ?_
        rw [decide_eq_true c]
        refine ⟨fun _ => s_noCell _ hk4 _ (fun q => by omega) (fun _ _ => ⟨fun q => absurd q (by decide), fun _ => s_noCell _ hk4 _ (fun q => by omega) (fun _ _ => ⟨rfl, iv_mk hA2 hH hR hS hT rfl⟩) (fun q q1 => by omega)⟩) (fun q q1 => by omega), fun q => absurd rfl q⟩
  · rw [decide_eq_false c]
    refine ⟨fun q => absurd rfl q, fun _ => ?_⟩
    unfold w_X6_put
    refine (s_noSheet _ _).mpr ?_
    rw [decide_eq_false c]
    exact ⟨fun q => absurd q (by decide), fun _ => ⟨rfl, iv_mk hA2 hH hR hS hT rfl⟩⟩
