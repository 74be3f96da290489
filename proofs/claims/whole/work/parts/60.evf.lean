theorem ev_24 {s_lanes : Nat → Int32} {s_sizes : Nat → Int32} {s_cells : Nat → Int32} {x_kinds : Nat → Int32} {x_digits : Nat → Int32} {x_causes : Nat → Int32} {x_effects : Nat → Int32} {x_things : Int32} {x_follows : Int32} {x_due : Int32} {t_kinds : Nat → Int32} {t_digits : Nat → Int32} {t_caseRow : Nat → Int32} {t_weights : Nat → Int32} {t_order : Nat → Int32} {t_calls : Nat → Int32} {t_things : Int32} {t_caseCount : Int32} {t_caseSet : Int64} {p_callsOfCase : Nat → Int64} {p_partOfCase : Nat → Int32} {p_callsOfPart : Nat → Int64} {p_cases : Int32} {p_parts : Int32} {r_cases : Nat → Int32} {r_hours : Nat → Int32} {r_sets : Nat → Int32} {r_count : Int32} {u_lists : Nat → Int32} {u_breaths : Nat → Int32} {u_heard : Nat → Int32} {u_traced : Int32} {u_lastFault : Int32} {n_fault : Int32} {n_things : Int32} {n_kindOf : Nat → Int32} {n_digitOf : Nat → Int32} {n_follows : Int32} {n_ifOf : Nat → Int32} {n_thenOf : Nat → Int32} {n_listOf : Nat → Int32} {n_breathOf : Nat → Int32} {n_heardOf : Nat → Int32} {n_readAt : Int32} {n_readThings : Int32} {n_readFollows : Int32} {n_readKind : Nat → Int32} {n_readDigit : Nat → Int32} {n_readIf : Nat → Int32} {n_readThen : Nat → Int32} {n_readings : Int32} {n_readingIn : Nat → Int32} {n_readingHour : Nat → Int32} {n_readingOf : Nat → Int32} {n_breathWas : Nat → Int32} {n_sheetSize : Nat → Int32} {n_sheetLane : Nat → Int32} {n_sheet : Nat → Int32} {n_hands : Nat → Int32} {n_traceNow : Int32} (h_i : iv_u s_lanes s_sizes s_cells x_kinds x_digits x_causes x_effects x_things x_follows x_due t_kinds t_digits t_caseRow t_weights t_order t_calls t_things t_caseCount t_caseSet p_callsOfCase p_partOfCase p_callsOfPart p_cases p_parts r_cases r_hours r_sets r_count u_lists u_breaths u_heard u_traced u_lastFault n_fault n_things n_kindOf n_digitOf n_follows n_ifOf n_thenOf n_listOf n_breathOf n_heardOf n_readAt n_readThings n_readFollows n_readKind n_readDigit n_readIf n_readThen n_readings n_readingIn n_readingHour n_readingOf n_breathWas n_sheetSize n_sheetLane n_sheet n_hands n_traceNow) (y_0 y_1 y_2 : Int32) : w_X5_cell s_lanes s_sizes s_cells u_lastFault y_0 y_1 y_2 (fun (r_1 : Int64) (k_u_lastFault : Int32) => w_X6_cell n_fault n_sheetSize n_sheetLane n_sheet y_0 y_1 y_2 (fun (r_2 : Int64) (k_n_fault : Int32) => r_1 = r_2 ∧ iv_u s_lanes s_sizes s_cells x_kinds x_digits x_causes x_effects x_things x_follows x_due t_kinds t_digits t_caseRow t_weights t_order t_calls t_things t_caseCount t_caseSet p_callsOfCase p_partOfCase p_callsOfPart p_cases p_parts r_cases r_hours r_sets r_count u_lists u_breaths u_heard u_traced k_u_lastFault k_n_fault n_things n_kindOf n_digitOf n_follows n_ifOf n_thenOf n_listOf n_breathOf n_heardOf n_readAt n_readThings n_readFollows n_readKind n_readDigit n_readIf n_readThen n_readings n_readingIn n_readingHour n_readingOf n_breathWas n_sheetSize n_sheetLane n_sheet n_hands n_traceNow)) := by 
  obtain ⟨n, fo, rc, kd, dg, fi, ft, li, br, mi, mr, rx, rh, hA, hH, hR, hS, hT, hF⟩ := iv_of h_i
  have hA2 := hA
  obtain ⟨hn, hfo, rfl, rfl, rfl, hf, hft, hk, hd, htk, htd, hpT, hcs, hW, hc⟩ := hA
  have h64 := pa_p2 hn
  have z0 : (0 : Int64).toInt = 0 := rfl
  have z2 : (2 : Int64).toInt = 2 := rfl
  unfold w_X5_cell
  rw [s_isSheet]
  by_cases c : 0 ≤ y_0.toInt ∧ y_0.toInt < 4
  · obtain ⟨k, hk4, rfl⟩ := ps_of (n := 4) (by omega) c
    have v := pa_vp (N := 4) hk4 (by omega)
    rw [decide_eq_true c]
    refine ⟨fun q => absurd q (by decide), fun _ => (s_isLane _ _).mpr ?_⟩
    by_cases c2 : 0 ≤ y_2.toInt ∧ y_2.toInt < 3
    · rw [decide_eq_true c2]
      refine ⟨fun _ => (s_mayBe _ hk4 _).mpr ?_, fun q => absurd q (by decide)⟩
      have key : ∀ post : Int64 → Int32 → Prop, (¬ (n_sheetSize k).toInt < 0 → ¬ n_sheetLane k = y_2 → post (-9223372036854775808) 2) → (((n_sheetSize k).toInt < 0 ∨ n_sheetLane k = y_2) → w_X6_noCell n_sheetSize (nI k) y_1 (fun (rr_12 : Int32) => (rr_12 ≤ 0 → ((vp_in (((60 : Int32) * nI k) + y_1) 240) ∧ (post (Int32.toInt64 (n_sheet (((60 : Int32) * nI k) + y_1).toNatClampNeg)) (0 : Int32)))) ∧ (¬ rr_12 ≤ 0 → (w_X6_noCell n_sheetSize (nI k) y_1 (fun (rr_14 : Int32) => w_X6_failedLong (0 : Int32) rr_14 (fun (rr_15 : Int64) (cc_16 : Int32) => post rr_15 cc_16)))))) → w_X6_cell n_fault n_sheetSize n_sheetLane n_sheet (nI k) y_1 y_2 post := fun post p1 p2 => by
        unfold w_X6_cell
        refine (s_noSheet _ _).mpr ?_
        rw [decide_eq_true c]
        refine ⟨fun q => absurd rfl q, fun _ => (s_in _ _ _ _).mpr ?_⟩
        rw [pa_i64, decide_eq_true (by omega), pa_cl (by omega), pa_l0]
        refine ⟨fun _ => ⟨v, ?_⟩, fun q => absurd q (by decide)⟩
        by_cases d1 : (n_sheetSize k).toInt < 0
        · exact xq_use0 (fun K hK => ⟨fun _ => hK, fun q => absurd d1 q⟩) (p2 (Or.inl d1))
        · by_cases d2 : n_sheetLane k = y_2
          · exact xq_use0 (fun K hK => ⟨fun _ => hK, fun _ => ⟨v, fun _ => hK, fun q => absurd d2 q⟩⟩) (p2 (Or.inr d2))
          · refine ⟨fun q => absurd q d1, fun _ => ⟨v, fun q => absurd q d2, fun _ => ?_⟩⟩
            exact p1 d1 d2
      rcases hS k hk4 with ⟨v1, v2, v3⟩ | ⟨la, sz, v1, v2, v3, v4, v5, v6, v7⟩
      · rw [decide_eq_true (Or.inl v1)]
        refine ⟨fun _ => (s_hasRow hk4 _).mpr ?_, fun q => absurd q (by decide)⟩
        rw [decide_eq_false (by simp [v1])]
        refine ⟨fun q => absurd rfl q, fun _ => ?_⟩
        have zz : (n_sheetSize k).toInt < 0 := by rw [v2]; decide
        refine key _ (fun q => absurd zz q) (fun _ => ?_)
        exact s_noCell _ hk4 _ (fun _ => ⟨fun q => absurd q (by decide), fun _ => s_noCell _ hk4 _ (fun _ => ⟨rfl, iv_mk hA2 hH hR hS hT rfl⟩) (fun q => by omega) (fun q => by omega)⟩) (fun q => by omega) (fun q => by omega)
      · have es : (s_sizes k).toInt = sz := by rw [v5, pa_nI _ (by omega)]
        have en : (n_sheetSize k).toInt = sz := by rw [v6, pa_nI _ (by omega)]
        by_cases c3 : nI la = y_2
        · rw [decide_eq_true (Or.inr (v3.trans c3))]
          refine ⟨fun _ => (s_hasRow hk4 _).mpr ?_, fun q => absurd q (by decide)⟩
          rw [decide_eq_true (by rw [v3]; exact ps_lane v1)]
          refine ⟨fun _ => s_isCell _ hk4 _ ?_, fun q => absurd q (by decide)⟩
          rw [es]
          by_cases d : 0 ≤ y_1.toInt ∧ y_1.toInt < sz
          · obtain ⟨i, hi, rfl⟩ := pa_of (x := y_1) (n := sz) d.1 d.2 (by omega)
            rw [decide_eq_true d]
            refine ⟨fun _ => ?_, fun q => absurd q (by decide)⟩
            refine s_at hk4 v5 hi v2 ?_
            rw [v7 i hi]
            refine key _ (fun _ q => absurd (v4.trans c3) q) (fun _ => ?_)
            rw [px_r, pa_cl (n := 60 * k + i) (by omega)]
            exact s_noCell _ hk4 _ (fun q => by omega) (fun q q1 => by omega) (fun _ _ => ⟨fun _ => ⟨pa_vp (by omega) (by omega), rfl, iv_mk hA2 hH hR hS hT rfl⟩, fun q => absurd (by decide) q⟩)
          · rw [decide_eq_false d]
            refine ⟨fun q => absurd rfl q, fun _ => ?_⟩
            refine key _ (fun _ q => absurd (v4.trans c3) q) (fun _ => ?_)
            exact s_noCell _ hk4 _ (fun q => by omega) (fun _ _ => ⟨fun q => absurd q (by decide), fun _ => s_noCell _ hk4 _ (fun q => by omega) (fun _ _ => ⟨rfl, iv_mk hA2 hH hR hS hT rfl⟩) (fun q q1 => by omega)⟩) (fun q q1 => by omega)
        · rw [decide_eq_false (fun w => w.elim (fun w => ps_lane v1 (v3.symm.trans w)) (fun w => c3 (v3.symm.trans w)))]
          refine ⟨fun q => absurd rfl q, fun _ => ?_⟩
          exact key _ (fun _ _ => ⟨rfl, iv_mk hA2 hH hR hS hT rfl⟩) (fun q => q.elim (fun q => by omega) (fun q => absurd (v4.symm.trans q) c3))
    · rw [decide_eq_false c2]
      refine ⟨fun q => absurd rfl q, fun _ => ?_⟩
      unfold w_X6_cell
      refine (s_noSheet _ _).mpr ?_
      rw [decide_eq_true c]
      refine xq_use0 (fun K hK => ⟨fun q => absurd rfl q, fun _ => (s_in _ _ _ _).mpr ?_⟩) ⟨rfl, iv_mk hA2 hH hR hS hT rfl⟩
      rw [pa_i64, decide_eq_false (by omega)]
      exact ⟨fun q => absurd rfl q, fun _ => hK⟩
  · rw [decide_eq_false c]
    refine ⟨fun _ => ?_, fun q => absurd rfl q⟩
    unfold w_X6_cell
    refine (s_noSheet _ _).mpr ?_
    rw [decide_eq_false c]
    exact xq_use0 (fun K hK => ⟨fun _ => hK, fun q => absurd q (by decide)⟩) ⟨rfl, iv_mk hA2 hH hR hS hT rfl⟩
theorem ev_25 {s_lanes : Nat → Int32} {s_sizes : Nat → Int32} {s_cells : Nat → Int32} {x_kinds : Nat → Int32} {x_digits : Nat → Int32} {x_causes : Nat → Int32} {x_effects : Nat → Int32} {x_things : Int32} {x_follows : Int32} {x_due : Int32} {t_kinds : Nat → Int32} {t_digits : Nat → Int32} {t_caseRow : Nat → Int32} {t_weights : Nat → Int32} {t_order : Nat → Int32} {t_calls : Nat → Int32} {t_things : Int32} {t_caseCount : Int32} {t_caseSet : Int64} {p_callsOfCase : Nat → Int64} {p_partOfCase : Nat → Int32} {p_callsOfPart : Nat → Int64} {p_cases : Int32} {p_parts : Int32} {r_cases : Nat → Int32} {r_hours : Nat → Int32} {r_sets : Nat → Int32} {r_count : Int32} {u_lists : Nat → Int32} {u_breaths : Nat → Int32} {u_heard : Nat → Int32} {u_traced : Int32} {u_lastFault : Int32} {n_fault : Int32} {n_things : Int32} {n_kindOf : Nat → Int32} {n_digitOf : Nat → Int32} {n_follows : Int32} {n_ifOf : Nat → Int32} {n_thenOf : Nat → Int32} {n_listOf : Nat → Int32} {n_breathOf : Nat → Int32} {n_heardOf : Nat → Int32} {n_readAt : Int32} {n_readThings : Int32} {n_readFollows : Int32} {n_readKind : Nat → Int32} {n_readDigit : Nat → Int32} {n_readIf : Nat → Int32} {n_readThen : Nat → Int32} {n_readings : Int32} {n_readingIn : Nat → Int32} {n_readingHour : Nat → Int32} {n_readingOf : Nat → Int32} {n_breathWas : Nat → Int32} {n_sheetSize : Nat → Int32} {n_sheetLane : Nat → Int32} {n_sheet : Nat → Int32} {n_hands : Nat → Int32} {n_traceNow : Int32} (h_i : iv_u s_lanes s_sizes s_cells x_kinds x_digits x_causes x_effects x_things x_follows x_due t_kinds t_digits t_caseRow t_weights t_order t_calls t_things t_caseCount t_caseSet p_callsOfCase p_partOfCase p_callsOfPart p_cases p_parts r_cases r_hours r_sets r_count u_lists u_breaths u_heard u_traced u_lastFault n_fault n_things n_kindOf n_digitOf n_follows n_ifOf n_thenOf n_listOf n_breathOf n_heardOf n_readAt n_readThings n_readFollows n_readKind n_readDigit n_readIf n_readThen n_readings n_readingIn n_readingHour n_readingOf n_breathWas n_sheetSize n_sheetLane n_sheet n_hands n_traceNow) (y_0 y_1 y_2 y_3 y_4 : Int32) : w_X5_copy s_lanes s_sizes s_cells u_lastFault y_0 y_1 y_2 y_3 y_4 (fun (r_1 : Int32) (k_s_cells : Nat → Int32) (k_u_lastFault : Int32) => w_X6_copy n_fault n_sheetSize n_sheetLane n_sheet n_hands y_0 y_1 y_2 y_3 y_4 (fun (r_2 : Int32) (k_n_fault : Int32) (k_n_sheet : Nat → Int32) (k_n_hands : Nat → Int32) => r_1 = r_2 ∧ iv_u s_lanes s_sizes k_s_cells x_kinds x_digits x_causes x_effects x_things x_follows x_due t_kinds t_digits t_caseRow t_weights t_order t_calls t_things t_caseCount t_caseSet p_callsOfCase p_partOfCase p_callsOfPart p_cases p_parts r_cases r_hours r_sets r_count u_lists u_breaths u_heard u_traced k_u_lastFault k_n_fault n_things n_kindOf n_digitOf n_follows n_ifOf n_thenOf n_listOf n_breathOf n_heardOf n_readAt n_readThings n_readFollows n_readKind n_readDigit n_readIf n_readThen n_readings n_readingIn n_readingHour n_readingOf n_breathWas n_sheetSize n_sheetLane k_n_sheet k_n_hands n_traceNow)) := by 
  obtain ⟨n, fo, rc, kd, dg, fi, ft, li, br, mi, mr, rx, rh, hA, hH, hR, hS, hT, hF⟩ := iv_of h_i
  have hA2 := hA
  obtain ⟨hn, hfo, rfl, rfl, rfl, hf, hft, hk, hd, htk, htd, hpT, hcs, hW, hc⟩ := hA
  have h64 := pa_p2 hn
  have key1 : ∀ post : Int32 → Int32 → (Nat → Int32) → (Nat → Int32) → Prop, ¬ ((0 ≤ y_0.toInt ∧ y_0.toInt < 4) ∧ (0 ≤ y_2.toInt ∧ y_2.toInt < 4)) → (∀ g, post (-1) 0 n_sheet g) → w_X6_copy n_fault n_sheetSize n_sheetLane n_sheet n_hands y_0 y_1 y_2 y_3 y_4 post := fun post hne hp => by
    unfold w_X6_copy
    refine (s_noSheet _ _).mpr ?_
    by_cases c : 0 ≤ y_0.toInt ∧ y_0.toInt < 4
    · rw [decide_eq_true c]
      refine xq_use0 (fun K hK => ⟨fun q => absurd rfl q, fun _ => (s_noSheet _ _).mpr ?_⟩) (hp _)
      rw [decide_eq_false (fun w => hne ⟨c, w⟩)]
      exact ⟨fun q => absurd q (by decide), fun _ => hK⟩
    · rw [decide_eq_false c]
      exact xq_use0 (fun K hK => ⟨fun _ => hK, fun q => absurd q (by decide)⟩) (hp _)
  unfold w_X5_copy
  rw [s_isSheet]
  by_cases c : 0 ≤ y_0.toInt ∧ y_0.toInt < 4
  · obtain ⟨k, hk4, rfl⟩ := ps_of (n := 4) (by omega) c
    have v := pa_vp (N := 4) hk4 (by omega)
    rw [decide_eq_true c]
    refine ⟨fun q => absurd q (by decide), fun _ => (s_isSheet _ _).mpr ?_⟩
    by_cases c2 : 0 ≤ y_2.toInt ∧ y_2.toInt < 4
    · obtain ⟨o, ho4, rfl⟩ := ps_of (n := 4) (by omega) c2
      have vo := pa_vp (N := 4) ho4 (by omega)
      rw [decide_eq_true c2]
      refine ⟨fun _ => (s_hasRow hk4 _).mpr ?_, fun q => absurd q (by decide)⟩
      have key2 : ∀ post : Int32 → Int32 → (Nat → Int32) → (Nat → Int32) → Prop, ((n_sheetSize k).toInt < 0 ∨ (n_sheetSize o).toInt < 0 → ∀ g, post (-11) 1 n_sheet g) → (¬ (n_sheetSize k).toInt < 0 → ¬ (n_sheetSize o).toInt < 0 → ¬ n_sheetLane k = n_sheetLane o → ∀ g, post (-12) 2 n_sheet g) → (¬ (n_sheetSize k).toInt < 0 → ¬ (n_sheetSize o).toInt < 0 → n_sheetLane k = n_sheetLane o → ¬ ((0 ≤ y_4.toInt ∧ 0 ≤ y_1.toInt ∧ y_1.toInt + y_4.toInt ≤ (n_sheetSize k).toInt) ∧ (0 ≤ y_4.toInt ∧ 0 ≤ y_3.toInt ∧ y_3.toInt + y_4.toInt ≤ (n_sheetSize o).toInt)) → ∀ g, post (-13) 3 n_sheet g) → (¬ (n_sheetSize k).toInt < 0 → ¬ (n_sheetSize o).toInt < 0 → n_sheetLane k = n_sheetLane o → (0 ≤ y_4.toInt ∧ 0 ≤ y_1.toInt ∧ y_1.toInt + y_4.toInt ≤ (n_sheetSize k).toInt) → (0 ≤ y_4.toInt ∧ 0 ≤ y_3.toInt ∧ y_3.toInt + y_4.toInt ≤ (n_sheetSize o).toInt) → ∃ e_107, w_X6_copy_L107 (nI k) y_1 (nI o) y_3 y_4 n_fault n_sheetSize n_sheetLane n_sheet post (fun (xx_16 : Nat → Int32) => ∃ e_144, w_X6_copy_L144 (nI o) y_3 y_4 n_fault n_sheetSize n_sheetLane xx_16 post (fun (xx_19 : Nat → Int32) => w_X6_refused n_fault y_4 (fun (rr_20 : Int32) (cc_21 : Int32) => post rr_20 cc_21 xx_19 xx_16)) e_144 (0 : Int32) n_sheet) e_107 (0 : Int32) n_hands) → w_X6_copy n_fault n_sheetSize n_sheetLane n_sheet n_hands (nI k) y_1 (nI o) y_3 y_4 post := fun post p1 p2 p3 p4 => by
        unfold w_X6_copy
        refine (s_noSheet _ _).mpr ?_
        rw [decide_eq_true c]
        refine ⟨fun q => absurd rfl q, fun _ => (s_noSheet _ _).mpr ?_⟩
        rw [decide_eq_true c2, pa_cl (n := k) (by omega), pa_cl (n := o) (by omega), pa_l0, pa_le 0 (n_sheetSize o), show (0 : Int32).toInt = 0 from rfl]
        refine ⟨fun _ => ⟨v, ?_⟩, fun q => absurd rfl q⟩
        by_cases d1 : (n_sheetSize k).toInt < 0
        · exact xq_use0 (fun K hK => ⟨fun _ => hK, fun q => absurd d1 q⟩) (p1 (Or.inl d1) _)
        · by_cases d2 : (n_sheetSize o).toInt < 0
          · exact xq_use0 (fun K hK => ⟨fun _ => hK, fun _ => ⟨vo, fun q => by omega, fun _ => hK⟩⟩) (p1 (Or.inr d2) _)
          · refine ⟨fun q => absurd q d1, fun _ => ⟨vo, fun _ => ⟨v, vo, fun d3 => ⟨v, ?_⟩, fun d3 => p2 d1 d2 d3 _⟩, fun q => by omega⟩⟩
            refine s_beyond _ _ _ _ ?_
            by_cases d4 : 0 ≤ y_4.toInt ∧ 0 ≤ y_1.toInt ∧ y_1.toInt + y_4.toInt ≤ (n_sheetSize k).toInt
            · rw [decide_eq_true d4]
              by_cases d5 : 0 ≤ y_4.toInt ∧ 0 ≤ y_3.toInt ∧ y_3.toInt + y_4.toInt ≤ (n_sheetSize o).toInt
              · refine ⟨fun q => absurd rfl q, fun _ => ⟨vo, s_beyond _ _ _ _ ?_⟩⟩
                rw [decide_eq_true d5]
                exact ⟨fun _ => p4 d1 d2 d3 d4 d5, fun q => absurd rfl q⟩
              · refine xq_use0 (fun K hK => ⟨fun q => absurd rfl q, fun _ => ⟨vo, s_beyond _ _ _ _ ?_⟩⟩) (p3 d1 d2 d3 (fun w => d5 w.2) _)
                rw [decide_eq_false d5]
                exact ⟨fun q => absurd q (by decide), fun _ => hK⟩
            · rw [decide_eq_false d4]
              exact xq_use0 (fun K hK => ⟨fun _ => hK, fun q => absurd q (by decide)⟩) (p3 d1 d2 d3 (fun w => d4 w.1) _)
      rcases hS k hk4 with ⟨v1, v2, v3⟩ | ⟨la, sz, v1, v2, v3, v4, v5, v6, v7⟩
      · rw [decide_eq_false (by simp [v1])]
        have zz : (n_sheetSize k).toInt < 0 := by rw [v2]; decide
        refine xq_use0 (fun K hK => ⟨fun _ => hK, fun q => absurd rfl q⟩) ?_
        exact key2 _ (fun _ g => ⟨rfl, iv_mk hA2 hH hR hS hT rfl⟩) (fun q => absurd zz q) (fun q => absurd zz q) (fun q => absurd zz q)
      · have es : (s_sizes k).toInt = sz := by rw [v5, pa_nI _ (by omega)]
        have en : (n_sheetSize k).toInt = sz := by rw [v6, pa_nI _ (by omega)]
        rw [decide_eq_true (by rw [v3]; exact ps_lane v1)]
        rcases hS o ho4 with ⟨w1, w2, w3⟩ | ⟨lo, so, w1, w2, w3, w4, w5, w6, w7⟩
        · have zz : (n_sheetSize o).toInt < 0 := by rw [w2]; decide
          refine xq_use0 (fun K hK => ⟨fun q => absurd q (by decide), fun _ => (s_hasRow ho4 _).mpr ?_⟩) ?_
          · rw [decide_eq_false (by simp [w1])]
            exact ⟨fun q => absurd rfl q, fun _ => hK⟩
          · exact key2 _ (fun _ g => ⟨rfl, iv_mk hA2 hH hR hS hT rfl⟩) (fun _ q => absurd zz q) (fun _ q => absurd zz q) (fun _ q => absurd zz q)
        · have eo : (n_sheetSize o).toInt = so := by rw [w6, pa_nI _ (by omega)]
          refine ⟨fun q => absurd q (by decide), fun _ => (s_hasRow ho4 _).mpr ?_⟩
          rw [decide_eq_true (by rw [w3]; exact ps_lane w1), pa_cl (n := k) (by omega), pa_cl (n := o) (by omega), v3, w3]
          refine ⟨fun _ => ⟨v, vo, fun d3 => ?_, fun d3 => ?_⟩, fun q => absurd q (by decide)⟩
          · have d3' : n_sheetLane k = n_sheetLane o := by rw [v4, w4, d3]
            refine s_hasCells _ _ hk4 v5 v2 _ ?_
            by_cases d4 : 0 ≤ y_4.toInt ∧ 0 ≤ y_1.toInt ∧ y_1.toInt + y_4.toInt ≤ sz
            · rw [decide_eq_true d4]
              by_cases d5 : 0 ≤ y_4.toInt ∧ 0 ≤ y_3.toInt ∧ y_3.toInt + y_4.toInt ≤ so
              · refine ⟨fun q => absurd q (by decide), fun _ => s_hasCells _ _ ho4 w5 w2 _ ?_⟩
                rw [decide_eq_true d5]
                refine ⟨fun _ => ?_, fun q => absurd q (by decide)⟩
                obtain ⟨i, hi, rfl⟩ := pa_of (x := y_1) (n := 61) d4.2.1 (by omega) (by omega)
                obtain ⟨j, hj, rfl⟩ := pa_of (x := y_3) (n := 61) d5.2.1 (by omega) (by omega)
                obtain ⟨N, hN, rfl⟩ := pa_of (x := y_4) (n := 61) d4.1 (by omega) (by omega)
                have t1 := pa_nI i (by omega)
                have t2 := pa_nI j (by omega)
                have t3 := pa_nI N (by omega)
                refine s_move hk4 ho4 (by omega) (by omega) (fun cc m1 m2 => ?_)
                refine key2 _ (fun q => by omega) (fun _ _ q => absurd d3' q) (fun _ _ _ q => absurd ⟨by omega, by omega⟩ q) (fun _ _ _ _ _ => ?_)
                refine px_hands hk4 (by omega) (fun g hg => px_place ho4 (by omega) (fun m n1 n2 => ?_))
                refine ⟨rfl, iv_mk hA2 hH hR ?_ hT rfl⟩
                intro k' hk'
                by_cases e : k' = o
                · subst e
                  refine Or.inr ⟨lo, so, w1, w2, w3, w4, w5, w6, fun t ht => ?_⟩
                  by_cases e2 : j ≤ t ∧ t < j + N
                  · have et : t = j + (t - j) := by omega
                    rw [et, m1 (t - j) (by omega), n1 (t - j) (by omega), hg (t - j) (by omega)]
                    exact v7 _ (by omega)
                  · rw [m2 _ (fun u hu => by omega), n2 _ (fun u hu => by omega)]
                    exact w7 t ht
                · exact px_other (hS k' hk') rfl rfl rfl rfl (fun t ht => m2 _ (fun u hu => by omega)) (fun t ht => n2 _ (fun u hu => by omega))
              · refine xq_use0 (fun K hK => ⟨fun q => absurd q (by decide), fun _ => s_hasCells _ _ ho4 w5 w2 _ ?_⟩) ?_
                · rw [decide_eq_false d5]
                  exact ⟨fun q => absurd rfl q, fun _ => hK⟩
                · exact key2 _ (fun q => by omega) (fun _ _ q => absurd d3' q) (fun _ _ _ _ g => ⟨rfl, iv_mk hA2 hH hR hS hT rfl⟩) (fun _ _ _ _ q => absurd (by omega) d5)
            · rw [decide_eq_false d4]
              refine xq_use0 (fun K hK => ⟨fun _ => hK, fun q => absurd rfl q⟩) ?_
              exact key2 _ (fun q => by omega) (fun _ _ q => absurd d3' q) (fun _ _ _ _ g => ⟨rfl, iv_mk hA2 hH hR hS hT rfl⟩) (fun _ _ _ q _ => absurd (by omega) d4)
          · have d3' : ¬ n_sheetLane k = n_sheetLane o := fun w => d3 (by rw [v4, w4] at w; exact w)
            exact key2 _ (fun q => by omega) (fun _ _ _ g => ⟨rfl, iv_mk hA2 hH hR hS hT rfl⟩) (fun _ _ q => absurd q d3') (fun _ _ q => absurd q d3')
    · rw [decide_eq_false c2]
      refine ⟨fun q => absurd rfl q, fun _ => ?_⟩
      exact key1 _ (fun w => c2 w.2) (fun g => ⟨rfl, iv_mk hA2 hH hR hS hT rfl⟩)
  · rw [decide_eq_false c]
    refine ⟨fun _ => ?_, fun q => absurd rfl q⟩
    exact key1 _ (fun w => c w.1) (fun g => ⟨rfl, iv_mk hA2 hH hR hS hT rfl⟩)
