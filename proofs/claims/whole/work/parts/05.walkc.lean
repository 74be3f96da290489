def w_X4_isThing (t_things : Int32) (a_1 : Int32) (post : Int32 → Prop) : Prop := (a_1 < 0 → (post (0 : Int32))) ∧ (¬ a_1 < 0 → ((t_things ≤ a_1 → (post (0 : Int32))) ∧ (¬ t_things ≤ a_1 → (((6 : Int32) ≤ a_1 → (post (0 : Int32))) ∧ (¬ (6 : Int32) ≤ a_1 → (post (1 : Int32)))))))
set_option maxHeartbeats 4000000 in
set_option maxRecDepth 100000 in
theorem m_X4_isThing (l : Launch) (dC : Nat → ClassId) (dI : Nat → Nat → Nat) (cyI cyJ : ClassId) (aa : Nat → Nat) (sz : Nat) {s_lanes : Nat → Int32} {s_sizes : Nat → Int32} {s_cells : Nat → Int32} {x_kinds : Nat → Int32} {x_digits : Nat → Int32} {x_causes : Nat → Int32} {x_effects : Nat → Int32} {x_things : Int32} {x_follows : Int32} {x_due : Int32} {t_kinds : Nat → Int32} {t_digits : Nat → Int32} {t_caseRow : Nat → Int32} {t_weights : Nat → Int32} {t_order : Nat → Int32} {t_calls : Nat → Int32} {t_things : Int32} {t_caseCount : Int32} {t_caseSet : Int64} {p_callsOfCase : Nat → Int64} {p_partOfCase : Nat → Int32} {p_callsOfPart : Nat → Int64} {p_cases : Int32} {p_parts : Int32} {r_cases : Nat → Int32} {r_hours : Nat → Int32} {r_sets : Nat → Int32} {r_count : Int32} {u_lists : Nat → Int32} {u_breaths : Nat → Int32} {u_heard : Nat → Int32} {u_traced : Int32} {u_lastFault : Int32} {a_1 : Int32} {post : Int32 → Prop} (h : w_X4_isThing t_things a_1 post) : Met l yX4_isThing wsX4_isThing (xq_R 0 0) (va_Pc [.ref (aa 10), .int a_1] (xq_P (dC, dI) [(cyI, .int), (cyJ, .long)] (wc_u cyI cyJ aa s_lanes s_sizes s_cells x_kinds x_digits x_causes x_effects x_things x_follows x_due t_kinds t_digits t_caseRow t_weights t_order t_calls t_things t_caseCount t_caseSet p_callsOfCase p_partOfCase p_callsOfPart p_cases p_parts r_cases r_hours r_sets r_count u_lists u_breaths u_heard u_traced u_lastFault) sz)) (va_Qi (fun (rr : Int32) (uu : Unit) => post rr ) (fun (uu : Unit) => xq_B (dC, dI) [(cyI, .int), (cyJ, .long)] (va_A (wc_u cyI cyJ aa s_lanes s_sizes s_cells x_kinds x_digits x_causes x_effects x_things x_follows x_due t_kinds t_digits t_caseRow t_weights t_order t_calls t_things t_caseCount t_caseSet p_callsOfCase p_partOfCase p_callsOfPart p_cases p_parts r_cases r_hours r_sets r_count u_lists u_breaths u_heard u_traced u_lastFault) sz) (wc_u cyI cyJ aa s_lanes s_sizes s_cells x_kinds x_digits x_causes x_effects x_things x_follows x_due t_kinds t_digits t_caseRow t_weights t_order t_calls t_things t_caseCount t_caseSet p_callsOfCase p_partOfCase p_callsOfPart p_cases p_parts r_cases r_hours r_sets r_count u_lists u_breaths u_heard u_traced u_lastFault)) (va_A (wc_u cyI cyJ aa s_lanes s_sizes s_cells x_kinds x_digits x_causes x_effects x_things x_follows x_due t_kinds t_digits t_caseRow t_weights t_order t_calls t_things t_caseCount t_caseSet p_callsOfCase p_partOfCase p_callsOfPart p_cases p_parts r_cases r_hours r_sets r_count u_lists u_breaths u_heard u_traced u_lastFault) sz)) 0 0 (va_A (wc_u cyI cyJ aa s_lanes s_sizes s_cells x_kinds x_digits x_causes x_effects x_things x_follows x_due t_kinds t_digits t_caseRow t_weights t_order t_calls t_things t_caseCount t_caseSet p_callsOfCase p_partOfCase p_callsOfPart p_cases p_parts r_cases r_hours r_sets r_count u_lists u_breaths u_heard u_traced u_lastFault) sz) := by
  refine xq_M (cc := cX4_isThing) (maxL := 2) (ret := (some .boolean)) (QA := fun A => va_Qi (fun (rr : Int32) (uu : Unit) => post rr ) (fun (uu : Unit) => xq_B (dC, dI) [(cyI, .int), (cyJ, .long)] A (wc_u cyI cyJ aa s_lanes s_sizes s_cells x_kinds x_digits x_causes x_effects x_things x_follows x_due t_kinds t_digits t_caseRow t_weights t_order t_calls t_things t_caseCount t_caseSet p_callsOfCase p_partOfCase p_callsOfPart p_cases p_parts r_cases r_hours r_sets r_count u_lists u_breaths u_heard u_traced u_lastFault)) A) (by decide) rfl (Nat.le_of_ble_eq_true rfl) ?_
  intro p e s m args below meth c A ls Q hQ hx hb hr hml hts hown hlocks hsz hP hK hD hA hS hN hl
  subst hsz
  have hl : lv_has ls 2 [(0, .ref (aa 10)), (1, .int a_1)] := hl
  have hi_X4 : ∀ w ∈ wsX40, w ∈ wsX4_isThing := fun _ h => List.mem_cons_of_mem _ (List.mem_append_right _ h)
  have fl_30 := hts (.fieldLink RX4 30 "UnsaidCalls$Town" "things" "I") (by decide +kernel)
  unfold w_X4_isThing at h
  refine lv_iload_n hx hb dX4_isThing_0 rfl (lv_at hl 1 rfl) ?_
  refine lv_if_lt (tgt := 22) hx hb dX4_isThing_1 (by decide) (fun hc_3 => ?_) (fun hc_3 => ?_)
  · have h := h.1 hc_3
    refine lv_iconst (v := (0 : Int32)) hx hb dX4_isThing_22 (by decide) ?_
    exact xq_rz hQ hx hb hr (by decide) hP hK hD hS () rfl h dX4_isThing_23 hlocks
  · have h := h.2 hc_3
    refine lv_iload_n hx hb dX4_isThing_4 rfl (lv_at hl 1 rfl) ?_
    refine lv_aload_n hx hb dX4_isThing_5 rfl (lv_at hl 0 rfl) ?_
    refine va_get (D := (dC, dI)) (ci := 4) (v := .int t_things) (C := RX4) (T := TX4) (N := 9) hx hb hts hi_X4 hown hK hP 10 rfl rfl 6 (by decide) fl_30 (fun _ h9 => h9) rfl dX4_isThing_6 ?_
    refine lv_icmp_ge (tgt := 22) hx hb dX4_isThing_9 (by decide) (fun hc_2 => ?_) (fun hc_2 => ?_)
    · have h := h.1 hc_2
      refine lv_iconst (v := (0 : Int32)) hx hb dX4_isThing_22 (by decide) ?_
      exact xq_rz hQ hx hb hr (by decide) hP hK hD hS () rfl h dX4_isThing_23 hlocks
    · have h := h.2 hc_2
      refine lv_iload_n hx hb dX4_isThing_12 rfl (lv_at hl 1 rfl) ?_
      refine lv_bipush (v := (6 : Int32)) hx hb dX4_isThing_13 (by decide) ?_
      refine lv_icmp_ge (tgt := 22) hx hb dX4_isThing_15 (by decide) (fun hc_1 => ?_) (fun hc_1 => ?_)
      · have h := h.1 hc_1
        refine lv_iconst (v := (0 : Int32)) hx hb dX4_isThing_22 (by decide) ?_
        exact xq_rz hQ hx hb hr (by decide) hP hK hD hS () rfl h dX4_isThing_23 hlocks
      · have h := h.2 hc_1
        refine lv_iconst (v := (1 : Int32)) hx hb dX4_isThing_18 (by decide) ?_
        refine lv_goto (tgt := 23) hx hb dX4_isThing_19 (by decide) ?_
        exact xq_rz hQ hx hb hr (by decide) hP hK hD hS () rfl h dX4_isThing_23 hlocks
def w_X4_wordsIn_L4 (a_1 : Int32) (t_kinds : Nat → Int32) (t_things : Int32) (post : Int32 → Prop) (kk : Int32 → Prop) : Nat → Int32 → Int32 → Prop
  | 0, _, _ => False
  | f_4 + 1, a_2, a_3 => (t_things ≤ a_3 → (kk a_2)) ∧ (¬ t_things ≤ a_3 → (((6 : Int32) ≤ a_3 → (kk a_2)) ∧ (¬ (6 : Int32) ≤ a_3 → (w_X5_has a_1 a_3 (fun (rr_1 : Int32) => (rr_1 = 0 → (w_X4_wordsIn_L4 a_1 t_kinds t_things post kk f_4 a_2 (a_3 + (1 : Int32)))) ∧ (¬ rr_1 = 0 → ((vp_in a_3 6) ∧ (w_X5_wordsOfKind (t_kinds a_3.toNatClampNeg) (fun (rr_3 : Int32) => w_X4_wordsIn_L4 a_1 t_kinds t_things post kk f_4 (a_2 + rr_3) (a_3 + (1 : Int32)))))))))))
def w_X4_wordsIn (t_kinds : Nat → Int32) (t_things : Int32) (a_1 : Int32) (post : Int32 → Prop) : Prop := ∃ e_4, w_X4_wordsIn_L4 a_1 t_kinds t_things post (fun (xx_11 : Int32) => post xx_11) e_4 (0 : Int32) (0 : Int32)
set_option maxHeartbeats 4000000 in
set_option maxRecDepth 100000 in
theorem m_X4_wordsIn (l : Launch) (dC : Nat → ClassId) (dI : Nat → Nat → Nat) (cyI cyJ : ClassId) (aa : Nat → Nat) (sz : Nat) {s_lanes : Nat → Int32} {s_sizes : Nat → Int32} {s_cells : Nat → Int32} {x_kinds : Nat → Int32} {x_digits : Nat → Int32} {x_causes : Nat → Int32} {x_effects : Nat → Int32} {x_things : Int32} {x_follows : Int32} {x_due : Int32} {t_kinds : Nat → Int32} {t_digits : Nat → Int32} {t_caseRow : Nat → Int32} {t_weights : Nat → Int32} {t_order : Nat → Int32} {t_calls : Nat → Int32} {t_things : Int32} {t_caseCount : Int32} {t_caseSet : Int64} {p_callsOfCase : Nat → Int64} {p_partOfCase : Nat → Int32} {p_callsOfPart : Nat → Int64} {p_cases : Int32} {p_parts : Int32} {r_cases : Nat → Int32} {r_hours : Nat → Int32} {r_sets : Nat → Int32} {r_count : Int32} {u_lists : Nat → Int32} {u_breaths : Nat → Int32} {u_heard : Nat → Int32} {u_traced : Int32} {u_lastFault : Int32} {a_1 : Int32} {post : Int32 → Prop} (h : w_X4_wordsIn t_kinds t_things a_1 post) : Met l yX4_wordsIn wsX4_wordsIn (xq_R 1 21) (va_Pc [.ref (aa 10), .int a_1] (xq_P (dC, dI) [(cyI, .int), (cyJ, .long)] (wc_u cyI cyJ aa s_lanes s_sizes s_cells x_kinds x_digits x_causes x_effects x_things x_follows x_due t_kinds t_digits t_caseRow t_weights t_order t_calls t_things t_caseCount t_caseSet p_callsOfCase p_partOfCase p_callsOfPart p_cases p_parts r_cases r_hours r_sets r_count u_lists u_breaths u_heard u_traced u_lastFault) sz)) (va_Qi (fun (rr : Int32) (uu : Unit) => post rr ) (fun (uu : Unit) => xq_B (dC, dI) [(cyI, .int), (cyJ, .long)] (va_A (wc_u cyI cyJ aa s_lanes s_sizes s_cells x_kinds x_digits x_causes x_effects x_things x_follows x_due t_kinds t_digits t_caseRow t_weights t_order t_calls t_things t_caseCount t_caseSet p_callsOfCase p_partOfCase p_callsOfPart p_cases p_parts r_cases r_hours r_sets r_count u_lists u_breaths u_heard u_traced u_lastFault) sz) (wc_u cyI cyJ aa s_lanes s_sizes s_cells x_kinds x_digits x_causes x_effects x_things x_follows x_due t_kinds t_digits t_caseRow t_weights t_order t_calls t_things t_caseCount t_caseSet p_callsOfCase p_partOfCase p_callsOfPart p_cases p_parts r_cases r_hours r_sets r_count u_lists u_breaths u_heard u_traced u_lastFault)) (va_A (wc_u cyI cyJ aa s_lanes s_sizes s_cells x_kinds x_digits x_causes x_effects x_things x_follows x_due t_kinds t_digits t_caseRow t_weights t_order t_calls t_things t_caseCount t_caseSet p_callsOfCase p_partOfCase p_callsOfPart p_cases p_parts r_cases r_hours r_sets r_count u_lists u_breaths u_heard u_traced u_lastFault) sz)) 0 0 (va_A (wc_u cyI cyJ aa s_lanes s_sizes s_cells x_kinds x_digits x_causes x_effects x_things x_follows x_due t_kinds t_digits t_caseRow t_weights t_order t_calls t_things t_caseCount t_caseSet p_callsOfCase p_partOfCase p_callsOfPart p_cases p_parts r_cases r_hours r_sets r_count u_lists u_breaths u_heard u_traced u_lastFault) sz) := by
  refine xq_M (cc := cX4_wordsIn) (maxL := 4) (ret := (some .int)) (QA := fun A => va_Qi (fun (rr : Int32) (uu : Unit) => post rr ) (fun (uu : Unit) => xq_B (dC, dI) [(cyI, .int), (cyJ, .long)] A (wc_u cyI cyJ aa s_lanes s_sizes s_cells x_kinds x_digits x_causes x_effects x_things x_follows x_due t_kinds t_digits t_caseRow t_weights t_order t_calls t_things t_caseCount t_caseSet p_callsOfCase p_partOfCase p_callsOfPart p_cases p_parts r_cases r_hours r_sets r_count u_lists u_breaths u_heard u_traced u_lastFault)) A) (by decide) rfl (Nat.le_of_ble_eq_true rfl) ?_
  intro p e s m args below meth c A ls Q hQ hx hb hr hml hts hown hlocks hsz hP hK hD hA hS hN hl
  subst hsz
  have hl : lv_has ls 4 [(0, .ref (aa 10)), (1, .int a_1)] := hl
  have hi_X4 : ∀ w ∈ wsX40, w ∈ wsX4_wordsIn := fun _ h => List.mem_cons_of_mem _ (List.mem_append_right _ h)
  have fl_9 := hts (.fieldLink RX4 9 "UnsaidCalls$Town" "kinds" "[I") (by decide +kernel)
  have fl_30 := hts (.fieldLink RX4 30 "UnsaidCalls$Town" "things" "I") (by decide +kernel)
  unfold w_X4_wordsIn at h
  refine lv_iconst (v := (0 : Int32)) hx hb dX4_wordsIn_0 (by decide) ?_
  refine lv_istore_n (lv' := [(2, .int (0 : Int32)), (0, .ref (aa 10)), (1, .int a_1)]) hx hb dX4_wordsIn_1 rfl hl (by decide) rfl (fun ls hl => ?_)
  refine lv_iconst (v := (0 : Int32)) hx hb dX4_wordsIn_2 (by decide) ?_
  refine lv_istore_n (lv' := [(3, .int (0 : Int32)), (2, .int (0 : Int32)), (0, .ref (aa 10)), (1, .int a_1)]) hx hb dX4_wordsIn_3 rfl hl (by decide) rfl (fun ls hl => ?_)
  obtain ⟨ni, h⟩ := h
  have lp_4 : ∀ (kk : Int32 → Prop), (∀ (xx_11 : Int32) (H : Heap) (locs : List Loc) (ls : Array Slot), va_P (dC, dI) vwCl (wc_u cyI cyJ aa s_lanes s_sizes s_cells x_kinds x_digits x_causes x_effects x_things x_follows x_due t_kinds t_digits t_caseRow t_weights t_order t_calls t_things t_caseCount t_caseSet p_callsOfCase p_partOfCase p_callsOfPart p_cases p_parts r_cases r_hours r_sets r_count u_lists u_breaths u_heard u_traced u_lastFault) H → va_D A (wc_u cyI cyJ aa s_lanes s_sizes s_cells x_kinds x_digits x_causes x_effects x_things x_follows x_due t_kinds t_digits t_caseRow t_weights t_order t_calls t_things t_caseCount t_caseSet p_callsOfCase p_partOfCase p_callsOfPart p_cases p_parts r_cases r_hours r_sets r_count u_lists u_breaths u_heard u_traced u_lastFault) → va_S A s.heap H locs → lv_has ls 4 [(2, .int xx_11)] → kk xx_11 → W p l e (xq_R 1 21) s m args below meth c H locs 0 0 Q (F0 m 44 ls [])) → ∀ (ni : Nat) (aa_9 : Int32) (aa_10 : Int32) (H : Heap) (locs : List Loc) (ls : Array Slot), va_P (dC, dI) vwCl (wc_u cyI cyJ aa s_lanes s_sizes s_cells x_kinds x_digits x_causes x_effects x_things x_follows x_due t_kinds t_digits t_caseRow t_weights t_order t_calls t_things t_caseCount t_caseSet p_callsOfCase p_partOfCase p_callsOfPart p_cases p_parts r_cases r_hours r_sets r_count u_lists u_breaths u_heard u_traced u_lastFault) H → va_D A (wc_u cyI cyJ aa s_lanes s_sizes s_cells x_kinds x_digits x_causes x_effects x_things x_follows x_due t_kinds t_digits t_caseRow t_weights t_order t_calls t_things t_caseCount t_caseSet p_callsOfCase p_partOfCase p_callsOfPart p_cases p_parts r_cases r_hours r_sets r_count u_lists u_breaths u_heard u_traced u_lastFault) → va_S A s.heap H locs → lv_has ls 4 [(0, .ref (aa 10)), (1, .int a_1), (2, .int aa_9), (3, .int aa_10)] → w_X4_wordsIn_L4 a_1 t_kinds t_things post kk ni aa_9 aa_10 → W p l e (xq_R 1 21) s m args below meth c H locs 0 0 Q (F0 m 4 ls []) := by
    intro kk kx ni
    induction ni with
    | zero => intros; exact False.elim (by assumption)
    | succ ni ih =>
      intro aa_9 aa_10 H locs ls hP hD hS hl h
      rw [w_X4_wordsIn_L4] at h
      refine lv_iload_n hx hb dX4_wordsIn_4 rfl (lv_at hl 3 rfl) ?_
      refine lv_aload_n hx hb dX4_wordsIn_5 rfl (lv_at hl 0 rfl) ?_
      refine va_get (D := (dC, dI)) (ci := 4) (v := .int t_things) (C := RX4) (T := TX4) (N := 9) hx hb hts hi_X4 hown hK hP 10 rfl rfl 6 (by decide) fl_30 (fun _ h9 => h9) rfl dX4_wordsIn_6 ?_
      refine lv_icmp_ge (tgt := 44) hx hb dX4_wordsIn_9 (by decide) (fun hc_19 => ?_) (fun hc_19 => ?_)
      · have h := h.1 hc_19
        exact kx aa_9 _ _ _ hP hD hS (lv_sub hl [2] rfl) h
      · have h := h.2 hc_19
        refine lv_iload_n hx hb dX4_wordsIn_12 rfl (lv_at hl 3 rfl) ?_
        refine lv_bipush (v := (6 : Int32)) hx hb dX4_wordsIn_13 (by decide) ?_
        refine lv_icmp_ge (tgt := 44) hx hb dX4_wordsIn_15 (by decide) (fun hc_18 => ?_) (fun hc_18 => ?_)
        · have h := h.1 hc_18
          exact kx aa_9 _ _ _ hP hD hS (lv_sub hl [2] rfl) h
        · have h := h.2 hc_18
          refine lv_iload_n hx hb dX4_wordsIn_18 rfl (lv_at hl 1 rfl) ?_
          refine lv_iload_n hx hb dX4_wordsIn_19 rfl (lv_at hl 3 rfl) ?_
          refine xq_ci (va_runSN (As := [.int a_1, .int aa_10]) (rest := []) ⟨hx, hb, hml, hown, hts⟩ (m_X5_has l dC dI cyI cyJ (wc_u cyI cyJ aa s_lanes s_sizes s_cells x_kinds x_digits x_causes x_effects x_things x_follows x_due t_kinds t_digits t_caseRow t_weights t_order t_calls t_things t_caseCount t_caseSet p_callsOfCase p_partOfCase p_callsOfPart p_cases p_parts r_cases r_hours r_sets r_count u_lists u_breaths u_heard u_traced u_lastFault) H.size h) ⟨va_cnB 2 hts ggX4_wordsIn_X5_has rfl rfl rfl hN.2.1 (hts (.initialized RX5) (by decide +kernel)) (by decide +kernel) ⟨Nat.le_of_ble_eq_true rfl, Nat.le_of_ble_eq_true rfl⟩, hts (.static yX5_has) (by decide +kernel), trivial⟩ (xq_preS hK hP hD hN) rfl rfl hl.1 rfl (lv_room (Nat.le_of_ble_eq_true rfl)) dX4_wordsIn_20 ⟨Nat.le_refl _, Nat.le_refl _⟩) hD hS hA (fun rr_12 uu H locs h hP hD hS => ?_)
          have hP : va_P (dC, dI) vwCl (wc_u cyI cyJ aa s_lanes s_sizes s_cells x_kinds x_digits x_causes x_effects x_things x_follows x_due t_kinds t_digits t_caseRow t_weights t_order t_calls t_things t_caseCount t_caseSet p_callsOfCase p_partOfCase p_callsOfPart p_cases p_parts r_cases r_hours r_sets r_count u_lists u_breaths u_heard u_traced u_lastFault) H := hP
          have hD : va_D A (wc_u cyI cyJ aa s_lanes s_sizes s_cells x_kinds x_digits x_causes x_effects x_things x_follows x_due t_kinds t_digits t_caseRow t_weights t_order t_calls t_things t_caseCount t_caseSet p_callsOfCase p_partOfCase p_callsOfPart p_cases p_parts r_cases r_hours r_sets r_count u_lists u_breaths u_heard u_traced u_lastFault) := hD
          refine lv_if_eq (tgt := 38) hx hb dX4_wordsIn_23 (by decide) (fun hc_16 => ?_) (fun hc_16 => ?_)
          · have h := h.1 hc_16
            refine lv_iinc (v := (aa_10 + (1 : Int32))) (lv' := [(3, .int (aa_10 + (1 : Int32))), (0, .ref (aa 10)), (1, .int a_1), (2, .int aa_9)]) hx hb dX4_wordsIn_38 hl (k := 3) rfl rfl (by decide) rfl (fun ls hl => ?_)
            refine lv_goto (tgt := 4) hx hb dX4_wordsIn_41 (by decide) ?_
            exact ih aa_9 (aa_10 + (1 : Int32)) _ _ _ hP hD hS (lv_sub hl [1, 2, 3, 0] rfl) h
          · have h := h.2 hc_16
            refine lv_iload_n hx hb dX4_wordsIn_26 rfl (lv_at hl 2 rfl) ?_
            refine lv_aload_n hx hb dX4_wordsIn_27 rfl (lv_at hl 0 rfl) ?_
            refine va_get (D := (dC, dI)) (ci := 4) (v := .ref (aa 11)) (C := RX4) (T := TX4) (N := 9) hx hb hts hi_X4 hown hK hP 10 rfl rfl 0 (by decide) fl_9 (fun _ h9 => h9) rfl dX4_wordsIn_28 ?_
            refine lv_iload_n hx hb dX4_wordsIn_31 rfl (lv_at hl 3 rfl) ?_
            obtain ⟨hv_13, h⟩ := h
            refine va_iald hx hb hK hP 11 0 rfl rfl hv_13 dX4_wordsIn_32 ?_
            refine xq_ci (va_runSN (As := [.int (t_kinds aa_10.toNatClampNeg)]) (rest := [.int aa_9]) ⟨hx, hb, hml, hown, hts⟩ (m_X5_wordsOfKind l dC dI cyI cyJ (wc_u cyI cyJ aa s_lanes s_sizes s_cells x_kinds x_digits x_causes x_effects x_things x_follows x_due t_kinds t_digits t_caseRow t_weights t_order t_calls t_things t_caseCount t_caseSet p_callsOfCase p_partOfCase p_callsOfPart p_cases p_parts r_cases r_hours r_sets r_count u_lists u_breaths u_heard u_traced u_lastFault) H.size h) ⟨va_cnB 1 hts ggX4_wordsIn_X5_wordsOfKind rfl rfl rfl hN.2.2 (hts (.initialized RX5) (by decide +kernel)) (by decide +kernel) ⟨Nat.le_of_ble_eq_true rfl, Nat.le_of_ble_eq_true rfl⟩, hts (.static yX5_wordsOfKind) (by decide +kernel), trivial⟩ (xq_preS hK hP hD hN) rfl rfl hl.1 rfl (lv_room (Nat.le_of_ble_eq_true rfl)) dX4_wordsIn_33 ⟨Nat.le_refl _, Nat.le_refl _⟩) hD hS hA (fun rr_14 uu H locs h hP hD hS => ?_)
            have hP : va_P (dC, dI) vwCl (wc_u cyI cyJ aa s_lanes s_sizes s_cells x_kinds x_digits x_causes x_effects x_things x_follows x_due t_kinds t_digits t_caseRow t_weights t_order t_calls t_things t_caseCount t_caseSet p_callsOfCase p_partOfCase p_callsOfPart p_cases p_parts r_cases r_hours r_sets r_count u_lists u_breaths u_heard u_traced u_lastFault) H := hP
            have hD : va_D A (wc_u cyI cyJ aa s_lanes s_sizes s_cells x_kinds x_digits x_causes x_effects x_things x_follows x_due t_kinds t_digits t_caseRow t_weights t_order t_calls t_things t_caseCount t_caseSet p_callsOfCase p_partOfCase p_callsOfPart p_cases p_parts r_cases r_hours r_sets r_count u_lists u_breaths u_heard u_traced u_lastFault) := hD
            refine lv_iadd hx hb dX4_wordsIn_36 ?_
            refine lv_istore_n (lv' := [(2, .int (aa_9 + rr_14)), (0, .ref (aa 10)), (1, .int a_1), (3, .int aa_10)]) hx hb dX4_wordsIn_37 rfl hl (by decide) rfl (fun ls hl => ?_)
            refine lv_iinc (v := (aa_10 + (1 : Int32))) (lv' := [(3, .int (aa_10 + (1 : Int32))), (2, .int (aa_9 + rr_14)), (0, .ref (aa 10)), (1, .int a_1)]) hx hb dX4_wordsIn_38 hl (k := 3) rfl rfl (by decide) rfl (fun ls hl => ?_)
            refine lv_goto (tgt := 4) hx hb dX4_wordsIn_41 (by decide) ?_
            exact ih (aa_9 + rr_14) (aa_10 + (1 : Int32)) _ _ _ hP hD hS (lv_sub hl [2, 3, 1, 0] rfl) h
  refine lp_4 _ (fun xx_11 H locs ls hP hD hS hl h => ?_) ni (0 : Int32) (0 : Int32) _ _ _ hP hD hS (lv_sub hl [2, 3, 1, 0] rfl) h
  refine lv_iload_n hx hb dX4_wordsIn_44 rfl (lv_at hl 0 rfl) ?_
  exact xq_ri hQ hx hb hr hP hK hD hS () rfl h dX4_wordsIn_45 hlocks
def w_X5_areBreaths_L3 (a_1 : Int32) (a_2 : Int32) (a_3 : Int32) (s_sizes : Nat → Int32) (s_cells : Nat → Int32) (post : Int32 → Prop) (kk : Prop) : Nat → Int32 → Prop
  | 0, _ => False
  | f_3 + 1, a_4 => (a_3 ≤ a_4 → (kk)) ∧ (¬ a_3 ≤ a_4 → (((6 : Int32) ≤ a_4 → (kk)) ∧ (¬ (6 : Int32) ≤ a_4 → (w_X2_at s_sizes s_cells a_1 (a_2 + a_4) (fun (rr_1 : Int32) => w_X5_isBreath rr_1 (fun (rr_2 : Int32) => (¬ rr_2 = 0 → (w_X5_areBreaths_L3 a_1 a_2 a_3 s_sizes s_cells post kk f_3 (a_4 + (1 : Int32)))) ∧ (rr_2 = 0 → (post (0 : Int32)))))))))
def w_X5_areBreaths (s_sizes : Nat → Int32) (s_cells : Nat → Int32) (a_1 : Int32) (a_2 : Int32) (a_3 : Int32) (post : Int32 → Prop) : Prop := ∃ e_3, w_X5_areBreaths_L3 a_1 a_2 a_3 s_sizes s_cells post (post (1 : Int32)) e_3 (0 : Int32)
set_option maxHeartbeats 4000000 in
set_option maxRecDepth 100000 in
theorem m_X5_areBreaths (l : Launch) (dC : Nat → ClassId) (dI : Nat → Nat → Nat) (cyI cyJ : ClassId) (aa : Nat → Nat) (sz : Nat) {s_lanes : Nat → Int32} {s_sizes : Nat → Int32} {s_cells : Nat → Int32} {x_kinds : Nat → Int32} {x_digits : Nat → Int32} {x_causes : Nat → Int32} {x_effects : Nat → Int32} {x_things : Int32} {x_follows : Int32} {x_due : Int32} {t_kinds : Nat → Int32} {t_digits : Nat → Int32} {t_caseRow : Nat → Int32} {t_weights : Nat → Int32} {t_order : Nat → Int32} {t_calls : Nat → Int32} {t_things : Int32} {t_caseCount : Int32} {t_caseSet : Int64} {p_callsOfCase : Nat → Int64} {p_partOfCase : Nat → Int32} {p_callsOfPart : Nat → Int64} {p_cases : Int32} {p_parts : Int32} {r_cases : Nat → Int32} {r_hours : Nat → Int32} {r_sets : Nat → Int32} {r_count : Int32} {u_lists : Nat → Int32} {u_breaths : Nat → Int32} {u_heard : Nat → Int32} {u_traced : Int32} {u_lastFault : Int32} {a_1 : Int32} {a_2 : Int32} {a_3 : Int32} {post : Int32 → Prop} (h : w_X5_areBreaths s_sizes s_cells a_1 a_2 a_3 post) : Met l yX5_areBreaths wsX5_areBreaths (xq_R 2 44) (va_Pc [.ref (aa 0), .int a_1, .int a_2, .int a_3] (xq_P (dC, dI) [(cyI, .int), (cyJ, .long)] (wc_u cyI cyJ aa s_lanes s_sizes s_cells x_kinds x_digits x_causes x_effects x_things x_follows x_due t_kinds t_digits t_caseRow t_weights t_order t_calls t_things t_caseCount t_caseSet p_callsOfCase p_partOfCase p_callsOfPart p_cases p_parts r_cases r_hours r_sets r_count u_lists u_breaths u_heard u_traced u_lastFault) sz)) (va_Qi (fun (rr : Int32) (uu : Unit) => post rr ) (fun (uu : Unit) => xq_B (dC, dI) [(cyI, .int), (cyJ, .long)] (va_A (wc_u cyI cyJ aa s_lanes s_sizes s_cells x_kinds x_digits x_causes x_effects x_things x_follows x_due t_kinds t_digits t_caseRow t_weights t_order t_calls t_things t_caseCount t_caseSet p_callsOfCase p_partOfCase p_callsOfPart p_cases p_parts r_cases r_hours r_sets r_count u_lists u_breaths u_heard u_traced u_lastFault) sz) (wc_u cyI cyJ aa s_lanes s_sizes s_cells x_kinds x_digits x_causes x_effects x_things x_follows x_due t_kinds t_digits t_caseRow t_weights t_order t_calls t_things t_caseCount t_caseSet p_callsOfCase p_partOfCase p_callsOfPart p_cases p_parts r_cases r_hours r_sets r_count u_lists u_breaths u_heard u_traced u_lastFault)) (va_A (wc_u cyI cyJ aa s_lanes s_sizes s_cells x_kinds x_digits x_causes x_effects x_things x_follows x_due t_kinds t_digits t_caseRow t_weights t_order t_calls t_things t_caseCount t_caseSet p_callsOfCase p_partOfCase p_callsOfPart p_cases p_parts r_cases r_hours r_sets r_count u_lists u_breaths u_heard u_traced u_lastFault) sz)) 0 0 (va_A (wc_u cyI cyJ aa s_lanes s_sizes s_cells x_kinds x_digits x_causes x_effects x_things x_follows x_due t_kinds t_digits t_caseRow t_weights t_order t_calls t_things t_caseCount t_caseSet p_callsOfCase p_partOfCase p_callsOfPart p_cases p_parts r_cases r_hours r_sets r_count u_lists u_breaths u_heard u_traced u_lastFault) sz) := by
  refine xq_M (cc := cX5_areBreaths) (maxL := 5) (ret := (some .boolean)) (QA := fun A => va_Qi (fun (rr : Int32) (uu : Unit) => post rr ) (fun (uu : Unit) => xq_B (dC, dI) [(cyI, .int), (cyJ, .long)] A (wc_u cyI cyJ aa s_lanes s_sizes s_cells x_kinds x_digits x_causes x_effects x_things x_follows x_due t_kinds t_digits t_caseRow t_weights t_order t_calls t_things t_caseCount t_caseSet p_callsOfCase p_partOfCase p_callsOfPart p_cases p_parts r_cases r_hours r_sets r_count u_lists u_breaths u_heard u_traced u_lastFault)) A) (by decide) rfl (Nat.le_of_ble_eq_true rfl) ?_
  intro p e s m args below meth c A ls Q hQ hx hb hr hml hts hown hlocks hsz hP hK hD hA hS hN hl
  subst hsz
  have hl : lv_has ls 5 [(0, .ref (aa 0)), (1, .int a_1), (2, .int a_2), (3, .int a_3)] := hl
  have hi_X5 : ∀ w ∈ wsX50, w ∈ wsX5_areBreaths := fun _ h => List.mem_cons_of_mem _ (List.mem_append_left _ (List.mem_append_right _ h))
  have fl_12 := hts (.fieldLink RX5 12 "UnsaidCalls" "sheets" "LUnsaidCalls$Sheets;") (by decide +kernel)
  unfold w_X5_areBreaths at h
  refine lv_iconst (v := (0 : Int32)) hx hb dX5_areBreaths_0 (by decide) ?_
  refine lv_istore (lv' := [(4, .int (0 : Int32)), (0, .ref (aa 0)), (1, .int a_1), (2, .int a_2), (3, .int a_3)]) hx hb dX5_areBreaths_1 hl (by decide) rfl (fun ls hl => ?_)
  obtain ⟨ni, h⟩ := h
  have lp_3 : ∀ (kk : Prop), (∀  (H : Heap) (locs : List Loc) (ls : Array Slot), va_P (dC, dI) vwCl (wc_u cyI cyJ aa s_lanes s_sizes s_cells x_kinds x_digits x_causes x_effects x_things x_follows x_due t_kinds t_digits t_caseRow t_weights t_order t_calls t_things t_caseCount t_caseSet p_callsOfCase p_partOfCase p_callsOfPart p_cases p_parts r_cases r_hours r_sets r_count u_lists u_breaths u_heard u_traced u_lastFault) H → va_D A (wc_u cyI cyJ aa s_lanes s_sizes s_cells x_kinds x_digits x_causes x_effects x_things x_follows x_due t_kinds t_digits t_caseRow t_weights t_order t_calls t_things t_caseCount t_caseSet p_callsOfCase p_partOfCase p_callsOfPart p_cases p_parts r_cases r_hours r_sets r_count u_lists u_breaths u_heard u_traced u_lastFault) → va_S A s.heap H locs → lv_has ls 5 [] → kk → W p l e (xq_R 2 44) s m args below meth c H locs 0 0 Q (F0 m 42 ls [])) → ∀ (ni : Nat) (aa_8 : Int32) (H : Heap) (locs : List Loc) (ls : Array Slot), va_P (dC, dI) vwCl (wc_u cyI cyJ aa s_lanes s_sizes s_cells x_kinds x_digits x_causes x_effects x_things x_follows x_due t_kinds t_digits t_caseRow t_weights t_order t_calls t_things t_caseCount t_caseSet p_callsOfCase p_partOfCase p_callsOfPart p_cases p_parts r_cases r_hours r_sets r_count u_lists u_breaths u_heard u_traced u_lastFault) H → va_D A (wc_u cyI cyJ aa s_lanes s_sizes s_cells x_kinds x_digits x_causes x_effects x_things x_follows x_due t_kinds t_digits t_caseRow t_weights t_order t_calls t_things t_caseCount t_caseSet p_callsOfCase p_partOfCase p_callsOfPart p_cases p_parts r_cases r_hours r_sets r_count u_lists u_breaths u_heard u_traced u_lastFault) → va_S A s.heap H locs → lv_has ls 5 [(0, .ref (aa 0)), (1, .int a_1), (2, .int a_2), (3, .int a_3), (4, .int aa_8)] → w_X5_areBreaths_L3 a_1 a_2 a_3 s_sizes s_cells post kk ni aa_8 → W p l e (xq_R 2 44) s m args below meth c H locs 0 0 Q (F0 m 3 ls []) := by
    intro kk kx ni
    induction ni with
    | zero => intros; exact False.elim (by assumption)
    | succ ni ih =>
      intro aa_8 H locs ls hP hD hS hl h
      rw [w_X5_areBreaths_L3] at h
      refine lv_iload hx hb dX5_areBreaths_3 (lv_at hl 4 rfl) ?_
      refine lv_iload_n hx hb dX5_areBreaths_5 rfl (lv_at hl 3 rfl) ?_
      refine lv_icmp_ge (tgt := 42) hx hb dX5_areBreaths_6 (by decide) (fun hc_15 => ?_) (fun hc_15 => ?_)
      · have h := h.1 hc_15
        exact kx  _ _ _ hP hD hS (lv_sub hl [] rfl) h
      · have h := h.2 hc_15
        refine lv_iload hx hb dX5_areBreaths_9 (lv_at hl 4 rfl) ?_
        refine lv_bipush (v := (6 : Int32)) hx hb dX5_areBreaths_11 (by decide) ?_
        refine lv_icmp_ge (tgt := 42) hx hb dX5_areBreaths_13 (by decide) (fun hc_14 => ?_) (fun hc_14 => ?_)
        · have h := h.1 hc_14
          exact kx  _ _ _ hP hD hS (lv_sub hl [] rfl) h
        · have h := h.2 hc_14
          refine lv_aload_n hx hb dX5_areBreaths_16 rfl (lv_at hl 0 rfl) ?_
          refine va_get (D := (dC, dI)) (ci := 5) (v := .ref (aa 1)) (C := RX5) (T := TX5) (N := 10) hx hb hts hi_X5 hown hK hP 0 rfl rfl 0 (by decide) fl_12 (fun _ h9 => h9) rfl dX5_areBreaths_17 ?_
          refine lv_iload_n hx hb dX5_areBreaths_20 rfl (lv_at hl 1 rfl) ?_
          refine lv_iload_n hx hb dX5_areBreaths_21 rfl (lv_at hl 2 rfl) ?_
          refine lv_iload hx hb dX5_areBreaths_22 (lv_at hl 4 rfl) ?_
          refine lv_iadd hx hb dX5_areBreaths_24 ?_
          refine xq_ci (va_runV (As := [.int a_1, .int (a_2 + aa_8)]) (rest := []) ⟨hx, hb, hml, hown, hts⟩ (m_X2_at l dC dI cyI cyJ aa H.size h) (cwV 2 hts gX5_areBreaths_X2_at rfl rfl rfl (by decide +kernel) ⟨Nat.le_of_ble_eq_true rfl, Nat.le_of_ble_eq_true rfl⟩) (xq_preV hK hP hD hN (ci := 2) (q0 := 1) rfl rfl) rfl rfl hl.1 rfl (lv_room (Nat.le_of_ble_eq_true rfl)) dX5_areBreaths_25 ⟨Nat.le_refl _, Nat.le_refl _⟩) hD hS hA (fun rr_9 uu H locs h hP hD hS => ?_)
          have hP : va_P (dC, dI) vwCl (wc_u cyI cyJ aa s_lanes s_sizes s_cells x_kinds x_digits x_causes x_effects x_things x_follows x_due t_kinds t_digits t_caseRow t_weights t_order t_calls t_things t_caseCount t_caseSet p_callsOfCase p_partOfCase p_callsOfPart p_cases p_parts r_cases r_hours r_sets r_count u_lists u_breaths u_heard u_traced u_lastFault) H := hP
          have hD : va_D A (wc_u cyI cyJ aa s_lanes s_sizes s_cells x_kinds x_digits x_causes x_effects x_things x_follows x_due t_kinds t_digits t_caseRow t_weights t_order t_calls t_things t_caseCount t_caseSet p_callsOfCase p_partOfCase p_callsOfPart p_cases p_parts r_cases r_hours r_sets r_count u_lists u_breaths u_heard u_traced u_lastFault) := hD
          refine xq_ci (va_runS (As := [.int rr_9]) (rest := []) ⟨hx, hb, hml, hown, hts⟩ (m_X5_isBreath l dC dI cyI cyJ (wc_u cyI cyJ aa s_lanes s_sizes s_cells x_kinds x_digits x_causes x_effects x_things x_follows x_due t_kinds t_digits t_caseRow t_weights t_order t_calls t_things t_caseCount t_caseSet p_callsOfCase p_partOfCase p_callsOfPart p_cases p_parts r_cases r_hours r_sets r_count u_lists u_breaths u_heard u_traced u_lastFault) H.size h) (va_cwS 1 hts gX5_areBreaths_X5_isBreath rfl rfl rfl (by decide +kernel) ⟨Nat.le_of_ble_eq_true rfl, Nat.le_of_ble_eq_true rfl⟩) (xq_preS hK hP hD hN) rfl rfl hl.1 rfl (lv_room (Nat.le_of_ble_eq_true rfl)) dX5_areBreaths_28 ⟨Nat.le_refl _, Nat.le_refl _⟩) hD hS hA (fun rr_10 uu H locs h hP hD hS => ?_)
          have hP : va_P (dC, dI) vwCl (wc_u cyI cyJ aa s_lanes s_sizes s_cells x_kinds x_digits x_causes x_effects x_things x_follows x_due t_kinds t_digits t_caseRow t_weights t_order t_calls t_things t_caseCount t_caseSet p_callsOfCase p_partOfCase p_callsOfPart p_cases p_parts r_cases r_hours r_sets r_count u_lists u_breaths u_heard u_traced u_lastFault) H := hP
          have hD : va_D A (wc_u cyI cyJ aa s_lanes s_sizes s_cells x_kinds x_digits x_causes x_effects x_things x_follows x_due t_kinds t_digits t_caseRow t_weights t_order t_calls t_things t_caseCount t_caseSet p_callsOfCase p_partOfCase p_callsOfPart p_cases p_parts r_cases r_hours r_sets r_count u_lists u_breaths u_heard u_traced u_lastFault) := hD
          refine lv_if_ne (tgt := 36) hx hb dX5_areBreaths_31 (by decide) (fun hc_11 => ?_) (fun hc_11 => ?_)
          · have h := h.1 hc_11
            refine lv_iinc (v := (aa_8 + (1 : Int32))) (lv' := [(4, .int (aa_8 + (1 : Int32))), (0, .ref (aa 0)), (1, .int a_1), (2, .int a_2), (3, .int a_3)]) hx hb dX5_areBreaths_36 hl (k := 4) rfl rfl (by decide) rfl (fun ls hl => ?_)
            refine lv_goto (tgt := 3) hx hb dX5_areBreaths_39 (by decide) ?_
            exact ih (aa_8 + (1 : Int32)) _ _ _ hP hD hS (lv_sub hl [1, 2, 3, 4, 0] rfl) h
          · have h := h.2 hc_11
            refine lv_iconst (v := (0 : Int32)) hx hb dX5_areBreaths_34 (by decide) ?_
            exact xq_rz hQ hx hb hr (by decide) hP hK hD hS () rfl h dX5_areBreaths_35 hlocks
  refine lp_3 _ (fun  H locs ls hP hD hS hl h => ?_) ni (0 : Int32) _ _ _ hP hD hS (lv_sub hl [1, 2, 3, 4, 0] rfl) h
  refine lv_iconst (v := (1 : Int32)) hx hb dX5_areBreaths_42 (by decide) ?_
  exact xq_rz hQ hx hb hr (by decide) hP hK hD hS () rfl h dX5_areBreaths_43 hlocks
def w_X5_faulted (u_lastFault : Int32) (a_1 : Int32) (post : Int32 → Int32 → Prop) : Prop := post ((-10 : Int32) - a_1) a_1
set_option maxHeartbeats 4000000 in
set_option maxRecDepth 100000 in
theorem m_X5_faulted (l : Launch) (dC : Nat → ClassId) (dI : Nat → Nat → Nat) (cyI cyJ : ClassId) (aa : Nat → Nat) (sz : Nat) {s_lanes : Nat → Int32} {s_sizes : Nat → Int32} {s_cells : Nat → Int32} {x_kinds : Nat → Int32} {x_digits : Nat → Int32} {x_causes : Nat → Int32} {x_effects : Nat → Int32} {x_things : Int32} {x_follows : Int32} {x_due : Int32} {t_kinds : Nat → Int32} {t_digits : Nat → Int32} {t_caseRow : Nat → Int32} {t_weights : Nat → Int32} {t_order : Nat → Int32} {t_calls : Nat → Int32} {t_things : Int32} {t_caseCount : Int32} {t_caseSet : Int64} {p_callsOfCase : Nat → Int64} {p_partOfCase : Nat → Int32} {p_callsOfPart : Nat → Int64} {p_cases : Int32} {p_parts : Int32} {r_cases : Nat → Int32} {r_hours : Nat → Int32} {r_sets : Nat → Int32} {r_count : Int32} {u_lists : Nat → Int32} {u_breaths : Nat → Int32} {u_heard : Nat → Int32} {u_traced : Int32} {u_lastFault : Int32} {a_1 : Int32} {post : Int32 → Int32 → Prop} (h : w_X5_faulted u_lastFault a_1 post) : Met l yX5_faulted wsX5_faulted (xq_R 0 0) (va_Pc [.ref (aa 0), .int a_1] (xq_P (dC, dI) [(cyI, .int), (cyJ, .long)] (wc_u cyI cyJ aa s_lanes s_sizes s_cells x_kinds x_digits x_causes x_effects x_things x_follows x_due t_kinds t_digits t_caseRow t_weights t_order t_calls t_things t_caseCount t_caseSet p_callsOfCase p_partOfCase p_callsOfPart p_cases p_parts r_cases r_hours r_sets r_count u_lists u_breaths u_heard u_traced u_lastFault) sz)) (va_Qi (fun (rr : Int32) (uu : Int32) => post rr uu) (fun (uu : Int32) => xq_B (dC, dI) [(cyI, .int), (cyJ, .long)] (va_A (wc_u cyI cyJ aa s_lanes s_sizes s_cells x_kinds x_digits x_causes x_effects x_things x_follows x_due t_kinds t_digits t_caseRow t_weights t_order t_calls t_things t_caseCount t_caseSet p_callsOfCase p_partOfCase p_callsOfPart p_cases p_parts r_cases r_hours r_sets r_count u_lists u_breaths u_heard u_traced u_lastFault) sz) (wc_u cyI cyJ aa s_lanes s_sizes s_cells x_kinds x_digits x_causes x_effects x_things x_follows x_due t_kinds t_digits t_caseRow t_weights t_order t_calls t_things t_caseCount t_caseSet p_callsOfCase p_partOfCase p_callsOfPart p_cases p_parts r_cases r_hours r_sets r_count u_lists u_breaths u_heard u_traced uu)) (va_A (wc_u cyI cyJ aa s_lanes s_sizes s_cells x_kinds x_digits x_causes x_effects x_things x_follows x_due t_kinds t_digits t_caseRow t_weights t_order t_calls t_things t_caseCount t_caseSet p_callsOfCase p_partOfCase p_callsOfPart p_cases p_parts r_cases r_hours r_sets r_count u_lists u_breaths u_heard u_traced u_lastFault) sz)) 0 0 (va_A (wc_u cyI cyJ aa s_lanes s_sizes s_cells x_kinds x_digits x_causes x_effects x_things x_follows x_due t_kinds t_digits t_caseRow t_weights t_order t_calls t_things t_caseCount t_caseSet p_callsOfCase p_partOfCase p_callsOfPart p_cases p_parts r_cases r_hours r_sets r_count u_lists u_breaths u_heard u_traced u_lastFault) sz) := by
  refine xq_M (cc := cX5_faulted) (maxL := 2) (ret := (some .int)) (QA := fun A => va_Qi (fun (rr : Int32) (uu : Int32) => post rr uu) (fun (uu : Int32) => xq_B (dC, dI) [(cyI, .int), (cyJ, .long)] A (wc_u cyI cyJ aa s_lanes s_sizes s_cells x_kinds x_digits x_causes x_effects x_things x_follows x_due t_kinds t_digits t_caseRow t_weights t_order t_calls t_things t_caseCount t_caseSet p_callsOfCase p_partOfCase p_callsOfPart p_cases p_parts r_cases r_hours r_sets r_count u_lists u_breaths u_heard u_traced uu)) A) (by decide) rfl (Nat.le_of_ble_eq_true rfl) ?_
  intro p e s m args below meth c A ls Q hQ hx hb hr hml hts hown hlocks hsz hP hK hD hA hS hN hl
  subst hsz
  have hl : lv_has ls 2 [(0, .ref (aa 0)), (1, .int a_1)] := hl
  have hi_X5 : ∀ w ∈ wsX50, w ∈ wsX5_faulted := fun _ h => List.mem_cons_of_mem _ (List.mem_append_right _ h)
  have fl_60 := hts (.fieldLink RX5 60 "UnsaidCalls" "lastFault" "I") (by decide +kernel)
  unfold w_X5_faulted at h
  refine lv_aload_n hx hb dX5_faulted_0 rfl (lv_at hl 0 rfl) ?_
  refine lv_iload_n hx hb dX5_faulted_1 rfl (lv_at hl 1 rfl) ?_
  refine va_put (D := (dC, dI)) (ci := 5) (v := .int a_1) (ty := .int) (C := RX5) (T := TX5) (N := 10) hx hb hts hi_X5 tyX5 tyX5_ok nmX5 hown hK hP hD hS 0 rfl rfl 9 (by decide) fl_60 (fun _ h9 => h9) rfl (by decide +kernel) rfl rfl (Nat.le_of_ble_eq_true rfl) dX5_faulted_2 (fun H locs hP hD hS => ?_)
  have hP : va_P (dC, dI) vwCl (wc_u cyI cyJ aa s_lanes s_sizes s_cells x_kinds x_digits x_causes x_effects x_things x_follows x_due t_kinds t_digits t_caseRow t_weights t_order t_calls t_things t_caseCount t_caseSet p_callsOfCase p_partOfCase p_callsOfPart p_cases p_parts r_cases r_hours r_sets r_count u_lists u_breaths u_heard u_traced a_1) H := hP
  have hD : va_D A (wc_u cyI cyJ aa s_lanes s_sizes s_cells x_kinds x_digits x_causes x_effects x_things x_follows x_due t_kinds t_digits t_caseRow t_weights t_order t_calls t_things t_caseCount t_caseSet p_callsOfCase p_partOfCase p_callsOfPart p_cases p_parts r_cases r_hours r_sets r_count u_lists u_breaths u_heard u_traced a_1) := hD
  refine lv_bipush (v := (-10 : Int32)) hx hb dX5_faulted_5 (by decide) ?_
  refine lv_iload_n hx hb dX5_faulted_7 rfl (lv_at hl 1 rfl) ?_
  refine lv_isub hx hb dX5_faulted_8 ?_
  exact xq_ri hQ hx hb hr hP hK hD hS a_1 rfl h dX5_faulted_9 hlocks
def w_X5_as (t_kinds : Nat → Int32) (t_things : Int32) (u_lastFault : Int32) (a_1 : Int32) (a_2 : Int32) (post : Int32 → Int32 → Prop) : Prop := w_X4_isThing t_things a_1 (fun (rr_1 : Int32) => (¬ rr_1 = 0 → ((a_2 < 0 → (post (-2 : Int32) (0 : Int32))) ∧ (¬ a_2 < 0 → ((a_2 < (3 : Int32) → ((vp_in a_1 6) ∧ (((t_kinds a_1.toNatClampNeg) < a_2 → (w_X5_faulted (0 : Int32) (2 : Int32) (fun (rr_3 : Int32) (cc_4 : Int32) => post rr_3 cc_4))) ∧ (¬ (t_kinds a_1.toNatClampNeg) < a_2 → (post (1 : Int32) (0 : Int32)))))) ∧ (¬ a_2 < (3 : Int32) → (post (-2 : Int32) (0 : Int32))))))) ∧ (rr_1 = 0 → (post (-1 : Int32) (0 : Int32))))
set_option maxHeartbeats 4000000 in
set_option maxRecDepth 100000 in
theorem m_X5_as (l : Launch) (dC : Nat → ClassId) (dI : Nat → Nat → Nat) (cyI cyJ : ClassId) (aa : Nat → Nat) (sz : Nat) {s_lanes : Nat → Int32} {s_sizes : Nat → Int32} {s_cells : Nat → Int32} {x_kinds : Nat → Int32} {x_digits : Nat → Int32} {x_causes : Nat → Int32} {x_effects : Nat → Int32} {x_things : Int32} {x_follows : Int32} {x_due : Int32} {t_kinds : Nat → Int32} {t_digits : Nat → Int32} {t_caseRow : Nat → Int32} {t_weights : Nat → Int32} {t_order : Nat → Int32} {t_calls : Nat → Int32} {t_things : Int32} {t_caseCount : Int32} {t_caseSet : Int64} {p_callsOfCase : Nat → Int64} {p_partOfCase : Nat → Int32} {p_callsOfPart : Nat → Int64} {p_cases : Int32} {p_parts : Int32} {r_cases : Nat → Int32} {r_hours : Nat → Int32} {r_sets : Nat → Int32} {r_count : Int32} {u_lists : Nat → Int32} {u_breaths : Nat → Int32} {u_heard : Nat → Int32} {u_traced : Int32} {u_lastFault : Int32} {a_1 : Int32} {a_2 : Int32} {post : Int32 → Int32 → Prop} (h : w_X5_as t_kinds t_things u_lastFault a_1 a_2 post) : Met l yX5_as wsX5_as (xq_R 1 21) (va_Pc [.ref (aa 0), .int a_1, .int a_2] (xq_P (dC, dI) [(cyI, .int), (cyJ, .long)] (wc_u cyI cyJ aa s_lanes s_sizes s_cells x_kinds x_digits x_causes x_effects x_things x_follows x_due t_kinds t_digits t_caseRow t_weights t_order t_calls t_things t_caseCount t_caseSet p_callsOfCase p_partOfCase p_callsOfPart p_cases p_parts r_cases r_hours r_sets r_count u_lists u_breaths u_heard u_traced u_lastFault) sz)) (va_Qi (fun (rr : Int32) (uu : Int32) => post rr uu) (fun (uu : Int32) => xq_B (dC, dI) [(cyI, .int), (cyJ, .long)] (va_A (wc_u cyI cyJ aa s_lanes s_sizes s_cells x_kinds x_digits x_causes x_effects x_things x_follows x_due t_kinds t_digits t_caseRow t_weights t_order t_calls t_things t_caseCount t_caseSet p_callsOfCase p_partOfCase p_callsOfPart p_cases p_parts r_cases r_hours r_sets r_count u_lists u_breaths u_heard u_traced u_lastFault) sz) (wc_u cyI cyJ aa s_lanes s_sizes s_cells x_kinds x_digits x_causes x_effects x_things x_follows x_due t_kinds t_digits t_caseRow t_weights t_order t_calls t_things t_caseCount t_caseSet p_callsOfCase p_partOfCase p_callsOfPart p_cases p_parts r_cases r_hours r_sets r_count u_lists u_breaths u_heard u_traced uu)) (va_A (wc_u cyI cyJ aa s_lanes s_sizes s_cells x_kinds x_digits x_causes x_effects x_things x_follows x_due t_kinds t_digits t_caseRow t_weights t_order t_calls t_things t_caseCount t_caseSet p_callsOfCase p_partOfCase p_callsOfPart p_cases p_parts r_cases r_hours r_sets r_count u_lists u_breaths u_heard u_traced u_lastFault) sz)) 0 0 (va_A (wc_u cyI cyJ aa s_lanes s_sizes s_cells x_kinds x_digits x_causes x_effects x_things x_follows x_due t_kinds t_digits t_caseRow t_weights t_order t_calls t_things t_caseCount t_caseSet p_callsOfCase p_partOfCase p_callsOfPart p_cases p_parts r_cases r_hours r_sets r_count u_lists u_breaths u_heard u_traced u_lastFault) sz) := by
  refine xq_M (cc := cX5_as) (maxL := 3) (ret := (some .int)) (QA := fun A => va_Qi (fun (rr : Int32) (uu : Int32) => post rr uu) (fun (uu : Int32) => xq_B (dC, dI) [(cyI, .int), (cyJ, .long)] A (wc_u cyI cyJ aa s_lanes s_sizes s_cells x_kinds x_digits x_causes x_effects x_things x_follows x_due t_kinds t_digits t_caseRow t_weights t_order t_calls t_things t_caseCount t_caseSet p_callsOfCase p_partOfCase p_callsOfPart p_cases p_parts r_cases r_hours r_sets r_count u_lists u_breaths u_heard u_traced uu)) A) (by decide) rfl (Nat.le_of_ble_eq_true rfl) ?_
  intro p e s m args below meth c A ls Q hQ hx hb hr hml hts hown hlocks hsz hP hK hD hA hS hN hl
  subst hsz
  have hl : lv_has ls 3 [(0, .ref (aa 0)), (1, .int a_1), (2, .int a_2)] := hl
  have hi_X4 : ∀ w ∈ wsX40, w ∈ wsX5_as := fun _ h => List.mem_cons_of_mem _ (List.mem_append_right _ h)
  have hi_X5 : ∀ w ∈ wsX50, w ∈ wsX5_as := fun _ h => List.mem_cons_of_mem _ (List.mem_append_left _ (List.mem_append_right _ h))
  have fl_28 := hts (.fieldLink RX5 28 "UnsaidCalls" "place" "LUnsaidCalls$Town;") (by decide +kernel)
  have fl_60 := hts (.fieldLink RX5 60 "UnsaidCalls" "lastFault" "I") (by decide +kernel)
  have fl_88 := hts (.fieldLink RX5 88 "UnsaidCalls$Town" "kinds" "[I") (by decide +kernel)
  unfold w_X5_as at h
  refine lv_aload_n hx hb dX5_as_0 rfl (lv_at hl 0 rfl) ?_
  refine lv_iconst (v := (0 : Int32)) hx hb dX5_as_1 (by decide) ?_
  refine va_put (D := (dC, dI)) (ci := 5) (v := .int (0 : Int32)) (ty := .int) (C := RX5) (T := TX5) (N := 10) hx hb hts hi_X5 tyX5 tyX5_ok nmX5 hown hK hP hD hS 0 rfl rfl 9 (by decide) fl_60 (fun _ h9 => h9) rfl (by decide +kernel) rfl rfl (Nat.le_of_ble_eq_true rfl) dX5_as_2 (fun H locs hP hD hS => ?_)
  have hP : va_P (dC, dI) vwCl (wc_u cyI cyJ aa s_lanes s_sizes s_cells x_kinds x_digits x_causes x_effects x_things x_follows x_due t_kinds t_digits t_caseRow t_weights t_order t_calls t_things t_caseCount t_caseSet p_callsOfCase p_partOfCase p_callsOfPart p_cases p_parts r_cases r_hours r_sets r_count u_lists u_breaths u_heard u_traced (0 : Int32)) H := hP
  have hD : va_D A (wc_u cyI cyJ aa s_lanes s_sizes s_cells x_kinds x_digits x_causes x_effects x_things x_follows x_due t_kinds t_digits t_caseRow t_weights t_order t_calls t_things t_caseCount t_caseSet p_callsOfCase p_partOfCase p_callsOfPart p_cases p_parts r_cases r_hours r_sets r_count u_lists u_breaths u_heard u_traced (0 : Int32)) := hD
  refine lv_aload_n hx hb dX5_as_5 rfl (lv_at hl 0 rfl) ?_
  refine va_get (D := (dC, dI)) (ci := 5) (v := .ref (aa 10)) (C := RX5) (T := TX5) (N := 10) hx hb hts hi_X5 hown hK hP 0 rfl rfl 2 (by decide) fl_28 (fun _ h9 => h9) rfl dX5_as_6 ?_
  refine lv_iload_n hx hb dX5_as_9 rfl (lv_at hl 1 rfl) ?_
  refine xq_ci (va_runV (As := [.int a_1]) (rest := []) ⟨hx, hb, hml, hown, hts⟩ (m_X4_isThing l dC dI cyI cyJ aa H.size h) (cwV 1 hts gX5_as_X4_isThing rfl rfl rfl (by decide +kernel) ⟨Nat.le_of_ble_eq_true rfl, Nat.le_of_ble_eq_true rfl⟩) (xq_preV hK hP hD hN (ci := 4) (q0 := 10) rfl rfl) rfl rfl hl.1 rfl (lv_room (Nat.le_of_ble_eq_true rfl)) dX5_as_10 ⟨Nat.le_refl _, Nat.le_refl _⟩) hD hS hA (fun rr_1 uu H locs h hP hD hS => ?_)
  have hP : va_P (dC, dI) vwCl (wc_u cyI cyJ aa s_lanes s_sizes s_cells x_kinds x_digits x_causes x_effects x_things x_follows x_due t_kinds t_digits t_caseRow t_weights t_order t_calls t_things t_caseCount t_caseSet p_callsOfCase p_partOfCase p_callsOfPart p_cases p_parts r_cases r_hours r_sets r_count u_lists u_breaths u_heard u_traced (0 : Int32)) H := hP
  have hD : va_D A (wc_u cyI cyJ aa s_lanes s_sizes s_cells x_kinds x_digits x_causes x_effects x_things x_follows x_due t_kinds t_digits t_caseRow t_weights t_order t_calls t_things t_caseCount t_caseSet p_callsOfCase p_partOfCase p_callsOfPart p_cases p_parts r_cases r_hours r_sets r_count u_lists u_breaths u_heard u_traced (0 : Int32)) := hD
  refine lv_if_ne (tgt := 18) hx hb dX5_as_13 (by decide) (fun hc_9 => ?_) (fun hc_9 => ?_)
  · have h := h.1 hc_9
    refine lv_iload_n hx hb dX5_as_18 rfl (lv_at hl 2 rfl) ?_
    refine lv_if_lt (tgt := 27) hx hb dX5_as_19 (by decide) (fun hc_8 => ?_) (fun hc_8 => ?_)
    · have h := h.1 hc_8
      refine lv_bipush (v := (-2 : Int32)) hx hb dX5_as_27 (by decide) ?_
      exact xq_ri hQ hx hb hr hP hK hD hS (0 : Int32) rfl h dX5_as_29 hlocks
    · have h := h.2 hc_8
      refine lv_iload_n hx hb dX5_as_22 rfl (lv_at hl 2 rfl) ?_
      refine lv_iconst (v := (3 : Int32)) hx hb dX5_as_23 (by decide) ?_
      refine lv_icmp_lt (tgt := 30) hx hb dX5_as_24 (by decide) (fun hc_7 => ?_) (fun hc_7 => ?_)
      · have h := h.1 hc_7
        refine lv_aload_n hx hb dX5_as_30 rfl (lv_at hl 0 rfl) ?_
        refine va_get (D := (dC, dI)) (ci := 5) (v := .ref (aa 10)) (C := RX5) (T := TX5) (N := 10) hx hb hts hi_X5 hown hK hP 0 rfl rfl 2 (by decide) fl_28 (fun _ h9 => h9) rfl dX5_as_31 ?_
        refine va_get (D := (dC, dI)) (ci := 4) (v := .ref (aa 11)) (C := RX4) (T := TX4) (N := 9) hx hb hts hi_X4 hown hK hP 10 rfl rfl 0 (by decide) fl_88 (fun _ h9 => h9) rfl dX5_as_34 ?_
        refine lv_iload_n hx hb dX5_as_37 rfl (lv_at hl 1 rfl) ?_
        obtain ⟨hv_2, h⟩ := h
        refine va_iald hx hb hK hP 11 0 rfl rfl hv_2 dX5_as_38 ?_
        refine lv_iload_n hx hb dX5_as_39 rfl (lv_at hl 2 rfl) ?_
        refine lv_icmp_lt (tgt := 47) hx hb dX5_as_40 (by decide) (fun hc_6 => ?_) (fun hc_6 => ?_)
        · have h := h.1 hc_6
          refine lv_aload_n hx hb dX5_as_47 rfl (lv_at hl 0 rfl) ?_
          refine lv_iconst (v := (2 : Int32)) hx hb dX5_as_48 (by decide) ?_
          refine xq_ci (va_runV (As := [.int (2 : Int32)]) (rest := []) ⟨hx, hb, hml, hown, hts⟩ (m_X5_faulted l dC dI cyI cyJ aa H.size h) (cwV 1 hts gX5_as_X5_faulted rfl rfl rfl (by decide +kernel) ⟨Nat.le_of_ble_eq_true rfl, Nat.le_of_ble_eq_true rfl⟩) (xq_preV hK hP hD hN (ci := 5) (q0 := 0) rfl rfl) rfl rfl hl.1 rfl (lv_room (Nat.le_of_ble_eq_true rfl)) dX5_as_49 ⟨Nat.le_refl _, Nat.le_refl _⟩) hD hS hA (fun rr_3 uu H locs h hP hD hS => ?_)
          obtain ⟨cc_4, rfl⟩ : ∃ z, z = uu := ⟨_, rfl⟩
          have hP : va_P (dC, dI) vwCl (wc_u cyI cyJ aa s_lanes s_sizes s_cells x_kinds x_digits x_causes x_effects x_things x_follows x_due t_kinds t_digits t_caseRow t_weights t_order t_calls t_things t_caseCount t_caseSet p_callsOfCase p_partOfCase p_callsOfPart p_cases p_parts r_cases r_hours r_sets r_count u_lists u_breaths u_heard u_traced cc_4) H := hP
          have hD : va_D A (wc_u cyI cyJ aa s_lanes s_sizes s_cells x_kinds x_digits x_causes x_effects x_things x_follows x_due t_kinds t_digits t_caseRow t_weights t_order t_calls t_things t_caseCount t_caseSet p_callsOfCase p_partOfCase p_callsOfPart p_cases p_parts r_cases r_hours r_sets r_count u_lists u_breaths u_heard u_traced cc_4) := hD
          exact xq_ri hQ hx hb hr hP hK hD hS cc_4 rfl h dX5_as_52 hlocks
        · have h := h.2 hc_6
          refine lv_iconst (v := (1 : Int32)) hx hb dX5_as_43 (by decide) ?_
          refine lv_goto (tgt := 52) hx hb dX5_as_44 (by decide) ?_
          exact xq_ri hQ hx hb hr hP hK hD hS (0 : Int32) rfl h dX5_as_52 hlocks
      · have h := h.2 hc_7
        refine lv_bipush (v := (-2 : Int32)) hx hb dX5_as_27 (by decide) ?_
        exact xq_ri hQ hx hb hr hP hK hD hS (0 : Int32) rfl h dX5_as_29 hlocks
  · have h := h.2 hc_9
    refine lv_iconst (v := (-1 : Int32)) hx hb dX5_as_16 (by decide) ?_
    exact xq_ri hQ hx hb hr hP hK hD hS (0 : Int32) rfl h dX5_as_17 hlocks
def w_X5_back (r_count : Int32) (a_1 : Int32) (post : Int32 → Int32 → Prop) : Prop := (a_1 < 0 → (post (-2 : Int32) r_count)) ∧ (¬ a_1 < 0 → ((a_1 ≤ r_count → (post (r_count - a_1) (r_count - a_1))) ∧ (¬ a_1 ≤ r_count → (post (-2 : Int32) r_count))))
set_option maxHeartbeats 4000000 in
set_option maxRecDepth 100000 in
theorem m_X5_back (l : Launch) (dC : Nat → ClassId) (dI : Nat → Nat → Nat) (cyI cyJ : ClassId) (aa : Nat → Nat) (sz : Nat) {s_lanes : Nat → Int32} {s_sizes : Nat → Int32} {s_cells : Nat → Int32} {x_kinds : Nat → Int32} {x_digits : Nat → Int32} {x_causes : Nat → Int32} {x_effects : Nat → Int32} {x_things : Int32} {x_follows : Int32} {x_due : Int32} {t_kinds : Nat → Int32} {t_digits : Nat → Int32} {t_caseRow : Nat → Int32} {t_weights : Nat → Int32} {t_order : Nat → Int32} {t_calls : Nat → Int32} {t_things : Int32} {t_caseCount : Int32} {t_caseSet : Int64} {p_callsOfCase : Nat → Int64} {p_partOfCase : Nat → Int32} {p_callsOfPart : Nat → Int64} {p_cases : Int32} {p_parts : Int32} {r_cases : Nat → Int32} {r_hours : Nat → Int32} {r_sets : Nat → Int32} {r_count : Int32} {u_lists : Nat → Int32} {u_breaths : Nat → Int32} {u_heard : Nat → Int32} {u_traced : Int32} {u_lastFault : Int32} {a_1 : Int32} {post : Int32 → Int32 → Prop} (h : w_X5_back r_count a_1 post) : Met l yX5_back wsX5_back (xq_R 0 0) (va_Pc [.ref (aa 0), .int a_1] (xq_P (dC, dI) [(cyI, .int), (cyJ, .long)] (wc_u cyI cyJ aa s_lanes s_sizes s_cells x_kinds x_digits x_causes x_effects x_things x_follows x_due t_kinds t_digits t_caseRow t_weights t_order t_calls t_things t_caseCount t_caseSet p_callsOfCase p_partOfCase p_callsOfPart p_cases p_parts r_cases r_hours r_sets r_count u_lists u_breaths u_heard u_traced u_lastFault) sz)) (va_Qi (fun (rr : Int32) (uu : Int32) => post rr uu) (fun (uu : Int32) => xq_B (dC, dI) [(cyI, .int), (cyJ, .long)] (va_A (wc_u cyI cyJ aa s_lanes s_sizes s_cells x_kinds x_digits x_causes x_effects x_things x_follows x_due t_kinds t_digits t_caseRow t_weights t_order t_calls t_things t_caseCount t_caseSet p_callsOfCase p_partOfCase p_callsOfPart p_cases p_parts r_cases r_hours r_sets r_count u_lists u_breaths u_heard u_traced u_lastFault) sz) (wc_u cyI cyJ aa s_lanes s_sizes s_cells x_kinds x_digits x_causes x_effects x_things x_follows x_due t_kinds t_digits t_caseRow t_weights t_order t_calls t_things t_caseCount t_caseSet p_callsOfCase p_partOfCase p_callsOfPart p_cases p_parts r_cases r_hours r_sets uu u_lists u_breaths u_heard u_traced u_lastFault)) (va_A (wc_u cyI cyJ aa s_lanes s_sizes s_cells x_kinds x_digits x_causes x_effects x_things x_follows x_due t_kinds t_digits t_caseRow t_weights t_order t_calls t_things t_caseCount t_caseSet p_callsOfCase p_partOfCase p_callsOfPart p_cases p_parts r_cases r_hours r_sets r_count u_lists u_breaths u_heard u_traced u_lastFault) sz)) 0 0 (va_A (wc_u cyI cyJ aa s_lanes s_sizes s_cells x_kinds x_digits x_causes x_effects x_things x_follows x_due t_kinds t_digits t_caseRow t_weights t_order t_calls t_things t_caseCount t_caseSet p_callsOfCase p_partOfCase p_callsOfPart p_cases p_parts r_cases r_hours r_sets r_count u_lists u_breaths u_heard u_traced u_lastFault) sz) := by
  refine xq_M (cc := cX5_back) (maxL := 2) (ret := (some .int)) (QA := fun A => va_Qi (fun (rr : Int32) (uu : Int32) => post rr uu) (fun (uu : Int32) => xq_B (dC, dI) [(cyI, .int), (cyJ, .long)] A (wc_u cyI cyJ aa s_lanes s_sizes s_cells x_kinds x_digits x_causes x_effects x_things x_follows x_due t_kinds t_digits t_caseRow t_weights t_order t_calls t_things t_caseCount t_caseSet p_callsOfCase p_partOfCase p_callsOfPart p_cases p_parts r_cases r_hours r_sets uu u_lists u_breaths u_heard u_traced u_lastFault)) A) (by decide) rfl (Nat.le_of_ble_eq_true rfl) ?_
  intro p e s m args below meth c A ls Q hQ hx hb hr hml hts hown hlocks hsz hP hK hD hA hS hN hl
  subst hsz
  have hl : lv_has ls 2 [(0, .ref (aa 0)), (1, .int a_1)] := hl
  have hi_X1 : ∀ w ∈ wsX10, w ∈ wsX5_back := fun _ h => List.mem_cons_of_mem _ (List.mem_append_right _ h)
  have hi_X5 : ∀ w ∈ wsX50, w ∈ wsX5_back := fun _ h => List.mem_cons_of_mem _ (List.mem_append_left _ (List.mem_append_right _ h))
  have fl_42 := hts (.fieldLink RX5 42 "UnsaidCalls" "readings" "LUnsaidCalls$Readings;") (by decide +kernel)
  have fl_78 := hts (.fieldLink RX5 78 "UnsaidCalls$Readings" "count" "I") (by decide +kernel)
  unfold w_X5_back at h
  refine lv_iload_n hx hb dX5_back_0 rfl (lv_at hl 1 rfl) ?_
  refine lv_if_lt (tgt := 15) hx hb dX5_back_1 (by decide) (fun hc_2 => ?_) (fun hc_2 => ?_)
  · have h := h.1 hc_2
    refine lv_bipush (v := (-2 : Int32)) hx hb dX5_back_15 (by decide) ?_
    exact xq_ri hQ hx hb hr hP hK hD hS r_count rfl h dX5_back_17 hlocks
  · have h := h.2 hc_2
    refine lv_iload_n hx hb dX5_back_4 rfl (lv_at hl 1 rfl) ?_
    refine lv_aload_n hx hb dX5_back_5 rfl (lv_at hl 0 rfl) ?_
    refine va_get (D := (dC, dI)) (ci := 5) (v := .ref (aa 21)) (C := RX5) (T := TX5) (N := 10) hx hb hts hi_X5 hown hK hP 0 rfl rfl 4 (by decide) fl_42 (fun _ h9 => h9) rfl dX5_back_6 ?_
    refine va_get (D := (dC, dI)) (ci := 1) (v := .int r_count) (C := RX1) (T := TX1) (N := 4) hx hb hts hi_X1 hown hK hP 21 rfl rfl 3 (by decide) fl_78 (fun _ h9 => h9) rfl dX5_back_9 ?_
    refine lv_icmp_le (tgt := 18) hx hb dX5_back_12 (by decide) (fun hc_1 => ?_) (fun hc_1 => ?_)
    · have h := h.1 hc_1
      refine lv_aload_n hx hb dX5_back_18 rfl (lv_at hl 0 rfl) ?_
      refine va_get (D := (dC, dI)) (ci := 5) (v := .ref (aa 21)) (C := RX5) (T := TX5) (N := 10) hx hb hts hi_X5 hown hK hP 0 rfl rfl 4 (by decide) fl_42 (fun _ h9 => h9) rfl dX5_back_19 ?_
      refine lv_dup hx hb dX5_back_22 rfl ?_
      refine va_get (D := (dC, dI)) (ci := 1) (v := .int r_count) (C := RX1) (T := TX1) (N := 4) hx hb hts hi_X1 hown hK hP 21 rfl rfl 3 (by decide) fl_78 (fun _ h9 => h9) rfl dX5_back_23 ?_
      refine lv_iload_n hx hb dX5_back_26 rfl (lv_at hl 1 rfl) ?_
      refine lv_isub hx hb dX5_back_27 ?_
      refine va_put (D := (dC, dI)) (ci := 1) (v := .int (r_count - a_1)) (ty := .int) (C := RX1) (T := TX1) (N := 4) hx hb hts hi_X1 tyX1 tyX1_ok nmX1 hown hK hP hD hS 21 rfl rfl 3 (by decide) fl_78 (fun _ h9 => h9) rfl (by decide +kernel) rfl rfl (Nat.le_of_ble_eq_true rfl) dX5_back_28 (fun H locs hP hD hS => ?_)
      have hP : va_P (dC, dI) vwCl (wc_u cyI cyJ aa s_lanes s_sizes s_cells x_kinds x_digits x_causes x_effects x_things x_follows x_due t_kinds t_digits t_caseRow t_weights t_order t_calls t_things t_caseCount t_caseSet p_callsOfCase p_partOfCase p_callsOfPart p_cases p_parts r_cases r_hours r_sets (r_count - a_1) u_lists u_breaths u_heard u_traced u_lastFault) H := hP
      have hD : va_D A (wc_u cyI cyJ aa s_lanes s_sizes s_cells x_kinds x_digits x_causes x_effects x_things x_follows x_due t_kinds t_digits t_caseRow t_weights t_order t_calls t_things t_caseCount t_caseSet p_callsOfCase p_partOfCase p_callsOfPart p_cases p_parts r_cases r_hours r_sets (r_count - a_1) u_lists u_breaths u_heard u_traced u_lastFault) := hD
      refine lv_aload_n hx hb dX5_back_31 rfl (lv_at hl 0 rfl) ?_
      refine va_get (D := (dC, dI)) (ci := 5) (v := .ref (aa 21)) (C := RX5) (T := TX5) (N := 10) hx hb hts hi_X5 hown hK hP 0 rfl rfl 4 (by decide) fl_42 (fun _ h9 => h9) rfl dX5_back_32 ?_
      refine va_get (D := (dC, dI)) (ci := 1) (v := .int (r_count - a_1)) (C := RX1) (T := TX1) (N := 4) hx hb hts hi_X1 hown hK hP 21 rfl rfl 3 (by decide) fl_78 (fun _ h9 => h9) rfl dX5_back_35 ?_
      exact xq_ri hQ hx hb hr hP hK hD hS (r_count - a_1) rfl h dX5_back_38 hlocks
    · have h := h.2 hc_1
      refine lv_bipush (v := (-2 : Int32)) hx hb dX5_back_15 (by decide) ?_
      exact xq_ri hQ hx hb hr hP hK hD hS r_count rfl h dX5_back_17 hlocks
def w_X5_hasTown (t_things : Int32) (post : Int32 → Prop) : Prop := (t_things ≤ 0 → (post (0 : Int32))) ∧ (¬ t_things ≤ 0 → (post (1 : Int32)))
set_option maxHeartbeats 4000000 in
set_option maxRecDepth 100000 in
theorem m_X5_hasTown (l : Launch) (dC : Nat → ClassId) (dI : Nat → Nat → Nat) (cyI cyJ : ClassId) (aa : Nat → Nat) (sz : Nat) {s_lanes : Nat → Int32} {s_sizes : Nat → Int32} {s_cells : Nat → Int32} {x_kinds : Nat → Int32} {x_digits : Nat → Int32} {x_causes : Nat → Int32} {x_effects : Nat → Int32} {x_things : Int32} {x_follows : Int32} {x_due : Int32} {t_kinds : Nat → Int32} {t_digits : Nat → Int32} {t_caseRow : Nat → Int32} {t_weights : Nat → Int32} {t_order : Nat → Int32} {t_calls : Nat → Int32} {t_things : Int32} {t_caseCount : Int32} {t_caseSet : Int64} {p_callsOfCase : Nat → Int64} {p_partOfCase : Nat → Int32} {p_callsOfPart : Nat → Int64} {p_cases : Int32} {p_parts : Int32} {r_cases : Nat → Int32} {r_hours : Nat → Int32} {r_sets : Nat → Int32} {r_count : Int32} {u_lists : Nat → Int32} {u_breaths : Nat → Int32} {u_heard : Nat → Int32} {u_traced : Int32} {u_lastFault : Int32} {post : Int32 → Prop} (h : w_X5_hasTown t_things post) : Met l yX5_hasTown wsX5_hasTown (xq_R 0 0) (va_Pc [.ref (aa 0)] (xq_P (dC, dI) [(cyI, .int), (cyJ, .long)] (wc_u cyI cyJ aa s_lanes s_sizes s_cells x_kinds x_digits x_causes x_effects x_things x_follows x_due t_kinds t_digits t_caseRow t_weights t_order t_calls t_things t_caseCount t_caseSet p_callsOfCase p_partOfCase p_callsOfPart p_cases p_parts r_cases r_hours r_sets r_count u_lists u_breaths u_heard u_traced u_lastFault) sz)) (va_Qi (fun (rr : Int32) (uu : Unit) => post rr ) (fun (uu : Unit) => xq_B (dC, dI) [(cyI, .int), (cyJ, .long)] (va_A (wc_u cyI cyJ aa s_lanes s_sizes s_cells x_kinds x_digits x_causes x_effects x_things x_follows x_due t_kinds t_digits t_caseRow t_weights t_order t_calls t_things t_caseCount t_caseSet p_callsOfCase p_partOfCase p_callsOfPart p_cases p_parts r_cases r_hours r_sets r_count u_lists u_breaths u_heard u_traced u_lastFault) sz) (wc_u cyI cyJ aa s_lanes s_sizes s_cells x_kinds x_digits x_causes x_effects x_things x_follows x_due t_kinds t_digits t_caseRow t_weights t_order t_calls t_things t_caseCount t_caseSet p_callsOfCase p_partOfCase p_callsOfPart p_cases p_parts r_cases r_hours r_sets r_count u_lists u_breaths u_heard u_traced u_lastFault)) (va_A (wc_u cyI cyJ aa s_lanes s_sizes s_cells x_kinds x_digits x_causes x_effects x_things x_follows x_due t_kinds t_digits t_caseRow t_weights t_order t_calls t_things t_caseCount t_caseSet p_callsOfCase p_partOfCase p_callsOfPart p_cases p_parts r_cases r_hours r_sets r_count u_lists u_breaths u_heard u_traced u_lastFault) sz)) 0 0 (va_A (wc_u cyI cyJ aa s_lanes s_sizes s_cells x_kinds x_digits x_causes x_effects x_things x_follows x_due t_kinds t_digits t_caseRow t_weights t_order t_calls t_things t_caseCount t_caseSet p_callsOfCase p_partOfCase p_callsOfPart p_cases p_parts r_cases r_hours r_sets r_count u_lists u_breaths u_heard u_traced u_lastFault) sz) := by
  refine xq_M (cc := cX5_hasTown) (maxL := 1) (ret := (some .boolean)) (QA := fun A => va_Qi (fun (rr : Int32) (uu : Unit) => post rr ) (fun (uu : Unit) => xq_B (dC, dI) [(cyI, .int), (cyJ, .long)] A (wc_u cyI cyJ aa s_lanes s_sizes s_cells x_kinds x_digits x_causes x_effects x_things x_follows x_due t_kinds t_digits t_caseRow t_weights t_order t_calls t_things t_caseCount t_caseSet p_callsOfCase p_partOfCase p_callsOfPart p_cases p_parts r_cases r_hours r_sets r_count u_lists u_breaths u_heard u_traced u_lastFault)) A) (by decide) rfl (Nat.le_of_ble_eq_true rfl) ?_
  intro p e s m args below meth c A ls Q hQ hx hb hr hml hts hown hlocks hsz hP hK hD hA hS hN hl
  subst hsz
  have hl : lv_has ls 1 [(0, .ref (aa 0))] := hl
  have hi_X4 : ∀ w ∈ wsX40, w ∈ wsX5_hasTown := fun _ h => List.mem_cons_of_mem _ (List.mem_append_right _ h)
  have hi_X5 : ∀ w ∈ wsX50, w ∈ wsX5_hasTown := fun _ h => List.mem_cons_of_mem _ (List.mem_append_left _ (List.mem_append_right _ h))
  have fl_28 := hts (.fieldLink RX5 28 "UnsaidCalls" "place" "LUnsaidCalls$Town;") (by decide +kernel)
  have fl_81 := hts (.fieldLink RX5 81 "UnsaidCalls$Town" "things" "I") (by decide +kernel)
  unfold w_X5_hasTown at h
  refine lv_aload_n hx hb dX5_hasTown_0 rfl (lv_at hl 0 rfl) ?_
  refine va_get (D := (dC, dI)) (ci := 5) (v := .ref (aa 10)) (C := RX5) (T := TX5) (N := 10) hx hb hts hi_X5 hown hK hP 0 rfl rfl 2 (by decide) fl_28 (fun _ h9 => h9) rfl dX5_hasTown_1 ?_
  refine va_get (D := (dC, dI)) (ci := 4) (v := .int t_things) (C := RX4) (T := TX4) (N := 9) hx hb hts hi_X4 hown hK hP 10 rfl rfl 6 (by decide) fl_81 (fun _ h9 => h9) rfl dX5_hasTown_4 ?_
  refine lv_if_le (tgt := 14) hx hb dX5_hasTown_7 (by decide) (fun hc_1 => ?_) (fun hc_1 => ?_)
  · have h := h.1 hc_1
    refine lv_iconst (v := (0 : Int32)) hx hb dX5_hasTown_14 (by decide) ?_
    exact xq_rz hQ hx hb hr (by decide) hP hK hD hS () rfl h dX5_hasTown_15 hlocks
  · have h := h.2 hc_1
    refine lv_iconst (v := (1 : Int32)) hx hb dX5_hasTown_10 (by decide) ?_
    refine lv_goto (tgt := 15) hx hb dX5_hasTown_11 (by decide) ?_
    exact xq_rz hQ hx hb hr (by decide) hP hK hD hS () rfl h dX5_hasTown_15 hlocks
def w_X5_isHour (a_0 : Int32) (post : Int32 → Prop) : Prop := (a_0 < 0 → (post (0 : Int32))) ∧ (¬ a_0 < 0 → (((6 : Int32) ≤ a_0 → (post (0 : Int32))) ∧ (¬ (6 : Int32) ≤ a_0 → (post (1 : Int32)))))
set_option maxHeartbeats 4000000 in
set_option maxRecDepth 100000 in
theorem m_X5_isHour (l : Launch) (dC : Nat → ClassId) (dI : Nat → Nat → Nat) (cyI cyJ : ClassId) (ww : va_W) (sz : Nat) {a_0 : Int32} {post : Int32 → Prop} (h : w_X5_isHour a_0 post) : Met l yX5_isHour wsX5_isHour (xq_R 0 0) (va_Pc [.int a_0] (xq_P (dC, dI) [(cyI, .int), (cyJ, .long)] ww sz)) (va_Qi (fun (rr : Int32) (uu : Unit) => post rr ) (fun (uu : Unit) => xq_B (dC, dI) [(cyI, .int), (cyJ, .long)] (va_A ww sz) ww) (va_A ww sz)) 0 0 (va_A ww sz) := by
  refine xq_M (cc := cX5_isHour) (maxL := 1) (ret := (some .boolean)) (QA := fun A => va_Qi (fun (rr : Int32) (uu : Unit) => post rr ) (fun (uu : Unit) => xq_B (dC, dI) [(cyI, .int), (cyJ, .long)] A ww) A) (by decide) rfl (Nat.le_of_ble_eq_true rfl) ?_
  intro p e s m args below meth c A ls Q hQ hx hb hr hml hts hown hlocks hsz hP hK hD hA hS hN hl
  subst hsz
  have hl : lv_has ls 1 [(0, .int a_0)] := hl
  unfold w_X5_isHour at h
  refine lv_iload_n hx hb dX5_isHour_0 rfl (lv_at hl 0 rfl) ?_
  refine lv_if_lt (tgt := 14) hx hb dX5_isHour_1 (by decide) (fun hc_2 => ?_) (fun hc_2 => ?_)
  · have h := h.1 hc_2
    refine lv_iconst (v := (0 : Int32)) hx hb dX5_isHour_14 (by decide) ?_
    exact xq_rz hQ hx hb hr (by decide) hP hK hD hS () rfl h dX5_isHour_15 hlocks
  · have h := h.2 hc_2
    refine lv_iload_n hx hb dX5_isHour_4 rfl (lv_at hl 0 rfl) ?_
    refine lv_bipush (v := (6 : Int32)) hx hb dX5_isHour_5 (by decide) ?_
    refine lv_icmp_ge (tgt := 14) hx hb dX5_isHour_7 (by decide) (fun hc_1 => ?_) (fun hc_1 => ?_)
    · have h := h.1 hc_1
      refine lv_iconst (v := (0 : Int32)) hx hb dX5_isHour_14 (by decide) ?_
      exact xq_rz hQ hx hb hr (by decide) hP hK hD hS () rfl h dX5_isHour_15 hlocks
    · have h := h.2 hc_1
      refine lv_iconst (v := (1 : Int32)) hx hb dX5_isHour_10 (by decide) ?_
      refine lv_goto (tgt := 15) hx hb dX5_isHour_11 (by decide) ?_
      exact xq_rz hQ hx hb hr (by decide) hP hK hD hS () rfl h dX5_isHour_15 hlocks
def w_X5_splitByHours_L13 (a_1 : Int32) (t_caseRow : Nat → Int32) (t_calls : Nat → Int32) (t_caseCount : Int32) (p_cases : Int32) (u_lists : Nat → Int32) (u_breaths : Nat → Int32) (post : (Nat → Int64) → Int32 → Prop) (kk : (Nat → Int64) → Prop) : Nat → Int32 → (Nat → Int64) → Prop
  | 0, _, _ => False
  | f_13 + 1, a_2, p_callsOfCase => (a_1 ≤ a_2 → (kk p_callsOfCase)) ∧ (¬ a_1 ≤ a_2 → (((6 : Int32) ≤ a_2 → (kk p_callsOfCase)) ∧ (¬ (6 : Int32) ≤ a_2 → ((vp_in a_2 6) ∧ ((vp_in a_2 6) ∧ (w_X0_splitBy t_caseRow t_calls p_callsOfCase p_cases (u_lists a_2.toNatClampNeg) (u_breaths a_2.toNatClampNeg) (fun (cc_5 : Nat → Int64) => w_X5_splitByHours_L13 a_1 t_caseRow t_calls t_caseCount p_cases u_lists u_breaths post kk f_13 (a_2 + (1 : Int32)) cc_5)))))))
def w_X5_splitByHours (t_caseRow : Nat → Int32) (t_calls : Nat → Int32) (t_caseCount : Int32) (p_callsOfCase : Nat → Int64) (p_cases : Int32) (u_lists : Nat → Int32) (u_breaths : Nat → Int32) (a_1 : Int32) (post : (Nat → Int64) → Int32 → Prop) : Prop := w_X0_begin t_caseCount p_callsOfCase p_cases (fun (cc_1 : Nat → Int64) (cc_2 : Int32) => ∃ e_13, w_X5_splitByHours_L13 a_1 t_caseRow t_calls t_caseCount cc_2 u_lists u_breaths post (fun (xx_11 : Nat → Int64) => post xx_11 cc_2) e_13 (0 : Int32) cc_1)
set_option maxHeartbeats 4000000 in
set_option maxRecDepth 100000 in
theorem m_X5_splitByHours (l : Launch) (dC : Nat → ClassId) (dI : Nat → Nat → Nat) (cyI cyJ : ClassId) (aa : Nat → Nat) (sz : Nat) {s_lanes : Nat → Int32} {s_sizes : Nat → Int32} {s_cells : Nat → Int32} {x_kinds : Nat → Int32} {x_digits : Nat → Int32} {x_causes : Nat → Int32} {x_effects : Nat → Int32} {x_things : Int32} {x_follows : Int32} {x_due : Int32} {t_kinds : Nat → Int32} {t_digits : Nat → Int32} {t_caseRow : Nat → Int32} {t_weights : Nat → Int32} {t_order : Nat → Int32} {t_calls : Nat → Int32} {t_things : Int32} {t_caseCount : Int32} {t_caseSet : Int64} {p_callsOfCase : Nat → Int64} {p_partOfCase : Nat → Int32} {p_callsOfPart : Nat → Int64} {p_cases : Int32} {p_parts : Int32} {r_cases : Nat → Int32} {r_hours : Nat → Int32} {r_sets : Nat → Int32} {r_count : Int32} {u_lists : Nat → Int32} {u_breaths : Nat → Int32} {u_heard : Nat → Int32} {u_traced : Int32} {u_lastFault : Int32} {a_1 : Int32} {post : (Nat → Int64) → Int32 → Prop} (h : w_X5_splitByHours t_caseRow t_calls t_caseCount p_callsOfCase p_cases u_lists u_breaths a_1 post) : Met l yX5_splitByHours wsX5_splitByHours (xq_R 3 67) (va_Pc [.ref (aa 0), .int a_1] (xq_P (dC, dI) [(cyI, .int), (cyJ, .long)] (wc_u cyI cyJ aa s_lanes s_sizes s_cells x_kinds x_digits x_causes x_effects x_things x_follows x_due t_kinds t_digits t_caseRow t_weights t_order t_calls t_things t_caseCount t_caseSet p_callsOfCase p_partOfCase p_callsOfPart p_cases p_parts r_cases r_hours r_sets r_count u_lists u_breaths u_heard u_traced u_lastFault) sz)) (va_Qv (fun (uu : (Nat → Int64) × Int32) => post uu.1 uu.2) (fun (uu : (Nat → Int64) × Int32) => xq_B (dC, dI) [(cyI, .int), (cyJ, .long)] (va_A (wc_u cyI cyJ aa s_lanes s_sizes s_cells x_kinds x_digits x_causes x_effects x_things x_follows x_due t_kinds t_digits t_caseRow t_weights t_order t_calls t_things t_caseCount t_caseSet p_callsOfCase p_partOfCase p_callsOfPart p_cases p_parts r_cases r_hours r_sets r_count u_lists u_breaths u_heard u_traced u_lastFault) sz) (wc_u cyI cyJ aa s_lanes s_sizes s_cells x_kinds x_digits x_causes x_effects x_things x_follows x_due t_kinds t_digits t_caseRow t_weights t_order t_calls t_things t_caseCount t_caseSet uu.1 p_partOfCase p_callsOfPart uu.2 p_parts r_cases r_hours r_sets r_count u_lists u_breaths u_heard u_traced u_lastFault)) (va_A (wc_u cyI cyJ aa s_lanes s_sizes s_cells x_kinds x_digits x_causes x_effects x_things x_follows x_due t_kinds t_digits t_caseRow t_weights t_order t_calls t_things t_caseCount t_caseSet p_callsOfCase p_partOfCase p_callsOfPart p_cases p_parts r_cases r_hours r_sets r_count u_lists u_breaths u_heard u_traced u_lastFault) sz)) 0 0 (va_A (wc_u cyI cyJ aa s_lanes s_sizes s_cells x_kinds x_digits x_causes x_effects x_things x_follows x_due t_kinds t_digits t_caseRow t_weights t_order t_calls t_things t_caseCount t_caseSet p_callsOfCase p_partOfCase p_callsOfPart p_cases p_parts r_cases r_hours r_sets r_count u_lists u_breaths u_heard u_traced u_lastFault) sz) := by
  refine xq_M (cc := cX5_splitByHours) (maxL := 3) (ret := none) (QA := fun A => va_Qv (fun (uu : (Nat → Int64) × Int32) => post uu.1 uu.2) (fun (uu : (Nat → Int64) × Int32) => xq_B (dC, dI) [(cyI, .int), (cyJ, .long)] A (wc_u cyI cyJ aa s_lanes s_sizes s_cells x_kinds x_digits x_causes x_effects x_things x_follows x_due t_kinds t_digits t_caseRow t_weights t_order t_calls t_things t_caseCount t_caseSet uu.1 p_partOfCase p_callsOfPart uu.2 p_parts r_cases r_hours r_sets r_count u_lists u_breaths u_heard u_traced u_lastFault)) A) (by decide) rfl (Nat.le_of_ble_eq_true rfl) ?_
  intro p e s m args below meth c A ls Q hQ hx hb hr hml hts hown hlocks hsz hP hK hD hA hS hN hl
  subst hsz
  have hl : lv_has ls 3 [(0, .ref (aa 0)), (1, .int a_1)] := hl
  have hi_X5 : ∀ w ∈ wsX50, w ∈ wsX5_splitByHours := fun _ h => List.mem_cons_of_mem _ (List.mem_append_left _ (List.mem_append_left _ (List.mem_append_right _ h)))
  have fl_28 := hts (.fieldLink RX5 28 "UnsaidCalls" "place" "LUnsaidCalls$Town;") (by decide +kernel)
  have fl_35 := hts (.fieldLink RX5 35 "UnsaidCalls" "parting" "LUnsaidCalls$Parting;") (by decide +kernel)
  have fl_46 := hts (.fieldLink RX5 46 "UnsaidCalls" "lists" "[I") (by decide +kernel)
  have fl_50 := hts (.fieldLink RX5 50 "UnsaidCalls" "breaths" "[I") (by decide +kernel)
  unfold w_X5_splitByHours at h
  refine lv_aload_n hx hb dX5_splitByHours_0 rfl (lv_at hl 0 rfl) ?_
  refine va_get (D := (dC, dI)) (ci := 5) (v := .ref (aa 17)) (C := RX5) (T := TX5) (N := 10) hx hb hts hi_X5 hown hK hP 0 rfl rfl 3 (by decide) fl_35 (fun _ h9 => h9) rfl dX5_splitByHours_1 ?_
  refine lv_aload_n hx hb dX5_splitByHours_4 rfl (lv_at hl 0 rfl) ?_
  refine va_get (D := (dC, dI)) (ci := 5) (v := .ref (aa 10)) (C := RX5) (T := TX5) (N := 10) hx hb hts hi_X5 hown hK hP 0 rfl rfl 2 (by decide) fl_28 (fun _ h9 => h9) rfl dX5_splitByHours_5 ?_
  refine xq_cv (va_runV (As := [.ref (aa 10)]) (rest := []) ⟨hx, hb, hml, hown, hts⟩ (m_X0_begin l dC dI cyI cyJ aa s.heap.size h) (cwV 1 hts gX5_splitByHours_X0_begin rfl rfl rfl (by decide +kernel) ⟨Nat.le_of_ble_eq_true rfl, Nat.le_of_ble_eq_true rfl⟩) (xq_preV hK hP hD hN (ci := 0) (q0 := 17) rfl rfl) rfl rfl hl.1 rfl (lv_room (Nat.le_of_ble_eq_true rfl)) dX5_splitByHours_8 ⟨Nat.le_refl _, Nat.le_refl _⟩) hD hS hA (fun uu H locs h hP hD hS => ?_)
  obtain ⟨cc_1, cc_2⟩ := uu
  have hP : va_P (dC, dI) vwCl (wc_u cyI cyJ aa s_lanes s_sizes s_cells x_kinds x_digits x_causes x_effects x_things x_follows x_due t_kinds t_digits t_caseRow t_weights t_order t_calls t_things t_caseCount t_caseSet cc_1 p_partOfCase p_callsOfPart cc_2 p_parts r_cases r_hours r_sets r_count u_lists u_breaths u_heard u_traced u_lastFault) H := hP
  have hD : va_D A (wc_u cyI cyJ aa s_lanes s_sizes s_cells x_kinds x_digits x_causes x_effects x_things x_follows x_due t_kinds t_digits t_caseRow t_weights t_order t_calls t_things t_caseCount t_caseSet cc_1 p_partOfCase p_callsOfPart cc_2 p_parts r_cases r_hours r_sets r_count u_lists u_breaths u_heard u_traced u_lastFault) := hD
  refine lv_iconst (v := (0 : Int32)) hx hb dX5_splitByHours_11 (by decide) ?_
  refine lv_istore_n (lv' := [(2, .int (0 : Int32)), (0, .ref (aa 0)), (1, .int a_1)]) hx hb dX5_splitByHours_12 rfl hl (by decide) rfl (fun ls hl => ?_)
  obtain ⟨ni, h⟩ := h
  have lp_13 : ∀ (kk : (Nat → Int64) → Prop), (∀ (xx_11 : Nat → Int64) (H : Heap) (locs : List Loc) (ls : Array Slot), va_P (dC, dI) vwCl (wc_u cyI cyJ aa s_lanes s_sizes s_cells x_kinds x_digits x_causes x_effects x_things x_follows x_due t_kinds t_digits t_caseRow t_weights t_order t_calls t_things t_caseCount t_caseSet xx_11 p_partOfCase p_callsOfPart cc_2 p_parts r_cases r_hours r_sets r_count u_lists u_breaths u_heard u_traced u_lastFault) H → va_D A (wc_u cyI cyJ aa s_lanes s_sizes s_cells x_kinds x_digits x_causes x_effects x_things x_follows x_due t_kinds t_digits t_caseRow t_weights t_order t_calls t_things t_caseCount t_caseSet xx_11 p_partOfCase p_callsOfPart cc_2 p_parts r_cases r_hours r_sets r_count u_lists u_breaths u_heard u_traced u_lastFault) → va_S A s.heap H locs → lv_has ls 3 [] → kk xx_11 → W p l e (xq_R 3 67) s m args below meth c H locs 0 0 Q (F0 m 53 ls [])) → ∀ (ni : Nat) (aa_9 : Int32) (cc_10 : Nat → Int64) (H : Heap) (locs : List Loc) (ls : Array Slot), va_P (dC, dI) vwCl (wc_u cyI cyJ aa s_lanes s_sizes s_cells x_kinds x_digits x_causes x_effects x_things x_follows x_due t_kinds t_digits t_caseRow t_weights t_order t_calls t_things t_caseCount t_caseSet cc_10 p_partOfCase p_callsOfPart cc_2 p_parts r_cases r_hours r_sets r_count u_lists u_breaths u_heard u_traced u_lastFault) H → va_D A (wc_u cyI cyJ aa s_lanes s_sizes s_cells x_kinds x_digits x_causes x_effects x_things x_follows x_due t_kinds t_digits t_caseRow t_weights t_order t_calls t_things t_caseCount t_caseSet cc_10 p_partOfCase p_callsOfPart cc_2 p_parts r_cases r_hours r_sets r_count u_lists u_breaths u_heard u_traced u_lastFault) → va_S A s.heap H locs → lv_has ls 3 [(0, .ref (aa 0)), (1, .int a_1), (2, .int aa_9)] → w_X5_splitByHours_L13 a_1 t_caseRow t_calls t_caseCount cc_2 u_lists u_breaths post kk ni aa_9 cc_10 → W p l e (xq_R 3 67) s m args below meth c H locs 0 0 Q (F0 m 13 ls []) := by
    intro kk kx ni
    induction ni with
    | zero => intros; exact False.elim (by assumption)
    | succ ni ih =>
      intro aa_9 cc_10 H locs ls hP hD hS hl h
      rw [w_X5_splitByHours_L13] at h
      refine lv_iload_n hx hb dX5_splitByHours_13 rfl (lv_at hl 2 rfl) ?_
      refine lv_iload_n hx hb dX5_splitByHours_14 rfl (lv_at hl 1 rfl) ?_
      refine lv_icmp_ge (tgt := 53) hx hb dX5_splitByHours_15 (by decide) (fun hc_17 => ?_) (fun hc_17 => ?_)
      · have h := h.1 hc_17
        exact kx cc_10 _ _ _ hP hD hS (lv_sub hl [] rfl) h
      · have h := h.2 hc_17
        refine lv_iload_n hx hb dX5_splitByHours_18 rfl (lv_at hl 2 rfl) ?_
        refine lv_bipush (v := (6 : Int32)) hx hb dX5_splitByHours_19 (by decide) ?_
        refine lv_icmp_ge (tgt := 53) hx hb dX5_splitByHours_21 (by decide) (fun hc_16 => ?_) (fun hc_16 => ?_)
        · have h := h.1 hc_16
          exact kx cc_10 _ _ _ hP hD hS (lv_sub hl [] rfl) h
        · have h := h.2 hc_16
          refine lv_aload_n hx hb dX5_splitByHours_24 rfl (lv_at hl 0 rfl) ?_
          refine va_get (D := (dC, dI)) (ci := 5) (v := .ref (aa 17)) (C := RX5) (T := TX5) (N := 10) hx hb hts hi_X5 hown hK hP 0 rfl rfl 3 (by decide) fl_35 (fun _ h9 => h9) rfl dX5_splitByHours_25 ?_
          refine lv_aload_n hx hb dX5_splitByHours_28 rfl (lv_at hl 0 rfl) ?_
          refine va_get (D := (dC, dI)) (ci := 5) (v := .ref (aa 10)) (C := RX5) (T := TX5) (N := 10) hx hb hts hi_X5 hown hK hP 0 rfl rfl 2 (by decide) fl_28 (fun _ h9 => h9) rfl dX5_splitByHours_29 ?_
          refine lv_aload_n hx hb dX5_splitByHours_32 rfl (lv_at hl 0 rfl) ?_
          refine va_get (D := (dC, dI)) (ci := 5) (v := .ref (aa 25)) (C := RX5) (T := TX5) (N := 10) hx hb hts hi_X5 hown hK hP 0 rfl rfl 5 (by decide) fl_46 (fun _ h9 => h9) rfl dX5_splitByHours_33 ?_
          refine lv_iload_n hx hb dX5_splitByHours_36 rfl (lv_at hl 2 rfl) ?_
          obtain ⟨hv_12, h⟩ := h
          refine va_iald hx hb hK hP 25 0 rfl rfl hv_12 dX5_splitByHours_37 ?_
          refine lv_aload_n hx hb dX5_splitByHours_38 rfl (lv_at hl 0 rfl) ?_
          refine va_get (D := (dC, dI)) (ci := 5) (v := .ref (aa 26)) (C := RX5) (T := TX5) (N := 10) hx hb hts hi_X5 hown hK hP 0 rfl rfl 6 (by decide) fl_50 (fun _ h9 => h9) rfl dX5_splitByHours_39 ?_
          refine lv_iload_n hx hb dX5_splitByHours_42 rfl (lv_at hl 2 rfl) ?_
          obtain ⟨hv_13, h⟩ := h
          refine va_iald hx hb hK hP 26 0 rfl rfl hv_13 dX5_splitByHours_43 ?_
          refine xq_cv (va_runV (As := [.ref (aa 10), .int (u_lists aa_9.toNatClampNeg), .int (u_breaths aa_9.toNatClampNeg)]) (rest := []) ⟨hx, hb, hml, hown, hts⟩ (m_X0_splitBy l dC dI cyI cyJ aa H.size h) (cwV 3 hts gX5_splitByHours_X0_splitBy rfl rfl rfl (by decide +kernel) ⟨Nat.le_of_ble_eq_true rfl, Nat.le_of_ble_eq_true rfl⟩) (xq_preV hK hP hD hN (ci := 0) (q0 := 17) rfl rfl) rfl rfl hl.1 rfl (lv_room (Nat.le_of_ble_eq_true rfl)) dX5_splitByHours_44 ⟨Nat.le_refl _, Nat.le_refl _⟩) hD hS hA (fun uu H locs h hP hD hS => ?_)
          obtain ⟨cc_14, rfl⟩ : ∃ z, z = uu := ⟨_, rfl⟩
          have hP : va_P (dC, dI) vwCl (wc_u cyI cyJ aa s_lanes s_sizes s_cells x_kinds x_digits x_causes x_effects x_things x_follows x_due t_kinds t_digits t_caseRow t_weights t_order t_calls t_things t_caseCount t_caseSet cc_14 p_partOfCase p_callsOfPart cc_2 p_parts r_cases r_hours r_sets r_count u_lists u_breaths u_heard u_traced u_lastFault) H := hP
          have hD : va_D A (wc_u cyI cyJ aa s_lanes s_sizes s_cells x_kinds x_digits x_causes x_effects x_things x_follows x_due t_kinds t_digits t_caseRow t_weights t_order t_calls t_things t_caseCount t_caseSet cc_14 p_partOfCase p_callsOfPart cc_2 p_parts r_cases r_hours r_sets r_count u_lists u_breaths u_heard u_traced u_lastFault) := hD
          refine lv_iinc (v := (aa_9 + (1 : Int32))) (lv' := [(2, .int (aa_9 + (1 : Int32))), (0, .ref (aa 0)), (1, .int a_1)]) hx hb dX5_splitByHours_47 hl (k := 2) rfl rfl (by decide) rfl (fun ls hl => ?_)
          refine lv_goto (tgt := 13) hx hb dX5_splitByHours_50 (by decide) ?_
          exact ih (aa_9 + (1 : Int32)) cc_14 _ _ _ hP hD hS (lv_sub hl [1, 2, 0] rfl) h
  refine lp_13 _ (fun xx_11 H locs ls hP hD hS hl h => ?_) ni (0 : Int32) cc_1 _ _ _ hP hD hS (lv_sub hl [1, 2, 0] rfl) h
  exact xq_rv hQ hx hb hr hP hK hD hS (xx_11, cc_2) rfl h dX5_splitByHours_53 hlocks
def w_X5_best_L52 (a_1 : Int32) (a_2 : Int32) (t_caseRow : Nat → Int32) (t_calls : Nat → Int32) (t_things : Int32) (t_caseCount : Int32) (p_callsOfCase : Nat → Int64) (p_partOfCase : Nat → Int32) (p_cases : Int32) (p_parts : Int32) (u_lists : Nat → Int32) (u_breaths : Nat → Int32) (post : Int32 → (Nat → Int64) → (Nat → Int32) → (Nat → Int64) → Int32 → Int32 → Prop) (kk : Int32 → Int32 → (Nat → Int64) → Prop) : Nat → Int32 → Int32 → Int32 → (Nat → Int64) → Prop
  | 0, _, _, _, _ => False
  | f_52 + 1, a_3, a_4, a_5, p_callsOfPart => w_X4_sets t_things (fun (rr_11 : Int32) => (rr_11 ≤ a_5 → (kk a_3 a_4 p_callsOfPart)) ∧ (¬ rr_11 ≤ a_5 → ((vp_in a_1 6) ∧ (w_X0_countWith t_caseRow t_calls p_partOfCase p_callsOfPart p_cases p_parts a_5 (u_breaths a_1.toNatClampNeg) (fun (rr_13 : Int32) (cc_14 : Nat → Int64) => (rr_13 ≤ a_4 → (w_X5_best_L52 a_1 a_2 t_caseRow t_calls t_things t_caseCount p_callsOfCase p_partOfCase p_cases p_parts u_lists u_breaths post kk f_52 a_3 a_4 (a_5 + (1 : Int32)) cc_14)) ∧ (¬ rr_13 ≤ a_4 → (w_X5_best_L52 a_1 a_2 t_caseRow t_calls t_things t_caseCount p_callsOfCase p_partOfCase p_cases p_parts u_lists u_breaths post kk f_52 a_5 rr_13 (a_5 + (1 : Int32)) cc_14)))))))
def w_X5_best (t_caseRow : Nat → Int32) (t_calls : Nat → Int32) (t_things : Int32) (t_caseCount : Int32) (p_callsOfCase : Nat → Int64) (p_partOfCase : Nat → Int32) (p_callsOfPart : Nat → Int64) (p_cases : Int32) (p_parts : Int32) (u_lists : Nat → Int32) (u_breaths : Nat → Int32) (a_1 : Int32) (a_2 : Int32) (post : Int32 → (Nat → Int64) → (Nat → Int32) → (Nat → Int64) → Int32 → Int32 → Prop) : Prop := w_X5_isHour a_1 (fun (rr_1 : Int32) => (¬ rr_1 = 0 → (xq_j0 (fun (kj_2 : Prop) => (a_2 = 0 → (kj_2)) ∧ (¬ a_2 = 0 → ((a_2 = (1 : Int32) → (kj_2)) ∧ (¬ a_2 = (1 : Int32) → (post (-2 : Int32) p_callsOfCase p_partOfCase p_callsOfPart p_cases p_parts))))) (w_X5_hasTown t_things (fun (rr_5 : Int32) => (¬ rr_5 = 0 → (w_X5_splitByHours t_caseRow t_calls t_caseCount p_callsOfCase p_cases u_lists u_breaths a_1 (fun (cc_6 : Nat → Int64) (cc_7 : Int32) => w_X0_number cc_6 p_partOfCase cc_7 p_parts (fun (rr_8 : Int32) (cc_9 : Nat → Int32) (cc_10 : Int32) => ∃ e_52, w_X5_best_L52 a_1 a_2 t_caseRow t_calls t_things t_caseCount cc_6 cc_9 cc_7 cc_10 u_lists u_breaths post (fun (xx_23 : Int32) (xx_24 : Int32) (xx_25 : Nat → Int64) => (¬ a_2 = 0 → (post xx_24 cc_6 cc_9 xx_25 cc_7 cc_10)) ∧ (a_2 = 0 → (post xx_23 cc_6 cc_9 xx_25 cc_7 cc_10))) e_52 (0 : Int32) (0 : Int32) (0 : Int32) p_callsOfPart)))) ∧ (rr_5 = 0 → (post (-3 : Int32) p_callsOfCase p_partOfCase p_callsOfPart p_cases p_parts)))))) ∧ (rr_1 = 0 → (post (-1 : Int32) p_callsOfCase p_partOfCase p_callsOfPart p_cases p_parts)))
set_option maxHeartbeats 4000000 in
set_option maxRecDepth 100000 in
theorem m_X5_best (l : Launch) (dC : Nat → ClassId) (dI : Nat → Nat → Nat) (cyI cyJ : ClassId) (aa : Nat → Nat) (sz : Nat) {s_lanes : Nat → Int32} {s_sizes : Nat → Int32} {s_cells : Nat → Int32} {x_kinds : Nat → Int32} {x_digits : Nat → Int32} {x_causes : Nat → Int32} {x_effects : Nat → Int32} {x_things : Int32} {x_follows : Int32} {x_due : Int32} {t_kinds : Nat → Int32} {t_digits : Nat → Int32} {t_caseRow : Nat → Int32} {t_weights : Nat → Int32} {t_order : Nat → Int32} {t_calls : Nat → Int32} {t_things : Int32} {t_caseCount : Int32} {t_caseSet : Int64} {p_callsOfCase : Nat → Int64} {p_partOfCase : Nat → Int32} {p_callsOfPart : Nat → Int64} {p_cases : Int32} {p_parts : Int32} {r_cases : Nat → Int32} {r_hours : Nat → Int32} {r_sets : Nat → Int32} {r_count : Int32} {u_lists : Nat → Int32} {u_breaths : Nat → Int32} {u_heard : Nat → Int32} {u_traced : Int32} {u_lastFault : Int32} {a_1 : Int32} {a_2 : Int32} {post : Int32 → (Nat → Int64) → (Nat → Int32) → (Nat → Int64) → Int32 → Int32 → Prop} (h : w_X5_best t_caseRow t_calls t_things t_caseCount p_callsOfCase p_partOfCase p_callsOfPart p_cases p_parts u_lists u_breaths a_1 a_2 post) : Met l yX5_best wsX5_best (xq_R 4 89) (va_Pc [.ref (aa 0), .int a_1, .int a_2] (xq_P (dC, dI) [(cyI, .int), (cyJ, .long)] (wc_u cyI cyJ aa s_lanes s_sizes s_cells x_kinds x_digits x_causes x_effects x_things x_follows x_due t_kinds t_digits t_caseRow t_weights t_order t_calls t_things t_caseCount t_caseSet p_callsOfCase p_partOfCase p_callsOfPart p_cases p_parts r_cases r_hours r_sets r_count u_lists u_breaths u_heard u_traced u_lastFault) sz)) (va_Qi (fun (rr : Int32) (uu : (Nat → Int64) × (Nat → Int32) × (Nat → Int64) × Int32 × Int32) => post rr uu.1 uu.2.1 uu.2.2.1 uu.2.2.2.1 uu.2.2.2.2) (fun (uu : (Nat → Int64) × (Nat → Int32) × (Nat → Int64) × Int32 × Int32) => xq_B (dC, dI) [(cyI, .int), (cyJ, .long)] (va_A (wc_u cyI cyJ aa s_lanes s_sizes s_cells x_kinds x_digits x_causes x_effects x_things x_follows x_due t_kinds t_digits t_caseRow t_weights t_order t_calls t_things t_caseCount t_caseSet p_callsOfCase p_partOfCase p_callsOfPart p_cases p_parts r_cases r_hours r_sets r_count u_lists u_breaths u_heard u_traced u_lastFault) sz) (wc_u cyI cyJ aa s_lanes s_sizes s_cells x_kinds x_digits x_causes x_effects x_things x_follows x_due t_kinds t_digits t_caseRow t_weights t_order t_calls t_things t_caseCount t_caseSet uu.1 uu.2.1 uu.2.2.1 uu.2.2.2.1 uu.2.2.2.2 r_cases r_hours r_sets r_count u_lists u_breaths u_heard u_traced u_lastFault)) (va_A (wc_u cyI cyJ aa s_lanes s_sizes s_cells x_kinds x_digits x_causes x_effects x_things x_follows x_due t_kinds t_digits t_caseRow t_weights t_order t_calls t_things t_caseCount t_caseSet p_callsOfCase p_partOfCase p_callsOfPart p_cases p_parts r_cases r_hours r_sets r_count u_lists u_breaths u_heard u_traced u_lastFault) sz)) 0 0 (va_A (wc_u cyI cyJ aa s_lanes s_sizes s_cells x_kinds x_digits x_causes x_effects x_things x_follows x_due t_kinds t_digits t_caseRow t_weights t_order t_calls t_things t_caseCount t_caseSet p_callsOfCase p_partOfCase p_callsOfPart p_cases p_parts r_cases r_hours r_sets r_count u_lists u_breaths u_heard u_traced u_lastFault) sz) := by
  refine xq_M (cc := cX5_best) (maxL := 7) (ret := (some .int)) (QA := fun A => va_Qi (fun (rr : Int32) (uu : (Nat → Int64) × (Nat → Int32) × (Nat → Int64) × Int32 × Int32) => post rr uu.1 uu.2.1 uu.2.2.1 uu.2.2.2.1 uu.2.2.2.2) (fun (uu : (Nat → Int64) × (Nat → Int32) × (Nat → Int64) × Int32 × Int32) => xq_B (dC, dI) [(cyI, .int), (cyJ, .long)] A (wc_u cyI cyJ aa s_lanes s_sizes s_cells x_kinds x_digits x_causes x_effects x_things x_follows x_due t_kinds t_digits t_caseRow t_weights t_order t_calls t_things t_caseCount t_caseSet uu.1 uu.2.1 uu.2.2.1 uu.2.2.2.1 uu.2.2.2.2 r_cases r_hours r_sets r_count u_lists u_breaths u_heard u_traced u_lastFault)) A) (by decide) rfl (Nat.le_of_ble_eq_true rfl) ?_
  intro p e s m args below meth c A ls Q hQ hx hb hr hml hts hown hlocks hsz hP hK hD hA hS hN hl
  subst hsz
  have hl : lv_has ls 7 [(0, .ref (aa 0)), (1, .int a_1), (2, .int a_2)] := hl
  have hi_X5 : ∀ w ∈ wsX50, w ∈ wsX5_best := fun _ h => List.mem_cons_of_mem _ (List.mem_append_left _ (List.mem_append_left _ (List.mem_append_right _ h)))
  have fl_28 := hts (.fieldLink RX5 28 "UnsaidCalls" "place" "LUnsaidCalls$Town;") (by decide +kernel)
  have fl_35 := hts (.fieldLink RX5 35 "UnsaidCalls" "parting" "LUnsaidCalls$Parting;") (by decide +kernel)
  have fl_50 := hts (.fieldLink RX5 50 "UnsaidCalls" "breaths" "[I") (by decide +kernel)
  unfold w_X5_best at h
  refine lv_iload_n hx hb dX5_best_0 rfl (lv_at hl 1 rfl) ?_
  refine xq_ci (va_runS (As := [.int a_1]) (rest := []) ⟨hx, hb, hml, hown, hts⟩ (m_X5_isHour l dC dI cyI cyJ (wc_u cyI cyJ aa s_lanes s_sizes s_cells x_kinds x_digits x_causes x_effects x_things x_follows x_due t_kinds t_digits t_caseRow t_weights t_order t_calls t_things t_caseCount t_caseSet p_callsOfCase p_partOfCase p_callsOfPart p_cases p_parts r_cases r_hours r_sets r_count u_lists u_breaths u_heard u_traced u_lastFault) s.heap.size h) (va_cwS 1 hts gX5_best_X5_isHour rfl rfl rfl (by decide +kernel) ⟨Nat.le_of_ble_eq_true rfl, Nat.le_of_ble_eq_true rfl⟩) (xq_preS hK hP hD hN) rfl rfl hl.1 rfl (lv_room (Nat.le_of_ble_eq_true rfl)) dX5_best_1 ⟨Nat.le_refl _, Nat.le_refl _⟩) hD hS hA (fun rr_1 uu H locs h hP hD hS => ?_)
  have hP : va_P (dC, dI) vwCl (wc_u cyI cyJ aa s_lanes s_sizes s_cells x_kinds x_digits x_causes x_effects x_things x_follows x_due t_kinds t_digits t_caseRow t_weights t_order t_calls t_things t_caseCount t_caseSet p_callsOfCase p_partOfCase p_callsOfPart p_cases p_parts r_cases r_hours r_sets r_count u_lists u_breaths u_heard u_traced u_lastFault) H := hP
  have hD : va_D A (wc_u cyI cyJ aa s_lanes s_sizes s_cells x_kinds x_digits x_causes x_effects x_things x_follows x_due t_kinds t_digits t_caseRow t_weights t_order t_calls t_things t_caseCount t_caseSet p_callsOfCase p_partOfCase p_callsOfPart p_cases p_parts r_cases r_hours r_sets r_count u_lists u_breaths u_heard u_traced u_lastFault) := hD
  refine lv_if_ne (tgt := 9) hx hb dX5_best_4 (by decide) (fun hc_39 => ?_) (fun hc_39 => ?_)
  · have h := h.1 hc_39
    refine lv_iload_n hx hb dX5_best_9 rfl (lv_at hl 2 rfl) ?_
    refine xq_j0_go (X := ∀ (H : Heap) (locs : List Loc) (ls : Array Slot), va_P (dC, dI) vwCl (wc_u cyI cyJ aa s_lanes s_sizes s_cells x_kinds x_digits x_causes x_effects x_things x_follows x_due t_kinds t_digits t_caseRow t_weights t_order t_calls t_things t_caseCount t_caseSet p_callsOfCase p_partOfCase p_callsOfPart p_cases p_parts r_cases r_hours r_sets r_count u_lists u_breaths u_heard u_traced u_lastFault) H → va_D A (wc_u cyI cyJ aa s_lanes s_sizes s_cells x_kinds x_digits x_causes x_effects x_things x_follows x_due t_kinds t_digits t_caseRow t_weights t_order t_calls t_things t_caseCount t_caseSet p_callsOfCase p_partOfCase p_callsOfPart p_cases p_parts r_cases r_hours r_sets r_count u_lists u_breaths u_heard u_traced u_lastFault) → va_S A s.heap H locs → lv_has ls 7 [(0, .ref (aa 0)), (1, .int a_1), (2, .int a_2)] → W p l e (xq_R 4 89) s m args below meth c H locs 0 0 Q (F0 m 21 ls [])) h (fun  h H locs ls hP hD hS hl => ?_) (fun kj_2 h => ?_)
    · refine lv_aload_n hx hb dX5_best_21 rfl (lv_at hl 0 rfl) ?_
      refine xq_ci (va_runV (As := []) (rest := []) ⟨hx, hb, hml, hown, hts⟩ (m_X5_hasTown l dC dI cyI cyJ aa H.size h) (cwV 0 hts gX5_best_X5_hasTown rfl rfl rfl (by decide +kernel) ⟨Nat.le_of_ble_eq_true rfl, Nat.le_of_ble_eq_true rfl⟩) (xq_preV hK hP hD hN (ci := 5) (q0 := 0) rfl rfl) rfl rfl hl.1 rfl (lv_room (Nat.le_of_ble_eq_true rfl)) dX5_best_22 ⟨Nat.le_refl _, Nat.le_refl _⟩) hD hS hA (fun rr_5 uu H locs h hP hD hS => ?_)
      have hP : va_P (dC, dI) vwCl (wc_u cyI cyJ aa s_lanes s_sizes s_cells x_kinds x_digits x_causes x_effects x_things x_follows x_due t_kinds t_digits t_caseRow t_weights t_order t_calls t_things t_caseCount t_caseSet p_callsOfCase p_partOfCase p_callsOfPart p_cases p_parts r_cases r_hours r_sets r_count u_lists u_breaths u_heard u_traced u_lastFault) H := hP
      have hD : va_D A (wc_u cyI cyJ aa s_lanes s_sizes s_cells x_kinds x_digits x_causes x_effects x_things x_follows x_due t_kinds t_digits t_caseRow t_weights t_order t_calls t_things t_caseCount t_caseSet p_callsOfCase p_partOfCase p_callsOfPart p_cases p_parts r_cases r_hours r_sets r_count u_lists u_breaths u_heard u_traced u_lastFault) := hD
      refine lv_if_ne (tgt := 31) hx hb dX5_best_25 (by decide) (fun hc_37 => ?_) (fun hc_37 => ?_)
      · have h := h.1 hc_37
        refine lv_aload_n hx hb dX5_best_31 rfl (lv_at hl 0 rfl) ?_
        refine lv_iload_n hx hb dX5_best_32 rfl (lv_at hl 1 rfl) ?_
        refine xq_cv (va_runV (As := [.int a_1]) (rest := []) ⟨hx, hb, hml, hown, hts⟩ (m_X5_splitByHours l dC dI cyI cyJ aa H.size h) (cwV 1 hts gX5_best_X5_splitByHours rfl rfl rfl (by decide +kernel) ⟨Nat.le_of_ble_eq_true rfl, Nat.le_of_ble_eq_true rfl⟩) (xq_preV hK hP hD hN (ci := 5) (q0 := 0) rfl rfl) rfl rfl hl.1 rfl (lv_room (Nat.le_of_ble_eq_true rfl)) dX5_best_33 ⟨Nat.le_refl _, Nat.le_refl _⟩) hD hS hA (fun uu H locs h hP hD hS => ?_)
        obtain ⟨cc_6, cc_7⟩ := uu
        have hP : va_P (dC, dI) vwCl (wc_u cyI cyJ aa s_lanes s_sizes s_cells x_kinds x_digits x_causes x_effects x_things x_follows x_due t_kinds t_digits t_caseRow t_weights t_order t_calls t_things t_caseCount t_caseSet cc_6 p_partOfCase p_callsOfPart cc_7 p_parts r_cases r_hours r_sets r_count u_lists u_breaths u_heard u_traced u_lastFault) H := hP
        have hD : va_D A (wc_u cyI cyJ aa s_lanes s_sizes s_cells x_kinds x_digits x_causes x_effects x_things x_follows x_due t_kinds t_digits t_caseRow t_weights t_order t_calls t_things t_caseCount t_caseSet cc_6 p_partOfCase p_callsOfPart cc_7 p_parts r_cases r_hours r_sets r_count u_lists u_breaths u_heard u_traced u_lastFault) := hD
        refine lv_aload_n hx hb dX5_best_36 rfl (lv_at hl 0 rfl) ?_
        refine va_get (D := (dC, dI)) (ci := 5) (v := .ref (aa 17)) (C := RX5) (T := TX5) (N := 10) hx hb hts hi_X5 hown hK hP 0 rfl rfl 3 (by decide) fl_35 (fun _ h9 => h9) rfl dX5_best_37 ?_
        refine xq_ci (va_runV (As := []) (rest := []) ⟨hx, hb, hml, hown, hts⟩ (m_X0_number l dC dI cyI cyJ aa H.size h) (cwV 0 hts gX5_best_X0_number rfl rfl rfl (by decide +kernel) ⟨Nat.le_of_ble_eq_true rfl, Nat.le_of_ble_eq_true rfl⟩) (xq_preV hK hP hD hN (ci := 0) (q0 := 17) rfl rfl) rfl rfl hl.1 rfl (lv_room (Nat.le_of_ble_eq_true rfl)) dX5_best_40 ⟨Nat.le_refl _, Nat.le_refl _⟩) hD hS hA (fun rr_8 uu H locs h hP hD hS => ?_)
        obtain ⟨cc_9, cc_10⟩ := uu
        have hP : va_P (dC, dI) vwCl (wc_u cyI cyJ aa s_lanes s_sizes s_cells x_kinds x_digits x_causes x_effects x_things x_follows x_due t_kinds t_digits t_caseRow t_weights t_order t_calls t_things t_caseCount t_caseSet cc_6 cc_9 p_callsOfPart cc_7 cc_10 r_cases r_hours r_sets r_count u_lists u_breaths u_heard u_traced u_lastFault) H := hP
        have hD : va_D A (wc_u cyI cyJ aa s_lanes s_sizes s_cells x_kinds x_digits x_causes x_effects x_things x_follows x_due t_kinds t_digits t_caseRow t_weights t_order t_calls t_things t_caseCount t_caseSet cc_6 cc_9 p_callsOfPart cc_7 cc_10 r_cases r_hours r_sets r_count u_lists u_breaths u_heard u_traced u_lastFault) := hD
        refine lv_pop hx hb dX5_best_43 rfl ?_
        refine lv_iconst (v := (0 : Int32)) hx hb dX5_best_44 (by decide) ?_
        refine lv_istore_n (lv' := [(3, .int (0 : Int32)), (0, .ref (aa 0)), (1, .int a_1), (2, .int a_2)]) hx hb dX5_best_45 rfl hl (by decide) rfl (fun ls hl => ?_)
        refine lv_iconst (v := (0 : Int32)) hx hb dX5_best_46 (by decide) ?_
        refine lv_istore (lv' := [(4, .int (0 : Int32)), (3, .int (0 : Int32)), (0, .ref (aa 0)), (1, .int a_1), (2, .int a_2)]) hx hb dX5_best_47 hl (by decide) rfl (fun ls hl => ?_)
        refine lv_iconst (v := (0 : Int32)) hx hb dX5_best_49 (by decide) ?_
        refine lv_istore (lv' := [(5, .int (0 : Int32)), (4, .int (0 : Int32)), (3, .int (0 : Int32)), (0, .ref (aa 0)), (1, .int a_1), (2, .int a_2)]) hx hb dX5_best_50 hl (by decide) rfl (fun ls hl => ?_)
        obtain ⟨ni, h⟩ := h
        have lp_52 : ∀ (kk : Int32 → Int32 → (Nat → Int64) → Prop), (∀ (xx_23 : Int32) (xx_24 : Int32) (xx_25 : Nat → Int64) (H : Heap) (locs : List Loc) (ls : Array Slot), va_P (dC, dI) vwCl (wc_u cyI cyJ aa s_lanes s_sizes s_cells x_kinds x_digits x_causes x_effects x_things x_follows x_due t_kinds t_digits t_caseRow t_weights t_order t_calls t_things t_caseCount t_caseSet cc_6 cc_9 xx_25 cc_7 cc_10 r_cases r_hours r_sets r_count u_lists u_breaths u_heard u_traced u_lastFault) H → va_D A (wc_u cyI cyJ aa s_lanes s_sizes s_cells x_kinds x_digits x_causes x_effects x_things x_follows x_due t_kinds t_digits t_caseRow t_weights t_order t_calls t_things t_caseCount t_caseSet cc_6 cc_9 xx_25 cc_7 cc_10 r_cases r_hours r_sets r_count u_lists u_breaths u_heard u_traced u_lastFault) → va_S A s.heap H locs → lv_has ls 7 [(2, .int a_2), (3, .int xx_23), (4, .int xx_24)] → kk xx_23 xx_24 xx_25 → W p l e (xq_R 4 89) s m args below meth c H locs 0 0 Q (F0 m 105 ls [])) → ∀ (ni : Nat) (aa_19 : Int32) (aa_20 : Int32) (aa_21 : Int32) (cc_22 : Nat → Int64) (H : Heap) (locs : List Loc) (ls : Array Slot), va_P (dC, dI) vwCl (wc_u cyI cyJ aa s_lanes s_sizes s_cells x_kinds x_digits x_causes x_effects x_things x_follows x_due t_kinds t_digits t_caseRow t_weights t_order t_calls t_things t_caseCount t_caseSet cc_6 cc_9 cc_22 cc_7 cc_10 r_cases r_hours r_sets r_count u_lists u_breaths u_heard u_traced u_lastFault) H → va_D A (wc_u cyI cyJ aa s_lanes s_sizes s_cells x_kinds x_digits x_causes x_effects x_things x_follows x_due t_kinds t_digits t_caseRow t_weights t_order t_calls t_things t_caseCount t_caseSet cc_6 cc_9 cc_22 cc_7 cc_10 r_cases r_hours r_sets r_count u_lists u_breaths u_heard u_traced u_lastFault) → va_S A s.heap H locs → lv_has ls 7 [(0, .ref (aa 0)), (1, .int a_1), (2, .int a_2), (3, .int aa_19), (4, .int aa_20), (5, .int aa_21)] → w_X5_best_L52 a_1 a_2 t_caseRow t_calls t_things t_caseCount cc_6 cc_9 cc_7 cc_10 u_lists u_breaths post kk ni aa_19 aa_20 aa_21 cc_22 → W p l e (xq_R 4 89) s m args below meth c H locs 0 0 Q (F0 m 52 ls []) := by
          intro kk kx ni
          induction ni with
          | zero => intros; exact False.elim (by assumption)
          | succ ni ih =>
            intro aa_19 aa_20 aa_21 cc_22 H locs ls hP hD hS hl h
            rw [w_X5_best_L52] at h
            refine lv_iload hx hb dX5_best_52 (lv_at hl 5 rfl) ?_
            refine lv_aload_n hx hb dX5_best_54 rfl (lv_at hl 0 rfl) ?_
            refine va_get (D := (dC, dI)) (ci := 5) (v := .ref (aa 10)) (C := RX5) (T := TX5) (N := 10) hx hb hts hi_X5 hown hK hP 0 rfl rfl 2 (by decide) fl_28 (fun _ h9 => h9) rfl dX5_best_55 ?_
            refine xq_ci (va_runV (As := []) (rest := [.int aa_21]) ⟨hx, hb, hml, hown, hts⟩ (m_X4_sets l dC dI cyI cyJ aa H.size h) (cwV 0 hts gX5_best_X4_sets rfl rfl rfl (by decide +kernel) ⟨Nat.le_of_ble_eq_true rfl, Nat.le_of_ble_eq_true rfl⟩) (xq_preV hK hP hD hN (ci := 4) (q0 := 10) rfl rfl) rfl rfl hl.1 rfl (lv_room (Nat.le_of_ble_eq_true rfl)) dX5_best_58 ⟨Nat.le_refl _, Nat.le_refl _⟩) hD hS hA (fun rr_27 uu H locs h hP hD hS => ?_)
            have hP : va_P (dC, dI) vwCl (wc_u cyI cyJ aa s_lanes s_sizes s_cells x_kinds x_digits x_causes x_effects x_things x_follows x_due t_kinds t_digits t_caseRow t_weights t_order t_calls t_things t_caseCount t_caseSet cc_6 cc_9 cc_22 cc_7 cc_10 r_cases r_hours r_sets r_count u_lists u_breaths u_heard u_traced u_lastFault) H := hP
            have hD : va_D A (wc_u cyI cyJ aa s_lanes s_sizes s_cells x_kinds x_digits x_causes x_effects x_things x_follows x_due t_kinds t_digits t_caseRow t_weights t_order t_calls t_things t_caseCount t_caseSet cc_6 cc_9 cc_22 cc_7 cc_10 r_cases r_hours r_sets r_count u_lists u_breaths u_heard u_traced u_lastFault) := hD
            refine lv_icmp_ge (tgt := 105) hx hb dX5_best_61 (by decide) (fun hc_33 => ?_) (fun hc_33 => ?_)
            · have h := h.1 hc_33
              exact kx aa_19 aa_20 cc_22 _ _ _ hP hD hS (lv_sub hl [2, 3, 4] rfl) h
            · have h := h.2 hc_33
              refine lv_aload_n hx hb dX5_best_64 rfl (lv_at hl 0 rfl) ?_
              refine va_get (D := (dC, dI)) (ci := 5) (v := .ref (aa 17)) (C := RX5) (T := TX5) (N := 10) hx hb hts hi_X5 hown hK hP 0 rfl rfl 3 (by decide) fl_35 (fun _ h9 => h9) rfl dX5_best_65 ?_
              refine lv_aload_n hx hb dX5_best_68 rfl (lv_at hl 0 rfl) ?_
              refine va_get (D := (dC, dI)) (ci := 5) (v := .ref (aa 10)) (C := RX5) (T := TX5) (N := 10) hx hb hts hi_X5 hown hK hP 0 rfl rfl 2 (by decide) fl_28 (fun _ h9 => h9) rfl dX5_best_69 ?_
              refine lv_iload hx hb dX5_best_72 (lv_at hl 5 rfl) ?_
              refine lv_aload_n hx hb dX5_best_74 rfl (lv_at hl 0 rfl) ?_
              refine va_get (D := (dC, dI)) (ci := 5) (v := .ref (aa 26)) (C := RX5) (T := TX5) (N := 10) hx hb hts hi_X5 hown hK hP 0 rfl rfl 6 (by decide) fl_50 (fun _ h9 => h9) rfl dX5_best_75 ?_
              refine lv_iload_n hx hb dX5_best_78 rfl (lv_at hl 1 rfl) ?_
              obtain ⟨hv_28, h⟩ := h
              refine va_iald hx hb hK hP 26 0 rfl rfl hv_28 dX5_best_79 ?_
              refine xq_ci (va_runV (As := [.ref (aa 10), .int aa_21, .int (u_breaths a_1.toNatClampNeg)]) (rest := []) ⟨hx, hb, hml, hown, hts⟩ (m_X0_countWith l dC dI cyI cyJ aa H.size h) (cwV 3 hts gX5_best_X0_countWith rfl rfl rfl (by decide +kernel) ⟨Nat.le_of_ble_eq_true rfl, Nat.le_of_ble_eq_true rfl⟩) (xq_preV hK hP hD hN (ci := 0) (q0 := 17) rfl rfl) rfl rfl hl.1 rfl (lv_room (Nat.le_of_ble_eq_true rfl)) dX5_best_80 ⟨Nat.le_refl _, Nat.le_refl _⟩) hD hS hA (fun rr_29 uu H locs h hP hD hS => ?_)
              obtain ⟨cc_30, rfl⟩ : ∃ z, z = uu := ⟨_, rfl⟩
              have hP : va_P (dC, dI) vwCl (wc_u cyI cyJ aa s_lanes s_sizes s_cells x_kinds x_digits x_causes x_effects x_things x_follows x_due t_kinds t_digits t_caseRow t_weights t_order t_calls t_things t_caseCount t_caseSet cc_6 cc_9 cc_30 cc_7 cc_10 r_cases r_hours r_sets r_count u_lists u_breaths u_heard u_traced u_lastFault) H := hP
              have hD : va_D A (wc_u cyI cyJ aa s_lanes s_sizes s_cells x_kinds x_digits x_causes x_effects x_things x_follows x_due t_kinds t_digits t_caseRow t_weights t_order t_calls t_things t_caseCount t_caseSet cc_6 cc_9 cc_30 cc_7 cc_10 r_cases r_hours r_sets r_count u_lists u_breaths u_heard u_traced u_lastFault) := hD
              refine lv_istore (lv' := [(6, .int rr_29), (0, .ref (aa 0)), (1, .int a_1), (2, .int a_2), (3, .int aa_19), (4, .int aa_20), (5, .int aa_21)]) hx hb dX5_best_83 hl (by decide) rfl (fun ls hl => ?_)
              refine lv_iload hx hb dX5_best_85 (lv_at hl 0 rfl) ?_
              refine lv_iload hx hb dX5_best_87 (lv_at hl 5 rfl) ?_
              refine lv_icmp_le (tgt := 99) hx hb dX5_best_89 (by decide) (fun hc_31 => ?_) (fun hc_31 => ?_)
              · have h := h.1 hc_31
                refine lv_iinc (v := (aa_21 + (1 : Int32))) (lv' := [(5, .int (aa_21 + (1 : Int32))), (6, .int rr_29), (0, .ref (aa 0)), (1, .int a_1), (2, .int a_2), (3, .int aa_19), (4, .int aa_20)]) hx hb dX5_best_99 hl (k := 6) rfl rfl (by decide) rfl (fun ls hl => ?_)
                refine lv_goto (tgt := 52) hx hb dX5_best_102 (by decide) ?_
                exact ih aa_19 aa_20 (aa_21 + (1 : Int32)) cc_30 _ _ _ hP hD hS (lv_sub hl [2, 3, 4, 5, 6, 0] rfl) h
              · have h := h.2 hc_31
                refine lv_iload hx hb dX5_best_92 (lv_at hl 0 rfl) ?_
                refine lv_istore (lv' := [(4, .int rr_29), (6, .int rr_29), (0, .ref (aa 0)), (1, .int a_1), (2, .int a_2), (3, .int aa_19), (5, .int aa_21)]) hx hb dX5_best_94 hl (by decide) rfl (fun ls hl => ?_)
                refine lv_iload hx hb dX5_best_96 (lv_at hl 6 rfl) ?_
                refine lv_istore_n (lv' := [(3, .int aa_21), (4, .int rr_29), (6, .int rr_29), (0, .ref (aa 0)), (1, .int a_1), (2, .int a_2), (5, .int aa_21)]) hx hb dX5_best_98 rfl hl (by decide) rfl (fun ls hl => ?_)
                refine lv_iinc (v := (aa_21 + (1 : Int32))) (lv' := [(5, .int (aa_21 + (1 : Int32))), (3, .int aa_21), (4, .int rr_29), (6, .int rr_29), (0, .ref (aa 0)), (1, .int a_1), (2, .int a_2)]) hx hb dX5_best_99 hl (k := 6) rfl rfl (by decide) rfl (fun ls hl => ?_)
                refine lv_goto (tgt := 52) hx hb dX5_best_102 (by decide) ?_
                exact ih aa_21 rr_29 (aa_21 + (1 : Int32)) cc_30 _ _ _ hP hD hS (lv_sub hl [4, 5, 6, 1, 2, 0] rfl) h
        refine lp_52 _ (fun xx_23 xx_24 xx_25 H locs ls hP hD hS hl h => ?_) ni (0 : Int32) (0 : Int32) (0 : Int32) p_callsOfPart _ _ _ hP hD hS (lv_sub hl [3, 4, 5, 2, 1, 0] rfl) h
        refine lv_iload_n hx hb dX5_best_105 rfl (lv_at hl 0 rfl) ?_
        refine lv_if_ne (tgt := 113) hx hb dX5_best_106 (by decide) (fun hc_26 => ?_) (fun hc_26 => ?_)
        · have h := h.1 hc_26
          refine lv_iload hx hb dX5_best_113 (lv_at hl 2 rfl) ?_
          exact xq_ri hQ hx hb hr hP hK hD hS (cc_6, cc_9, xx_25, cc_7, cc_10) rfl h dX5_best_115 hlocks
        · have h := h.2 hc_26
          refine lv_iload_n hx hb dX5_best_109 rfl (lv_at hl 1 rfl) ?_
          refine lv_goto (tgt := 115) hx hb dX5_best_110 (by decide) ?_
          exact xq_ri hQ hx hb hr hP hK hD hS (cc_6, cc_9, xx_25, cc_7, cc_10) rfl h dX5_best_115 hlocks
      · have h := h.2 hc_37
        refine lv_bipush (v := (-3 : Int32)) hx hb dX5_best_28 (by decide) ?_
        exact xq_ri hQ hx hb hr hP hK hD hS (p_callsOfCase, p_partOfCase, p_callsOfPart, p_cases, p_parts) rfl h dX5_best_30 hlocks
    · refine lv_if_eq (tgt := 21) hx hb dX5_best_10 (by decide) (fun hc_4 => ?_) (fun hc_4 => ?_)
      · have h := h.1 hc_4
        exact kj_2 h _ _ _ hP hD hS (lv_sub hl [0, 1, 2] rfl)
      · have h := h.2 hc_4
        refine lv_iload_n hx hb dX5_best_13 rfl (lv_at hl 2 rfl) ?_
        refine lv_iconst (v := (1 : Int32)) hx hb dX5_best_14 (by decide) ?_
        refine lv_icmp_eq (tgt := 21) hx hb dX5_best_15 (by decide) (fun hc_3 => ?_) (fun hc_3 => ?_)
        · have h := h.1 hc_3
          exact kj_2 h _ _ _ hP hD hS (lv_sub hl [0, 1, 2] rfl)
        · have h := h.2 hc_3
          refine lv_bipush (v := (-2 : Int32)) hx hb dX5_best_18 (by decide) ?_
          exact xq_ri hQ hx hb hr hP hK hD hS (p_callsOfCase, p_partOfCase, p_callsOfPart, p_cases, p_parts) rfl h dX5_best_20 hlocks
  · have h := h.2 hc_39
    refine lv_iconst (v := (-1 : Int32)) hx hb dX5_best_7 (by decide) ?_
    exact xq_ri hQ hx hb hr hP hK hD hS (p_callsOfCase, p_partOfCase, p_callsOfPart, p_cases, p_parts) rfl h dX5_best_8 hlocks
def w_X5_breath (t_things : Int32) (u_breaths : Nat → Int32) (a_1 : Int32) (a_2 : Int32) (post : Int32 → (Nat → Int32) → Prop) : Prop := w_X5_isHour a_1 (fun (rr_1 : Int32) => (¬ rr_1 = 0 → (w_X5_isBreath a_2 (fun (rr_2 : Int32) => (¬ rr_2 = 0 → (w_X5_hasTown t_things (fun (rr_3 : Int32) => (¬ rr_3 = 0 → ((vp_in a_1 6) ∧ ((vp_in a_1 6) ∧ (post (u_breaths a_1.toNatClampNeg) (upd u_breaths a_1.toNatClampNeg a_2))))) ∧ (rr_3 = 0 → (post (-3 : Int32) u_breaths))))) ∧ (rr_2 = 0 → (post (-2 : Int32) u_breaths))))) ∧ (rr_1 = 0 → (post (-1 : Int32) u_breaths)))
set_option maxHeartbeats 4000000 in
set_option maxRecDepth 100000 in
theorem m_X5_breath (l : Launch) (dC : Nat → ClassId) (dI : Nat → Nat → Nat) (cyI cyJ : ClassId) (aa : Nat → Nat) (sz : Nat) {s_lanes : Nat → Int32} {s_sizes : Nat → Int32} {s_cells : Nat → Int32} {x_kinds : Nat → Int32} {x_digits : Nat → Int32} {x_causes : Nat → Int32} {x_effects : Nat → Int32} {x_things : Int32} {x_follows : Int32} {x_due : Int32} {t_kinds : Nat → Int32} {t_digits : Nat → Int32} {t_caseRow : Nat → Int32} {t_weights : Nat → Int32} {t_order : Nat → Int32} {t_calls : Nat → Int32} {t_things : Int32} {t_caseCount : Int32} {t_caseSet : Int64} {p_callsOfCase : Nat → Int64} {p_partOfCase : Nat → Int32} {p_callsOfPart : Nat → Int64} {p_cases : Int32} {p_parts : Int32} {r_cases : Nat → Int32} {r_hours : Nat → Int32} {r_sets : Nat → Int32} {r_count : Int32} {u_lists : Nat → Int32} {u_breaths : Nat → Int32} {u_heard : Nat → Int32} {u_traced : Int32} {u_lastFault : Int32} {a_1 : Int32} {a_2 : Int32} {post : Int32 → (Nat → Int32) → Prop} (h : w_X5_breath t_things u_breaths a_1 a_2 post) : Met l yX5_breath wsX5_breath (xq_R 1 20) (va_Pc [.ref (aa 0), .int a_1, .int a_2] (xq_P (dC, dI) [(cyI, .int), (cyJ, .long)] (wc_u cyI cyJ aa s_lanes s_sizes s_cells x_kinds x_digits x_causes x_effects x_things x_follows x_due t_kinds t_digits t_caseRow t_weights t_order t_calls t_things t_caseCount t_caseSet p_callsOfCase p_partOfCase p_callsOfPart p_cases p_parts r_cases r_hours r_sets r_count u_lists u_breaths u_heard u_traced u_lastFault) sz)) (va_Qi (fun (rr : Int32) (uu : (Nat → Int32)) => post rr uu) (fun (uu : (Nat → Int32)) => xq_B (dC, dI) [(cyI, .int), (cyJ, .long)] (va_A (wc_u cyI cyJ aa s_lanes s_sizes s_cells x_kinds x_digits x_causes x_effects x_things x_follows x_due t_kinds t_digits t_caseRow t_weights t_order t_calls t_things t_caseCount t_caseSet p_callsOfCase p_partOfCase p_callsOfPart p_cases p_parts r_cases r_hours r_sets r_count u_lists u_breaths u_heard u_traced u_lastFault) sz) (wc_u cyI cyJ aa s_lanes s_sizes s_cells x_kinds x_digits x_causes x_effects x_things x_follows x_due t_kinds t_digits t_caseRow t_weights t_order t_calls t_things t_caseCount t_caseSet p_callsOfCase p_partOfCase p_callsOfPart p_cases p_parts r_cases r_hours r_sets r_count u_lists uu u_heard u_traced u_lastFault)) (va_A (wc_u cyI cyJ aa s_lanes s_sizes s_cells x_kinds x_digits x_causes x_effects x_things x_follows x_due t_kinds t_digits t_caseRow t_weights t_order t_calls t_things t_caseCount t_caseSet p_callsOfCase p_partOfCase p_callsOfPart p_cases p_parts r_cases r_hours r_sets r_count u_lists u_breaths u_heard u_traced u_lastFault) sz)) 0 0 (va_A (wc_u cyI cyJ aa s_lanes s_sizes s_cells x_kinds x_digits x_causes x_effects x_things x_follows x_due t_kinds t_digits t_caseRow t_weights t_order t_calls t_things t_caseCount t_caseSet p_callsOfCase p_partOfCase p_callsOfPart p_cases p_parts r_cases r_hours r_sets r_count u_lists u_breaths u_heard u_traced u_lastFault) sz) := by
  refine xq_M (cc := cX5_breath) (maxL := 4) (ret := (some .int)) (QA := fun A => va_Qi (fun (rr : Int32) (uu : (Nat → Int32)) => post rr uu) (fun (uu : (Nat → Int32)) => xq_B (dC, dI) [(cyI, .int), (cyJ, .long)] A (wc_u cyI cyJ aa s_lanes s_sizes s_cells x_kinds x_digits x_causes x_effects x_things x_follows x_due t_kinds t_digits t_caseRow t_weights t_order t_calls t_things t_caseCount t_caseSet p_callsOfCase p_partOfCase p_callsOfPart p_cases p_parts r_cases r_hours r_sets r_count u_lists uu u_heard u_traced u_lastFault)) A) (by decide) rfl (Nat.le_of_ble_eq_true rfl) ?_
  intro p e s m args below meth c A ls Q hQ hx hb hr hml hts hown hlocks hsz hP hK hD hA hS hN hl
  subst hsz
  have hl : lv_has ls 4 [(0, .ref (aa 0)), (1, .int a_1), (2, .int a_2)] := hl
  have hi_X5 : ∀ w ∈ wsX50, w ∈ wsX5_breath := fun _ h => List.mem_cons_of_mem _ (List.mem_append_left _ (List.mem_append_right _ h))
  have fl_50 := hts (.fieldLink RX5 50 "UnsaidCalls" "breaths" "[I") (by decide +kernel)
  unfold w_X5_breath at h
  refine lv_iload_n hx hb dX5_breath_0 rfl (lv_at hl 1 rfl) ?_
  refine xq_ci (va_runS (As := [.int a_1]) (rest := []) ⟨hx, hb, hml, hown, hts⟩ (m_X5_isHour l dC dI cyI cyJ (wc_u cyI cyJ aa s_lanes s_sizes s_cells x_kinds x_digits x_causes x_effects x_things x_follows x_due t_kinds t_digits t_caseRow t_weights t_order t_calls t_things t_caseCount t_caseSet p_callsOfCase p_partOfCase p_callsOfPart p_cases p_parts r_cases r_hours r_sets r_count u_lists u_breaths u_heard u_traced u_lastFault) s.heap.size h) (va_cwS 1 hts gX5_breath_X5_isHour rfl rfl rfl (by decide +kernel) ⟨Nat.le_of_ble_eq_true rfl, Nat.le_of_ble_eq_true rfl⟩) (xq_preS hK hP hD hN) rfl rfl hl.1 rfl (lv_room (Nat.le_of_ble_eq_true rfl)) dX5_breath_1 ⟨Nat.le_refl _, Nat.le_refl _⟩) hD hS hA (fun rr_1 uu H locs h hP hD hS => ?_)
  have hP : va_P (dC, dI) vwCl (wc_u cyI cyJ aa s_lanes s_sizes s_cells x_kinds x_digits x_causes x_effects x_things x_follows x_due t_kinds t_digits t_caseRow t_weights t_order t_calls t_things t_caseCount t_caseSet p_callsOfCase p_partOfCase p_callsOfPart p_cases p_parts r_cases r_hours r_sets r_count u_lists u_breaths u_heard u_traced u_lastFault) H := hP
  have hD : va_D A (wc_u cyI cyJ aa s_lanes s_sizes s_cells x_kinds x_digits x_causes x_effects x_things x_follows x_due t_kinds t_digits t_caseRow t_weights t_order t_calls t_things t_caseCount t_caseSet p_callsOfCase p_partOfCase p_callsOfPart p_cases p_parts r_cases r_hours r_sets r_count u_lists u_breaths u_heard u_traced u_lastFault) := hD
  refine lv_if_ne (tgt := 9) hx hb dX5_breath_4 (by decide) (fun hc_10 => ?_) (fun hc_10 => ?_)
  · have h := h.1 hc_10
    refine lv_iload_n hx hb dX5_breath_9 rfl (lv_at hl 2 rfl) ?_
    refine xq_ci (va_runS (As := [.int a_2]) (rest := []) ⟨hx, hb, hml, hown, hts⟩ (m_X5_isBreath l dC dI cyI cyJ (wc_u cyI cyJ aa s_lanes s_sizes s_cells x_kinds x_digits x_causes x_effects x_things x_follows x_due t_kinds t_digits t_caseRow t_weights t_order t_calls t_things t_caseCount t_caseSet p_callsOfCase p_partOfCase p_callsOfPart p_cases p_parts r_cases r_hours r_sets r_count u_lists u_breaths u_heard u_traced u_lastFault) H.size h) (va_cwS 1 hts gX5_breath_X5_isBreath rfl rfl rfl (by decide +kernel) ⟨Nat.le_of_ble_eq_true rfl, Nat.le_of_ble_eq_true rfl⟩) (xq_preS hK hP hD hN) rfl rfl hl.1 rfl (lv_room (Nat.le_of_ble_eq_true rfl)) dX5_breath_10 ⟨Nat.le_refl _, Nat.le_refl _⟩) hD hS hA (fun rr_2 uu H locs h hP hD hS => ?_)
    have hP : va_P (dC, dI) vwCl (wc_u cyI cyJ aa s_lanes s_sizes s_cells x_kinds x_digits x_causes x_effects x_things x_follows x_due t_kinds t_digits t_caseRow t_weights t_order t_calls t_things t_caseCount t_caseSet p_callsOfCase p_partOfCase p_callsOfPart p_cases p_parts r_cases r_hours r_sets r_count u_lists u_breaths u_heard u_traced u_lastFault) H := hP
    have hD : va_D A (wc_u cyI cyJ aa s_lanes s_sizes s_cells x_kinds x_digits x_causes x_effects x_things x_follows x_due t_kinds t_digits t_caseRow t_weights t_order t_calls t_things t_caseCount t_caseSet p_callsOfCase p_partOfCase p_callsOfPart p_cases p_parts r_cases r_hours r_sets r_count u_lists u_breaths u_heard u_traced u_lastFault) := hD
    refine lv_if_ne (tgt := 19) hx hb dX5_breath_13 (by decide) (fun hc_8 => ?_) (fun hc_8 => ?_)
    · have h := h.1 hc_8
      refine lv_aload_n hx hb dX5_breath_19 rfl (lv_at hl 0 rfl) ?_
      refine xq_ci (va_runV (As := []) (rest := []) ⟨hx, hb, hml, hown, hts⟩ (m_X5_hasTown l dC dI cyI cyJ aa H.size h) (cwV 0 hts gX5_breath_X5_hasTown rfl rfl rfl (by decide +kernel) ⟨Nat.le_of_ble_eq_true rfl, Nat.le_of_ble_eq_true rfl⟩) (xq_preV hK hP hD hN (ci := 5) (q0 := 0) rfl rfl) rfl rfl hl.1 rfl (lv_room (Nat.le_of_ble_eq_true rfl)) dX5_breath_20 ⟨Nat.le_refl _, Nat.le_refl _⟩) hD hS hA (fun rr_3 uu H locs h hP hD hS => ?_)
      have hP : va_P (dC, dI) vwCl (wc_u cyI cyJ aa s_lanes s_sizes s_cells x_kinds x_digits x_causes x_effects x_things x_follows x_due t_kinds t_digits t_caseRow t_weights t_order t_calls t_things t_caseCount t_caseSet p_callsOfCase p_partOfCase p_callsOfPart p_cases p_parts r_cases r_hours r_sets r_count u_lists u_breaths u_heard u_traced u_lastFault) H := hP
      have hD : va_D A (wc_u cyI cyJ aa s_lanes s_sizes s_cells x_kinds x_digits x_causes x_effects x_things x_follows x_due t_kinds t_digits t_caseRow t_weights t_order t_calls t_things t_caseCount t_caseSet p_callsOfCase p_partOfCase p_callsOfPart p_cases p_parts r_cases r_hours r_sets r_count u_lists u_breaths u_heard u_traced u_lastFault) := hD
      refine lv_if_ne (tgt := 29) hx hb dX5_breath_23 (by decide) (fun hc_6 => ?_) (fun hc_6 => ?_)
      · have h := h.1 hc_6
        refine lv_aload_n hx hb dX5_breath_29 rfl (lv_at hl 0 rfl) ?_
        refine va_get (D := (dC, dI)) (ci := 5) (v := .ref (aa 26)) (C := RX5) (T := TX5) (N := 10) hx hb hts hi_X5 hown hK hP 0 rfl rfl 6 (by decide) fl_50 (fun _ h9 => h9) rfl dX5_breath_30 ?_
        refine lv_iload_n hx hb dX5_breath_33 rfl (lv_at hl 1 rfl) ?_
        obtain ⟨hv_4, h⟩ := h
        refine va_iald hx hb hK hP 26 0 rfl rfl hv_4 dX5_breath_34 ?_
        refine lv_istore_n (lv' := [(3, .int (u_breaths a_1.toNatClampNeg)), (0, .ref (aa 0)), (1, .int a_1), (2, .int a_2)]) hx hb dX5_breath_35 rfl hl (by decide) rfl (fun ls hl => ?_)
        refine lv_aload_n hx hb dX5_breath_36 rfl (lv_at hl 1 rfl) ?_
        refine va_get (D := (dC, dI)) (ci := 5) (v := .ref (aa 26)) (C := RX5) (T := TX5) (N := 10) hx hb hts hi_X5 hown hK hP 0 rfl rfl 6 (by decide) fl_50 (fun _ h9 => h9) rfl dX5_breath_37 ?_
        refine lv_iload_n hx hb dX5_breath_40 rfl (lv_at hl 2 rfl) ?_
        refine lv_iload_n hx hb dX5_breath_41 rfl (lv_at hl 3 rfl) ?_
        obtain ⟨hv_5, h⟩ := h
        refine va_iast hx hb hK hP hD hS 26 0 rfl rfl hv_5 dX5_breath_42 (fun H locs hP hD hS => ?_)
        have hP : va_P (dC, dI) vwCl (wc_u cyI cyJ aa s_lanes s_sizes s_cells x_kinds x_digits x_causes x_effects x_things x_follows x_due t_kinds t_digits t_caseRow t_weights t_order t_calls t_things t_caseCount t_caseSet p_callsOfCase p_partOfCase p_callsOfPart p_cases p_parts r_cases r_hours r_sets r_count u_lists (upd u_breaths a_1.toNatClampNeg a_2) u_heard u_traced u_lastFault) H := hP
        have hD : va_D A (wc_u cyI cyJ aa s_lanes s_sizes s_cells x_kinds x_digits x_causes x_effects x_things x_follows x_due t_kinds t_digits t_caseRow t_weights t_order t_calls t_things t_caseCount t_caseSet p_callsOfCase p_partOfCase p_callsOfPart p_cases p_parts r_cases r_hours r_sets r_count u_lists (upd u_breaths a_1.toNatClampNeg a_2) u_heard u_traced u_lastFault) := hD
        refine lv_iload_n hx hb dX5_breath_43 rfl (lv_at hl 0 rfl) ?_
        exact xq_ri hQ hx hb hr hP hK hD hS (upd u_breaths a_1.toNatClampNeg a_2) rfl h dX5_breath_44 hlocks
      · have h := h.2 hc_6
        refine lv_bipush (v := (-3 : Int32)) hx hb dX5_breath_26 (by decide) ?_
        exact xq_ri hQ hx hb hr hP hK hD hS u_breaths rfl h dX5_breath_28 hlocks
    · have h := h.2 hc_8
      refine lv_bipush (v := (-2 : Int32)) hx hb dX5_breath_16 (by decide) ?_
      exact xq_ri hQ hx hb hr hP hK hD hS u_breaths rfl h dX5_breath_18 hlocks
  · have h := h.2 hc_10
    refine lv_iconst (v := (-1 : Int32)) hx hb dX5_breath_7 (by decide) ?_
    exact xq_ri hQ hx hb hr hP hK hD hS u_breaths rfl h dX5_breath_8 hlocks
def w_X5_callOfHour (t_calls : Nat → Int32) (u_lists : Nat → Int32) (u_breaths : Nat → Int32) (a_1 : Int32) (a_2 : Int32) (post : Int32 → Prop) : Prop := (vp_in a_2 6) ∧ ((vp_in a_2 6) ∧ (w_X4_callIn t_calls a_1 (u_lists a_2.toNatClampNeg) (u_breaths a_2.toNatClampNeg) (fun (rr_3 : Int32) => post rr_3)))
set_option maxHeartbeats 4000000 in
set_option maxRecDepth 100000 in
theorem m_X5_callOfHour (l : Launch) (dC : Nat → ClassId) (dI : Nat → Nat → Nat) (cyI cyJ : ClassId) (aa : Nat → Nat) (sz : Nat) {s_lanes : Nat → Int32} {s_sizes : Nat → Int32} {s_cells : Nat → Int32} {x_kinds : Nat → Int32} {x_digits : Nat → Int32} {x_causes : Nat → Int32} {x_effects : Nat → Int32} {x_things : Int32} {x_follows : Int32} {x_due : Int32} {t_kinds : Nat → Int32} {t_digits : Nat → Int32} {t_caseRow : Nat → Int32} {t_weights : Nat → Int32} {t_order : Nat → Int32} {t_calls : Nat → Int32} {t_things : Int32} {t_caseCount : Int32} {t_caseSet : Int64} {p_callsOfCase : Nat → Int64} {p_partOfCase : Nat → Int32} {p_callsOfPart : Nat → Int64} {p_cases : Int32} {p_parts : Int32} {r_cases : Nat → Int32} {r_hours : Nat → Int32} {r_sets : Nat → Int32} {r_count : Int32} {u_lists : Nat → Int32} {u_breaths : Nat → Int32} {u_heard : Nat → Int32} {u_traced : Int32} {u_lastFault : Int32} {a_1 : Int32} {a_2 : Int32} {post : Int32 → Prop} (h : w_X5_callOfHour t_calls u_lists u_breaths a_1 a_2 post) : Met l yX5_callOfHour wsX5_callOfHour (xq_R 2 43) (va_Pc [.ref (aa 0), .int a_1, .int a_2] (xq_P (dC, dI) [(cyI, .int), (cyJ, .long)] (wc_u cyI cyJ aa s_lanes s_sizes s_cells x_kinds x_digits x_causes x_effects x_things x_follows x_due t_kinds t_digits t_caseRow t_weights t_order t_calls t_things t_caseCount t_caseSet p_callsOfCase p_partOfCase p_callsOfPart p_cases p_parts r_cases r_hours r_sets r_count u_lists u_breaths u_heard u_traced u_lastFault) sz)) (va_Qi (fun (rr : Int32) (uu : Unit) => post rr ) (fun (uu : Unit) => xq_B (dC, dI) [(cyI, .int), (cyJ, .long)] (va_A (wc_u cyI cyJ aa s_lanes s_sizes s_cells x_kinds x_digits x_causes x_effects x_things x_follows x_due t_kinds t_digits t_caseRow t_weights t_order t_calls t_things t_caseCount t_caseSet p_callsOfCase p_partOfCase p_callsOfPart p_cases p_parts r_cases r_hours r_sets r_count u_lists u_breaths u_heard u_traced u_lastFault) sz) (wc_u cyI cyJ aa s_lanes s_sizes s_cells x_kinds x_digits x_causes x_effects x_things x_follows x_due t_kinds t_digits t_caseRow t_weights t_order t_calls t_things t_caseCount t_caseSet p_callsOfCase p_partOfCase p_callsOfPart p_cases p_parts r_cases r_hours r_sets r_count u_lists u_breaths u_heard u_traced u_lastFault)) (va_A (wc_u cyI cyJ aa s_lanes s_sizes s_cells x_kinds x_digits x_causes x_effects x_things x_follows x_due t_kinds t_digits t_caseRow t_weights t_order t_calls t_things t_caseCount t_caseSet p_callsOfCase p_partOfCase p_callsOfPart p_cases p_parts r_cases r_hours r_sets r_count u_lists u_breaths u_heard u_traced u_lastFault) sz)) 0 0 (va_A (wc_u cyI cyJ aa s_lanes s_sizes s_cells x_kinds x_digits x_causes x_effects x_things x_follows x_due t_kinds t_digits t_caseRow t_weights t_order t_calls t_things t_caseCount t_caseSet p_callsOfCase p_partOfCase p_callsOfPart p_cases p_parts r_cases r_hours r_sets r_count u_lists u_breaths u_heard u_traced u_lastFault) sz) := by
  refine xq_M (cc := cX5_callOfHour) (maxL := 3) (ret := (some .int)) (QA := fun A => va_Qi (fun (rr : Int32) (uu : Unit) => post rr ) (fun (uu : Unit) => xq_B (dC, dI) [(cyI, .int), (cyJ, .long)] A (wc_u cyI cyJ aa s_lanes s_sizes s_cells x_kinds x_digits x_causes x_effects x_things x_follows x_due t_kinds t_digits t_caseRow t_weights t_order t_calls t_things t_caseCount t_caseSet p_callsOfCase p_partOfCase p_callsOfPart p_cases p_parts r_cases r_hours r_sets r_count u_lists u_breaths u_heard u_traced u_lastFault)) A) (by decide) rfl (Nat.le_of_ble_eq_true rfl) ?_
  intro p e s m args below meth c A ls Q hQ hx hb hr hml hts hown hlocks hsz hP hK hD hA hS hN hl
  subst hsz
  have hl : lv_has ls 3 [(0, .ref (aa 0)), (1, .int a_1), (2, .int a_2)] := hl
  have hi_X5 : ∀ w ∈ wsX50, w ∈ wsX5_callOfHour := fun _ h => List.mem_cons_of_mem _ (List.mem_append_left _ (List.mem_append_right _ h))
  have fl_28 := hts (.fieldLink RX5 28 "UnsaidCalls" "place" "LUnsaidCalls$Town;") (by decide +kernel)
  have fl_46 := hts (.fieldLink RX5 46 "UnsaidCalls" "lists" "[I") (by decide +kernel)
  have fl_50 := hts (.fieldLink RX5 50 "UnsaidCalls" "breaths" "[I") (by decide +kernel)
  unfold w_X5_callOfHour at h
  refine lv_aload_n hx hb dX5_callOfHour_0 rfl (lv_at hl 0 rfl) ?_
  refine va_get (D := (dC, dI)) (ci := 5) (v := .ref (aa 10)) (C := RX5) (T := TX5) (N := 10) hx hb hts hi_X5 hown hK hP 0 rfl rfl 2 (by decide) fl_28 (fun _ h9 => h9) rfl dX5_callOfHour_1 ?_
  refine lv_iload_n hx hb dX5_callOfHour_4 rfl (lv_at hl 1 rfl) ?_
  refine lv_aload_n hx hb dX5_callOfHour_5 rfl (lv_at hl 0 rfl) ?_
  refine va_get (D := (dC, dI)) (ci := 5) (v := .ref (aa 25)) (C := RX5) (T := TX5) (N := 10) hx hb hts hi_X5 hown hK hP 0 rfl rfl 5 (by decide) fl_46 (fun _ h9 => h9) rfl dX5_callOfHour_6 ?_
  refine lv_iload_n hx hb dX5_callOfHour_9 rfl (lv_at hl 2 rfl) ?_
  obtain ⟨hv_1, h⟩ := h
  refine va_iald hx hb hK hP 25 0 rfl rfl hv_1 dX5_callOfHour_10 ?_
  refine lv_aload_n hx hb dX5_callOfHour_11 rfl (lv_at hl 0 rfl) ?_
  refine va_get (D := (dC, dI)) (ci := 5) (v := .ref (aa 26)) (C := RX5) (T := TX5) (N := 10) hx hb hts hi_X5 hown hK hP 0 rfl rfl 6 (by decide) fl_50 (fun _ h9 => h9) rfl dX5_callOfHour_12 ?_
  refine lv_iload_n hx hb dX5_callOfHour_15 rfl (lv_at hl 2 rfl) ?_
  obtain ⟨hv_2, h⟩ := h
  refine va_iald hx hb hK hP 26 0 rfl rfl hv_2 dX5_callOfHour_16 ?_
  refine xq_ci (va_runV (As := [.int a_1, .int (u_lists a_2.toNatClampNeg), .int (u_breaths a_2.toNatClampNeg)]) (rest := []) ⟨hx, hb, hml, hown, hts⟩ (m_X4_callIn l dC dI cyI cyJ aa s.heap.size h) (cwV 3 hts gX5_callOfHour_X4_callIn rfl rfl rfl (by decide +kernel) ⟨Nat.le_of_ble_eq_true rfl, Nat.le_of_ble_eq_true rfl⟩) (xq_preV hK hP hD hN (ci := 4) (q0 := 10) rfl rfl) rfl rfl hl.1 rfl (lv_room (Nat.le_of_ble_eq_true rfl)) dX5_callOfHour_17 ⟨Nat.le_refl _, Nat.le_refl _⟩) hD hS hA (fun rr_3 uu H locs h hP hD hS => ?_)
  have hP : va_P (dC, dI) vwCl (wc_u cyI cyJ aa s_lanes s_sizes s_cells x_kinds x_digits x_causes x_effects x_things x_follows x_due t_kinds t_digits t_caseRow t_weights t_order t_calls t_things t_caseCount t_caseSet p_callsOfCase p_partOfCase p_callsOfPart p_cases p_parts r_cases r_hours r_sets r_count u_lists u_breaths u_heard u_traced u_lastFault) H := hP
  have hD : va_D A (wc_u cyI cyJ aa s_lanes s_sizes s_cells x_kinds x_digits x_causes x_effects x_things x_follows x_due t_kinds t_digits t_caseRow t_weights t_order t_calls t_things t_caseCount t_caseSet p_callsOfCase p_partOfCase p_callsOfPart p_cases p_parts r_cases r_hours r_sets r_count u_lists u_breaths u_heard u_traced u_lastFault) := hD
  exact xq_ri hQ hx hb hr hP hK hD hS () rfl h dX5_callOfHour_20 hlocks
def w_X5_called (t_calls : Nat → Int32) (t_caseSet : Int64) (u_lists : Nat → Int32) (u_breaths : Nat → Int32) (a_1 : Int32) (a_2 : Int32) (post : Int32 → Prop) : Prop := w_X4_isCase t_caseSet a_1 (fun (rr_1 : Int32) => (rr_1 = 0 → (post (-1 : Int32))) ∧ (¬ rr_1 = 0 → (w_X5_isHour a_2 (fun (rr_2 : Int32) => (¬ rr_2 = 0 → (w_X5_callOfHour t_calls u_lists u_breaths a_1 a_2 (fun (rr_3 : Int32) => post rr_3))) ∧ (rr_2 = 0 → (post (-1 : Int32)))))))
set_option maxHeartbeats 4000000 in
set_option maxRecDepth 100000 in
theorem m_X5_called (l : Launch) (dC : Nat → ClassId) (dI : Nat → Nat → Nat) (cyI cyJ : ClassId) (aa : Nat → Nat) (sz : Nat) {s_lanes : Nat → Int32} {s_sizes : Nat → Int32} {s_cells : Nat → Int32} {x_kinds : Nat → Int32} {x_digits : Nat → Int32} {x_causes : Nat → Int32} {x_effects : Nat → Int32} {x_things : Int32} {x_follows : Int32} {x_due : Int32} {t_kinds : Nat → Int32} {t_digits : Nat → Int32} {t_caseRow : Nat → Int32} {t_weights : Nat → Int32} {t_order : Nat → Int32} {t_calls : Nat → Int32} {t_things : Int32} {t_caseCount : Int32} {t_caseSet : Int64} {p_callsOfCase : Nat → Int64} {p_partOfCase : Nat → Int32} {p_callsOfPart : Nat → Int64} {p_cases : Int32} {p_parts : Int32} {r_cases : Nat → Int32} {r_hours : Nat → Int32} {r_sets : Nat → Int32} {r_count : Int32} {u_lists : Nat → Int32} {u_breaths : Nat → Int32} {u_heard : Nat → Int32} {u_traced : Int32} {u_lastFault : Int32} {a_1 : Int32} {a_2 : Int32} {post : Int32 → Prop} (h : w_X5_called t_calls t_caseSet u_lists u_breaths a_1 a_2 post) : Met l yX5_called wsX5_called (xq_R 3 65) (va_Pc [.ref (aa 0), .int a_1, .int a_2] (xq_P (dC, dI) [(cyI, .int), (cyJ, .long)] (wc_u cyI cyJ aa s_lanes s_sizes s_cells x_kinds x_digits x_causes x_effects x_things x_follows x_due t_kinds t_digits t_caseRow t_weights t_order t_calls t_things t_caseCount t_caseSet p_callsOfCase p_partOfCase p_callsOfPart p_cases p_parts r_cases r_hours r_sets r_count u_lists u_breaths u_heard u_traced u_lastFault) sz)) (va_Qi (fun (rr : Int32) (uu : Unit) => post rr ) (fun (uu : Unit) => xq_B (dC, dI) [(cyI, .int), (cyJ, .long)] (va_A (wc_u cyI cyJ aa s_lanes s_sizes s_cells x_kinds x_digits x_causes x_effects x_things x_follows x_due t_kinds t_digits t_caseRow t_weights t_order t_calls t_things t_caseCount t_caseSet p_callsOfCase p_partOfCase p_callsOfPart p_cases p_parts r_cases r_hours r_sets r_count u_lists u_breaths u_heard u_traced u_lastFault) sz) (wc_u cyI cyJ aa s_lanes s_sizes s_cells x_kinds x_digits x_causes x_effects x_things x_follows x_due t_kinds t_digits t_caseRow t_weights t_order t_calls t_things t_caseCount t_caseSet p_callsOfCase p_partOfCase p_callsOfPart p_cases p_parts r_cases r_hours r_sets r_count u_lists u_breaths u_heard u_traced u_lastFault)) (va_A (wc_u cyI cyJ aa s_lanes s_sizes s_cells x_kinds x_digits x_causes x_effects x_things x_follows x_due t_kinds t_digits t_caseRow t_weights t_order t_calls t_things t_caseCount t_caseSet p_callsOfCase p_partOfCase p_callsOfPart p_cases p_parts r_cases r_hours r_sets r_count u_lists u_breaths u_heard u_traced u_lastFault) sz)) 0 0 (va_A (wc_u cyI cyJ aa s_lanes s_sizes s_cells x_kinds x_digits x_causes x_effects x_things x_follows x_due t_kinds t_digits t_caseRow t_weights t_order t_calls t_things t_caseCount t_caseSet p_callsOfCase p_partOfCase p_callsOfPart p_cases p_parts r_cases r_hours r_sets r_count u_lists u_breaths u_heard u_traced u_lastFault) sz) := by
  refine xq_M (cc := cX5_called) (maxL := 3) (ret := (some .int)) (QA := fun A => va_Qi (fun (rr : Int32) (uu : Unit) => post rr ) (fun (uu : Unit) => xq_B (dC, dI) [(cyI, .int), (cyJ, .long)] A (wc_u cyI cyJ aa s_lanes s_sizes s_cells x_kinds x_digits x_causes x_effects x_things x_follows x_due t_kinds t_digits t_caseRow t_weights t_order t_calls t_things t_caseCount t_caseSet p_callsOfCase p_partOfCase p_callsOfPart p_cases p_parts r_cases r_hours r_sets r_count u_lists u_breaths u_heard u_traced u_lastFault)) A) (by decide) rfl (Nat.le_of_ble_eq_true rfl) ?_
  intro p e s m args below meth c A ls Q hQ hx hb hr hml hts hown hlocks hsz hP hK hD hA hS hN hl
  subst hsz
  have hl : lv_has ls 3 [(0, .ref (aa 0)), (1, .int a_1), (2, .int a_2)] := hl
  have hi_X5 : ∀ w ∈ wsX50, w ∈ wsX5_called := fun _ h => List.mem_cons_of_mem _ (List.mem_append_left _ (List.mem_append_right _ h))
  have fl_28 := hts (.fieldLink RX5 28 "UnsaidCalls" "place" "LUnsaidCalls$Town;") (by decide +kernel)
  unfold w_X5_called at h
  refine lv_aload_n hx hb dX5_called_0 rfl (lv_at hl 0 rfl) ?_
  refine va_get (D := (dC, dI)) (ci := 5) (v := .ref (aa 10)) (C := RX5) (T := TX5) (N := 10) hx hb hts hi_X5 hown hK hP 0 rfl rfl 2 (by decide) fl_28 (fun _ h9 => h9) rfl dX5_called_1 ?_
  refine lv_iload_n hx hb dX5_called_4 rfl (lv_at hl 1 rfl) ?_
  refine xq_ci (va_runV (As := [.int a_1]) (rest := []) ⟨hx, hb, hml, hown, hts⟩ (m_X4_isCase l dC dI cyI cyJ aa s.heap.size h) (cwV 1 hts gX5_called_X4_isCase rfl rfl rfl (by decide +kernel) ⟨Nat.le_of_ble_eq_true rfl, Nat.le_of_ble_eq_true rfl⟩) (xq_preV hK hP hD hN (ci := 4) (q0 := 10) rfl rfl) rfl rfl hl.1 rfl (lv_room (Nat.le_of_ble_eq_true rfl)) dX5_called_5 ⟨Nat.le_refl _, Nat.le_refl _⟩) hD hS hA (fun rr_1 uu H locs h hP hD hS => ?_)
  have hP : va_P (dC, dI) vwCl (wc_u cyI cyJ aa s_lanes s_sizes s_cells x_kinds x_digits x_causes x_effects x_things x_follows x_due t_kinds t_digits t_caseRow t_weights t_order t_calls t_things t_caseCount t_caseSet p_callsOfCase p_partOfCase p_callsOfPart p_cases p_parts r_cases r_hours r_sets r_count u_lists u_breaths u_heard u_traced u_lastFault) H := hP
  have hD : va_D A (wc_u cyI cyJ aa s_lanes s_sizes s_cells x_kinds x_digits x_causes x_effects x_things x_follows x_due t_kinds t_digits t_caseRow t_weights t_order t_calls t_things t_caseCount t_caseSet p_callsOfCase p_partOfCase p_callsOfPart p_cases p_parts r_cases r_hours r_sets r_count u_lists u_breaths u_heard u_traced u_lastFault) := hD
  refine lv_if_eq (tgt := 18) hx hb dX5_called_8 (by decide) (fun hc_7 => ?_) (fun hc_7 => ?_)
  · have h := h.1 hc_7
    refine lv_iconst (v := (-1 : Int32)) hx hb dX5_called_18 (by decide) ?_
    exact xq_ri hQ hx hb hr hP hK hD hS () rfl h dX5_called_19 hlocks
  · have h := h.2 hc_7
    refine lv_iload_n hx hb dX5_called_11 rfl (lv_at hl 2 rfl) ?_
    refine xq_ci (va_runS (As := [.int a_2]) (rest := []) ⟨hx, hb, hml, hown, hts⟩ (m_X5_isHour l dC dI cyI cyJ (wc_u cyI cyJ aa s_lanes s_sizes s_cells x_kinds x_digits x_causes x_effects x_things x_follows x_due t_kinds t_digits t_caseRow t_weights t_order t_calls t_things t_caseCount t_caseSet p_callsOfCase p_partOfCase p_callsOfPart p_cases p_parts r_cases r_hours r_sets r_count u_lists u_breaths u_heard u_traced u_lastFault) H.size h) (va_cwS 1 hts gX5_called_X5_isHour rfl rfl rfl (by decide +kernel) ⟨Nat.le_of_ble_eq_true rfl, Nat.le_of_ble_eq_true rfl⟩) (xq_preS hK hP hD hN) rfl rfl hl.1 rfl (lv_room (Nat.le_of_ble_eq_true rfl)) dX5_called_12 ⟨Nat.le_refl _, Nat.le_refl _⟩) hD hS hA (fun rr_2 uu H locs h hP hD hS => ?_)
    have hP : va_P (dC, dI) vwCl (wc_u cyI cyJ aa s_lanes s_sizes s_cells x_kinds x_digits x_causes x_effects x_things x_follows x_due t_kinds t_digits t_caseRow t_weights t_order t_calls t_things t_caseCount t_caseSet p_callsOfCase p_partOfCase p_callsOfPart p_cases p_parts r_cases r_hours r_sets r_count u_lists u_breaths u_heard u_traced u_lastFault) H := hP
    have hD : va_D A (wc_u cyI cyJ aa s_lanes s_sizes s_cells x_kinds x_digits x_causes x_effects x_things x_follows x_due t_kinds t_digits t_caseRow t_weights t_order t_calls t_things t_caseCount t_caseSet p_callsOfCase p_partOfCase p_callsOfPart p_cases p_parts r_cases r_hours r_sets r_count u_lists u_breaths u_heard u_traced u_lastFault) := hD
    refine lv_if_ne (tgt := 20) hx hb dX5_called_15 (by decide) (fun hc_5 => ?_) (fun hc_5 => ?_)
    · have h := h.1 hc_5
      refine lv_aload_n hx hb dX5_called_20 rfl (lv_at hl 0 rfl) ?_
      refine lv_iload_n hx hb dX5_called_21 rfl (lv_at hl 1 rfl) ?_
      refine lv_iload_n hx hb dX5_called_22 rfl (lv_at hl 2 rfl) ?_
      refine xq_ci (va_runV (As := [.int a_1, .int a_2]) (rest := []) ⟨hx, hb, hml, hown, hts⟩ (m_X5_callOfHour l dC dI cyI cyJ aa H.size h) (cwV 2 hts gX5_called_X5_callOfHour rfl rfl rfl (by decide +kernel) ⟨Nat.le_of_ble_eq_true rfl, Nat.le_of_ble_eq_true rfl⟩) (xq_preV hK hP hD hN (ci := 5) (q0 := 0) rfl rfl) rfl rfl hl.1 rfl (lv_room (Nat.le_of_ble_eq_true rfl)) dX5_called_23 ⟨Nat.le_refl _, Nat.le_refl _⟩) hD hS hA (fun rr_3 uu H locs h hP hD hS => ?_)
      have hP : va_P (dC, dI) vwCl (wc_u cyI cyJ aa s_lanes s_sizes s_cells x_kinds x_digits x_causes x_effects x_things x_follows x_due t_kinds t_digits t_caseRow t_weights t_order t_calls t_things t_caseCount t_caseSet p_callsOfCase p_partOfCase p_callsOfPart p_cases p_parts r_cases r_hours r_sets r_count u_lists u_breaths u_heard u_traced u_lastFault) H := hP
      have hD : va_D A (wc_u cyI cyJ aa s_lanes s_sizes s_cells x_kinds x_digits x_causes x_effects x_things x_follows x_due t_kinds t_digits t_caseRow t_weights t_order t_calls t_things t_caseCount t_caseSet p_callsOfCase p_partOfCase p_callsOfPart p_cases p_parts r_cases r_hours r_sets r_count u_lists u_breaths u_heard u_traced u_lastFault) := hD
      exact xq_ri hQ hx hb hr hP hK hD hS () rfl h dX5_called_26 hlocks
    · have h := h.2 hc_5
      refine lv_iconst (v := (-1 : Int32)) hx hb dX5_called_18 (by decide) ?_
      exact xq_ri hQ hx hb hr hP hK hD hS () rfl h dX5_called_19 hlocks
def w_X5_cases (t_caseSet : Int64) (post : Int64 → Prop) : Prop := post t_caseSet
set_option maxHeartbeats 4000000 in
set_option maxRecDepth 100000 in
theorem m_X5_cases (l : Launch) (dC : Nat → ClassId) (dI : Nat → Nat → Nat) (cyI cyJ : ClassId) (aa : Nat → Nat) (sz : Nat) {s_lanes : Nat → Int32} {s_sizes : Nat → Int32} {s_cells : Nat → Int32} {x_kinds : Nat → Int32} {x_digits : Nat → Int32} {x_causes : Nat → Int32} {x_effects : Nat → Int32} {x_things : Int32} {x_follows : Int32} {x_due : Int32} {t_kinds : Nat → Int32} {t_digits : Nat → Int32} {t_caseRow : Nat → Int32} {t_weights : Nat → Int32} {t_order : Nat → Int32} {t_calls : Nat → Int32} {t_things : Int32} {t_caseCount : Int32} {t_caseSet : Int64} {p_callsOfCase : Nat → Int64} {p_partOfCase : Nat → Int32} {p_callsOfPart : Nat → Int64} {p_cases : Int32} {p_parts : Int32} {r_cases : Nat → Int32} {r_hours : Nat → Int32} {r_sets : Nat → Int32} {r_count : Int32} {u_lists : Nat → Int32} {u_breaths : Nat → Int32} {u_heard : Nat → Int32} {u_traced : Int32} {u_lastFault : Int32} {post : Int64 → Prop} (h : w_X5_cases t_caseSet post) : Met l yX5_cases wsX5_cases (xq_R 0 0) (va_Pc [.ref (aa 0)] (xq_P (dC, dI) [(cyI, .int), (cyJ, .long)] (wc_u cyI cyJ aa s_lanes s_sizes s_cells x_kinds x_digits x_causes x_effects x_things x_follows x_due t_kinds t_digits t_caseRow t_weights t_order t_calls t_things t_caseCount t_caseSet p_callsOfCase p_partOfCase p_callsOfPart p_cases p_parts r_cases r_hours r_sets r_count u_lists u_breaths u_heard u_traced u_lastFault) sz)) (va_Ql (fun (rr : Int64) (uu : Unit) => post rr ) (fun (uu : Unit) => xq_B (dC, dI) [(cyI, .int), (cyJ, .long)] (va_A (wc_u cyI cyJ aa s_lanes s_sizes s_cells x_kinds x_digits x_causes x_effects x_things x_follows x_due t_kinds t_digits t_caseRow t_weights t_order t_calls t_things t_caseCount t_caseSet p_callsOfCase p_partOfCase p_callsOfPart p_cases p_parts r_cases r_hours r_sets r_count u_lists u_breaths u_heard u_traced u_lastFault) sz) (wc_u cyI cyJ aa s_lanes s_sizes s_cells x_kinds x_digits x_causes x_effects x_things x_follows x_due t_kinds t_digits t_caseRow t_weights t_order t_calls t_things t_caseCount t_caseSet p_callsOfCase p_partOfCase p_callsOfPart p_cases p_parts r_cases r_hours r_sets r_count u_lists u_breaths u_heard u_traced u_lastFault)) (va_A (wc_u cyI cyJ aa s_lanes s_sizes s_cells x_kinds x_digits x_causes x_effects x_things x_follows x_due t_kinds t_digits t_caseRow t_weights t_order t_calls t_things t_caseCount t_caseSet p_callsOfCase p_partOfCase p_callsOfPart p_cases p_parts r_cases r_hours r_sets r_count u_lists u_breaths u_heard u_traced u_lastFault) sz)) 0 0 (va_A (wc_u cyI cyJ aa s_lanes s_sizes s_cells x_kinds x_digits x_causes x_effects x_things x_follows x_due t_kinds t_digits t_caseRow t_weights t_order t_calls t_things t_caseCount t_caseSet p_callsOfCase p_partOfCase p_callsOfPart p_cases p_parts r_cases r_hours r_sets r_count u_lists u_breaths u_heard u_traced u_lastFault) sz) := by
  refine xq_M (cc := cX5_cases) (maxL := 1) (ret := (some .long)) (QA := fun A => va_Ql (fun (rr : Int64) (uu : Unit) => post rr ) (fun (uu : Unit) => xq_B (dC, dI) [(cyI, .int), (cyJ, .long)] A (wc_u cyI cyJ aa s_lanes s_sizes s_cells x_kinds x_digits x_causes x_effects x_things x_follows x_due t_kinds t_digits t_caseRow t_weights t_order t_calls t_things t_caseCount t_caseSet p_callsOfCase p_partOfCase p_callsOfPart p_cases p_parts r_cases r_hours r_sets r_count u_lists u_breaths u_heard u_traced u_lastFault)) A) (by decide) rfl (Nat.le_of_ble_eq_true rfl) ?_
  intro p e s m args below meth c A ls Q hQ hx hb hr hml hts hown hlocks hsz hP hK hD hA hS hN hl
  subst hsz
  have hl : lv_has ls 1 [(0, .ref (aa 0))] := hl
  have hi_X4 : ∀ w ∈ wsX40, w ∈ wsX5_cases := fun _ h => List.mem_cons_of_mem _ (List.mem_append_right _ h)
  have hi_X5 : ∀ w ∈ wsX50, w ∈ wsX5_cases := fun _ h => List.mem_cons_of_mem _ (List.mem_append_left _ (List.mem_append_right _ h))
  have fl_28 := hts (.fieldLink RX5 28 "UnsaidCalls" "place" "LUnsaidCalls$Town;") (by decide +kernel)
  have fl_98 := hts (.fieldLink RX5 98 "UnsaidCalls$Town" "caseSet" "J") (by decide +kernel)
  unfold w_X5_cases at h
  refine lv_aload_n hx hb dX5_cases_0 rfl (lv_at hl 0 rfl) ?_
  refine va_get (D := (dC, dI)) (ci := 5) (v := .ref (aa 10)) (C := RX5) (T := TX5) (N := 10) hx hb hts hi_X5 hown hK hP 0 rfl rfl 2 (by decide) fl_28 (fun _ h9 => h9) rfl dX5_cases_1 ?_
  refine va_get (D := (dC, dI)) (ci := 4) (v := .long t_caseSet) (C := RX4) (T := TX4) (N := 9) hx hb hts hi_X4 hown hK hP 10 rfl rfl 8 (by decide) fl_98 (fun _ h9 => h9) rfl dX5_cases_4 ?_
  exact xq_rl hQ hx hb hr hP hK hD hS () rfl h dX5_cases_7 hlocks
def w_X5_isLane (a_0 : Int32) (post : Int32 → Prop) : Prop := (a_0 < 0 → (post (0 : Int32))) ∧ (¬ a_0 < 0 → (((3 : Int32) ≤ a_0 → (post (0 : Int32))) ∧ (¬ (3 : Int32) ≤ a_0 → (post (1 : Int32)))))
set_option maxHeartbeats 4000000 in
set_option maxRecDepth 100000 in
theorem m_X5_isLane (l : Launch) (dC : Nat → ClassId) (dI : Nat → Nat → Nat) (cyI cyJ : ClassId) (ww : va_W) (sz : Nat) {a_0 : Int32} {post : Int32 → Prop} (h : w_X5_isLane a_0 post) : Met l yX5_isLane wsX5_isLane (xq_R 0 0) (va_Pc [.int a_0] (xq_P (dC, dI) [(cyI, .int), (cyJ, .long)] ww sz)) (va_Qi (fun (rr : Int32) (uu : Unit) => post rr ) (fun (uu : Unit) => xq_B (dC, dI) [(cyI, .int), (cyJ, .long)] (va_A ww sz) ww) (va_A ww sz)) 0 0 (va_A ww sz) := by
  refine xq_M (cc := cX5_isLane) (maxL := 1) (ret := (some .boolean)) (QA := fun A => va_Qi (fun (rr : Int32) (uu : Unit) => post rr ) (fun (uu : Unit) => xq_B (dC, dI) [(cyI, .int), (cyJ, .long)] A ww) A) (by decide) rfl (Nat.le_of_ble_eq_true rfl) ?_
  intro p e s m args below meth c A ls Q hQ hx hb hr hml hts hown hlocks hsz hP hK hD hA hS hN hl
  subst hsz
  have hl : lv_has ls 1 [(0, .int a_0)] := hl
  unfold w_X5_isLane at h
  refine lv_iload_n hx hb dX5_isLane_0 rfl (lv_at hl 0 rfl) ?_
  refine lv_if_lt (tgt := 13) hx hb dX5_isLane_1 (by decide) (fun hc_2 => ?_) (fun hc_2 => ?_)
  · have h := h.1 hc_2
    refine lv_iconst (v := (0 : Int32)) hx hb dX5_isLane_13 (by decide) ?_
    exact xq_rz hQ hx hb hr (by decide) hP hK hD hS () rfl h dX5_isLane_14 hlocks
  · have h := h.2 hc_2
    refine lv_iload_n hx hb dX5_isLane_4 rfl (lv_at hl 0 rfl) ?_
    refine lv_iconst (v := (3 : Int32)) hx hb dX5_isLane_5 (by decide) ?_
    refine lv_icmp_ge (tgt := 13) hx hb dX5_isLane_6 (by decide) (fun hc_1 => ?_) (fun hc_1 => ?_)
    · have h := h.1 hc_1
      refine lv_iconst (v := (0 : Int32)) hx hb dX5_isLane_13 (by decide) ?_
      exact xq_rz hQ hx hb hr (by decide) hP hK hD hS () rfl h dX5_isLane_14 hlocks
    · have h := h.2 hc_1
      refine lv_iconst (v := (1 : Int32)) hx hb dX5_isLane_9 (by decide) ?_
      refine lv_goto (tgt := 14) hx hb dX5_isLane_10 (by decide) ?_
      exact xq_rz hQ hx hb hr (by decide) hP hK hD hS () rfl h dX5_isLane_14 hlocks
def w_X5_cell (s_lanes : Nat → Int32) (s_sizes : Nat → Int32) (s_cells : Nat → Int32) (u_lastFault : Int32) (a_1 : Int32) (a_2 : Int32) (a_3 : Int32) (post : Int64 → Int32 → Prop) : Prop := w_X2_isSheet a_1 (fun (rr_1 : Int32) => (rr_1 = 0 → (post (-9223372036854775808 : Int64) (0 : Int32))) ∧ (¬ rr_1 = 0 → (w_X5_isLane a_3 (fun (rr_2 : Int32) => (¬ rr_2 = 0 → (w_X2_mayBeOfLane s_lanes a_1 a_3 (fun (rr_3 : Int32) => (¬ rr_3 = 0 → (w_X2_hasRow s_lanes a_1 (fun (rr_4 : Int32) => (¬ rr_4 = 0 → (w_X2_isCell s_sizes a_1 a_2 (fun (rr_5 : Int32) => (¬ rr_5 = 0 → (w_X2_at s_sizes s_cells a_1 a_2 (fun (rr_6 : Int32) => post (Int32.toInt64 rr_6) (0 : Int32)))) ∧ (rr_5 = 0 → (w_X5_faulted (0 : Int32) (3 : Int32) (fun (rr_8 : Int32) (cc_9 : Int32) => post (-9223372036854775808 : Int64) cc_9)))))) ∧ (rr_4 = 0 → (w_X5_faulted (0 : Int32) (1 : Int32) (fun (rr_13 : Int32) (cc_14 : Int32) => post (-9223372036854775808 : Int64) cc_14)))))) ∧ (rr_3 = 0 → (w_X5_faulted (0 : Int32) (2 : Int32) (fun (rr_18 : Int32) (cc_19 : Int32) => post (-9223372036854775808 : Int64) cc_19)))))) ∧ (rr_2 = 0 → (post (-9223372036854775808 : Int64) (0 : Int32)))))))
set_option maxHeartbeats 4000000 in
set_option maxRecDepth 100000 in
theorem m_X5_cell (l : Launch) (dC : Nat → ClassId) (dI : Nat → Nat → Nat) (cyI cyJ : ClassId) (aa : Nat → Nat) (sz : Nat) {s_lanes : Nat → Int32} {s_sizes : Nat → Int32} {s_cells : Nat → Int32} {x_kinds : Nat → Int32} {x_digits : Nat → Int32} {x_causes : Nat → Int32} {x_effects : Nat → Int32} {x_things : Int32} {x_follows : Int32} {x_due : Int32} {t_kinds : Nat → Int32} {t_digits : Nat → Int32} {t_caseRow : Nat → Int32} {t_weights : Nat → Int32} {t_order : Nat → Int32} {t_calls : Nat → Int32} {t_things : Int32} {t_caseCount : Int32} {t_caseSet : Int64} {p_callsOfCase : Nat → Int64} {p_partOfCase : Nat → Int32} {p_callsOfPart : Nat → Int64} {p_cases : Int32} {p_parts : Int32} {r_cases : Nat → Int32} {r_hours : Nat → Int32} {r_sets : Nat → Int32} {r_count : Int32} {u_lists : Nat → Int32} {u_breaths : Nat → Int32} {u_heard : Nat → Int32} {u_traced : Int32} {u_lastFault : Int32} {a_1 : Int32} {a_2 : Int32} {a_3 : Int32} {post : Int64 → Int32 → Prop} (h : w_X5_cell s_lanes s_sizes s_cells u_lastFault a_1 a_2 a_3 post) : Met l yX5_cell wsX5_cell (xq_R 2 44) (va_Pc [.ref (aa 0), .int a_1, .int a_2, .int a_3] (xq_P (dC, dI) [(cyI, .int), (cyJ, .long)] (wc_u cyI cyJ aa s_lanes s_sizes s_cells x_kinds x_digits x_causes x_effects x_things x_follows x_due t_kinds t_digits t_caseRow t_weights t_order t_calls t_things t_caseCount t_caseSet p_callsOfCase p_partOfCase p_callsOfPart p_cases p_parts r_cases r_hours r_sets r_count u_lists u_breaths u_heard u_traced u_lastFault) sz)) (va_Ql (fun (rr : Int64) (uu : Int32) => post rr uu) (fun (uu : Int32) => xq_B (dC, dI) [(cyI, .int), (cyJ, .long)] (va_A (wc_u cyI cyJ aa s_lanes s_sizes s_cells x_kinds x_digits x_causes x_effects x_things x_follows x_due t_kinds t_digits t_caseRow t_weights t_order t_calls t_things t_caseCount t_caseSet p_callsOfCase p_partOfCase p_callsOfPart p_cases p_parts r_cases r_hours r_sets r_count u_lists u_breaths u_heard u_traced u_lastFault) sz) (wc_u cyI cyJ aa s_lanes s_sizes s_cells x_kinds x_digits x_causes x_effects x_things x_follows x_due t_kinds t_digits t_caseRow t_weights t_order t_calls t_things t_caseCount t_caseSet p_callsOfCase p_partOfCase p_callsOfPart p_cases p_parts r_cases r_hours r_sets r_count u_lists u_breaths u_heard u_traced uu)) (va_A (wc_u cyI cyJ aa s_lanes s_sizes s_cells x_kinds x_digits x_causes x_effects x_things x_follows x_due t_kinds t_digits t_caseRow t_weights t_order t_calls t_things t_caseCount t_caseSet p_callsOfCase p_partOfCase p_callsOfPart p_cases p_parts r_cases r_hours r_sets r_count u_lists u_breaths u_heard u_traced u_lastFault) sz)) 0 0 (va_A (wc_u cyI cyJ aa s_lanes s_sizes s_cells x_kinds x_digits x_causes x_effects x_things x_follows x_due t_kinds t_digits t_caseRow t_weights t_order t_calls t_things t_caseCount t_caseSet p_callsOfCase p_partOfCase p_callsOfPart p_cases p_parts r_cases r_hours r_sets r_count u_lists u_breaths u_heard u_traced u_lastFault) sz) := by
  refine xq_M (cc := cX5_cell) (maxL := 4) (ret := (some .long)) (QA := fun A => va_Ql (fun (rr : Int64) (uu : Int32) => post rr uu) (fun (uu : Int32) => xq_B (dC, dI) [(cyI, .int), (cyJ, .long)] A (wc_u cyI cyJ aa s_lanes s_sizes s_cells x_kinds x_digits x_causes x_effects x_things x_follows x_due t_kinds t_digits t_caseRow t_weights t_order t_calls t_things t_caseCount t_caseSet p_callsOfCase p_partOfCase p_callsOfPart p_cases p_parts r_cases r_hours r_sets r_count u_lists u_breaths u_heard u_traced uu)) A) (by decide) rfl (Nat.le_of_ble_eq_true rfl) ?_
  intro p e s m args below meth c A ls Q hQ hx hb hr hml hts hown hlocks hsz hP hK hD hA hS hN hl
  subst hsz
  have hl : lv_has ls 4 [(0, .ref (aa 0)), (1, .int a_1), (2, .int a_2), (3, .int a_3)] := hl
  have hi_X5 : ∀ w ∈ wsX50, w ∈ wsX5_cell := fun _ h => List.mem_cons_of_mem _ (List.mem_append_left _ (List.mem_append_right _ h))
  have fl_12 := hts (.fieldLink RX5 12 "UnsaidCalls" "sheets" "LUnsaidCalls$Sheets;") (by decide +kernel)
  have fl_60 := hts (.fieldLink RX5 60 "UnsaidCalls" "lastFault" "I") (by decide +kernel)
  unfold w_X5_cell at h
  refine lv_aload_n hx hb dX5_cell_0 rfl (lv_at hl 0 rfl) ?_
  refine lv_iconst (v := (0 : Int32)) hx hb dX5_cell_1 (by decide) ?_
  refine va_put (D := (dC, dI)) (ci := 5) (v := .int (0 : Int32)) (ty := .int) (C := RX5) (T := TX5) (N := 10) hx hb hts hi_X5 tyX5 tyX5_ok nmX5 hown hK hP hD hS 0 rfl rfl 9 (by decide) fl_60 (fun _ h9 => h9) rfl (by decide +kernel) rfl rfl (Nat.le_of_ble_eq_true rfl) dX5_cell_2 (fun H locs hP hD hS => ?_)
  have hP : va_P (dC, dI) vwCl (wc_u cyI cyJ aa s_lanes s_sizes s_cells x_kinds x_digits x_causes x_effects x_things x_follows x_due t_kinds t_digits t_caseRow t_weights t_order t_calls t_things t_caseCount t_caseSet p_callsOfCase p_partOfCase p_callsOfPart p_cases p_parts r_cases r_hours r_sets r_count u_lists u_breaths u_heard u_traced (0 : Int32)) H := hP
  have hD : va_D A (wc_u cyI cyJ aa s_lanes s_sizes s_cells x_kinds x_digits x_causes x_effects x_things x_follows x_due t_kinds t_digits t_caseRow t_weights t_order t_calls t_things t_caseCount t_caseSet p_callsOfCase p_partOfCase p_callsOfPart p_cases p_parts r_cases r_hours r_sets r_count u_lists u_breaths u_heard u_traced (0 : Int32)) := hD
  refine lv_aload_n hx hb dX5_cell_5 rfl (lv_at hl 0 rfl) ?_
  refine va_get (D := (dC, dI)) (ci := 5) (v := .ref (aa 1)) (C := RX5) (T := TX5) (N := 10) hx hb hts hi_X5 hown hK hP 0 rfl rfl 0 (by decide) fl_12 (fun _ h9 => h9) rfl dX5_cell_6 ?_
  refine lv_iload_n hx hb dX5_cell_9 rfl (lv_at hl 1 rfl) ?_
  refine xq_ci (va_runV (As := [.int a_1]) (rest := []) ⟨hx, hb, hml, hown, hts⟩ (m_X2_isSheet l dC dI cyI cyJ aa H.size h) (cwV 1 hts gX5_cell_X2_isSheet rfl rfl rfl (by decide +kernel) ⟨Nat.le_of_ble_eq_true rfl, Nat.le_of_ble_eq_true rfl⟩) (xq_preV hK hP hD hN (ci := 2) (q0 := 1) rfl rfl) rfl rfl hl.1 rfl (lv_room (Nat.le_of_ble_eq_true rfl)) dX5_cell_10 ⟨Nat.le_refl _, Nat.le_refl _⟩) hD hS hA (fun rr_1 uu H locs h hP hD hS => ?_)
  have hP : va_P (dC, dI) vwCl (wc_u cyI cyJ aa s_lanes s_sizes s_cells x_kinds x_digits x_causes x_effects x_things x_follows x_due t_kinds t_digits t_caseRow t_weights t_order t_calls t_things t_caseCount t_caseSet p_callsOfCase p_partOfCase p_callsOfPart p_cases p_parts r_cases r_hours r_sets r_count u_lists u_breaths u_heard u_traced (0 : Int32)) H := hP
  have hD : va_D A (wc_u cyI cyJ aa s_lanes s_sizes s_cells x_kinds x_digits x_causes x_effects x_things x_follows x_due t_kinds t_digits t_caseRow t_weights t_order t_calls t_things t_caseCount t_caseSet p_callsOfCase p_partOfCase p_callsOfPart p_cases p_parts r_cases r_hours r_sets r_count u_lists u_breaths u_heard u_traced (0 : Int32)) := hD
  refine lv_if_eq (tgt := 23) hx hb dX5_cell_13 (by decide) (fun hc_25 => ?_) (fun hc_25 => ?_)
  · have h := h.1 hc_25
    refine lv_ldc2 (v := (-9223372036854775808 : Int64)) hx hb hown (hts (.constantLong RX5 141 (-9223372036854775808)) (by decide +kernel)) dX5_cell_23 ?_
    exact xq_rl hQ hx hb hr hP hK hD hS (0 : Int32) rfl h dX5_cell_26 hlocks
  · have h := h.2 hc_25
    refine lv_iload_n hx hb dX5_cell_16 rfl (lv_at hl 3 rfl) ?_
    refine xq_ci (va_runS (As := [.int a_3]) (rest := []) ⟨hx, hb, hml, hown, hts⟩ (m_X5_isLane l dC dI cyI cyJ (wc_u cyI cyJ aa s_lanes s_sizes s_cells x_kinds x_digits x_causes x_effects x_things x_follows x_due t_kinds t_digits t_caseRow t_weights t_order t_calls t_things t_caseCount t_caseSet p_callsOfCase p_partOfCase p_callsOfPart p_cases p_parts r_cases r_hours r_sets r_count u_lists u_breaths u_heard u_traced (0 : Int32)) H.size h) (va_cwS 1 hts gX5_cell_X5_isLane rfl rfl rfl (by decide +kernel) ⟨Nat.le_of_ble_eq_true rfl, Nat.le_of_ble_eq_true rfl⟩) (xq_preS hK hP hD hN) rfl rfl hl.1 rfl (lv_room (Nat.le_of_ble_eq_true rfl)) dX5_cell_17 ⟨Nat.le_refl _, Nat.le_refl _⟩) hD hS hA (fun rr_2 uu H locs h hP hD hS => ?_)
    have hP : va_P (dC, dI) vwCl (wc_u cyI cyJ aa s_lanes s_sizes s_cells x_kinds x_digits x_causes x_effects x_things x_follows x_due t_kinds t_digits t_caseRow t_weights t_order t_calls t_things t_caseCount t_caseSet p_callsOfCase p_partOfCase p_callsOfPart p_cases p_parts r_cases r_hours r_sets r_count u_lists u_breaths u_heard u_traced (0 : Int32)) H := hP
    have hD : va_D A (wc_u cyI cyJ aa s_lanes s_sizes s_cells x_kinds x_digits x_causes x_effects x_things x_follows x_due t_kinds t_digits t_caseRow t_weights t_order t_calls t_things t_caseCount t_caseSet p_callsOfCase p_partOfCase p_callsOfPart p_cases p_parts r_cases r_hours r_sets r_count u_lists u_breaths u_heard u_traced (0 : Int32)) := hD
    refine lv_if_ne (tgt := 27) hx hb dX5_cell_20 (by decide) (fun hc_23 => ?_) (fun hc_23 => ?_)
    · have h := h.1 hc_23
      refine lv_aload_n hx hb dX5_cell_27 rfl (lv_at hl 0 rfl) ?_
      refine va_get (D := (dC, dI)) (ci := 5) (v := .ref (aa 1)) (C := RX5) (T := TX5) (N := 10) hx hb hts hi_X5 hown hK hP 0 rfl rfl 0 (by decide) fl_12 (fun _ h9 => h9) rfl dX5_cell_28 ?_
      refine lv_iload_n hx hb dX5_cell_31 rfl (lv_at hl 1 rfl) ?_
      refine lv_iload_n hx hb dX5_cell_32 rfl (lv_at hl 3 rfl) ?_
      refine xq_ci (va_runV (As := [.int a_1, .int a_3]) (rest := []) ⟨hx, hb, hml, hown, hts⟩ (m_X2_mayBeOfLane l dC dI cyI cyJ aa H.size h) (cwV 2 hts gX5_cell_X2_mayBeOfLane rfl rfl rfl (by decide +kernel) ⟨Nat.le_of_ble_eq_true rfl, Nat.le_of_ble_eq_true rfl⟩) (xq_preV hK hP hD hN (ci := 2) (q0 := 1) rfl rfl) rfl rfl hl.1 rfl (lv_room (Nat.le_of_ble_eq_true rfl)) dX5_cell_33 ⟨Nat.le_refl _, Nat.le_refl _⟩) hD hS hA (fun rr_3 uu H locs h hP hD hS => ?_)
      have hP : va_P (dC, dI) vwCl (wc_u cyI cyJ aa s_lanes s_sizes s_cells x_kinds x_digits x_causes x_effects x_things x_follows x_due t_kinds t_digits t_caseRow t_weights t_order t_calls t_things t_caseCount t_caseSet p_callsOfCase p_partOfCase p_callsOfPart p_cases p_parts r_cases r_hours r_sets r_count u_lists u_breaths u_heard u_traced (0 : Int32)) H := hP
      have hD : va_D A (wc_u cyI cyJ aa s_lanes s_sizes s_cells x_kinds x_digits x_causes x_effects x_things x_follows x_due t_kinds t_digits t_caseRow t_weights t_order t_calls t_things t_caseCount t_caseSet p_callsOfCase p_partOfCase p_callsOfPart p_cases p_parts r_cases r_hours r_sets r_count u_lists u_breaths u_heard u_traced (0 : Int32)) := hD
      refine lv_if_ne (tgt := 49) hx hb dX5_cell_36 (by decide) (fun hc_21 => ?_) (fun hc_21 => ?_)
      · have h := h.1 hc_21
        refine lv_aload_n hx hb dX5_cell_49 rfl (lv_at hl 0 rfl) ?_
        refine va_get (D := (dC, dI)) (ci := 5) (v := .ref (aa 1)) (C := RX5) (T := TX5) (N := 10) hx hb hts hi_X5 hown hK hP 0 rfl rfl 0 (by decide) fl_12 (fun _ h9 => h9) rfl dX5_cell_50 ?_
        refine lv_iload_n hx hb dX5_cell_53 rfl (lv_at hl 1 rfl) ?_
        refine xq_ci (va_runV (As := [.int a_1]) (rest := []) ⟨hx, hb, hml, hown, hts⟩ (m_X2_hasRow l dC dI cyI cyJ aa H.size h) (cwV 1 hts gX5_cell_X2_hasRow rfl rfl rfl (by decide +kernel) ⟨Nat.le_of_ble_eq_true rfl, Nat.le_of_ble_eq_true rfl⟩) (xq_preV hK hP hD hN (ci := 2) (q0 := 1) rfl rfl) rfl rfl hl.1 rfl (lv_room (Nat.le_of_ble_eq_true rfl)) dX5_cell_54 ⟨Nat.le_refl _, Nat.le_refl _⟩) hD hS hA (fun rr_4 uu H locs h hP hD hS => ?_)
        have hP : va_P (dC, dI) vwCl (wc_u cyI cyJ aa s_lanes s_sizes s_cells x_kinds x_digits x_causes x_effects x_things x_follows x_due t_kinds t_digits t_caseRow t_weights t_order t_calls t_things t_caseCount t_caseSet p_callsOfCase p_partOfCase p_callsOfPart p_cases p_parts r_cases r_hours r_sets r_count u_lists u_breaths u_heard u_traced (0 : Int32)) H := hP
        have hD : va_D A (wc_u cyI cyJ aa s_lanes s_sizes s_cells x_kinds x_digits x_causes x_effects x_things x_follows x_due t_kinds t_digits t_caseRow t_weights t_order t_calls t_things t_caseCount t_caseSet p_callsOfCase p_partOfCase p_callsOfPart p_cases p_parts r_cases r_hours r_sets r_count u_lists u_breaths u_heard u_traced (0 : Int32)) := hD
        refine lv_if_ne (tgt := 70) hx hb dX5_cell_57 (by decide) (fun hc_16 => ?_) (fun hc_16 => ?_)
        · have h := h.1 hc_16
          refine lv_aload_n hx hb dX5_cell_70 rfl (lv_at hl 0 rfl) ?_
          refine va_get (D := (dC, dI)) (ci := 5) (v := .ref (aa 1)) (C := RX5) (T := TX5) (N := 10) hx hb hts hi_X5 hown hK hP 0 rfl rfl 0 (by decide) fl_12 (fun _ h9 => h9) rfl dX5_cell_71 ?_
          refine lv_iload_n hx hb dX5_cell_74 rfl (lv_at hl 1 rfl) ?_
          refine lv_iload_n hx hb dX5_cell_75 rfl (lv_at hl 2 rfl) ?_
          refine xq_ci (va_runV (As := [.int a_1, .int a_2]) (rest := []) ⟨hx, hb, hml, hown, hts⟩ (m_X2_isCell l dC dI cyI cyJ aa H.size h) (cwV 2 hts gX5_cell_X2_isCell rfl rfl rfl (by decide +kernel) ⟨Nat.le_of_ble_eq_true rfl, Nat.le_of_ble_eq_true rfl⟩) (xq_preV hK hP hD hN (ci := 2) (q0 := 1) rfl rfl) rfl rfl hl.1 rfl (lv_room (Nat.le_of_ble_eq_true rfl)) dX5_cell_76 ⟨Nat.le_refl _, Nat.le_refl _⟩) hD hS hA (fun rr_5 uu H locs h hP hD hS => ?_)
          have hP : va_P (dC, dI) vwCl (wc_u cyI cyJ aa s_lanes s_sizes s_cells x_kinds x_digits x_causes x_effects x_things x_follows x_due t_kinds t_digits t_caseRow t_weights t_order t_calls t_things t_caseCount t_caseSet p_callsOfCase p_partOfCase p_callsOfPart p_cases p_parts r_cases r_hours r_sets r_count u_lists u_breaths u_heard u_traced (0 : Int32)) H := hP
          have hD : va_D A (wc_u cyI cyJ aa s_lanes s_sizes s_cells x_kinds x_digits x_causes x_effects x_things x_follows x_due t_kinds t_digits t_caseRow t_weights t_order t_calls t_things t_caseCount t_caseSet p_callsOfCase p_partOfCase p_callsOfPart p_cases p_parts r_cases r_hours r_sets r_count u_lists u_breaths u_heard u_traced (0 : Int32)) := hD
          refine lv_if_ne (tgt := 92) hx hb dX5_cell_79 (by decide) (fun hc_11 => ?_) (fun hc_11 => ?_)
          · have h := h.1 hc_11
            refine lv_aload_n hx hb dX5_cell_92 rfl (lv_at hl 0 rfl) ?_
            refine va_get (D := (dC, dI)) (ci := 5) (v := .ref (aa 1)) (C := RX5) (T := TX5) (N := 10) hx hb hts hi_X5 hown hK hP 0 rfl rfl 0 (by decide) fl_12 (fun _ h9 => h9) rfl dX5_cell_93 ?_
            refine lv_iload_n hx hb dX5_cell_96 rfl (lv_at hl 1 rfl) ?_
            refine lv_iload_n hx hb dX5_cell_97 rfl (lv_at hl 2 rfl) ?_
            refine xq_ci (va_runV (As := [.int a_1, .int a_2]) (rest := []) ⟨hx, hb, hml, hown, hts⟩ (m_X2_at l dC dI cyI cyJ aa H.size h) (cwV 2 hts gX5_cell_X2_at rfl rfl rfl (by decide +kernel) ⟨Nat.le_of_ble_eq_true rfl, Nat.le_of_ble_eq_true rfl⟩) (xq_preV hK hP hD hN (ci := 2) (q0 := 1) rfl rfl) rfl rfl hl.1 rfl (lv_room (Nat.le_of_ble_eq_true rfl)) dX5_cell_98 ⟨Nat.le_refl _, Nat.le_refl _⟩) hD hS hA (fun rr_6 uu H locs h hP hD hS => ?_)
            have hP : va_P (dC, dI) vwCl (wc_u cyI cyJ aa s_lanes s_sizes s_cells x_kinds x_digits x_causes x_effects x_things x_follows x_due t_kinds t_digits t_caseRow t_weights t_order t_calls t_things t_caseCount t_caseSet p_callsOfCase p_partOfCase p_callsOfPart p_cases p_parts r_cases r_hours r_sets r_count u_lists u_breaths u_heard u_traced (0 : Int32)) H := hP
            have hD : va_D A (wc_u cyI cyJ aa s_lanes s_sizes s_cells x_kinds x_digits x_causes x_effects x_things x_follows x_due t_kinds t_digits t_caseRow t_weights t_order t_calls t_things t_caseCount t_caseSet p_callsOfCase p_partOfCase p_callsOfPart p_cases p_parts r_cases r_hours r_sets r_count u_lists u_breaths u_heard u_traced (0 : Int32)) := hD
            refine lv_i2l (v := (Int32.toInt64 rr_6)) hx hb dX5_cell_101 rfl ?_
            exact xq_rl hQ hx hb hr hP hK hD hS (0 : Int32) rfl h dX5_cell_102 hlocks
          · have h := h.2 hc_11
            refine lv_aload_n hx hb dX5_cell_82 rfl (lv_at hl 0 rfl) ?_
            refine lv_iconst (v := (3 : Int32)) hx hb dX5_cell_83 (by decide) ?_
            refine xq_ci (va_runV (As := [.int (3 : Int32)]) (rest := []) ⟨hx, hb, hml, hown, hts⟩ (m_X5_faulted l dC dI cyI cyJ aa H.size h) (cwV 1 hts gX5_cell_X5_faulted rfl rfl rfl (by decide +kernel) ⟨Nat.le_of_ble_eq_true rfl, Nat.le_of_ble_eq_true rfl⟩) (xq_preV hK hP hD hN (ci := 5) (q0 := 0) rfl rfl) rfl rfl hl.1 rfl (lv_room (Nat.le_of_ble_eq_true rfl)) dX5_cell_84 ⟨Nat.le_refl _, Nat.le_refl _⟩) hD hS hA (fun rr_8 uu H locs h hP hD hS => ?_)
            obtain ⟨cc_9, rfl⟩ : ∃ z, z = uu := ⟨_, rfl⟩
            have hP : va_P (dC, dI) vwCl (wc_u cyI cyJ aa s_lanes s_sizes s_cells x_kinds x_digits x_causes x_effects x_things x_follows x_due t_kinds t_digits t_caseRow t_weights t_order t_calls t_things t_caseCount t_caseSet p_callsOfCase p_partOfCase p_callsOfPart p_cases p_parts r_cases r_hours r_sets r_count u_lists u_breaths u_heard u_traced cc_9) H := hP
            have hD : va_D A (wc_u cyI cyJ aa s_lanes s_sizes s_cells x_kinds x_digits x_causes x_effects x_things x_follows x_due t_kinds t_digits t_caseRow t_weights t_order t_calls t_things t_caseCount t_caseSet p_callsOfCase p_partOfCase p_callsOfPart p_cases p_parts r_cases r_hours r_sets r_count u_lists u_breaths u_heard u_traced cc_9) := hD
            refine lv_pop hx hb dX5_cell_87 rfl ?_
            refine lv_ldc2 (v := (-9223372036854775808 : Int64)) hx hb hown (hts (.constantLong RX5 141 (-9223372036854775808)) (by decide +kernel)) dX5_cell_88 ?_
            exact xq_rl hQ hx hb hr hP hK hD hS cc_9 rfl h dX5_cell_91 hlocks
        · have h := h.2 hc_16
          refine lv_aload_n hx hb dX5_cell_60 rfl (lv_at hl 0 rfl) ?_
          refine lv_iconst (v := (1 : Int32)) hx hb dX5_cell_61 (by decide) ?_
          refine xq_ci (va_runV (As := [.int (1 : Int32)]) (rest := []) ⟨hx, hb, hml, hown, hts⟩ (m_X5_faulted l dC dI cyI cyJ aa H.size h) (cwV 1 hts gX5_cell_X5_faulted rfl rfl rfl (by decide +kernel) ⟨Nat.le_of_ble_eq_true rfl, Nat.le_of_ble_eq_true rfl⟩) (xq_preV hK hP hD hN (ci := 5) (q0 := 0) rfl rfl) rfl rfl hl.1 rfl (lv_room (Nat.le_of_ble_eq_true rfl)) dX5_cell_62 ⟨Nat.le_refl _, Nat.le_refl _⟩) hD hS hA (fun rr_13 uu H locs h hP hD hS => ?_)
          obtain ⟨cc_14, rfl⟩ : ∃ z, z = uu := ⟨_, rfl⟩
          have hP : va_P (dC, dI) vwCl (wc_u cyI cyJ aa s_lanes s_sizes s_cells x_kinds x_digits x_causes x_effects x_things x_follows x_due t_kinds t_digits t_caseRow t_weights t_order t_calls t_things t_caseCount t_caseSet p_callsOfCase p_partOfCase p_callsOfPart p_cases p_parts r_cases r_hours r_sets r_count u_lists u_breaths u_heard u_traced cc_14) H := hP
          have hD : va_D A (wc_u cyI cyJ aa s_lanes s_sizes s_cells x_kinds x_digits x_causes x_effects x_things x_follows x_due t_kinds t_digits t_caseRow t_weights t_order t_calls t_things t_caseCount t_caseSet p_callsOfCase p_partOfCase p_callsOfPart p_cases p_parts r_cases r_hours r_sets r_count u_lists u_breaths u_heard u_traced cc_14) := hD
          refine lv_pop hx hb dX5_cell_65 rfl ?_
          refine lv_ldc2 (v := (-9223372036854775808 : Int64)) hx hb hown (hts (.constantLong RX5 141 (-9223372036854775808)) (by decide +kernel)) dX5_cell_66 ?_
          exact xq_rl hQ hx hb hr hP hK hD hS cc_14 rfl h dX5_cell_69 hlocks
      · have h := h.2 hc_21
        refine lv_aload_n hx hb dX5_cell_39 rfl (lv_at hl 0 rfl) ?_
        refine lv_iconst (v := (2 : Int32)) hx hb dX5_cell_40 (by decide) ?_
        refine xq_ci (va_runV (As := [.int (2 : Int32)]) (rest := []) ⟨hx, hb, hml, hown, hts⟩ (m_X5_faulted l dC dI cyI cyJ aa H.size h) (cwV 1 hts gX5_cell_X5_faulted rfl rfl rfl (by decide +kernel) ⟨Nat.le_of_ble_eq_true rfl, Nat.le_of_ble_eq_true rfl⟩) (xq_preV hK hP hD hN (ci := 5) (q0 := 0) rfl rfl) rfl rfl hl.1 rfl (lv_room (Nat.le_of_ble_eq_true rfl)) dX5_cell_41 ⟨Nat.le_refl _, Nat.le_refl _⟩) hD hS hA (fun rr_18 uu H locs h hP hD hS => ?_)
        obtain ⟨cc_19, rfl⟩ : ∃ z, z = uu := ⟨_, rfl⟩
        have hP : va_P (dC, dI) vwCl (wc_u cyI cyJ aa s_lanes s_sizes s_cells x_kinds x_digits x_causes x_effects x_things x_follows x_due t_kinds t_digits t_caseRow t_weights t_order t_calls t_things t_caseCount t_caseSet p_callsOfCase p_partOfCase p_callsOfPart p_cases p_parts r_cases r_hours r_sets r_count u_lists u_breaths u_heard u_traced cc_19) H := hP
        have hD : va_D A (wc_u cyI cyJ aa s_lanes s_sizes s_cells x_kinds x_digits x_causes x_effects x_things x_follows x_due t_kinds t_digits t_caseRow t_weights t_order t_calls t_things t_caseCount t_caseSet p_callsOfCase p_partOfCase p_callsOfPart p_cases p_parts r_cases r_hours r_sets r_count u_lists u_breaths u_heard u_traced cc_19) := hD
        refine lv_pop hx hb dX5_cell_44 rfl ?_
        refine lv_ldc2 (v := (-9223372036854775808 : Int64)) hx hb hown (hts (.constantLong RX5 141 (-9223372036854775808)) (by decide +kernel)) dX5_cell_45 ?_
        exact xq_rl hQ hx hb hr hP hK hD hS cc_19 rfl h dX5_cell_48 hlocks
    · have h := h.2 hc_23
      refine lv_ldc2 (v := (-9223372036854775808 : Int64)) hx hb hown (hts (.constantLong RX5 141 (-9223372036854775808)) (by decide +kernel)) dX5_cell_23 ?_
      exact xq_rl hQ hx hb hr hP hK hD hS (0 : Int32) rfl h dX5_cell_26 hlocks
def w_X5_commonDivisor_L9   (post : Int64 → Prop) (kk : Int64 → Prop) : Nat → Int64 → Int64 → Int32 → Prop
  | 0, _, _, _ => False
  | f_9 + 1, a_4, a_6, a_8 => ((128 : Int32) ≤ a_8 → (kk a_4)) ∧ (¬ (128 : Int32) ≤ a_8 → (((lg_cmp a_6 (0 : Int64)) = 0 → (kk a_4)) ∧ (¬ (lg_cmp a_6 (0 : Int64)) = 0 → ((¬ a_6 = 0) ∧ (w_X5_commonDivisor_L9  post kk f_9 a_6 (a_4 - a_4 / a_6 * a_6) (a_8 + (1 : Int32)))))))
def w_X5_commonDivisor (a_0 : Int64) (a_2 : Int64) (post : Int64 → Prop) : Prop := ∃ e_9, w_X5_commonDivisor_L9  post (fun (xx_7 : Int64) => post xx_7) e_9 a_0 a_2 (0 : Int32)
set_option maxHeartbeats 4000000 in
set_option maxRecDepth 100000 in
theorem m_X5_commonDivisor (l : Launch) (dC : Nat → ClassId) (dI : Nat → Nat → Nat) (cyI cyJ : ClassId) (ww : va_W) (sz : Nat) {a_0 : Int64} {a_2 : Int64} {post : Int64 → Prop} (h : w_X5_commonDivisor a_0 a_2 post) : Met l yX5_commonDivisor wsX5_commonDivisor (xq_R 0 0) (va_Pc [.long a_0, .long a_2] (xq_P (dC, dI) [(cyI, .int), (cyJ, .long)] ww sz)) (va_Ql (fun (rr : Int64) (uu : Unit) => post rr ) (fun (uu : Unit) => xq_B (dC, dI) [(cyI, .int), (cyJ, .long)] (va_A ww sz) ww) (va_A ww sz)) 0 0 (va_A ww sz) := by
  refine xq_M (cc := cX5_commonDivisor) (maxL := 11) (ret := (some .long)) (QA := fun A => va_Ql (fun (rr : Int64) (uu : Unit) => post rr ) (fun (uu : Unit) => xq_B (dC, dI) [(cyI, .int), (cyJ, .long)] A ww) A) (by decide) rfl (Nat.le_of_ble_eq_true rfl) ?_
  intro p e s m args below meth c A ls Q hQ hx hb hr hml hts hown hlocks hsz hP hK hD hA hS hN hl
  subst hsz
  have hl : lv_has ls 11 [(0, .long a_0), (2, .long a_2)] := hl
  unfold w_X5_commonDivisor at h
  refine lv_lload_n hx hb dX5_commonDivisor_0 rfl (lv_at hl 0 rfl) ?_
  refine lv_lstore (lv' := [(4, .long a_0), (0, .long a_0), (2, .long a_2)]) hx hb dX5_commonDivisor_1 hl (by decide) rfl (fun ls hl => ?_)
  refine lv_lload_n hx hb dX5_commonDivisor_3 rfl (lv_at hl 2 rfl) ?_
  refine lv_lstore (lv' := [(6, .long a_2), (4, .long a_0), (0, .long a_0), (2, .long a_2)]) hx hb dX5_commonDivisor_4 hl (by decide) rfl (fun ls hl => ?_)
  refine lv_iconst (v := (0 : Int32)) hx hb dX5_commonDivisor_6 (by decide) ?_
  refine lv_istore (lv' := [(8, .int (0 : Int32)), (6, .long a_2), (4, .long a_0), (0, .long a_0), (2, .long a_2)]) hx hb dX5_commonDivisor_7 hl (by decide) rfl (fun ls hl => ?_)
  obtain ⟨ni, h⟩ := h
  have lp_9 : ∀ (kk : Int64 → Prop), (∀ (xx_7 : Int64) (H : Heap) (locs : List Loc) (ls : Array Slot), va_P (dC, dI) vwCl ww H → va_D A ww → va_S A s.heap H locs → lv_has ls 11 [(4, .long xx_7)] → kk xx_7 → W p l e (xq_R 0 0) s m args below meth c H locs 0 0 Q (F0 m 45 ls [])) → ∀ (ni : Nat) (aa_4 : Int64) (aa_5 : Int64) (aa_6 : Int32) (H : Heap) (locs : List Loc) (ls : Array Slot), va_P (dC, dI) vwCl ww H → va_D A ww → va_S A s.heap H locs → lv_has ls 11 [(4, .long aa_4), (6, .long aa_5), (8, .int aa_6)] → w_X5_commonDivisor_L9  post kk ni aa_4 aa_5 aa_6 → W p l e (xq_R 0 0) s m args below meth c H locs 0 0 Q (F0 m 9 ls []) := by
    intro kk kx ni
    induction ni with
    | zero => intros; exact False.elim (by assumption)
    | succ ni ih =>
      intro aa_4 aa_5 aa_6 H locs ls hP hD hS hl h
      rw [w_X5_commonDivisor_L9] at h
      refine lv_iload hx hb dX5_commonDivisor_9 (lv_at hl 2 rfl) ?_
      refine lv_sipush (v := (128 : Int32)) hx hb dX5_commonDivisor_11 (by decide) ?_
      refine lv_icmp_ge (tgt := 45) hx hb dX5_commonDivisor_14 (by decide) (fun hc_10 => ?_) (fun hc_10 => ?_)
      · have h := h.1 hc_10
        exact kx aa_4 _ _ _ hP hD hS (lv_sub hl [0] rfl) h
      · have h := h.2 hc_10
        refine lv_lload hx hb dX5_commonDivisor_17 (lv_at hl 1 rfl) ?_
        refine lv_lconst (v := (0 : Int64)) hx hb dX5_commonDivisor_19 (by decide) ?_
        refine W.lcmp hx hb dX5_commonDivisor_20 ?_
        refine lv_if_eq (tgt := 45) hx hb dX5_commonDivisor_21 (by decide) (fun hc_9 => ?_) (fun hc_9 => ?_)
        · have h := h.1 hc_9
          exact kx aa_4 _ _ _ hP hD hS (lv_sub hl [0] rfl) h
        · have h := h.2 hc_9
          refine lv_lload hx hb dX5_commonDivisor_24 (lv_at hl 0 rfl) ?_
          refine lv_lload hx hb dX5_commonDivisor_26 (lv_at hl 1 rfl) ?_
          obtain ⟨hv_8, h⟩ := h
          refine lv_lrem hx hb dX5_commonDivisor_28 hv_8 ?_
          refine lv_lstore (lv' := [(9, .long (aa_4 - aa_4 / aa_5 * aa_5)), (4, .long aa_4), (6, .long aa_5), (8, .int aa_6)]) hx hb dX5_commonDivisor_29 hl (by decide) rfl (fun ls hl => ?_)
          refine lv_lload hx hb dX5_commonDivisor_31 (lv_at hl 2 rfl) ?_
          refine lv_lstore (lv' := [(4, .long aa_5), (9, .long (aa_4 - aa_4 / aa_5 * aa_5)), (6, .long aa_5), (8, .int aa_6)]) hx hb dX5_commonDivisor_33 hl (by decide) rfl (fun ls hl => ?_)
          refine lv_lload hx hb dX5_commonDivisor_35 (lv_at hl 1 rfl) ?_
          refine lv_lstore (lv' := [(6, .long (aa_4 - aa_4 / aa_5 * aa_5)), (4, .long aa_5), (9, .long (aa_4 - aa_4 / aa_5 * aa_5)), (8, .int aa_6)]) hx hb dX5_commonDivisor_37 hl (by decide) rfl (fun ls hl => ?_)
          refine lv_iinc (v := (aa_6 + (1 : Int32))) (lv' := [(8, .int (aa_6 + (1 : Int32))), (6, .long (aa_4 - aa_4 / aa_5 * aa_5)), (4, .long aa_5), (9, .long (aa_4 - aa_4 / aa_5 * aa_5))]) hx hb dX5_commonDivisor_39 hl (k := 3) rfl rfl (by decide) rfl (fun ls hl => ?_)
          refine lv_goto (tgt := 9) hx hb dX5_commonDivisor_42 (by decide) ?_
          exact ih aa_5 (aa_4 - aa_4 / aa_5 * aa_5) (aa_6 + (1 : Int32)) _ _ _ hP hD hS (lv_sub hl [2, 1, 0] rfl) h
  refine lp_9 _ (fun xx_7 H locs ls hP hD hS hl h => ?_) ni a_0 a_2 (0 : Int32) _ _ _ hP hD hS (lv_sub hl [2, 1, 0] rfl) h
  refine lv_lload hx hb dX5_commonDivisor_45 (lv_at hl 0 rfl) ?_
  exact xq_rl hQ hx hb hr hP hK hD hS () rfl h dX5_commonDivisor_47 hlocks
def w_X5_halfOfShare (a_0 : Int64) (a_2 : Int64) (a_4 : Int32) (post : Int64 → Prop) : Prop := w_X5_commonDivisor a_0 a_2 (fun (rr_1 : Int64) => ((lg_cmp a_2 (0 : Int64)) ≤ 0 → (post (Int32.toInt64 a_4))) ∧ (¬ (lg_cmp a_2 (0 : Int64)) ≤ 0 → ((0 < (lg_cmp rr_1 (0 : Int64)) → ((¬ a_4 = 0 → ((¬ rr_1 = 0) ∧ (post (a_2 / rr_1)))) ∧ (a_4 = 0 → ((¬ rr_1 = 0) ∧ (post (a_0 / rr_1)))))) ∧ (¬ 0 < (lg_cmp rr_1 (0 : Int64)) → (post (Int32.toInt64 a_4))))))
set_option maxHeartbeats 4000000 in
set_option maxRecDepth 100000 in
theorem m_X5_halfOfShare (l : Launch) (dC : Nat → ClassId) (dI : Nat → Nat → Nat) (cyI cyJ : ClassId) (ww : va_W) (sz : Nat) {a_0 : Int64} {a_2 : Int64} {a_4 : Int32} {post : Int64 → Prop} (h : w_X5_halfOfShare a_0 a_2 a_4 post) : Met l yX5_halfOfShare wsX5_halfOfShare (xq_R 1 30) (va_Pc [.long a_0, .long a_2, .int a_4] (xq_P (dC, dI) [(cyI, .int), (cyJ, .long)] ww sz)) (va_Ql (fun (rr : Int64) (uu : Unit) => post rr ) (fun (uu : Unit) => xq_B (dC, dI) [(cyI, .int), (cyJ, .long)] (va_A ww sz) ww) (va_A ww sz)) 0 0 (va_A ww sz) := by
  refine xq_M (cc := cX5_halfOfShare) (maxL := 7) (ret := (some .long)) (QA := fun A => va_Ql (fun (rr : Int64) (uu : Unit) => post rr ) (fun (uu : Unit) => xq_B (dC, dI) [(cyI, .int), (cyJ, .long)] A ww) A) (by decide) rfl (Nat.le_of_ble_eq_true rfl) ?_
  intro p e s m args below meth c A ls Q hQ hx hb hr hml hts hown hlocks hsz hP hK hD hA hS hN hl
  subst hsz
  have hl : lv_has ls 7 [(0, .long a_0), (2, .long a_2), (4, .int a_4)] := hl
  unfold w_X5_halfOfShare at h
  refine lv_lload_n hx hb dX5_halfOfShare_0 rfl (lv_at hl 0 rfl) ?_
  refine lv_lload_n hx hb dX5_halfOfShare_1 rfl (lv_at hl 1 rfl) ?_
  refine xq_cl (va_runS (As := [.long a_0, .long a_2]) (rest := []) ⟨hx, hb, hml, hown, hts⟩ (m_X5_commonDivisor l dC dI cyI cyJ ww s.heap.size h) (va_cwS 2 hts gX5_halfOfShare_X5_commonDivisor rfl rfl rfl (by decide +kernel) ⟨Nat.le_of_ble_eq_true rfl, Nat.le_of_ble_eq_true rfl⟩) (xq_preS hK hP hD hN) rfl rfl hl.1 rfl (lv_room (Nat.le_of_ble_eq_true rfl)) dX5_halfOfShare_2 ⟨Nat.le_refl _, Nat.le_refl _⟩) hD hS hA (fun rr_1 uu H locs h hP hD hS => ?_)
  have hP : va_P (dC, dI) vwCl ww H := hP
  have hD : va_D A ww := hD
  refine lv_lstore (lv' := [(5, .long rr_1), (0, .long a_0), (2, .long a_2), (4, .int a_4)]) hx hb dX5_halfOfShare_5 hl (by decide) rfl (fun ls hl => ?_)
  refine lv_lload_n hx hb dX5_halfOfShare_7 rfl (lv_at hl 2 rfl) ?_
  refine lv_lconst (v := (0 : Int64)) hx hb dX5_halfOfShare_8 (by decide) ?_
  refine W.lcmp hx hb dX5_halfOfShare_9 ?_
  refine lv_if_le (tgt := 20) hx hb dX5_halfOfShare_10 (by decide) (fun hc_6 => ?_) (fun hc_6 => ?_)
  · have h := h.1 hc_6
    refine lv_iload hx hb dX5_halfOfShare_20 (lv_at hl 3 rfl) ?_
    refine lv_i2l (v := (Int32.toInt64 a_4)) hx hb dX5_halfOfShare_22 rfl ?_
    exact xq_rl hQ hx hb hr hP hK hD hS () rfl h dX5_halfOfShare_23 hlocks
  · have h := h.2 hc_6
    refine lv_lload hx hb dX5_halfOfShare_13 (lv_at hl 0 rfl) ?_
    refine lv_lconst (v := (0 : Int64)) hx hb dX5_halfOfShare_15 (by decide) ?_
    refine W.lcmp hx hb dX5_halfOfShare_16 ?_
    refine lv_if_gt (tgt := 24) hx hb dX5_halfOfShare_17 (by decide) (fun hc_5 => ?_) (fun hc_5 => ?_)
    · have h := h.1 hc_5
      refine lv_iload hx hb dX5_halfOfShare_24 (lv_at hl 3 rfl) ?_
      refine lv_if_ne (tgt := 33) hx hb dX5_halfOfShare_26 (by decide) (fun hc_4 => ?_) (fun hc_4 => ?_)
      · have h := h.1 hc_4
        refine lv_lload_n hx hb dX5_halfOfShare_33 rfl (lv_at hl 2 rfl) ?_
        refine lv_lload hx hb dX5_halfOfShare_34 (lv_at hl 0 rfl) ?_
        obtain ⟨hv_2, h⟩ := h
        refine lv_ldiv hx hb dX5_halfOfShare_36 hv_2 ?_
        exact xq_rl hQ hx hb hr hP hK hD hS () rfl h dX5_halfOfShare_37 hlocks
      · have h := h.2 hc_4
        refine lv_lload_n hx hb dX5_halfOfShare_29 rfl (lv_at hl 1 rfl) ?_
        refine lv_goto (tgt := 34) hx hb dX5_halfOfShare_30 (by decide) ?_
        refine lv_lload hx hb dX5_halfOfShare_34 (lv_at hl 0 rfl) ?_
        obtain ⟨hv_3, h⟩ := h
        refine lv_ldiv hx hb dX5_halfOfShare_36 hv_3 ?_
        exact xq_rl hQ hx hb hr hP hK hD hS () rfl h dX5_halfOfShare_37 hlocks
    · have h := h.2 hc_5
      refine lv_iload hx hb dX5_halfOfShare_20 (lv_at hl 3 rfl) ?_
      refine lv_i2l (v := (Int32.toInt64 a_4)) hx hb dX5_halfOfShare_22 rfl ?_
      exact xq_rl hQ hx hb hr hP hK hD hS () rfl h dX5_halfOfShare_23 hlocks
def w_X5_isHalfOfShare (a_0 : Int32) (post : Int32 → Prop) : Prop := (a_0 = 0 → (post (1 : Int32))) ∧ (¬ a_0 = 0 → ((¬ a_0 = (1 : Int32) → (post (0 : Int32))) ∧ (a_0 = (1 : Int32) → (post (1 : Int32)))))
set_option maxHeartbeats 4000000 in
set_option maxRecDepth 100000 in
theorem m_X5_isHalfOfShare (l : Launch) (dC : Nat → ClassId) (dI : Nat → Nat → Nat) (cyI cyJ : ClassId) (ww : va_W) (sz : Nat) {a_0 : Int32} {post : Int32 → Prop} (h : w_X5_isHalfOfShare a_0 post) : Met l yX5_isHalfOfShare wsX5_isHalfOfShare (xq_R 0 0) (va_Pc [.int a_0] (xq_P (dC, dI) [(cyI, .int), (cyJ, .long)] ww sz)) (va_Qi (fun (rr : Int32) (uu : Unit) => post rr ) (fun (uu : Unit) => xq_B (dC, dI) [(cyI, .int), (cyJ, .long)] (va_A ww sz) ww) (va_A ww sz)) 0 0 (va_A ww sz) := by
  refine xq_M (cc := cX5_isHalfOfShare) (maxL := 1) (ret := (some .boolean)) (QA := fun A => va_Qi (fun (rr : Int32) (uu : Unit) => post rr ) (fun (uu : Unit) => xq_B (dC, dI) [(cyI, .int), (cyJ, .long)] A ww) A) (by decide) rfl (Nat.le_of_ble_eq_true rfl) ?_
  intro p e s m args below meth c A ls Q hQ hx hb hr hml hts hown hlocks hsz hP hK hD hA hS hN hl
  subst hsz
  have hl : lv_has ls 1 [(0, .int a_0)] := hl
  unfold w_X5_isHalfOfShare at h
  refine lv_iload_n hx hb dX5_isHalfOfShare_0 rfl (lv_at hl 0 rfl) ?_
  refine lv_if_eq (tgt := 9) hx hb dX5_isHalfOfShare_1 (by decide) (fun hc_2 => ?_) (fun hc_2 => ?_)
  · have h := h.1 hc_2
    refine lv_iconst (v := (1 : Int32)) hx hb dX5_isHalfOfShare_9 (by decide) ?_
    refine lv_goto (tgt := 14) hx hb dX5_isHalfOfShare_10 (by decide) ?_
    exact xq_rz hQ hx hb hr (by decide) hP hK hD hS () rfl h dX5_isHalfOfShare_14 hlocks
  · have h := h.2 hc_2
    refine lv_iload_n hx hb dX5_isHalfOfShare_4 rfl (lv_at hl 0 rfl) ?_
    refine lv_iconst (v := (1 : Int32)) hx hb dX5_isHalfOfShare_5 (by decide) ?_
    refine lv_icmp_ne (tgt := 13) hx hb dX5_isHalfOfShare_6 (by decide) (fun hc_1 => ?_) (fun hc_1 => ?_)
    · have h := h.1 hc_1
      refine lv_iconst (v := (0 : Int32)) hx hb dX5_isHalfOfShare_13 (by decide) ?_
      exact xq_rz hQ hx hb hr (by decide) hP hK hD hS () rfl h dX5_isHalfOfShare_14 hlocks
    · have h := h.2 hc_1
      refine lv_iconst (v := (1 : Int32)) hx hb dX5_isHalfOfShare_9 (by decide) ?_
      refine lv_goto (tgt := 14) hx hb dX5_isHalfOfShare_10 (by decide) ?_
      exact xq_rz hQ hx hb hr (by decide) hP hK hD hS () rfl h dX5_isHalfOfShare_14 hlocks
def w_X5_isThought_L2 (a_1 : Int32) (t_calls : Nat → Int32) (u_lists : Nat → Int32) (u_breaths : Nat → Int32) (u_heard : Nat → Int32) (post : Int32 → Prop) (kk : Prop) : Nat → Int32 → Prop
  | 0, _ => False
  | f_2 + 1, a_2 => ((6 : Int32) ≤ a_2 → (kk)) ∧ (¬ (6 : Int32) ≤ a_2 → ((vp_in a_2 6) ∧ (((u_heard a_2.toNatClampNeg) = (-9 : Int32) → (w_X5_isThought_L2 a_1 t_calls u_lists u_breaths u_heard post kk f_2 (a_2 + (1 : Int32)))) ∧ (¬ (u_heard a_2.toNatClampNeg) = (-9 : Int32) → ((vp_in a_2 6) ∧ (w_X5_callOfHour t_calls u_lists u_breaths a_1 a_2 (fun (rr_3 : Int32) => ((u_heard a_2.toNatClampNeg) = rr_3 → (w_X5_isThought_L2 a_1 t_calls u_lists u_breaths u_heard post kk f_2 (a_2 + (1 : Int32)))) ∧ (¬ (u_heard a_2.toNatClampNeg) = rr_3 → (post (0 : Int32))))))))))
def w_X5_isThought (t_calls : Nat → Int32) (u_lists : Nat → Int32) (u_breaths : Nat → Int32) (u_heard : Nat → Int32) (a_1 : Int32) (post : Int32 → Prop) : Prop := ∃ e_2, w_X5_isThought_L2 a_1 t_calls u_lists u_breaths u_heard post (post (1 : Int32)) e_2 (0 : Int32)
set_option maxHeartbeats 4000000 in
set_option maxRecDepth 100000 in
theorem m_X5_isThought (l : Launch) (dC : Nat → ClassId) (dI : Nat → Nat → Nat) (cyI cyJ : ClassId) (aa : Nat → Nat) (sz : Nat) {s_lanes : Nat → Int32} {s_sizes : Nat → Int32} {s_cells : Nat → Int32} {x_kinds : Nat → Int32} {x_digits : Nat → Int32} {x_causes : Nat → Int32} {x_effects : Nat → Int32} {x_things : Int32} {x_follows : Int32} {x_due : Int32} {t_kinds : Nat → Int32} {t_digits : Nat → Int32} {t_caseRow : Nat → Int32} {t_weights : Nat → Int32} {t_order : Nat → Int32} {t_calls : Nat → Int32} {t_things : Int32} {t_caseCount : Int32} {t_caseSet : Int64} {p_callsOfCase : Nat → Int64} {p_partOfCase : Nat → Int32} {p_callsOfPart : Nat → Int64} {p_cases : Int32} {p_parts : Int32} {r_cases : Nat → Int32} {r_hours : Nat → Int32} {r_sets : Nat → Int32} {r_count : Int32} {u_lists : Nat → Int32} {u_breaths : Nat → Int32} {u_heard : Nat → Int32} {u_traced : Int32} {u_lastFault : Int32} {a_1 : Int32} {post : Int32 → Prop} (h : w_X5_isThought t_calls u_lists u_breaths u_heard a_1 post) : Met l yX5_isThought wsX5_isThought (xq_R 3 65) (va_Pc [.ref (aa 0), .int a_1] (xq_P (dC, dI) [(cyI, .int), (cyJ, .long)] (wc_u cyI cyJ aa s_lanes s_sizes s_cells x_kinds x_digits x_causes x_effects x_things x_follows x_due t_kinds t_digits t_caseRow t_weights t_order t_calls t_things t_caseCount t_caseSet p_callsOfCase p_partOfCase p_callsOfPart p_cases p_parts r_cases r_hours r_sets r_count u_lists u_breaths u_heard u_traced u_lastFault) sz)) (va_Qi (fun (rr : Int32) (uu : Unit) => post rr ) (fun (uu : Unit) => xq_B (dC, dI) [(cyI, .int), (cyJ, .long)] (va_A (wc_u cyI cyJ aa s_lanes s_sizes s_cells x_kinds x_digits x_causes x_effects x_things x_follows x_due t_kinds t_digits t_caseRow t_weights t_order t_calls t_things t_caseCount t_caseSet p_callsOfCase p_partOfCase p_callsOfPart p_cases p_parts r_cases r_hours r_sets r_count u_lists u_breaths u_heard u_traced u_lastFault) sz) (wc_u cyI cyJ aa s_lanes s_sizes s_cells x_kinds x_digits x_causes x_effects x_things x_follows x_due t_kinds t_digits t_caseRow t_weights t_order t_calls t_things t_caseCount t_caseSet p_callsOfCase p_partOfCase p_callsOfPart p_cases p_parts r_cases r_hours r_sets r_count u_lists u_breaths u_heard u_traced u_lastFault)) (va_A (wc_u cyI cyJ aa s_lanes s_sizes s_cells x_kinds x_digits x_causes x_effects x_things x_follows x_due t_kinds t_digits t_caseRow t_weights t_order t_calls t_things t_caseCount t_caseSet p_callsOfCase p_partOfCase p_callsOfPart p_cases p_parts r_cases r_hours r_sets r_count u_lists u_breaths u_heard u_traced u_lastFault) sz)) 0 0 (va_A (wc_u cyI cyJ aa s_lanes s_sizes s_cells x_kinds x_digits x_causes x_effects x_things x_follows x_due t_kinds t_digits t_caseRow t_weights t_order t_calls t_things t_caseCount t_caseSet p_callsOfCase p_partOfCase p_callsOfPart p_cases p_parts r_cases r_hours r_sets r_count u_lists u_breaths u_heard u_traced u_lastFault) sz) := by
  refine xq_M (cc := cX5_isThought) (maxL := 3) (ret := (some .boolean)) (QA := fun A => va_Qi (fun (rr : Int32) (uu : Unit) => post rr ) (fun (uu : Unit) => xq_B (dC, dI) [(cyI, .int), (cyJ, .long)] A (wc_u cyI cyJ aa s_lanes s_sizes s_cells x_kinds x_digits x_causes x_effects x_things x_follows x_due t_kinds t_digits t_caseRow t_weights t_order t_calls t_things t_caseCount t_caseSet p_callsOfCase p_partOfCase p_callsOfPart p_cases p_parts r_cases r_hours r_sets r_count u_lists u_breaths u_heard u_traced u_lastFault)) A) (by decide) rfl (Nat.le_of_ble_eq_true rfl) ?_
  intro p e s m args below meth c A ls Q hQ hx hb hr hml hts hown hlocks hsz hP hK hD hA hS hN hl
  subst hsz
  have hl : lv_has ls 3 [(0, .ref (aa 0)), (1, .int a_1)] := hl
  have hi_X5 : ∀ w ∈ wsX50, w ∈ wsX5_isThought := fun _ h => List.mem_cons_of_mem _ (List.mem_append_left _ (List.mem_append_right _ h))
  have fl_53 := hts (.fieldLink RX5 53 "UnsaidCalls" "heard" "[I") (by decide +kernel)
  unfold w_X5_isThought at h
  refine lv_iconst (v := (0 : Int32)) hx hb dX5_isThought_0 (by decide) ?_
  refine lv_istore_n (lv' := [(2, .int (0 : Int32)), (0, .ref (aa 0)), (1, .int a_1)]) hx hb dX5_isThought_1 rfl hl (by decide) rfl (fun ls hl => ?_)
  obtain ⟨ni, h⟩ := h
  have lp_2 : ∀ (kk : Prop), (∀  (H : Heap) (locs : List Loc) (ls : Array Slot), va_P (dC, dI) vwCl (wc_u cyI cyJ aa s_lanes s_sizes s_cells x_kinds x_digits x_causes x_effects x_things x_follows x_due t_kinds t_digits t_caseRow t_weights t_order t_calls t_things t_caseCount t_caseSet p_callsOfCase p_partOfCase p_callsOfPart p_cases p_parts r_cases r_hours r_sets r_count u_lists u_breaths u_heard u_traced u_lastFault) H → va_D A (wc_u cyI cyJ aa s_lanes s_sizes s_cells x_kinds x_digits x_causes x_effects x_things x_follows x_due t_kinds t_digits t_caseRow t_weights t_order t_calls t_things t_caseCount t_caseSet p_callsOfCase p_partOfCase p_callsOfPart p_cases p_parts r_cases r_hours r_sets r_count u_lists u_breaths u_heard u_traced u_lastFault) → va_S A s.heap H locs → lv_has ls 3 [] → kk → W p l e (xq_R 3 65) s m args below meth c H locs 0 0 Q (F0 m 42 ls [])) → ∀ (ni : Nat) (aa_8 : Int32) (H : Heap) (locs : List Loc) (ls : Array Slot), va_P (dC, dI) vwCl (wc_u cyI cyJ aa s_lanes s_sizes s_cells x_kinds x_digits x_causes x_effects x_things x_follows x_due t_kinds t_digits t_caseRow t_weights t_order t_calls t_things t_caseCount t_caseSet p_callsOfCase p_partOfCase p_callsOfPart p_cases p_parts r_cases r_hours r_sets r_count u_lists u_breaths u_heard u_traced u_lastFault) H → va_D A (wc_u cyI cyJ aa s_lanes s_sizes s_cells x_kinds x_digits x_causes x_effects x_things x_follows x_due t_kinds t_digits t_caseRow t_weights t_order t_calls t_things t_caseCount t_caseSet p_callsOfCase p_partOfCase p_callsOfPart p_cases p_parts r_cases r_hours r_sets r_count u_lists u_breaths u_heard u_traced u_lastFault) → va_S A s.heap H locs → lv_has ls 3 [(0, .ref (aa 0)), (1, .int a_1), (2, .int aa_8)] → w_X5_isThought_L2 a_1 t_calls u_lists u_breaths u_heard post kk ni aa_8 → W p l e (xq_R 3 65) s m args below meth c H locs 0 0 Q (F0 m 2 ls []) := by
    intro kk kx ni
    induction ni with
    | zero => intros; exact False.elim (by assumption)
    | succ ni ih =>
      intro aa_8 H locs ls hP hD hS hl h
      rw [w_X5_isThought_L2] at h
      refine lv_iload_n hx hb dX5_isThought_2 rfl (lv_at hl 2 rfl) ?_
      refine lv_bipush (v := (6 : Int32)) hx hb dX5_isThought_3 (by decide) ?_
      refine lv_icmp_ge (tgt := 42) hx hb dX5_isThought_5 (by decide) (fun hc_15 => ?_) (fun hc_15 => ?_)
      · have h := h.1 hc_15
        exact kx  _ _ _ hP hD hS (lv_sub hl [] rfl) h
      · have h := h.2 hc_15
        refine lv_aload_n hx hb dX5_isThought_8 rfl (lv_at hl 0 rfl) ?_
        refine va_get (D := (dC, dI)) (ci := 5) (v := .ref (aa 27)) (C := RX5) (T := TX5) (N := 10) hx hb hts hi_X5 hown hK hP 0 rfl rfl 7 (by decide) fl_53 (fun _ h9 => h9) rfl dX5_isThought_9 ?_
        refine lv_iload_n hx hb dX5_isThought_12 rfl (lv_at hl 2 rfl) ?_
        obtain ⟨hv_9, h⟩ := h
        refine va_iald hx hb hK hP 27 0 rfl rfl hv_9 dX5_isThought_13 ?_
        refine lv_bipush (v := (-9 : Int32)) hx hb dX5_isThought_14 (by decide) ?_
        refine lv_icmp_eq (tgt := 36) hx hb dX5_isThought_16 (by decide) (fun hc_14 => ?_) (fun hc_14 => ?_)
        · have h := h.1 hc_14
          refine lv_iinc (v := (aa_8 + (1 : Int32))) (lv' := [(2, .int (aa_8 + (1 : Int32))), (0, .ref (aa 0)), (1, .int a_1)]) hx hb dX5_isThought_36 hl (k := 2) rfl rfl (by decide) rfl (fun ls hl => ?_)
          refine lv_goto (tgt := 2) hx hb dX5_isThought_39 (by decide) ?_
          exact ih (aa_8 + (1 : Int32)) _ _ _ hP hD hS (lv_sub hl [1, 2, 0] rfl) h
        · have h := h.2 hc_14
          refine lv_aload_n hx hb dX5_isThought_19 rfl (lv_at hl 0 rfl) ?_
          refine va_get (D := (dC, dI)) (ci := 5) (v := .ref (aa 27)) (C := RX5) (T := TX5) (N := 10) hx hb hts hi_X5 hown hK hP 0 rfl rfl 7 (by decide) fl_53 (fun _ h9 => h9) rfl dX5_isThought_20 ?_
          refine lv_iload_n hx hb dX5_isThought_23 rfl (lv_at hl 2 rfl) ?_
          obtain ⟨hv_10, h⟩ := h
          refine va_iald hx hb hK hP 27 0 rfl rfl hv_10 dX5_isThought_24 ?_
          refine lv_aload_n hx hb dX5_isThought_25 rfl (lv_at hl 0 rfl) ?_
          refine lv_iload_n hx hb dX5_isThought_26 rfl (lv_at hl 1 rfl) ?_
          refine lv_iload_n hx hb dX5_isThought_27 rfl (lv_at hl 2 rfl) ?_
          refine xq_ci (va_runV (As := [.int a_1, .int aa_8]) (rest := [.int (u_heard aa_8.toNatClampNeg)]) ⟨hx, hb, hml, hown, hts⟩ (m_X5_callOfHour l dC dI cyI cyJ aa H.size h) (cwV 2 hts gX5_isThought_X5_callOfHour rfl rfl rfl (by decide +kernel) ⟨Nat.le_of_ble_eq_true rfl, Nat.le_of_ble_eq_true rfl⟩) (xq_preV hK hP hD hN (ci := 5) (q0 := 0) rfl rfl) rfl rfl hl.1 rfl (lv_room (Nat.le_of_ble_eq_true rfl)) dX5_isThought_28 ⟨Nat.le_refl _, Nat.le_refl _⟩) hD hS hA (fun rr_11 uu H locs h hP hD hS => ?_)
          have hP : va_P (dC, dI) vwCl (wc_u cyI cyJ aa s_lanes s_sizes s_cells x_kinds x_digits x_causes x_effects x_things x_follows x_due t_kinds t_digits t_caseRow t_weights t_order t_calls t_things t_caseCount t_caseSet p_callsOfCase p_partOfCase p_callsOfPart p_cases p_parts r_cases r_hours r_sets r_count u_lists u_breaths u_heard u_traced u_lastFault) H := hP
          have hD : va_D A (wc_u cyI cyJ aa s_lanes s_sizes s_cells x_kinds x_digits x_causes x_effects x_things x_follows x_due t_kinds t_digits t_caseRow t_weights t_order t_calls t_things t_caseCount t_caseSet p_callsOfCase p_partOfCase p_callsOfPart p_cases p_parts r_cases r_hours r_sets r_count u_lists u_breaths u_heard u_traced u_lastFault) := hD
          refine lv_icmp_eq (tgt := 36) hx hb dX5_isThought_31 (by decide) (fun hc_12 => ?_) (fun hc_12 => ?_)
          · have h := h.1 hc_12
            refine lv_iinc (v := (aa_8 + (1 : Int32))) (lv' := [(2, .int (aa_8 + (1 : Int32))), (0, .ref (aa 0)), (1, .int a_1)]) hx hb dX5_isThought_36 hl (k := 2) rfl rfl (by decide) rfl (fun ls hl => ?_)
            refine lv_goto (tgt := 2) hx hb dX5_isThought_39 (by decide) ?_
            exact ih (aa_8 + (1 : Int32)) _ _ _ hP hD hS (lv_sub hl [1, 2, 0] rfl) h
          · have h := h.2 hc_12
            refine lv_iconst (v := (0 : Int32)) hx hb dX5_isThought_34 (by decide) ?_
            exact xq_rz hQ hx hb hr (by decide) hP hK hD hS () rfl h dX5_isThought_35 hlocks
  refine lp_2 _ (fun  H locs ls hP hD hS hl h => ?_) ni (0 : Int32) _ _ _ hP hD hS (lv_sub hl [1, 2, 0] rfl) h
  refine lv_iconst (v := (1 : Int32)) hx hb dX5_isThought_42 (by decide) ?_
  exact xq_rz hQ hx hb hr (by decide) hP hK hD hS () rfl h dX5_isThought_43 hlocks
def w_X5_chance_L30 (a_1 : Int32) (a_2 : Int32) (t_caseRow : Nat → Int32) (t_weights : Nat → Int32) (t_calls : Nat → Int32) (t_things : Int32) (t_caseCount : Int32) (u_lists : Nat → Int32) (u_breaths : Nat → Int32) (u_heard : Nat → Int32) (post : Int64 → Prop) (kk : Int64 → Int64 → Prop) : Nat → Int64 → Int64 → Int32 → Prop
  | 0, _, _, _ => False
  | f_30 + 1, a_3, a_5, a_7 => (t_caseCount ≤ a_7 → (kk a_3 a_5)) ∧ (¬ t_caseCount ≤ a_7 → ((vp_in a_7 64) ∧ (w_X5_isThought t_calls u_lists u_breaths u_heard (t_caseRow a_7.toNatClampNeg) (fun (rr_4 : Int32) => (rr_4 = 0 → (w_X5_chance_L30 a_1 a_2 t_caseRow t_weights t_calls t_things t_caseCount u_lists u_breaths u_heard post kk f_30 a_3 a_5 (a_7 + (1 : Int32)))) ∧ (¬ rr_4 = 0 → ((vp_in (t_caseRow a_7.toNatClampNeg) 64) ∧ (w_X5_has (t_caseRow a_7.toNatClampNeg) a_1 (fun (rr_6 : Int32) => (rr_6 = 0 → (w_X5_chance_L30 a_1 a_2 t_caseRow t_weights t_calls t_things t_caseCount u_lists u_breaths u_heard post kk f_30 (a_3 + (0 : Int64)) (a_5 + (Int32.toInt64 (t_weights (t_caseRow a_7.toNatClampNeg).toNatClampNeg))) (a_7 + (1 : Int32)))) ∧ (¬ rr_6 = 0 → ((vp_in (t_caseRow a_7.toNatClampNeg) 64) ∧ (w_X5_chance_L30 a_1 a_2 t_caseRow t_weights t_calls t_things t_caseCount u_lists u_breaths u_heard post kk f_30 (a_3 + (Int32.toInt64 (t_weights (t_caseRow a_7.toNatClampNeg).toNatClampNeg))) (a_5 + (Int32.toInt64 (t_weights (t_caseRow a_7.toNatClampNeg).toNatClampNeg))) (a_7 + (1 : Int32)))))))))))))
def w_X5_chance (t_caseRow : Nat → Int32) (t_weights : Nat → Int32) (t_calls : Nat → Int32) (t_things : Int32) (t_caseCount : Int32) (u_lists : Nat → Int32) (u_breaths : Nat → Int32) (u_heard : Nat → Int32) (a_1 : Int32) (a_2 : Int32) (post : Int64 → Prop) : Prop := w_X4_isThing t_things a_1 (fun (rr_1 : Int32) => (rr_1 = 0 → (post (-9223372036854775808 : Int64))) ∧ (¬ rr_1 = 0 → (w_X5_isHalfOfShare a_2 (fun (rr_2 : Int32) => (¬ rr_2 = 0 → (∃ e_30, w_X5_chance_L30 a_1 a_2 t_caseRow t_weights t_calls t_things t_caseCount u_lists u_breaths u_heard post (fun (xx_16 : Int64) (xx_17 : Int64) => w_X5_halfOfShare xx_16 xx_17 a_2 (fun (rr_18 : Int64) => post rr_18)) e_30 (0 : Int64) (0 : Int64) (0 : Int32))) ∧ (rr_2 = 0 → (post (-9223372036854775808 : Int64)))))))
set_option maxHeartbeats 4000000 in
set_option maxRecDepth 100000 in
theorem m_X5_chance (l : Launch) (dC : Nat → ClassId) (dI : Nat → Nat → Nat) (cyI cyJ : ClassId) (aa : Nat → Nat) (sz : Nat) {s_lanes : Nat → Int32} {s_sizes : Nat → Int32} {s_cells : Nat → Int32} {x_kinds : Nat → Int32} {x_digits : Nat → Int32} {x_causes : Nat → Int32} {x_effects : Nat → Int32} {x_things : Int32} {x_follows : Int32} {x_due : Int32} {t_kinds : Nat → Int32} {t_digits : Nat → Int32} {t_caseRow : Nat → Int32} {t_weights : Nat → Int32} {t_order : Nat → Int32} {t_calls : Nat → Int32} {t_things : Int32} {t_caseCount : Int32} {t_caseSet : Int64} {p_callsOfCase : Nat → Int64} {p_partOfCase : Nat → Int32} {p_callsOfPart : Nat → Int64} {p_cases : Int32} {p_parts : Int32} {r_cases : Nat → Int32} {r_hours : Nat → Int32} {r_sets : Nat → Int32} {r_count : Int32} {u_lists : Nat → Int32} {u_breaths : Nat → Int32} {u_heard : Nat → Int32} {u_traced : Int32} {u_lastFault : Int32} {a_1 : Int32} {a_2 : Int32} {post : Int64 → Prop} (h : w_X5_chance t_caseRow t_weights t_calls t_things t_caseCount u_lists u_breaths u_heard a_1 a_2 post) : Met l yX5_chance wsX5_chance (xq_R 4 87) (va_Pc [.ref (aa 0), .int a_1, .int a_2] (xq_P (dC, dI) [(cyI, .int), (cyJ, .long)] (wc_u cyI cyJ aa s_lanes s_sizes s_cells x_kinds x_digits x_causes x_effects x_things x_follows x_due t_kinds t_digits t_caseRow t_weights t_order t_calls t_things t_caseCount t_caseSet p_callsOfCase p_partOfCase p_callsOfPart p_cases p_parts r_cases r_hours r_sets r_count u_lists u_breaths u_heard u_traced u_lastFault) sz)) (va_Ql (fun (rr : Int64) (uu : Unit) => post rr ) (fun (uu : Unit) => xq_B (dC, dI) [(cyI, .int), (cyJ, .long)] (va_A (wc_u cyI cyJ aa s_lanes s_sizes s_cells x_kinds x_digits x_causes x_effects x_things x_follows x_due t_kinds t_digits t_caseRow t_weights t_order t_calls t_things t_caseCount t_caseSet p_callsOfCase p_partOfCase p_callsOfPart p_cases p_parts r_cases r_hours r_sets r_count u_lists u_breaths u_heard u_traced u_lastFault) sz) (wc_u cyI cyJ aa s_lanes s_sizes s_cells x_kinds x_digits x_causes x_effects x_things x_follows x_due t_kinds t_digits t_caseRow t_weights t_order t_calls t_things t_caseCount t_caseSet p_callsOfCase p_partOfCase p_callsOfPart p_cases p_parts r_cases r_hours r_sets r_count u_lists u_breaths u_heard u_traced u_lastFault)) (va_A (wc_u cyI cyJ aa s_lanes s_sizes s_cells x_kinds x_digits x_causes x_effects x_things x_follows x_due t_kinds t_digits t_caseRow t_weights t_order t_calls t_things t_caseCount t_caseSet p_callsOfCase p_partOfCase p_callsOfPart p_cases p_parts r_cases r_hours r_sets r_count u_lists u_breaths u_heard u_traced u_lastFault) sz)) 0 0 (va_A (wc_u cyI cyJ aa s_lanes s_sizes s_cells x_kinds x_digits x_causes x_effects x_things x_follows x_due t_kinds t_digits t_caseRow t_weights t_order t_calls t_things t_caseCount t_caseSet p_callsOfCase p_partOfCase p_callsOfPart p_cases p_parts r_cases r_hours r_sets r_count u_lists u_breaths u_heard u_traced u_lastFault) sz) := by
  refine xq_M (cc := cX5_chance) (maxL := 9) (ret := (some .long)) (QA := fun A => va_Ql (fun (rr : Int64) (uu : Unit) => post rr ) (fun (uu : Unit) => xq_B (dC, dI) [(cyI, .int), (cyJ, .long)] A (wc_u cyI cyJ aa s_lanes s_sizes s_cells x_kinds x_digits x_causes x_effects x_things x_follows x_due t_kinds t_digits t_caseRow t_weights t_order t_calls t_things t_caseCount t_caseSet p_callsOfCase p_partOfCase p_callsOfPart p_cases p_parts r_cases r_hours r_sets r_count u_lists u_breaths u_heard u_traced u_lastFault)) A) (by decide) rfl (Nat.le_of_ble_eq_true rfl) ?_
  intro p e s m args below meth c A ls Q hQ hx hb hr hml hts hown hlocks hsz hP hK hD hA hS hN hl
  subst hsz
  have hl : lv_has ls 9 [(0, .ref (aa 0)), (1, .int a_1), (2, .int a_2)] := hl
  have hi_X4 : ∀ w ∈ wsX40, w ∈ wsX5_chance := fun _ h => List.mem_cons_of_mem _ (List.mem_append_right _ h)
  have hi_X5 : ∀ w ∈ wsX50, w ∈ wsX5_chance := fun _ h => List.mem_cons_of_mem _ (List.mem_append_left _ (List.mem_append_right _ h))
  have fl_28 := hts (.fieldLink RX5 28 "UnsaidCalls" "place" "LUnsaidCalls$Town;") (by decide +kernel)
  have fl_105 := hts (.fieldLink RX5 105 "UnsaidCalls$Town" "weights" "[I") (by decide +kernel)
  have fl_125 := hts (.fieldLink RX5 125 "UnsaidCalls$Town" "caseCount" "I") (by decide +kernel)
  have fl_128 := hts (.fieldLink RX5 128 "UnsaidCalls$Town" "caseRow" "[I") (by decide +kernel)
  unfold w_X5_chance at h
  refine lv_aload_n hx hb dX5_chance_0 rfl (lv_at hl 0 rfl) ?_
  refine va_get (D := (dC, dI)) (ci := 5) (v := .ref (aa 10)) (C := RX5) (T := TX5) (N := 10) hx hb hts hi_X5 hown hK hP 0 rfl rfl 2 (by decide) fl_28 (fun _ h9 => h9) rfl dX5_chance_1 ?_
  refine lv_iload_n hx hb dX5_chance_4 rfl (lv_at hl 1 rfl) ?_
  refine xq_ci (va_runV (As := [.int a_1]) (rest := []) ⟨hx, hb, hml, hown, hts⟩ (m_X4_isThing l dC dI cyI cyJ aa s.heap.size h) (cwV 1 hts gX5_chance_X4_isThing rfl rfl rfl (by decide +kernel) ⟨Nat.le_of_ble_eq_true rfl, Nat.le_of_ble_eq_true rfl⟩) (xq_preV hK hP hD hN (ci := 4) (q0 := 10) rfl rfl) rfl rfl hl.1 rfl (lv_room (Nat.le_of_ble_eq_true rfl)) dX5_chance_5 ⟨Nat.le_refl _, Nat.le_refl _⟩) hD hS hA (fun rr_1 uu H locs h hP hD hS => ?_)
  have hP : va_P (dC, dI) vwCl (wc_u cyI cyJ aa s_lanes s_sizes s_cells x_kinds x_digits x_causes x_effects x_things x_follows x_due t_kinds t_digits t_caseRow t_weights t_order t_calls t_things t_caseCount t_caseSet p_callsOfCase p_partOfCase p_callsOfPart p_cases p_parts r_cases r_hours r_sets r_count u_lists u_breaths u_heard u_traced u_lastFault) H := hP
  have hD : va_D A (wc_u cyI cyJ aa s_lanes s_sizes s_cells x_kinds x_digits x_causes x_effects x_things x_follows x_due t_kinds t_digits t_caseRow t_weights t_order t_calls t_things t_caseCount t_caseSet p_callsOfCase p_partOfCase p_callsOfPart p_cases p_parts r_cases r_hours r_sets r_count u_lists u_breaths u_heard u_traced u_lastFault) := hD
  refine lv_if_eq (tgt := 18) hx hb dX5_chance_8 (by decide) (fun hc_32 => ?_) (fun hc_32 => ?_)
  · have h := h.1 hc_32
    refine lv_ldc2 (v := (-9223372036854775808 : Int64)) hx hb hown (hts (.constantLong RX5 141 (-9223372036854775808)) (by decide +kernel)) dX5_chance_18 ?_
    exact xq_rl hQ hx hb hr hP hK hD hS () rfl h dX5_chance_21 hlocks
  · have h := h.2 hc_32
    refine lv_iload_n hx hb dX5_chance_11 rfl (lv_at hl 2 rfl) ?_
    refine xq_ci (va_runS (As := [.int a_2]) (rest := []) ⟨hx, hb, hml, hown, hts⟩ (m_X5_isHalfOfShare l dC dI cyI cyJ (wc_u cyI cyJ aa s_lanes s_sizes s_cells x_kinds x_digits x_causes x_effects x_things x_follows x_due t_kinds t_digits t_caseRow t_weights t_order t_calls t_things t_caseCount t_caseSet p_callsOfCase p_partOfCase p_callsOfPart p_cases p_parts r_cases r_hours r_sets r_count u_lists u_breaths u_heard u_traced u_lastFault) H.size h) (va_cwS 1 hts gX5_chance_X5_isHalfOfShare rfl rfl rfl (by decide +kernel) ⟨Nat.le_of_ble_eq_true rfl, Nat.le_of_ble_eq_true rfl⟩) (xq_preS hK hP hD hN) rfl rfl hl.1 rfl (lv_room (Nat.le_of_ble_eq_true rfl)) dX5_chance_12 ⟨Nat.le_refl _, Nat.le_refl _⟩) hD hS hA (fun rr_2 uu H locs h hP hD hS => ?_)
    have hP : va_P (dC, dI) vwCl (wc_u cyI cyJ aa s_lanes s_sizes s_cells x_kinds x_digits x_causes x_effects x_things x_follows x_due t_kinds t_digits t_caseRow t_weights t_order t_calls t_things t_caseCount t_caseSet p_callsOfCase p_partOfCase p_callsOfPart p_cases p_parts r_cases r_hours r_sets r_count u_lists u_breaths u_heard u_traced u_lastFault) H := hP
    have hD : va_D A (wc_u cyI cyJ aa s_lanes s_sizes s_cells x_kinds x_digits x_causes x_effects x_things x_follows x_due t_kinds t_digits t_caseRow t_weights t_order t_calls t_things t_caseCount t_caseSet p_callsOfCase p_partOfCase p_callsOfPart p_cases p_parts r_cases r_hours r_sets r_count u_lists u_breaths u_heard u_traced u_lastFault) := hD
    refine lv_if_ne (tgt := 22) hx hb dX5_chance_15 (by decide) (fun hc_30 => ?_) (fun hc_30 => ?_)
    · have h := h.1 hc_30
      refine lv_lconst (v := (0 : Int64)) hx hb dX5_chance_22 (by decide) ?_
      refine lv_lstore_n (lv' := [(3, .long (0 : Int64)), (0, .ref (aa 0)), (1, .int a_1), (2, .int a_2)]) hx hb dX5_chance_23 rfl hl (by decide) rfl (fun ls hl => ?_)
      refine lv_lconst (v := (0 : Int64)) hx hb dX5_chance_24 (by decide) ?_
      refine lv_lstore (lv' := [(5, .long (0 : Int64)), (3, .long (0 : Int64)), (0, .ref (aa 0)), (1, .int a_1), (2, .int a_2)]) hx hb dX5_chance_25 hl (by decide) rfl (fun ls hl => ?_)
      refine lv_iconst (v := (0 : Int32)) hx hb dX5_chance_27 (by decide) ?_
      refine lv_istore (lv' := [(7, .int (0 : Int32)), (5, .long (0 : Int64)), (3, .long (0 : Int64)), (0, .ref (aa 0)), (1, .int a_1), (2, .int a_2)]) hx hb dX5_chance_28 hl (by decide) rfl (fun ls hl => ?_)
      obtain ⟨ni, h⟩ := h
      have lp_30 : ∀ (kk : Int64 → Int64 → Prop), (∀ (xx_16 : Int64) (xx_17 : Int64) (H : Heap) (locs : List Loc) (ls : Array Slot), va_P (dC, dI) vwCl (wc_u cyI cyJ aa s_lanes s_sizes s_cells x_kinds x_digits x_causes x_effects x_things x_follows x_due t_kinds t_digits t_caseRow t_weights t_order t_calls t_things t_caseCount t_caseSet p_callsOfCase p_partOfCase p_callsOfPart p_cases p_parts r_cases r_hours r_sets r_count u_lists u_breaths u_heard u_traced u_lastFault) H → va_D A (wc_u cyI cyJ aa s_lanes s_sizes s_cells x_kinds x_digits x_causes x_effects x_things x_follows x_due t_kinds t_digits t_caseRow t_weights t_order t_calls t_things t_caseCount t_caseSet p_callsOfCase p_partOfCase p_callsOfPart p_cases p_parts r_cases r_hours r_sets r_count u_lists u_breaths u_heard u_traced u_lastFault) → va_S A s.heap H locs → lv_has ls 9 [(2, .int a_2), (3, .long xx_16), (5, .long xx_17)] → kk xx_16 xx_17 → W p l e (xq_R 4 87) s m args below meth c H locs 0 0 Q (F0 m 112 ls [])) → ∀ (ni : Nat) (aa_13 : Int64) (aa_14 : Int64) (aa_15 : Int32) (H : Heap) (locs : List Loc) (ls : Array Slot), va_P (dC, dI) vwCl (wc_u cyI cyJ aa s_lanes s_sizes s_cells x_kinds x_digits x_causes x_effects x_things x_follows x_due t_kinds t_digits t_caseRow t_weights t_order t_calls t_things t_caseCount t_caseSet p_callsOfCase p_partOfCase p_callsOfPart p_cases p_parts r_cases r_hours r_sets r_count u_lists u_breaths u_heard u_traced u_lastFault) H → va_D A (wc_u cyI cyJ aa s_lanes s_sizes s_cells x_kinds x_digits x_causes x_effects x_things x_follows x_due t_kinds t_digits t_caseRow t_weights t_order t_calls t_things t_caseCount t_caseSet p_callsOfCase p_partOfCase p_callsOfPart p_cases p_parts r_cases r_hours r_sets r_count u_lists u_breaths u_heard u_traced u_lastFault) → va_S A s.heap H locs → lv_has ls 9 [(0, .ref (aa 0)), (1, .int a_1), (2, .int a_2), (3, .long aa_13), (5, .long aa_14), (7, .int aa_15)] → w_X5_chance_L30 a_1 a_2 t_caseRow t_weights t_calls t_things t_caseCount u_lists u_breaths u_heard post kk ni aa_13 aa_14 aa_15 → W p l e (xq_R 4 87) s m args below meth c H locs 0 0 Q (F0 m 30 ls []) := by
        intro kk kx ni
        induction ni with
        | zero => intros; exact False.elim (by assumption)
        | succ ni ih =>
          intro aa_13 aa_14 aa_15 H locs ls hP hD hS hl h
          rw [w_X5_chance_L30] at h
          refine lv_iload hx hb dX5_chance_30 (lv_at hl 5 rfl) ?_
          refine lv_aload_n hx hb dX5_chance_32 rfl (lv_at hl 0 rfl) ?_
          refine va_get (D := (dC, dI)) (ci := 5) (v := .ref (aa 10)) (C := RX5) (T := TX5) (N := 10) hx hb hts hi_X5 hown hK hP 0 rfl rfl 2 (by decide) fl_28 (fun _ h9 => h9) rfl dX5_chance_33 ?_
          refine va_get (D := (dC, dI)) (ci := 4) (v := .int t_caseCount) (C := RX4) (T := TX4) (N := 9) hx hb hts hi_X4 hown hK hP 10 rfl rfl 7 (by decide) fl_125 (fun _ h9 => h9) rfl dX5_chance_36 ?_
          refine lv_icmp_ge (tgt := 112) hx hb dX5_chance_39 (by decide) (fun hc_29 => ?_) (fun hc_29 => ?_)
          · have h := h.1 hc_29
            exact kx aa_13 aa_14 _ _ _ hP hD hS (lv_sub hl [2, 3, 4] rfl) h
          · have h := h.2 hc_29
            refine lv_aload_n hx hb dX5_chance_42 rfl (lv_at hl 0 rfl) ?_
            refine va_get (D := (dC, dI)) (ci := 5) (v := .ref (aa 10)) (C := RX5) (T := TX5) (N := 10) hx hb hts hi_X5 hown hK hP 0 rfl rfl 2 (by decide) fl_28 (fun _ h9 => h9) rfl dX5_chance_43 ?_
            refine va_get (D := (dC, dI)) (ci := 4) (v := .ref (aa 13)) (C := RX4) (T := TX4) (N := 9) hx hb hts hi_X4 hown hK hP 10 rfl rfl 2 (by decide) fl_128 (fun _ h9 => h9) rfl dX5_chance_46 ?_
            refine lv_iload hx hb dX5_chance_49 (lv_at hl 5 rfl) ?_
            obtain ⟨hv_20, h⟩ := h
            refine va_iald hx hb hK hP 13 0 rfl rfl hv_20 dX5_chance_51 ?_
            refine lv_istore (lv' := [(8, .int (t_caseRow aa_15.toNatClampNeg)), (0, .ref (aa 0)), (1, .int a_1), (2, .int a_2), (3, .long aa_13), (5, .long aa_14), (7, .int aa_15)]) hx hb dX5_chance_52 hl (by decide) rfl (fun ls hl => ?_)
            refine lv_aload_n hx hb dX5_chance_54 rfl (lv_at hl 1 rfl) ?_
            refine lv_iload hx hb dX5_chance_55 (lv_at hl 0 rfl) ?_
            refine xq_ci (va_runV (As := [.int (t_caseRow aa_15.toNatClampNeg)]) (rest := []) ⟨hx, hb, hml, hown, hts⟩ (m_X5_isThought l dC dI cyI cyJ aa H.size h) (cwV 1 hts gX5_chance_X5_isThought rfl rfl rfl (by decide +kernel) ⟨Nat.le_of_ble_eq_true rfl, Nat.le_of_ble_eq_true rfl⟩) (xq_preV hK hP hD hN (ci := 5) (q0 := 0) rfl rfl) rfl rfl hl.1 rfl (lv_room (Nat.le_of_ble_eq_true rfl)) dX5_chance_57 ⟨Nat.le_refl _, Nat.le_refl _⟩) hD hS hA (fun rr_21 uu H locs h hP hD hS => ?_)
            have hP : va_P (dC, dI) vwCl (wc_u cyI cyJ aa s_lanes s_sizes s_cells x_kinds x_digits x_causes x_effects x_things x_follows x_due t_kinds t_digits t_caseRow t_weights t_order t_calls t_things t_caseCount t_caseSet p_callsOfCase p_partOfCase p_callsOfPart p_cases p_parts r_cases r_hours r_sets r_count u_lists u_breaths u_heard u_traced u_lastFault) H := hP
            have hD : va_D A (wc_u cyI cyJ aa s_lanes s_sizes s_cells x_kinds x_digits x_causes x_effects x_things x_follows x_due t_kinds t_digits t_caseRow t_weights t_order t_calls t_things t_caseCount t_caseSet p_callsOfCase p_partOfCase p_callsOfPart p_cases p_parts r_cases r_hours r_sets r_count u_lists u_breaths u_heard u_traced u_lastFault) := hD
            refine lv_if_eq (tgt := 106) hx hb dX5_chance_60 (by decide) (fun hc_27 => ?_) (fun hc_27 => ?_)
            · have h := h.1 hc_27
              refine lv_iinc (v := (aa_15 + (1 : Int32))) (lv' := [(7, .int (aa_15 + (1 : Int32))), (8, .int (t_caseRow aa_15.toNatClampNeg)), (0, .ref (aa 0)), (1, .int a_1), (2, .int a_2), (3, .long aa_13), (5, .long aa_14)]) hx hb dX5_chance_106 hl (k := 6) rfl rfl (by decide) rfl (fun ls hl => ?_)
              refine lv_goto (tgt := 30) hx hb dX5_chance_109 (by decide) ?_
              exact ih aa_13 aa_14 (aa_15 + (1 : Int32)) _ _ _ hP hD hS (lv_sub hl [2, 3, 4, 5, 6, 0] rfl) h
            · have h := h.2 hc_27
              refine lv_lload hx hb dX5_chance_63 (lv_at hl 5 rfl) ?_
              refine lv_aload_n hx hb dX5_chance_65 rfl (lv_at hl 1 rfl) ?_
              refine va_get (D := (dC, dI)) (ci := 5) (v := .ref (aa 10)) (C := RX5) (T := TX5) (N := 10) hx hb hts hi_X5 hown hK hP 0 rfl rfl 2 (by decide) fl_28 (fun _ h9 => h9) rfl dX5_chance_66 ?_
              refine va_get (D := (dC, dI)) (ci := 4) (v := .ref (aa 14)) (C := RX4) (T := TX4) (N := 9) hx hb hts hi_X4 hown hK hP 10 rfl rfl 3 (by decide) fl_105 (fun _ h9 => h9) rfl dX5_chance_69 ?_
              refine lv_iload hx hb dX5_chance_72 (lv_at hl 0 rfl) ?_
              obtain ⟨hv_22, h⟩ := h
              refine va_iald hx hb hK hP 14 0 rfl rfl hv_22 dX5_chance_74 ?_
              refine lv_i2l (v := (Int32.toInt64 (t_weights (t_caseRow aa_15.toNatClampNeg).toNatClampNeg))) hx hb dX5_chance_75 rfl ?_
              refine lv_ladd hx hb dX5_chance_76 ?_
              refine lv_lstore (lv' := [(5, .long (aa_14 + (Int32.toInt64 (t_weights (t_caseRow aa_15.toNatClampNeg).toNatClampNeg)))), (8, .int (t_caseRow aa_15.toNatClampNeg)), (0, .ref (aa 0)), (1, .int a_1), (2, .int a_2), (3, .long aa_13), (7, .int aa_15)]) hx hb dX5_chance_77 hl (by decide) rfl (fun ls hl => ?_)
              refine lv_lload_n hx hb dX5_chance_79 rfl (lv_at hl 5 rfl) ?_
              refine lv_iload hx hb dX5_chance_80 (lv_at hl 1 rfl) ?_
              refine lv_iload_n hx hb dX5_chance_82 rfl (lv_at hl 3 rfl) ?_
              refine xq_ci (va_runS (As := [.int (t_caseRow aa_15.toNatClampNeg), .int a_1]) (rest := [.long aa_13]) ⟨hx, hb, hml, hown, hts⟩ (m_X5_has l dC dI cyI cyJ (wc_u cyI cyJ aa s_lanes s_sizes s_cells x_kinds x_digits x_causes x_effects x_things x_follows x_due t_kinds t_digits t_caseRow t_weights t_order t_calls t_things t_caseCount t_caseSet p_callsOfCase p_partOfCase p_callsOfPart p_cases p_parts r_cases r_hours r_sets r_count u_lists u_breaths u_heard u_traced u_lastFault) H.size h) (va_cwS 2 hts gX5_chance_X5_has rfl rfl rfl (by decide +kernel) ⟨Nat.le_of_ble_eq_true rfl, Nat.le_of_ble_eq_true rfl⟩) (xq_preS hK hP hD hN) rfl rfl hl.1 rfl (lv_room (Nat.le_of_ble_eq_true rfl)) dX5_chance_83 ⟨Nat.le_refl _, Nat.le_refl _⟩) hD hS hA (fun rr_23 uu H locs h hP hD hS => ?_)
              have hP : va_P (dC, dI) vwCl (wc_u cyI cyJ aa s_lanes s_sizes s_cells x_kinds x_digits x_causes x_effects x_things x_follows x_due t_kinds t_digits t_caseRow t_weights t_order t_calls t_things t_caseCount t_caseSet p_callsOfCase p_partOfCase p_callsOfPart p_cases p_parts r_cases r_hours r_sets r_count u_lists u_breaths u_heard u_traced u_lastFault) H := hP
              have hD : va_D A (wc_u cyI cyJ aa s_lanes s_sizes s_cells x_kinds x_digits x_causes x_effects x_things x_follows x_due t_kinds t_digits t_caseRow t_weights t_order t_calls t_things t_caseCount t_caseSet p_callsOfCase p_partOfCase p_callsOfPart p_cases p_parts r_cases r_hours r_sets r_count u_lists u_breaths u_heard u_traced u_lastFault) := hD
              refine lv_if_eq (tgt := 103) hx hb dX5_chance_86 (by decide) (fun hc_25 => ?_) (fun hc_25 => ?_)
              · have h := h.1 hc_25
                refine lv_lconst (v := (0 : Int64)) hx hb dX5_chance_103 (by decide) ?_
                refine lv_ladd hx hb dX5_chance_104 ?_
                refine lv_lstore_n (lv' := [(3, .long (aa_13 + (0 : Int64))), (5, .long (aa_14 + (Int32.toInt64 (t_weights (t_caseRow aa_15.toNatClampNeg).toNatClampNeg)))), (8, .int (t_caseRow aa_15.toNatClampNeg)), (0, .ref (aa 0)), (1, .int a_1), (2, .int a_2), (7, .int aa_15)]) hx hb dX5_chance_105 rfl hl (by decide) rfl (fun ls hl => ?_)
                refine lv_iinc (v := (aa_15 + (1 : Int32))) (lv' := [(7, .int (aa_15 + (1 : Int32))), (3, .long (aa_13 + (0 : Int64))), (5, .long (aa_14 + (Int32.toInt64 (t_weights (t_caseRow aa_15.toNatClampNeg).toNatClampNeg)))), (8, .int (t_caseRow aa_15.toNatClampNeg)), (0, .ref (aa 0)), (1, .int a_1), (2, .int a_2)]) hx hb dX5_chance_106 hl (k := 6) rfl rfl (by decide) rfl (fun ls hl => ?_)
                refine lv_goto (tgt := 30) hx hb dX5_chance_109 (by decide) ?_
                exact ih (aa_13 + (0 : Int64)) (aa_14 + (Int32.toInt64 (t_weights (t_caseRow aa_15.toNatClampNeg).toNatClampNeg))) (aa_15 + (1 : Int32)) _ _ _ hP hD hS (lv_sub hl [4, 5, 6, 1, 2, 0] rfl) h
              · have h := h.2 hc_25
                refine lv_aload_n hx hb dX5_chance_89 rfl (lv_at hl 2 rfl) ?_
                refine va_get (D := (dC, dI)) (ci := 5) (v := .ref (aa 10)) (C := RX5) (T := TX5) (N := 10) hx hb hts hi_X5 hown hK hP 0 rfl rfl 2 (by decide) fl_28 (fun _ h9 => h9) rfl dX5_chance_90 ?_
                refine va_get (D := (dC, dI)) (ci := 4) (v := .ref (aa 14)) (C := RX4) (T := TX4) (N := 9) hx hb hts hi_X4 hown hK hP 10 rfl rfl 3 (by decide) fl_105 (fun _ h9 => h9) rfl dX5_chance_93 ?_
                refine lv_iload hx hb dX5_chance_96 (lv_at hl 1 rfl) ?_
                obtain ⟨hv_24, h⟩ := h
                refine va_iald hx hb hK hP 14 0 rfl rfl hv_24 dX5_chance_98 ?_
                refine lv_i2l (v := (Int32.toInt64 (t_weights (t_caseRow aa_15.toNatClampNeg).toNatClampNeg))) hx hb dX5_chance_99 rfl ?_
                refine lv_goto (tgt := 104) hx hb dX5_chance_100 (by decide) ?_
                refine lv_ladd hx hb dX5_chance_104 ?_
                refine lv_lstore_n (lv' := [(3, .long (aa_13 + (Int32.toInt64 (t_weights (t_caseRow aa_15.toNatClampNeg).toNatClampNeg)))), (5, .long (aa_14 + (Int32.toInt64 (t_weights (t_caseRow aa_15.toNatClampNeg).toNatClampNeg)))), (8, .int (t_caseRow aa_15.toNatClampNeg)), (0, .ref (aa 0)), (1, .int a_1), (2, .int a_2), (7, .int aa_15)]) hx hb dX5_chance_105 rfl hl (by decide) rfl (fun ls hl => ?_)
                refine lv_iinc (v := (aa_15 + (1 : Int32))) (lv' := [(7, .int (aa_15 + (1 : Int32))), (3, .long (aa_13 + (Int32.toInt64 (t_weights (t_caseRow aa_15.toNatClampNeg).toNatClampNeg)))), (5, .long (aa_14 + (Int32.toInt64 (t_weights (t_caseRow aa_15.toNatClampNeg).toNatClampNeg)))), (8, .int (t_caseRow aa_15.toNatClampNeg)), (0, .ref (aa 0)), (1, .int a_1), (2, .int a_2)]) hx hb dX5_chance_106 hl (k := 6) rfl rfl (by decide) rfl (fun ls hl => ?_)
                refine lv_goto (tgt := 30) hx hb dX5_chance_109 (by decide) ?_
                exact ih (aa_13 + (Int32.toInt64 (t_weights (t_caseRow aa_15.toNatClampNeg).toNatClampNeg))) (aa_14 + (Int32.toInt64 (t_weights (t_caseRow aa_15.toNatClampNeg).toNatClampNeg))) (aa_15 + (1 : Int32)) _ _ _ hP hD hS (lv_sub hl [4, 5, 6, 1, 2, 0] rfl) h
      refine lp_30 _ (fun xx_16 xx_17 H locs ls hP hD hS hl h => ?_) ni (0 : Int64) (0 : Int64) (0 : Int32) _ _ _ hP hD hS (lv_sub hl [3, 4, 5, 2, 1, 0] rfl) h
      refine lv_lload_n hx hb dX5_chance_112 rfl (lv_at hl 1 rfl) ?_
      refine lv_lload hx hb dX5_chance_113 (lv_at hl 2 rfl) ?_
      refine lv_iload_n hx hb dX5_chance_115 rfl (lv_at hl 0 rfl) ?_
      refine xq_cl (va_runS (As := [.long xx_16, .long xx_17, .int a_2]) (rest := []) ⟨hx, hb, hml, hown, hts⟩ (m_X5_halfOfShare l dC dI cyI cyJ (wc_u cyI cyJ aa s_lanes s_sizes s_cells x_kinds x_digits x_causes x_effects x_things x_follows x_due t_kinds t_digits t_caseRow t_weights t_order t_calls t_things t_caseCount t_caseSet p_callsOfCase p_partOfCase p_callsOfPart p_cases p_parts r_cases r_hours r_sets r_count u_lists u_breaths u_heard u_traced u_lastFault) H.size h) (va_cwS 3 hts gX5_chance_X5_halfOfShare rfl rfl rfl (by decide +kernel) ⟨Nat.le_of_ble_eq_true rfl, Nat.le_of_ble_eq_true rfl⟩) (xq_preS hK hP hD hN) rfl rfl hl.1 rfl (lv_room (Nat.le_of_ble_eq_true rfl)) dX5_chance_116 ⟨Nat.le_refl _, Nat.le_refl _⟩) hD hS hA (fun rr_18 uu H locs h hP hD hS => ?_)
      have hP : va_P (dC, dI) vwCl (wc_u cyI cyJ aa s_lanes s_sizes s_cells x_kinds x_digits x_causes x_effects x_things x_follows x_due t_kinds t_digits t_caseRow t_weights t_order t_calls t_things t_caseCount t_caseSet p_callsOfCase p_partOfCase p_callsOfPart p_cases p_parts r_cases r_hours r_sets r_count u_lists u_breaths u_heard u_traced u_lastFault) H := hP
      have hD : va_D A (wc_u cyI cyJ aa s_lanes s_sizes s_cells x_kinds x_digits x_causes x_effects x_things x_follows x_due t_kinds t_digits t_caseRow t_weights t_order t_calls t_things t_caseCount t_caseSet p_callsOfCase p_partOfCase p_callsOfPart p_cases p_parts r_cases r_hours r_sets r_count u_lists u_breaths u_heard u_traced u_lastFault) := hD
      exact xq_rl hQ hx hb hr hP hK hD hS () rfl h dX5_chance_119 hlocks
    · have h := h.2 hc_30
      refine lv_ldc2 (v := (-9223372036854775808 : Int64)) hx hb hown (hts (.constantLong RX5 141 (-9223372036854775808)) (by decide +kernel)) dX5_chance_18 ?_
      exact xq_rl hQ hx hb hr hP hK hD hS () rfl h dX5_chance_21 hlocks
def w_X5_copy (s_lanes : Nat → Int32) (s_sizes : Nat → Int32) (s_cells : Nat → Int32) (u_lastFault : Int32) (a_1 : Int32) (a_2 : Int32) (a_3 : Int32) (a_4 : Int32) (a_5 : Int32) (post : Int32 → (Nat → Int32) → Int32 → Prop) : Prop := w_X2_isSheet a_1 (fun (rr_1 : Int32) => (rr_1 = 0 → (post (-1 : Int32) s_cells (0 : Int32))) ∧ (¬ rr_1 = 0 → (w_X2_isSheet a_3 (fun (rr_2 : Int32) => (¬ rr_2 = 0 → (w_X2_hasRow s_lanes a_1 (fun (rr_3 : Int32) => xq_j0 (fun (kj_4 : Prop) => (rr_3 = 0 → (kj_4)) ∧ (¬ rr_3 = 0 → (w_X2_hasRow s_lanes a_3 (fun (rr_5 : Int32) => (¬ rr_5 = 0 → ((vp_in a_1 4) ∧ ((vp_in a_3 4) ∧ (((s_lanes a_1.toNatClampNeg) = (s_lanes a_3.toNatClampNeg) → (w_X2_hasCells s_sizes a_1 a_2 a_5 (fun (rr_8 : Int32) => xq_j0 (fun (kj_9 : Prop) => (rr_8 = 0 → (kj_9)) ∧ (¬ rr_8 = 0 → (w_X2_hasCells s_sizes a_3 a_4 a_5 (fun (rr_10 : Int32) => (¬ rr_10 = 0 → (w_X2_move s_cells a_1 a_2 a_3 a_4 a_5 (fun (cc_11 : Nat → Int32) => post a_5 cc_11 (0 : Int32)))) ∧ (rr_10 = 0 → (kj_9)))))) (w_X5_faulted (0 : Int32) (3 : Int32) (fun (rr_16 : Int32) (cc_17 : Int32) => post rr_16 s_cells cc_17))))) ∧ (¬ (s_lanes a_1.toNatClampNeg) = (s_lanes a_3.toNatClampNeg) → (w_X5_faulted (0 : Int32) (2 : Int32) (fun (rr_20 : Int32) (cc_21 : Int32) => post rr_20 s_cells cc_21))))))) ∧ (rr_5 = 0 → (kj_4)))))) (w_X5_faulted (0 : Int32) (1 : Int32) (fun (rr_27 : Int32) (cc_28 : Int32) => post rr_27 s_cells cc_28))))) ∧ (rr_2 = 0 → (post (-1 : Int32) s_cells (0 : Int32)))))))
set_option maxHeartbeats 4000000 in
set_option maxRecDepth 100000 in
theorem m_X5_copy (l : Launch) (dC : Nat → ClassId) (dI : Nat → Nat → Nat) (cyI cyJ : ClassId) (aa : Nat → Nat) (sz : Nat) {s_lanes : Nat → Int32} {s_sizes : Nat → Int32} {s_cells : Nat → Int32} {x_kinds : Nat → Int32} {x_digits : Nat → Int32} {x_causes : Nat → Int32} {x_effects : Nat → Int32} {x_things : Int32} {x_follows : Int32} {x_due : Int32} {t_kinds : Nat → Int32} {t_digits : Nat → Int32} {t_caseRow : Nat → Int32} {t_weights : Nat → Int32} {t_order : Nat → Int32} {t_calls : Nat → Int32} {t_things : Int32} {t_caseCount : Int32} {t_caseSet : Int64} {p_callsOfCase : Nat → Int64} {p_partOfCase : Nat → Int32} {p_callsOfPart : Nat → Int64} {p_cases : Int32} {p_parts : Int32} {r_cases : Nat → Int32} {r_hours : Nat → Int32} {r_sets : Nat → Int32} {r_count : Int32} {u_lists : Nat → Int32} {u_breaths : Nat → Int32} {u_heard : Nat → Int32} {u_traced : Int32} {u_lastFault : Int32} {a_1 : Int32} {a_2 : Int32} {a_3 : Int32} {a_4 : Int32} {a_5 : Int32} {post : Int32 → (Nat → Int32) → Int32 → Prop} (h : w_X5_copy s_lanes s_sizes s_cells u_lastFault a_1 a_2 a_3 a_4 a_5 post) : Met l yX5_copy wsX5_copy (xq_R 2 73) (va_Pc [.ref (aa 0), .int a_1, .int a_2, .int a_3, .int a_4, .int a_5] (xq_P (dC, dI) [(cyI, .int), (cyJ, .long)] (wc_u cyI cyJ aa s_lanes s_sizes s_cells x_kinds x_digits x_causes x_effects x_things x_follows x_due t_kinds t_digits t_caseRow t_weights t_order t_calls t_things t_caseCount t_caseSet p_callsOfCase p_partOfCase p_callsOfPart p_cases p_parts r_cases r_hours r_sets r_count u_lists u_breaths u_heard u_traced u_lastFault) sz)) (va_Qi (fun (rr : Int32) (uu : (Nat → Int32) × Int32) => post rr uu.1 uu.2) (fun (uu : (Nat → Int32) × Int32) => xq_B (dC, dI) [(cyI, .int), (cyJ, .long)] (va_A (wc_u cyI cyJ aa s_lanes s_sizes s_cells x_kinds x_digits x_causes x_effects x_things x_follows x_due t_kinds t_digits t_caseRow t_weights t_order t_calls t_things t_caseCount t_caseSet p_callsOfCase p_partOfCase p_callsOfPart p_cases p_parts r_cases r_hours r_sets r_count u_lists u_breaths u_heard u_traced u_lastFault) sz) (wc_u cyI cyJ aa s_lanes s_sizes uu.1 x_kinds x_digits x_causes x_effects x_things x_follows x_due t_kinds t_digits t_caseRow t_weights t_order t_calls t_things t_caseCount t_caseSet p_callsOfCase p_partOfCase p_callsOfPart p_cases p_parts r_cases r_hours r_sets r_count u_lists u_breaths u_heard u_traced uu.2)) (va_A (wc_u cyI cyJ aa s_lanes s_sizes s_cells x_kinds x_digits x_causes x_effects x_things x_follows x_due t_kinds t_digits t_caseRow t_weights t_order t_calls t_things t_caseCount t_caseSet p_callsOfCase p_partOfCase p_callsOfPart p_cases p_parts r_cases r_hours r_sets r_count u_lists u_breaths u_heard u_traced u_lastFault) sz)) 0 0 (va_A (wc_u cyI cyJ aa s_lanes s_sizes s_cells x_kinds x_digits x_causes x_effects x_things x_follows x_due t_kinds t_digits t_caseRow t_weights t_order t_calls t_things t_caseCount t_caseSet p_callsOfCase p_partOfCase p_callsOfPart p_cases p_parts r_cases r_hours r_sets r_count u_lists u_breaths u_heard u_traced u_lastFault) sz) := by
  refine xq_M (cc := cX5_copy) (maxL := 6) (ret := (some .int)) (QA := fun A => va_Qi (fun (rr : Int32) (uu : (Nat → Int32) × Int32) => post rr uu.1 uu.2) (fun (uu : (Nat → Int32) × Int32) => xq_B (dC, dI) [(cyI, .int), (cyJ, .long)] A (wc_u cyI cyJ aa s_lanes s_sizes uu.1 x_kinds x_digits x_causes x_effects x_things x_follows x_due t_kinds t_digits t_caseRow t_weights t_order t_calls t_things t_caseCount t_caseSet p_callsOfCase p_partOfCase p_callsOfPart p_cases p_parts r_cases r_hours r_sets r_count u_lists u_breaths u_heard u_traced uu.2)) A) (by decide) rfl (Nat.le_of_ble_eq_true rfl) ?_
  intro p e s m args below meth c A ls Q hQ hx hb hr hml hts hown hlocks hsz hP hK hD hA hS hN hl
  subst hsz
  have hl : lv_has ls 6 [(0, .ref (aa 0)), (1, .int a_1), (2, .int a_2), (3, .int a_3), (4, .int a_4), (5, .int a_5)] := hl
  have hi_X2 : ∀ w ∈ wsX20, w ∈ wsX5_copy := fun _ h => List.mem_cons_of_mem _ (List.mem_append_right _ h)
  have hi_X5 : ∀ w ∈ wsX50, w ∈ wsX5_copy := fun _ h => List.mem_cons_of_mem _ (List.mem_append_left _ (List.mem_append_right _ h))
  have fl_12 := hts (.fieldLink RX5 12 "UnsaidCalls" "sheets" "LUnsaidCalls$Sheets;") (by decide +kernel)
  have fl_60 := hts (.fieldLink RX5 60 "UnsaidCalls" "lastFault" "I") (by decide +kernel)
  have fl_234 := hts (.fieldLink RX5 234 "UnsaidCalls$Sheets" "lanes" "[I") (by decide +kernel)
  unfold w_X5_copy at h
  refine lv_aload_n hx hb dX5_copy_0 rfl (lv_at hl 0 rfl) ?_
  refine lv_iconst (v := (0 : Int32)) hx hb dX5_copy_1 (by decide) ?_
  refine va_put (D := (dC, dI)) (ci := 5) (v := .int (0 : Int32)) (ty := .int) (C := RX5) (T := TX5) (N := 10) hx hb hts hi_X5 tyX5 tyX5_ok nmX5 hown hK hP hD hS 0 rfl rfl 9 (by decide) fl_60 (fun _ h9 => h9) rfl (by decide +kernel) rfl rfl (Nat.le_of_ble_eq_true rfl) dX5_copy_2 (fun H locs hP hD hS => ?_)
  have hP : va_P (dC, dI) vwCl (wc_u cyI cyJ aa s_lanes s_sizes s_cells x_kinds x_digits x_causes x_effects x_things x_follows x_due t_kinds t_digits t_caseRow t_weights t_order t_calls t_things t_caseCount t_caseSet p_callsOfCase p_partOfCase p_callsOfPart p_cases p_parts r_cases r_hours r_sets r_count u_lists u_breaths u_heard u_traced (0 : Int32)) H := hP
  have hD : va_D A (wc_u cyI cyJ aa s_lanes s_sizes s_cells x_kinds x_digits x_causes x_effects x_things x_follows x_due t_kinds t_digits t_caseRow t_weights t_order t_calls t_things t_caseCount t_caseSet p_callsOfCase p_partOfCase p_callsOfPart p_cases p_parts r_cases r_hours r_sets r_count u_lists u_breaths u_heard u_traced (0 : Int32)) := hD
  refine lv_aload_n hx hb dX5_copy_5 rfl (lv_at hl 0 rfl) ?_
  refine va_get (D := (dC, dI)) (ci := 5) (v := .ref (aa 1)) (C := RX5) (T := TX5) (N := 10) hx hb hts hi_X5 hown hK hP 0 rfl rfl 0 (by decide) fl_12 (fun _ h9 => h9) rfl dX5_copy_6 ?_
  refine lv_iload_n hx hb dX5_copy_9 rfl (lv_at hl 1 rfl) ?_
  refine xq_ci (va_runV (As := [.int a_1]) (rest := []) ⟨hx, hb, hml, hown, hts⟩ (m_X2_isSheet l dC dI cyI cyJ aa H.size h) (cwV 1 hts gX5_copy_X2_isSheet rfl rfl rfl (by decide +kernel) ⟨Nat.le_of_ble_eq_true rfl, Nat.le_of_ble_eq_true rfl⟩) (xq_preV hK hP hD hN (ci := 2) (q0 := 1) rfl rfl) rfl rfl hl.1 rfl (lv_room (Nat.le_of_ble_eq_true rfl)) dX5_copy_10 ⟨Nat.le_refl _, Nat.le_refl _⟩) hD hS hA (fun rr_1 uu H locs h hP hD hS => ?_)
  have hP : va_P (dC, dI) vwCl (wc_u cyI cyJ aa s_lanes s_sizes s_cells x_kinds x_digits x_causes x_effects x_things x_follows x_due t_kinds t_digits t_caseRow t_weights t_order t_calls t_things t_caseCount t_caseSet p_callsOfCase p_partOfCase p_callsOfPart p_cases p_parts r_cases r_hours r_sets r_count u_lists u_breaths u_heard u_traced (0 : Int32)) H := hP
  have hD : va_D A (wc_u cyI cyJ aa s_lanes s_sizes s_cells x_kinds x_digits x_causes x_effects x_things x_follows x_due t_kinds t_digits t_caseRow t_weights t_order t_calls t_things t_caseCount t_caseSet p_callsOfCase p_partOfCase p_callsOfPart p_cases p_parts r_cases r_hours r_sets r_count u_lists u_breaths u_heard u_traced (0 : Int32)) := hD
  refine lv_if_eq (tgt := 27) hx hb dX5_copy_13 (by decide) (fun hc_33 => ?_) (fun hc_33 => ?_)
  · have h := h.1 hc_33
    refine lv_iconst (v := (-1 : Int32)) hx hb dX5_copy_27 (by decide) ?_
    exact xq_ri hQ hx hb hr hP hK hD hS (s_cells, (0 : Int32)) rfl h dX5_copy_28 hlocks
  · have h := h.2 hc_33
    refine lv_aload_n hx hb dX5_copy_16 rfl (lv_at hl 0 rfl) ?_
    refine va_get (D := (dC, dI)) (ci := 5) (v := .ref (aa 1)) (C := RX5) (T := TX5) (N := 10) hx hb hts hi_X5 hown hK hP 0 rfl rfl 0 (by decide) fl_12 (fun _ h9 => h9) rfl dX5_copy_17 ?_
    refine lv_iload_n hx hb dX5_copy_20 rfl (lv_at hl 3 rfl) ?_
    refine xq_ci (va_runV (As := [.int a_3]) (rest := []) ⟨hx, hb, hml, hown, hts⟩ (m_X2_isSheet l dC dI cyI cyJ aa H.size h) (cwV 1 hts gX5_copy_X2_isSheet rfl rfl rfl (by decide +kernel) ⟨Nat.le_of_ble_eq_true rfl, Nat.le_of_ble_eq_true rfl⟩) (xq_preV hK hP hD hN (ci := 2) (q0 := 1) rfl rfl) rfl rfl hl.1 rfl (lv_room (Nat.le_of_ble_eq_true rfl)) dX5_copy_21 ⟨Nat.le_refl _, Nat.le_refl _⟩) hD hS hA (fun rr_2 uu H locs h hP hD hS => ?_)
    have hP : va_P (dC, dI) vwCl (wc_u cyI cyJ aa s_lanes s_sizes s_cells x_kinds x_digits x_causes x_effects x_things x_follows x_due t_kinds t_digits t_caseRow t_weights t_order t_calls t_things t_caseCount t_caseSet p_callsOfCase p_partOfCase p_callsOfPart p_cases p_parts r_cases r_hours r_sets r_count u_lists u_breaths u_heard u_traced (0 : Int32)) H := hP
    have hD : va_D A (wc_u cyI cyJ aa s_lanes s_sizes s_cells x_kinds x_digits x_causes x_effects x_things x_follows x_due t_kinds t_digits t_caseRow t_weights t_order t_calls t_things t_caseCount t_caseSet p_callsOfCase p_partOfCase p_callsOfPart p_cases p_parts r_cases r_hours r_sets r_count u_lists u_breaths u_heard u_traced (0 : Int32)) := hD
    refine lv_if_ne (tgt := 29) hx hb dX5_copy_24 (by decide) (fun hc_31 => ?_) (fun hc_31 => ?_)
    · have h := h.1 hc_31
      refine lv_aload_n hx hb dX5_copy_29 rfl (lv_at hl 0 rfl) ?_
      refine va_get (D := (dC, dI)) (ci := 5) (v := .ref (aa 1)) (C := RX5) (T := TX5) (N := 10) hx hb hts hi_X5 hown hK hP 0 rfl rfl 0 (by decide) fl_12 (fun _ h9 => h9) rfl dX5_copy_30 ?_
      refine lv_iload_n hx hb dX5_copy_33 rfl (lv_at hl 1 rfl) ?_
      refine xq_ci (va_runV (As := [.int a_1]) (rest := []) ⟨hx, hb, hml, hown, hts⟩ (m_X2_hasRow l dC dI cyI cyJ aa H.size h) (cwV 1 hts gX5_copy_X2_hasRow rfl rfl rfl (by decide +kernel) ⟨Nat.le_of_ble_eq_true rfl, Nat.le_of_ble_eq_true rfl⟩) (xq_preV hK hP hD hN (ci := 2) (q0 := 1) rfl rfl) rfl rfl hl.1 rfl (lv_room (Nat.le_of_ble_eq_true rfl)) dX5_copy_34 ⟨Nat.le_refl _, Nat.le_refl _⟩) hD hS hA (fun rr_3 uu H locs h hP hD hS => ?_)
      have hP : va_P (dC, dI) vwCl (wc_u cyI cyJ aa s_lanes s_sizes s_cells x_kinds x_digits x_causes x_effects x_things x_follows x_due t_kinds t_digits t_caseRow t_weights t_order t_calls t_things t_caseCount t_caseSet p_callsOfCase p_partOfCase p_callsOfPart p_cases p_parts r_cases r_hours r_sets r_count u_lists u_breaths u_heard u_traced (0 : Int32)) H := hP
      have hD : va_D A (wc_u cyI cyJ aa s_lanes s_sizes s_cells x_kinds x_digits x_causes x_effects x_things x_follows x_due t_kinds t_digits t_caseRow t_weights t_order t_calls t_things t_caseCount t_caseSet p_callsOfCase p_partOfCase p_callsOfPart p_cases p_parts r_cases r_hours r_sets r_count u_lists u_breaths u_heard u_traced (0 : Int32)) := hD
      refine xq_j0_go (X := ∀ (H : Heap) (locs : List Loc) (ls : Array Slot), va_P (dC, dI) vwCl (wc_u cyI cyJ aa s_lanes s_sizes s_cells x_kinds x_digits x_causes x_effects x_things x_follows x_due t_kinds t_digits t_caseRow t_weights t_order t_calls t_things t_caseCount t_caseSet p_callsOfCase p_partOfCase p_callsOfPart p_cases p_parts r_cases r_hours r_sets r_count u_lists u_breaths u_heard u_traced (0 : Int32)) H → va_D A (wc_u cyI cyJ aa s_lanes s_sizes s_cells x_kinds x_digits x_causes x_effects x_things x_follows x_due t_kinds t_digits t_caseRow t_weights t_order t_calls t_things t_caseCount t_caseSet p_callsOfCase p_partOfCase p_callsOfPart p_cases p_parts r_cases r_hours r_sets r_count u_lists u_breaths u_heard u_traced (0 : Int32)) → va_S A s.heap H locs → lv_has ls 6 [(0, .ref (aa 0))] → W p l e (xq_R 2 73) s m args below meth c H locs 0 0 Q (F0 m 51 ls [])) h (fun  h H locs ls hP hD hS hl => ?_) (fun kj_4 h => ?_)
      · refine lv_aload_n hx hb dX5_copy_51 rfl (lv_at hl 0 rfl) ?_
        refine lv_iconst (v := (1 : Int32)) hx hb dX5_copy_52 (by decide) ?_
        refine xq_ci (va_runV (As := [.int (1 : Int32)]) (rest := []) ⟨hx, hb, hml, hown, hts⟩ (m_X5_faulted l dC dI cyI cyJ aa H.size h) (cwV 1 hts gX5_copy_X5_faulted rfl rfl rfl (by decide +kernel) ⟨Nat.le_of_ble_eq_true rfl, Nat.le_of_ble_eq_true rfl⟩) (xq_preV hK hP hD hN (ci := 5) (q0 := 0) rfl rfl) rfl rfl hl.1 rfl (lv_room (Nat.le_of_ble_eq_true rfl)) dX5_copy_53 ⟨Nat.le_refl _, Nat.le_refl _⟩) hD hS hA (fun rr_27 uu H locs h hP hD hS => ?_)
        obtain ⟨cc_28, rfl⟩ : ∃ z, z = uu := ⟨_, rfl⟩
        have hP : va_P (dC, dI) vwCl (wc_u cyI cyJ aa s_lanes s_sizes s_cells x_kinds x_digits x_causes x_effects x_things x_follows x_due t_kinds t_digits t_caseRow t_weights t_order t_calls t_things t_caseCount t_caseSet p_callsOfCase p_partOfCase p_callsOfPart p_cases p_parts r_cases r_hours r_sets r_count u_lists u_breaths u_heard u_traced cc_28) H := hP
        have hD : va_D A (wc_u cyI cyJ aa s_lanes s_sizes s_cells x_kinds x_digits x_causes x_effects x_things x_follows x_due t_kinds t_digits t_caseRow t_weights t_order t_calls t_things t_caseCount t_caseSet p_callsOfCase p_partOfCase p_callsOfPart p_cases p_parts r_cases r_hours r_sets r_count u_lists u_breaths u_heard u_traced cc_28) := hD
        exact xq_ri hQ hx hb hr hP hK hD hS (s_cells, cc_28) rfl h dX5_copy_56 hlocks
      · refine lv_if_eq (tgt := 51) hx hb dX5_copy_37 (by decide) (fun hc_26 => ?_) (fun hc_26 => ?_)
        · have h := h.1 hc_26
          exact kj_4 h _ _ _ hP hD hS (lv_sub hl [0] rfl)
        · have h := h.2 hc_26
          refine lv_aload_n hx hb dX5_copy_40 rfl (lv_at hl 0 rfl) ?_
          refine va_get (D := (dC, dI)) (ci := 5) (v := .ref (aa 1)) (C := RX5) (T := TX5) (N := 10) hx hb hts hi_X5 hown hK hP 0 rfl rfl 0 (by decide) fl_12 (fun _ h9 => h9) rfl dX5_copy_41 ?_
          refine lv_iload_n hx hb dX5_copy_44 rfl (lv_at hl 3 rfl) ?_
          refine xq_ci (va_runV (As := [.int a_3]) (rest := []) ⟨hx, hb, hml, hown, hts⟩ (m_X2_hasRow l dC dI cyI cyJ aa H.size h) (cwV 1 hts gX5_copy_X2_hasRow rfl rfl rfl (by decide +kernel) ⟨Nat.le_of_ble_eq_true rfl, Nat.le_of_ble_eq_true rfl⟩) (xq_preV hK hP hD hN (ci := 2) (q0 := 1) rfl rfl) rfl rfl hl.1 rfl (lv_room (Nat.le_of_ble_eq_true rfl)) dX5_copy_45 ⟨Nat.le_refl _, Nat.le_refl _⟩) hD hS hA (fun rr_5 uu H locs h hP hD hS => ?_)
          have hP : va_P (dC, dI) vwCl (wc_u cyI cyJ aa s_lanes s_sizes s_cells x_kinds x_digits x_causes x_effects x_things x_follows x_due t_kinds t_digits t_caseRow t_weights t_order t_calls t_things t_caseCount t_caseSet p_callsOfCase p_partOfCase p_callsOfPart p_cases p_parts r_cases r_hours r_sets r_count u_lists u_breaths u_heard u_traced (0 : Int32)) H := hP
          have hD : va_D A (wc_u cyI cyJ aa s_lanes s_sizes s_cells x_kinds x_digits x_causes x_effects x_things x_follows x_due t_kinds t_digits t_caseRow t_weights t_order t_calls t_things t_caseCount t_caseSet p_callsOfCase p_partOfCase p_callsOfPart p_cases p_parts r_cases r_hours r_sets r_count u_lists u_breaths u_heard u_traced (0 : Int32)) := hD
          refine lv_if_ne (tgt := 57) hx hb dX5_copy_48 (by decide) (fun hc_24 => ?_) (fun hc_24 => ?_)
          · have h := h.1 hc_24
            refine lv_aload_n hx hb dX5_copy_57 rfl (lv_at hl 0 rfl) ?_
            refine va_get (D := (dC, dI)) (ci := 5) (v := .ref (aa 1)) (C := RX5) (T := TX5) (N := 10) hx hb hts hi_X5 hown hK hP 0 rfl rfl 0 (by decide) fl_12 (fun _ h9 => h9) rfl dX5_copy_58 ?_
            refine va_get (D := (dC, dI)) (ci := 2) (v := .ref (aa 2)) (C := RX2) (T := TX2) (N := 3) hx hb hts hi_X2 hown hK hP 1 rfl rfl 0 (by decide) fl_234 (fun _ h9 => h9) rfl dX5_copy_61 ?_
            refine lv_iload_n hx hb dX5_copy_64 rfl (lv_at hl 1 rfl) ?_
            obtain ⟨hv_6, h⟩ := h
            refine va_iald hx hb hK hP 2 0 rfl rfl hv_6 dX5_copy_65 ?_
            refine lv_aload_n hx hb dX5_copy_66 rfl (lv_at hl 0 rfl) ?_
            refine va_get (D := (dC, dI)) (ci := 5) (v := .ref (aa 1)) (C := RX5) (T := TX5) (N := 10) hx hb hts hi_X5 hown hK hP 0 rfl rfl 0 (by decide) fl_12 (fun _ h9 => h9) rfl dX5_copy_67 ?_
            refine va_get (D := (dC, dI)) (ci := 2) (v := .ref (aa 2)) (C := RX2) (T := TX2) (N := 3) hx hb hts hi_X2 hown hK hP 1 rfl rfl 0 (by decide) fl_234 (fun _ h9 => h9) rfl dX5_copy_70 ?_
            refine lv_iload_n hx hb dX5_copy_73 rfl (lv_at hl 3 rfl) ?_
            obtain ⟨hv_7, h⟩ := h
            refine va_iald hx hb hK hP 2 0 rfl rfl hv_7 dX5_copy_74 ?_
            refine lv_icmp_eq (tgt := 84) hx hb dX5_copy_75 (by decide) (fun hc_23 => ?_) (fun hc_23 => ?_)
            · have h := h.1 hc_23
              refine lv_aload_n hx hb dX5_copy_84 rfl (lv_at hl 0 rfl) ?_
              refine va_get (D := (dC, dI)) (ci := 5) (v := .ref (aa 1)) (C := RX5) (T := TX5) (N := 10) hx hb hts hi_X5 hown hK hP 0 rfl rfl 0 (by decide) fl_12 (fun _ h9 => h9) rfl dX5_copy_85 ?_
              refine lv_iload_n hx hb dX5_copy_88 rfl (lv_at hl 1 rfl) ?_
              refine lv_iload_n hx hb dX5_copy_89 rfl (lv_at hl 2 rfl) ?_
              refine lv_iload hx hb dX5_copy_90 (lv_at hl 5 rfl) ?_
              refine xq_ci (va_runV (As := [.int a_1, .int a_2, .int a_5]) (rest := []) ⟨hx, hb, hml, hown, hts⟩ (m_X2_hasCells l dC dI cyI cyJ aa H.size h) (cwV 3 hts gX5_copy_X2_hasCells rfl rfl rfl (by decide +kernel) ⟨Nat.le_of_ble_eq_true rfl, Nat.le_of_ble_eq_true rfl⟩) (xq_preV hK hP hD hN (ci := 2) (q0 := 1) rfl rfl) rfl rfl hl.1 rfl (lv_room (Nat.le_of_ble_eq_true rfl)) dX5_copy_92 ⟨Nat.le_refl _, Nat.le_refl _⟩) hD hS hA (fun rr_8 uu H locs h hP hD hS => ?_)
              have hP : va_P (dC, dI) vwCl (wc_u cyI cyJ aa s_lanes s_sizes s_cells x_kinds x_digits x_causes x_effects x_things x_follows x_due t_kinds t_digits t_caseRow t_weights t_order t_calls t_things t_caseCount t_caseSet p_callsOfCase p_partOfCase p_callsOfPart p_cases p_parts r_cases r_hours r_sets r_count u_lists u_breaths u_heard u_traced (0 : Int32)) H := hP
              have hD : va_D A (wc_u cyI cyJ aa s_lanes s_sizes s_cells x_kinds x_digits x_causes x_effects x_things x_follows x_due t_kinds t_digits t_caseRow t_weights t_order t_calls t_things t_caseCount t_caseSet p_callsOfCase p_partOfCase p_callsOfPart p_cases p_parts r_cases r_hours r_sets r_count u_lists u_breaths u_heard u_traced (0 : Int32)) := hD
              refine xq_j0_go (X := ∀ (H : Heap) (locs : List Loc) (ls : Array Slot), va_P (dC, dI) vwCl (wc_u cyI cyJ aa s_lanes s_sizes s_cells x_kinds x_digits x_causes x_effects x_things x_follows x_due t_kinds t_digits t_caseRow t_weights t_order t_calls t_things t_caseCount t_caseSet p_callsOfCase p_partOfCase p_callsOfPart p_cases p_parts r_cases r_hours r_sets r_count u_lists u_breaths u_heard u_traced (0 : Int32)) H → va_D A (wc_u cyI cyJ aa s_lanes s_sizes s_cells x_kinds x_digits x_causes x_effects x_things x_follows x_due t_kinds t_digits t_caseRow t_weights t_order t_calls t_things t_caseCount t_caseSet p_callsOfCase p_partOfCase p_callsOfPart p_cases p_parts r_cases r_hours r_sets r_count u_lists u_breaths u_heard u_traced (0 : Int32)) → va_S A s.heap H locs → lv_has ls 6 [(0, .ref (aa 0))] → W p l e (xq_R 2 73) s m args below meth c H locs 0 0 Q (F0 m 113 ls [])) h (fun  h H locs ls hP hD hS hl => ?_) (fun kj_9 h => ?_)
              · refine lv_aload_n hx hb dX5_copy_113 rfl (lv_at hl 0 rfl) ?_
                refine lv_iconst (v := (3 : Int32)) hx hb dX5_copy_114 (by decide) ?_
                refine xq_ci (va_runV (As := [.int (3 : Int32)]) (rest := []) ⟨hx, hb, hml, hown, hts⟩ (m_X5_faulted l dC dI cyI cyJ aa H.size h) (cwV 1 hts gX5_copy_X5_faulted rfl rfl rfl (by decide +kernel) ⟨Nat.le_of_ble_eq_true rfl, Nat.le_of_ble_eq_true rfl⟩) (xq_preV hK hP hD hN (ci := 5) (q0 := 0) rfl rfl) rfl rfl hl.1 rfl (lv_room (Nat.le_of_ble_eq_true rfl)) dX5_copy_115 ⟨Nat.le_refl _, Nat.le_refl _⟩) hD hS hA (fun rr_16 uu H locs h hP hD hS => ?_)
                obtain ⟨cc_17, rfl⟩ : ∃ z, z = uu := ⟨_, rfl⟩
                have hP : va_P (dC, dI) vwCl (wc_u cyI cyJ aa s_lanes s_sizes s_cells x_kinds x_digits x_causes x_effects x_things x_follows x_due t_kinds t_digits t_caseRow t_weights t_order t_calls t_things t_caseCount t_caseSet p_callsOfCase p_partOfCase p_callsOfPart p_cases p_parts r_cases r_hours r_sets r_count u_lists u_breaths u_heard u_traced cc_17) H := hP
                have hD : va_D A (wc_u cyI cyJ aa s_lanes s_sizes s_cells x_kinds x_digits x_causes x_effects x_things x_follows x_due t_kinds t_digits t_caseRow t_weights t_order t_calls t_things t_caseCount t_caseSet p_callsOfCase p_partOfCase p_callsOfPart p_cases p_parts r_cases r_hours r_sets r_count u_lists u_breaths u_heard u_traced cc_17) := hD
                exact xq_ri hQ hx hb hr hP hK hD hS (s_cells, cc_17) rfl h dX5_copy_118 hlocks
              · refine lv_if_eq (tgt := 113) hx hb dX5_copy_95 (by decide) (fun hc_15 => ?_) (fun hc_15 => ?_)
                · have h := h.1 hc_15
                  exact kj_9 h _ _ _ hP hD hS (lv_sub hl [0] rfl)
                · have h := h.2 hc_15
                  refine lv_aload_n hx hb dX5_copy_98 rfl (lv_at hl 0 rfl) ?_
                  refine va_get (D := (dC, dI)) (ci := 5) (v := .ref (aa 1)) (C := RX5) (T := TX5) (N := 10) hx hb hts hi_X5 hown hK hP 0 rfl rfl 0 (by decide) fl_12 (fun _ h9 => h9) rfl dX5_copy_99 ?_
                  refine lv_iload_n hx hb dX5_copy_102 rfl (lv_at hl 3 rfl) ?_
                  refine lv_iload hx hb dX5_copy_103 (lv_at hl 4 rfl) ?_
                  refine lv_iload hx hb dX5_copy_105 (lv_at hl 5 rfl) ?_
                  refine xq_ci (va_runV (As := [.int a_3, .int a_4, .int a_5]) (rest := []) ⟨hx, hb, hml, hown, hts⟩ (m_X2_hasCells l dC dI cyI cyJ aa H.size h) (cwV 3 hts gX5_copy_X2_hasCells rfl rfl rfl (by decide +kernel) ⟨Nat.le_of_ble_eq_true rfl, Nat.le_of_ble_eq_true rfl⟩) (xq_preV hK hP hD hN (ci := 2) (q0 := 1) rfl rfl) rfl rfl hl.1 rfl (lv_room (Nat.le_of_ble_eq_true rfl)) dX5_copy_107 ⟨Nat.le_refl _, Nat.le_refl _⟩) hD hS hA (fun rr_10 uu H locs h hP hD hS => ?_)
                  have hP : va_P (dC, dI) vwCl (wc_u cyI cyJ aa s_lanes s_sizes s_cells x_kinds x_digits x_causes x_effects x_things x_follows x_due t_kinds t_digits t_caseRow t_weights t_order t_calls t_things t_caseCount t_caseSet p_callsOfCase p_partOfCase p_callsOfPart p_cases p_parts r_cases r_hours r_sets r_count u_lists u_breaths u_heard u_traced (0 : Int32)) H := hP
                  have hD : va_D A (wc_u cyI cyJ aa s_lanes s_sizes s_cells x_kinds x_digits x_causes x_effects x_things x_follows x_due t_kinds t_digits t_caseRow t_weights t_order t_calls t_things t_caseCount t_caseSet p_callsOfCase p_partOfCase p_callsOfPart p_cases p_parts r_cases r_hours r_sets r_count u_lists u_breaths u_heard u_traced (0 : Int32)) := hD
                  refine lv_if_ne (tgt := 119) hx hb dX5_copy_110 (by decide) (fun hc_13 => ?_) (fun hc_13 => ?_)
                  · have h := h.1 hc_13
                    refine lv_aload_n hx hb dX5_copy_119 rfl (lv_at hl 0 rfl) ?_
                    refine va_get (D := (dC, dI)) (ci := 5) (v := .ref (aa 1)) (C := RX5) (T := TX5) (N := 10) hx hb hts hi_X5 hown hK hP 0 rfl rfl 0 (by decide) fl_12 (fun _ h9 => h9) rfl dX5_copy_120 ?_
                    refine lv_iload_n hx hb dX5_copy_123 rfl (lv_at hl 1 rfl) ?_
                    refine lv_iload_n hx hb dX5_copy_124 rfl (lv_at hl 2 rfl) ?_
                    refine lv_iload_n hx hb dX5_copy_125 rfl (lv_at hl 3 rfl) ?_
                    refine lv_iload hx hb dX5_copy_126 (lv_at hl 4 rfl) ?_
                    refine lv_iload hx hb dX5_copy_128 (lv_at hl 5 rfl) ?_
                    refine xq_cv (va_runV (As := [.int a_1, .int a_2, .int a_3, .int a_4, .int a_5]) (rest := []) ⟨hx, hb, hml, hown, hts⟩ (m_X2_move l dC dI cyI cyJ aa H.size h) (cwV 5 hts gX5_copy_X2_move rfl rfl rfl (by decide +kernel) ⟨Nat.le_of_ble_eq_true rfl, Nat.le_of_ble_eq_true rfl⟩) (xq_preV hK hP hD hN (ci := 2) (q0 := 1) rfl rfl) rfl rfl hl.1 rfl (lv_room (Nat.le_of_ble_eq_true rfl)) dX5_copy_130 ⟨Nat.le_refl _, Nat.le_refl _⟩) hD hS hA (fun uu H locs h hP hD hS => ?_)
                    obtain ⟨cc_11, rfl⟩ : ∃ z, z = uu := ⟨_, rfl⟩
                    have hP : va_P (dC, dI) vwCl (wc_u cyI cyJ aa s_lanes s_sizes cc_11 x_kinds x_digits x_causes x_effects x_things x_follows x_due t_kinds t_digits t_caseRow t_weights t_order t_calls t_things t_caseCount t_caseSet p_callsOfCase p_partOfCase p_callsOfPart p_cases p_parts r_cases r_hours r_sets r_count u_lists u_breaths u_heard u_traced (0 : Int32)) H := hP
                    have hD : va_D A (wc_u cyI cyJ aa s_lanes s_sizes cc_11 x_kinds x_digits x_causes x_effects x_things x_follows x_due t_kinds t_digits t_caseRow t_weights t_order t_calls t_things t_caseCount t_caseSet p_callsOfCase p_partOfCase p_callsOfPart p_cases p_parts r_cases r_hours r_sets r_count u_lists u_breaths u_heard u_traced (0 : Int32)) := hD
                    refine lv_iload hx hb dX5_copy_133 (lv_at hl 5 rfl) ?_
                    exact xq_ri hQ hx hb hr hP hK hD hS (cc_11, (0 : Int32)) rfl h dX5_copy_135 hlocks
                  · have h := h.2 hc_13
                    exact kj_9 h _ _ _ hP hD hS (lv_sub hl [0] rfl)
            · have h := h.2 hc_23
              refine lv_aload_n hx hb dX5_copy_78 rfl (lv_at hl 0 rfl) ?_
              refine lv_iconst (v := (2 : Int32)) hx hb dX5_copy_79 (by decide) ?_
              refine xq_ci (va_runV (As := [.int (2 : Int32)]) (rest := []) ⟨hx, hb, hml, hown, hts⟩ (m_X5_faulted l dC dI cyI cyJ aa H.size h) (cwV 1 hts gX5_copy_X5_faulted rfl rfl rfl (by decide +kernel) ⟨Nat.le_of_ble_eq_true rfl, Nat.le_of_ble_eq_true rfl⟩) (xq_preV hK hP hD hN (ci := 5) (q0 := 0) rfl rfl) rfl rfl hl.1 rfl (lv_room (Nat.le_of_ble_eq_true rfl)) dX5_copy_80 ⟨Nat.le_refl _, Nat.le_refl _⟩) hD hS hA (fun rr_20 uu H locs h hP hD hS => ?_)
              obtain ⟨cc_21, rfl⟩ : ∃ z, z = uu := ⟨_, rfl⟩
              have hP : va_P (dC, dI) vwCl (wc_u cyI cyJ aa s_lanes s_sizes s_cells x_kinds x_digits x_causes x_effects x_things x_follows x_due t_kinds t_digits t_caseRow t_weights t_order t_calls t_things t_caseCount t_caseSet p_callsOfCase p_partOfCase p_callsOfPart p_cases p_parts r_cases r_hours r_sets r_count u_lists u_breaths u_heard u_traced cc_21) H := hP
              have hD : va_D A (wc_u cyI cyJ aa s_lanes s_sizes s_cells x_kinds x_digits x_causes x_effects x_things x_follows x_due t_kinds t_digits t_caseRow t_weights t_order t_calls t_things t_caseCount t_caseSet p_callsOfCase p_partOfCase p_callsOfPart p_cases p_parts r_cases r_hours r_sets r_count u_lists u_breaths u_heard u_traced cc_21) := hD
              exact xq_ri hQ hx hb hr hP hK hD hS (s_cells, cc_21) rfl h dX5_copy_83 hlocks
          · have h := h.2 hc_24
            exact kj_4 h _ _ _ hP hD hS (lv_sub hl [0] rfl)
    · have h := h.2 hc_31
      refine lv_iconst (v := (-1 : Int32)) hx hb dX5_copy_27 (by decide) ?_
      exact xq_ri hQ hx hb hr hP hK hD hS (s_cells, (0 : Int32)) rfl h dX5_copy_28 hlocks
