theorem ev_0 {s_lanes : Nat → Int32} {s_sizes : Nat → Int32} {s_cells : Nat → Int32} {x_kinds : Nat → Int32} {x_digits : Nat → Int32} {x_causes : Nat → Int32} {x_effects : Nat → Int32} {x_things : Int32} {x_follows : Int32} {x_due : Int32} {t_kinds : Nat → Int32} {t_digits : Nat → Int32} {t_caseRow : Nat → Int32} {t_weights : Nat → Int32} {t_order : Nat → Int32} {t_calls : Nat → Int32} {t_things : Int32} {t_caseCount : Int32} {t_caseSet : Int64} {p_callsOfCase : Nat → Int64} {p_partOfCase : Nat → Int32} {p_callsOfPart : Nat → Int64} {p_cases : Int32} {p_parts : Int32} {r_cases : Nat → Int32} {r_hours : Nat → Int32} {r_sets : Nat → Int32} {r_count : Int32} {u_lists : Nat → Int32} {u_breaths : Nat → Int32} {u_heard : Nat → Int32} {u_traced : Int32} {u_lastFault : Int32} {n_fault : Int32} {n_things : Int32} {n_kindOf : Nat → Int32} {n_digitOf : Nat → Int32} {n_follows : Int32} {n_ifOf : Nat → Int32} {n_thenOf : Nat → Int32} {n_listOf : Nat → Int32} {n_breathOf : Nat → Int32} {n_heardOf : Nat → Int32} {n_readAt : Int32} {n_readThings : Int32} {n_readFollows : Int32} {n_readKind : Nat → Int32} {n_readDigit : Nat → Int32} {n_readIf : Nat → Int32} {n_readThen : Nat → Int32} {n_readings : Int32} {n_readingIn : Nat → Int32} {n_readingHour : Nat → Int32} {n_readingOf : Nat → Int32} {n_breathWas : Nat → Int32} {n_sheetSize : Nat → Int32} {n_sheetLane : Nat → Int32} {n_sheet : Nat → Int32} {n_hands : Nat → Int32} {n_traceNow : Int32} (h_i : iv_u s_lanes s_sizes s_cells x_kinds x_digits x_causes x_effects x_things x_follows x_due t_kinds t_digits t_caseRow t_weights t_order t_calls t_things t_caseCount t_caseSet p_callsOfCase p_partOfCase p_callsOfPart p_cases p_parts r_cases r_hours r_sets r_count u_lists u_breaths u_heard u_traced u_lastFault n_fault n_things n_kindOf n_digitOf n_follows n_ifOf n_thenOf n_listOf n_breathOf n_heardOf n_readAt n_readThings n_readFollows n_readKind n_readDigit n_readIf n_readThen n_readings n_readingIn n_readingHour n_readingOf n_breathWas n_sheetSize n_sheetLane n_sheet n_hands n_traceNow) (y_0 y_1 y_2 y_3 : Int32) : w_X5_town s_lanes s_sizes s_cells x_kinds x_digits x_causes x_effects x_things x_follows x_due t_kinds t_digits t_caseRow t_weights t_order t_calls t_things t_caseCount t_caseSet r_count u_lists u_breaths u_heard u_lastFault y_0 y_1 y_2 y_3 (fun (r_1 : Int32) (k_x_kinds : Nat → Int32) (k_x_digits : Nat → Int32) (k_x_causes : Nat → Int32) (k_x_effects : Nat → Int32) (k_x_things : Int32) (k_x_follows : Int32) (k_x_due : Int32) (k_t_kinds : Nat → Int32) (k_t_digits : Nat → Int32) (k_t_caseRow : Nat → Int32) (k_t_weights : Nat → Int32) (k_t_order : Nat → Int32) (k_t_calls : Nat → Int32) (k_t_things : Int32) (k_t_caseCount : Int32) (k_t_caseSet : Int64) (k_r_count : Int32) (k_u_lists : Nat → Int32) (k_u_breaths : Nat → Int32) (k_u_heard : Nat → Int32) (k_u_lastFault : Int32) => w_X6_town n_fault n_things n_kindOf n_digitOf n_follows n_ifOf n_thenOf n_listOf n_breathOf n_heardOf n_readAt n_readThings n_readFollows n_readKind n_readDigit n_readIf n_readThen n_readings n_sheetSize n_sheetLane n_sheet y_0 y_1 y_2 y_3 (fun (r_2 : Int32) (k_n_fault : Int32) (k_n_things : Int32) (k_n_kindOf : Nat → Int32) (k_n_digitOf : Nat → Int32) (k_n_follows : Int32) (k_n_ifOf : Nat → Int32) (k_n_thenOf : Nat → Int32) (k_n_listOf : Nat → Int32) (k_n_breathOf : Nat → Int32) (k_n_heardOf : Nat → Int32) (k_n_readAt : Int32) (k_n_readThings : Int32) (k_n_readFollows : Int32) (k_n_readKind : Nat → Int32) (k_n_readDigit : Nat → Int32) (k_n_readIf : Nat → Int32) (k_n_readThen : Nat → Int32) (k_n_readings : Int32) => r_1 = r_2 ∧ iv_u s_lanes s_sizes s_cells k_x_kinds k_x_digits k_x_causes k_x_effects k_x_things k_x_follows k_x_due k_t_kinds k_t_digits k_t_caseRow k_t_weights k_t_order k_t_calls k_t_things k_t_caseCount k_t_caseSet p_callsOfCase p_partOfCase p_callsOfPart p_cases p_parts r_cases r_hours r_sets k_r_count k_u_lists k_u_breaths k_u_heard u_traced k_u_lastFault k_n_fault k_n_things k_n_kindOf k_n_digitOf k_n_follows k_n_ifOf k_n_thenOf k_n_listOf k_n_breathOf k_n_heardOf k_n_readAt k_n_readThings k_n_readFollows k_n_readKind k_n_readDigit k_n_readIf k_n_readThen k_n_readings n_readingIn n_readingHour n_readingOf n_breathWas n_sheetSize n_sheetLane n_sheet n_hands n_traceNow)) := by 
  obtain ⟨n, fo, rc, kd, dg, fi, ft, li, br, mi, mr, rx, rh, hA, hH, hR, hS, hT, hF⟩ := iv_of h_i
  have hA2 := hA
  obtain ⟨hn, hfo, rfl, rfl, rfl, hf, hft, hk, hd, htk, htd, hpT, hcs, hW, hc⟩ := hA
  have h64 := pa_p2 hn
  have hH2 := hH
  obtain ⟨h1, h2, h3, h4, h5, h6⟩ := hH2
  have hR2 := hR
  obtain ⟨g1, rfl, rfl, rfl, g2, g3⟩ := hR2
  obtain ⟨r, f, hr, hC, hM⟩ := s_cellsOf hS y_0 y_1 y_2 y_3
  unfold w_X5_town
  rcases hr with hneg | ⟨rfl, K, I, N, sz, hk4, rfl, rfl, rfl, hiN, h60, hsz, heq⟩
  · refine hC _ _ (fun e => absurd e (pu_ne0 hneg)) (fun _ => ⟨fun e => absurd e (pu_ne0 hneg), fun _ => ?_⟩)
    unfold w_X6_town
    exact hM _ _ (fun e => absurd e (pu_ne0 hneg)) (fun _ => ⟨fun e => absurd e (pu_le0 hneg), fun _ => ⟨rfl, iv_mk hA2 hH hR hS hT rfl⟩⟩)
  · refine hC _ _ (fun _ => ⟨fun _ => ?_, fun e => absurd rfl e⟩) (fun e => absurd e (by decide))
    have hcc : ∀ p, p < N → (fun p => s_cells (60 * K + (I + p))) p = (fun p => n_sheet (60 * K + I + p)) p := fun p hp => by
      show s_cells (60 * K + (I + p)) = n_sheet (60 * K + I + p)
      rw [heq (I + p) (by omega), Nat.add_assoc]
    have hA1 : (60 : Int32) * nI K + nI I = nI (60 * K + I) := by
      rw [show (60 : Int32) = nI 60 from rfl, pk_mul, nI_add]
    refine s_firstFault hk4 hsz h60 hiN (fun p hF hp xk xd xc xe xt xf xu => ⟨fun q => absurd q (pw_nm1 (by omega)), fun _ => ?_⟩) (fun s hO xk xd xc xe xt xf xu hRR => ⟨fun _ => ?_, fun q => absurd rfl q⟩)
    · have hF' := pn_cF hcc hF
      unfold w_X6_town
      refine hM _ _ (fun _ => ⟨fun _ => ?_, fun q => absurd (by decide) q⟩) (fun e => absurd e (by decide))
      rw [hA1]
      refine s_readsTown (by omega) (fun p' th' fo' K' D' I' T' hF2 => ⟨fun q => absurd rfl q, fun _ => ?_⟩) (fun d th' fo' k' g' i' e' K' D' I' T' hO _ _ _ _ _ => absurd hO (pn_FO hF'))
      have := pn_FF hF' hF2
      subst this
      exact ⟨rfl, iv_mk hA2 hH hR hS hT rfl⟩
    · have hO' := pn_cO hcc hO
      obtain ⟨d, th, fo2, k2, g2, i2, e2⟩ := s
      have hI := pn_runI _ _ hO.1
      obtain ⟨b1, b2, b3, b4, b5, b6, b7, b8, b9, b10⟩ := hI
      obtain ⟨rfl, rfl, rfl, r1, r2, r3, r4⟩ := hRR
      have hth : 2 ≤ th := by
        rcases hO.2 with w | w
        · exact b6 (by simp only at w; omega)
        · exact w.2
      refine s_build (kd := k2) (dg := g2) (fi := i2) (ft := e2) (by omega) (by omega) b3 (fun t ht => ⟨(r1 t ht).1, (b7 t ht).1⟩) (fun t ht => ⟨(r1 t ht).2, (b7 t ht).2⟩) (fun f hf => ⟨(r3 f hf).1, (r3 f hf).2, by have := b9 f hf; omega, by have := b9 f hf; omega⟩) (fun tk td row wts o calls cnt q1 q2 q3 q4 q5 => ?_)
      refine s_makeHours (fun l b he m1 m2 => ?_)
      unfold w_X6_town
      refine hM _ _ (fun _ => ⟨fun _ => ?_, fun q => absurd (by decide) q⟩) (fun e => absurd e (by decide))
      rw [hA1]
      refine s_readsTown (by omega) (fun p' th' fo' K' D' I' T' hF2 => absurd hO' (pn_FO hF2)) (fun d' th' fo' k' g' i' e' K' D' I' T' hO2 _ _ _ w1 w2 => ?_)
      have hs := pn_OO hO' hO2
      cases hs
      refine ⟨fun _ => ?_, fun q => absurd q (by decide)⟩
      refine s_town66 b2 (fun mk md n1 => ?_)
      refine s_town112 b3 (fun mi2 mt n2 => ?_)
      refine s_town158 (fun ml mb me n3 n4 => ?_)
      unfold w_X6_refused
      have hhe : he = me := by
        funext j
        by_cases hj : j < 6
        · rw [(m1 j hj).2.2, (n3 j hj).2.2]
        · rw [m2 j (by omega), n4 j (by omega)]; exact h6 j (by omega)
      subst hhe
      have p1 := Nat.two_pow_pos th
      refine ⟨rfl, iv_mk (n := th) (fo := fo2) (rc := 0) (kd := k2) (dg := g2) (fi := i2) (ft := e2) (li := fun _ => 0) (br := fun _ => 9) (mi := fun _ => 0) (mr := fun _ => 9) (rx := fun _ => 0) (rh := fun _ => 0) ?_ ?_ ⟨by omega, rfl, rfl, rfl, fun r hr => by omega, fun r hr => by omega⟩ hS hT rfl⟩
      · refine ⟨by omega, b3, rfl, rfl, rfl, fun f hf => ?_, fun f hf => (b9 f hf).2, fun t ht => ?_, fun t ht => ?_, fun t ht => ⟨q1 t ht, (b7 t ht).1⟩, q2, q3, rfl, q4, q5⟩
        · have := b9 f hf
          rw [(n2 f hf).1, (n2 f hf).2]
          exact ⟨(w2 f hf).1, (w2 f hf).2, by omega, by omega⟩
        · rw [(n1 t ht).1]; exact ⟨(w1 t ht).1, (b7 t ht).1⟩
        · rw [(n1 t ht).2]; exact ⟨(w1 t ht).2, (b7 t ht).2⟩
      · refine ⟨fun h hh => ⟨(m1 h hh).1, p1, (m1 h hh).2.1, (by decide : (9 : Nat) ≤ 18)⟩, fun h hh => ⟨(n3 h hh).1, p1, (n3 h hh).2.1, (by decide : (9 : Nat) ≤ 18)⟩, fun h hh => Or.inl (n3 h hh).2.2, fun _ => ⟨rfl, rfl, rfl⟩, fun e => by omega, fun h hh => rfl⟩
theorem ev_init : w_X5_makeHoursAnew (fun _ => 0) (fun _ => 0) (fun _ => 0) (fun (k_u_lists k_u_breaths k_u_heard : Nat → Int32) => iv_u (upd (upd (upd (upd (fun _ => 0) (Int32.toNatClampNeg (0 : Int32)) (-1 : Int32)) (Int32.toNatClampNeg (1 : Int32)) (-1 : Int32)) (Int32.toNatClampNeg (2 : Int32)) (-1 : Int32)) (Int32.toNatClampNeg (3 : Int32)) (-1 : Int32)) (fun _ => 0) (fun _ => 0) (fun _ => 0) (fun _ => 0) (fun _ => 0) (fun _ => 0) (0 : Int32) (0 : Int32) (0 : Int32) (fun _ => 0) (fun _ => 0) (fun _ => 0) (fun _ => 0) (fun _ => 0) (fun _ => 0) (0 : Int32) (0 : Int32) (0 : Int64) (fun _ => 0) (fun _ => 0) (fun _ => 0) (0 : Int32) (0 : Int32) (fun _ => 0) (fun _ => 0) (fun _ => 0) (0 : Int32) k_u_lists k_u_breaths k_u_heard (0 : Int32) (0 : Int32) (0 : Int32) (0 : Int32) (fun _ => 0) (fun _ => 0) (0 : Int32) (fun _ => 0) (fun _ => 0) (fun _ => 0) (fun _ => 0) (fun _ => 0) (0 : Int32) (0 : Int32) (0 : Int32) (fun _ => 0) (fun _ => 0) (fun _ => 0) (fun _ => 0) (0 : Int32) (fun _ => 0) (fun _ => 0) (fun _ => 0) (fun _ => 0) (upd (upd (upd (upd (fun _ => 0) (Int32.toNatClampNeg (0 : Int32)) (-1 : Int32)) (Int32.toNatClampNeg (1 : Int32)) (-1 : Int32)) (Int32.toNatClampNeg (2 : Int32)) (-1 : Int32)) (Int32.toNatClampNeg (3 : Int32)) (-1 : Int32)) (fun _ => 0) (fun _ => 0) (fun _ => 0) (0 : Int32)) := by 
  refine s_makeHours (fun l b he m1 m2 => ?_)
  refine iv_mk (n := 0) (fo := 0) (rc := 0) (kd := fun _ => 0) (dg := fun _ => 0) (fi := fun _ => 0) (ft := fun _ => 0) (li := fun _ => 0) (br := fun _ => 9) (mi := fun _ => 0) (mr := fun _ => 0) (rx := fun _ => 0) (rh := fun _ => 0) ?_ ?_ ⟨by omega, rfl, rfl, rfl, fun r hr => by omega, fun r hr => by omega⟩ ?_ rfl rfl
  · have hP : ∀ x, pc_ic 0 0 (fun _ => 0) (fun _ => 0) x = false := fun x => by
      cases hc : pc_ic 0 0 (fun _ => 0) (fun _ => 0) x with
      | false => rfl
      | true => have := (pc_lt hc).2; omega
    have e0 : pd_cl 0 0 (fun _ => 0) (fun _ => 0) = [] := pq_f0 _ (i := 0) (by omega) (fun x _ => hP x)
    refine ⟨by omega, by omega, rfl, rfl, rfl, fun f hf => by omega, fun f hf => by omega, fun t ht => by omega, fun t ht => by omega, fun t ht => by omega, fun t ht => by omega, ⟨by rw [e0]; rfl, fun c x hx => by rw [e0] at hx; simp at hx⟩, ?_, fun x hx => (by rw [hP x] at hx; cases hx), fun b hb u hu => ?_⟩
    · rw [pd_sN_ext (N := 0) (by omega) (fun x _ => hP x)]; rfl
    · rfl
  · exact ⟨fun h hh => ⟨(m1 h hh).1, (by decide : (0 : Nat) < 2 ^ 0), (m1 h hh).2.1, (by decide : (9 : Nat) ≤ 18)⟩, fun h hh => ⟨rfl, (by decide : (0 : Nat) < 2 ^ 0), rfl, (by decide : (0 : Nat) ≤ 18)⟩, fun h hh => Or.inr (by decide : (0 : Int) ≤ (0 : Int32).toInt), fun e => by omega, fun _ h hh => (m1 h hh).2.2, fun h hh => m2 h hh⟩
  · intro k hk
    have : k = 0 ∨ k = 1 ∨ k = 2 ∨ k = 3 := by omega
    rcases this with rfl | rfl | rfl | rfl <;> exact Or.inl ⟨rfl, rfl, rfl⟩
