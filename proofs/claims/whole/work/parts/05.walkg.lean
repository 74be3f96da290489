def w_X6_cell (n_fault : Int32) (n_sheetSize : Nat → Int32) (n_sheetLane : Nat → Int32) (n_sheet : Nat → Int32) (a_1 : Int32) (a_2 : Int32) (a_3 : Int32) (post : Int64 → Int32 → Prop) : Prop := w_X6_noSheet a_1 (fun (rr_1 : Int32) => xq_j0 (fun (kj_2 : Prop) => (¬ rr_1 = 0 → (kj_2)) ∧ (rr_1 = 0 → (w_X6_in (Int32.toInt64 a_3) (0 : Int64) (2 : Int64) (fun (rr_3 : Int32) => (¬ rr_3 = 0 → ((vp_in a_1 4) ∧ (xq_j0 (fun (kj_5 : Prop) => ((n_sheetSize a_1.toNatClampNeg) < 0 → (kj_5)) ∧ (¬ (n_sheetSize a_1.toNatClampNeg) < 0 → ((vp_in a_1 4) ∧ (((n_sheetLane a_1.toNatClampNeg) = a_3 → (kj_5)) ∧ (¬ (n_sheetLane a_1.toNatClampNeg) = a_3 → (w_X6_failedLong (0 : Int32) (2 : Int32) (fun (rr_7 : Int64) (cc_8 : Int32) => post rr_7 cc_8))))))) (w_X6_noCell n_sheetSize a_1 a_2 (fun (rr_12 : Int32) => (rr_12 ≤ 0 → ((vp_in (((60 : Int32) * a_1) + a_2) 240) ∧ (post (Int32.toInt64 (n_sheet (((60 : Int32) * a_1) + a_2).toNatClampNeg)) (0 : Int32)))) ∧ (¬ rr_12 ≤ 0 → (w_X6_noCell n_sheetSize a_1 a_2 (fun (rr_14 : Int32) => w_X6_failedLong (0 : Int32) rr_14 (fun (rr_15 : Int64) (cc_16 : Int32) => post rr_15 cc_16))))))))) ∧ (rr_3 = 0 → (kj_2)))))) (w_X6_lost (fun (rr_24 : Int64) => post rr_24 (0 : Int32))))
set_option maxHeartbeats 4000000 in
set_option maxRecDepth 100000 in
theorem m_X6_cell (l : Launch) (dC : Nat → ClassId) (dI : Nat → Nat → Nat) (cyI cyJ : ClassId) (ab : Nat → Nat) (sz : Nat) {n_fault : Int32} {n_things : Int32} {n_kindOf : Nat → Int32} {n_digitOf : Nat → Int32} {n_follows : Int32} {n_ifOf : Nat → Int32} {n_thenOf : Nat → Int32} {n_listOf : Nat → Int32} {n_breathOf : Nat → Int32} {n_heardOf : Nat → Int32} {n_readAt : Int32} {n_readThings : Int32} {n_readFollows : Int32} {n_readKind : Nat → Int32} {n_readDigit : Nat → Int32} {n_readIf : Nat → Int32} {n_readThen : Nat → Int32} {n_readings : Int32} {n_readingIn : Nat → Int32} {n_readingHour : Nat → Int32} {n_readingOf : Nat → Int32} {n_breathWas : Nat → Int32} {n_sheetSize : Nat → Int32} {n_sheetLane : Nat → Int32} {n_sheet : Nat → Int32} {n_hands : Nat → Int32} {n_traceNow : Int32} {a_1 : Int32} {a_2 : Int32} {a_3 : Int32} {post : Int64 → Int32 → Prop} (h : w_X6_cell n_fault n_sheetSize n_sheetLane n_sheet a_1 a_2 a_3 post) : Met l yX6_cell wsX6_cell (xq_R 2 47) (va_Pc [.ref (ab 0), .int a_1, .int a_2, .int a_3] (xq_P (dC, dI) [(cyI, .int), (cyJ, .long)] (wm_u cyI cyJ ab n_fault n_things n_kindOf n_digitOf n_follows n_ifOf n_thenOf n_listOf n_breathOf n_heardOf n_readAt n_readThings n_readFollows n_readKind n_readDigit n_readIf n_readThen n_readings n_readingIn n_readingHour n_readingOf n_breathWas n_sheetSize n_sheetLane n_sheet n_hands n_traceNow) sz)) (va_Ql (fun (rr : Int64) (uu : Int32) => post rr uu) (fun (uu : Int32) => xq_B (dC, dI) [(cyI, .int), (cyJ, .long)] (va_A (wm_u cyI cyJ ab n_fault n_things n_kindOf n_digitOf n_follows n_ifOf n_thenOf n_listOf n_breathOf n_heardOf n_readAt n_readThings n_readFollows n_readKind n_readDigit n_readIf n_readThen n_readings n_readingIn n_readingHour n_readingOf n_breathWas n_sheetSize n_sheetLane n_sheet n_hands n_traceNow) sz) (wm_u cyI cyJ ab uu n_things n_kindOf n_digitOf n_follows n_ifOf n_thenOf n_listOf n_breathOf n_heardOf n_readAt n_readThings n_readFollows n_readKind n_readDigit n_readIf n_readThen n_readings n_readingIn n_readingHour n_readingOf n_breathWas n_sheetSize n_sheetLane n_sheet n_hands n_traceNow)) (va_A (wm_u cyI cyJ ab n_fault n_things n_kindOf n_digitOf n_follows n_ifOf n_thenOf n_listOf n_breathOf n_heardOf n_readAt n_readThings n_readFollows n_readKind n_readDigit n_readIf n_readThen n_readings n_readingIn n_readingHour n_readingOf n_breathWas n_sheetSize n_sheetLane n_sheet n_hands n_traceNow) sz)) 0 0 (va_A (wm_u cyI cyJ ab n_fault n_things n_kindOf n_digitOf n_follows n_ifOf n_thenOf n_listOf n_breathOf n_heardOf n_readAt n_readThings n_readFollows n_readKind n_readDigit n_readIf n_readThen n_readings n_readingIn n_readingHour n_readingOf n_breathWas n_sheetSize n_sheetLane n_sheet n_hands n_traceNow) sz) := by
  refine xq_M (cc := cX6_cell) (maxL := 4) (ret := (some .long)) (QA := fun A => va_Ql (fun (rr : Int64) (uu : Int32) => post rr uu) (fun (uu : Int32) => xq_B (dC, dI) [(cyI, .int), (cyJ, .long)] A (wm_u cyI cyJ ab uu n_things n_kindOf n_digitOf n_follows n_ifOf n_thenOf n_listOf n_breathOf n_heardOf n_readAt n_readThings n_readFollows n_readKind n_readDigit n_readIf n_readThen n_readings n_readingIn n_readingHour n_readingOf n_breathWas n_sheetSize n_sheetLane n_sheet n_hands n_traceNow)) A) (by decide) rfl (Nat.le_of_ble_eq_true rfl) ?_
  intro p e s m args below meth c A ls Q hQ hx hb hr hml hts hown hlocks hsz hP hK hD hA hS hN hl
  subst hsz
  have hl : lv_has ls 4 [(0, .ref (ab 0)), (1, .int a_1), (2, .int a_2), (3, .int a_3)] := hl
  have hi_X6 : ∀ w ∈ wsX60, w ∈ wsX6_cell := fun _ h => List.mem_cons_of_mem _ (List.mem_append_right _ h)
  have fl_55 := hts (.fieldLink RX6 55 "UnsaidCallsModel" "sheetSize" "[I") (by decide +kernel)
  have fl_58 := hts (.fieldLink RX6 58 "UnsaidCallsModel" "sheetLane" "[I") (by decide +kernel)
  have fl_61 := hts (.fieldLink RX6 61 "UnsaidCallsModel" "sheet" "[I") (by decide +kernel)
  have fl_69 := hts (.fieldLink RX6 69 "UnsaidCallsModel" "fault" "I") (by decide +kernel)
  unfold w_X6_cell at h
  refine lv_aload_n hx hb dX6_cell_0 rfl (lv_at hl 0 rfl) ?_
  refine lv_iconst (v := (0 : Int32)) hx hb dX6_cell_1 (by decide) ?_
  refine va_put (D := (dC, dI)) (ci := 6) (v := .int (0 : Int32)) (ty := .int) (C := RX6) (T := TX6) (N := 27) hx hb hts hi_X6 tyX6 tyX6_ok nmX6 hown hK hP hD hS 0 rfl rfl 0 (by decide) fl_69 (fun _ h9 => h9) rfl (by decide +kernel) rfl rfl (Nat.le_of_ble_eq_true rfl) dX6_cell_2 (fun H locs hP hD hS => ?_)
  have hP : va_P (dC, dI) vwCl (wm_u cyI cyJ ab (0 : Int32) n_things n_kindOf n_digitOf n_follows n_ifOf n_thenOf n_listOf n_breathOf n_heardOf n_readAt n_readThings n_readFollows n_readKind n_readDigit n_readIf n_readThen n_readings n_readingIn n_readingHour n_readingOf n_breathWas n_sheetSize n_sheetLane n_sheet n_hands n_traceNow) H := hP
  have hD : va_D A (wm_u cyI cyJ ab (0 : Int32) n_things n_kindOf n_digitOf n_follows n_ifOf n_thenOf n_listOf n_breathOf n_heardOf n_readAt n_readThings n_readFollows n_readKind n_readDigit n_readIf n_readThen n_readings n_readingIn n_readingHour n_readingOf n_breathWas n_sheetSize n_sheetLane n_sheet n_hands n_traceNow) := hD
  refine lv_iload_n hx hb dX6_cell_5 rfl (lv_at hl 1 rfl) ?_
  refine xq_ci (va_runS (As := [.int a_1]) (rest := []) ⟨hx, hb, hml, hown, hts⟩ (m_X6_noSheet l dC dI cyI cyJ (wm_u cyI cyJ ab (0 : Int32) n_things n_kindOf n_digitOf n_follows n_ifOf n_thenOf n_listOf n_breathOf n_heardOf n_readAt n_readThings n_readFollows n_readKind n_readDigit n_readIf n_readThen n_readings n_readingIn n_readingHour n_readingOf n_breathWas n_sheetSize n_sheetLane n_sheet n_hands n_traceNow) H.size h) (va_cwS 1 hts gX6_cell_X6_noSheet rfl rfl rfl (by decide +kernel) ⟨Nat.le_of_ble_eq_true rfl, Nat.le_of_ble_eq_true rfl⟩) (xq_preS hK hP hD hN) rfl rfl hl.1 rfl (lv_room (Nat.le_of_ble_eq_true rfl)) dX6_cell_6 ⟨Nat.le_refl _, Nat.le_refl _⟩) hD hS hA (fun rr_1 uu H locs h hP hD hS => ?_)
  have hP : va_P (dC, dI) vwCl (wm_u cyI cyJ ab (0 : Int32) n_things n_kindOf n_digitOf n_follows n_ifOf n_thenOf n_listOf n_breathOf n_heardOf n_readAt n_readThings n_readFollows n_readKind n_readDigit n_readIf n_readThen n_readings n_readingIn n_readingHour n_readingOf n_breathWas n_sheetSize n_sheetLane n_sheet n_hands n_traceNow) H := hP
  have hD : va_D A (wm_u cyI cyJ ab (0 : Int32) n_things n_kindOf n_digitOf n_follows n_ifOf n_thenOf n_listOf n_breathOf n_heardOf n_readAt n_readThings n_readFollows n_readKind n_readDigit n_readIf n_readThen n_readings n_readingIn n_readingHour n_readingOf n_breathWas n_sheetSize n_sheetLane n_sheet n_hands n_traceNow) := hD
  refine xq_j0_go (X := ∀ (H : Heap) (locs : List Loc) (ls : Array Slot), va_P (dC, dI) vwCl (wm_u cyI cyJ ab (0 : Int32) n_things n_kindOf n_digitOf n_follows n_ifOf n_thenOf n_listOf n_breathOf n_heardOf n_readAt n_readThings n_readFollows n_readKind n_readDigit n_readIf n_readThen n_readings n_readingIn n_readingHour n_readingOf n_breathWas n_sheetSize n_sheetLane n_sheet n_hands n_traceNow) H → va_D A (wm_u cyI cyJ ab (0 : Int32) n_things n_kindOf n_digitOf n_follows n_ifOf n_thenOf n_listOf n_breathOf n_heardOf n_readAt n_readThings n_readFollows n_readKind n_readDigit n_readIf n_readThen n_readings n_readingIn n_readingHour n_readingOf n_breathWas n_sheetSize n_sheetLane n_sheet n_hands n_traceNow) → va_S A s.heap H locs → lv_has ls 4 [] → W p l e (xq_R 2 47) s m args below meth c H locs 0 0 Q (F0 m 24 ls [])) h (fun  h H locs ls hP hD hS hl => ?_) (fun kj_2 h => ?_)
  · refine xq_cl (va_runS (As := []) (rest := []) ⟨hx, hb, hml, hown, hts⟩ (m_X6_lost l dC dI cyI cyJ (wm_u cyI cyJ ab (0 : Int32) n_things n_kindOf n_digitOf n_follows n_ifOf n_thenOf n_listOf n_breathOf n_heardOf n_readAt n_readThings n_readFollows n_readKind n_readDigit n_readIf n_readThen n_readings n_readingIn n_readingHour n_readingOf n_breathWas n_sheetSize n_sheetLane n_sheet n_hands n_traceNow) H.size h) (va_cwS 0 hts gX6_cell_X6_lost rfl rfl rfl (by decide +kernel) ⟨Nat.le_of_ble_eq_true rfl, Nat.le_of_ble_eq_true rfl⟩) (xq_preS hK hP hD hN) rfl rfl hl.1 rfl (lv_room (Nat.le_of_ble_eq_true rfl)) dX6_cell_24 ⟨Nat.le_refl _, Nat.le_refl _⟩) hD hS hA (fun rr_24 uu H locs h hP hD hS => ?_)
    have hP : va_P (dC, dI) vwCl (wm_u cyI cyJ ab (0 : Int32) n_things n_kindOf n_digitOf n_follows n_ifOf n_thenOf n_listOf n_breathOf n_heardOf n_readAt n_readThings n_readFollows n_readKind n_readDigit n_readIf n_readThen n_readings n_readingIn n_readingHour n_readingOf n_breathWas n_sheetSize n_sheetLane n_sheet n_hands n_traceNow) H := hP
    have hD : va_D A (wm_u cyI cyJ ab (0 : Int32) n_things n_kindOf n_digitOf n_follows n_ifOf n_thenOf n_listOf n_breathOf n_heardOf n_readAt n_readThings n_readFollows n_readKind n_readDigit n_readIf n_readThen n_readings n_readingIn n_readingHour n_readingOf n_breathWas n_sheetSize n_sheetLane n_sheet n_hands n_traceNow) := hD
    exact xq_rl hQ hx hb hr hP hK hD hS (0 : Int32) rfl h dX6_cell_27 hlocks
  · refine lv_if_ne (tgt := 24) hx hb dX6_cell_9 (by decide) (fun hc_23 => ?_) (fun hc_23 => ?_)
    · have h := h.1 hc_23
      exact kj_2 h _ _ _ hP hD hS (lv_sub hl [] rfl)
    · have h := h.2 hc_23
      refine lv_iload_n hx hb dX6_cell_12 rfl (lv_at hl 3 rfl) ?_
      refine lv_i2l (v := (Int32.toInt64 a_3)) hx hb dX6_cell_13 rfl ?_
      refine lv_lconst (v := (0 : Int64)) hx hb dX6_cell_14 (by decide) ?_
      refine lv_ldc2 (v := (2 : Int64)) hx hb hown (hts (.constantLong RX6 85 (2)) (by decide +kernel)) dX6_cell_15 ?_
      refine xq_ci (va_runS (As := [.long (Int32.toInt64 a_3), .long (0 : Int64), .long (2 : Int64)]) (rest := []) ⟨hx, hb, hml, hown, hts⟩ (m_X6_in l dC dI cyI cyJ (wm_u cyI cyJ ab (0 : Int32) n_things n_kindOf n_digitOf n_follows n_ifOf n_thenOf n_listOf n_breathOf n_heardOf n_readAt n_readThings n_readFollows n_readKind n_readDigit n_readIf n_readThen n_readings n_readingIn n_readingHour n_readingOf n_breathWas n_sheetSize n_sheetLane n_sheet n_hands n_traceNow) H.size h) (va_cwS 3 hts gX6_cell_X6_in rfl rfl rfl (by decide +kernel) ⟨Nat.le_of_ble_eq_true rfl, Nat.le_of_ble_eq_true rfl⟩) (xq_preS hK hP hD hN) rfl rfl hl.1 rfl (lv_room (Nat.le_of_ble_eq_true rfl)) dX6_cell_18 ⟨Nat.le_refl _, Nat.le_refl _⟩) hD hS hA (fun rr_3 uu H locs h hP hD hS => ?_)
      have hP : va_P (dC, dI) vwCl (wm_u cyI cyJ ab (0 : Int32) n_things n_kindOf n_digitOf n_follows n_ifOf n_thenOf n_listOf n_breathOf n_heardOf n_readAt n_readThings n_readFollows n_readKind n_readDigit n_readIf n_readThen n_readings n_readingIn n_readingHour n_readingOf n_breathWas n_sheetSize n_sheetLane n_sheet n_hands n_traceNow) H := hP
      have hD : va_D A (wm_u cyI cyJ ab (0 : Int32) n_things n_kindOf n_digitOf n_follows n_ifOf n_thenOf n_listOf n_breathOf n_heardOf n_readAt n_readThings n_readFollows n_readKind n_readDigit n_readIf n_readThen n_readings n_readingIn n_readingHour n_readingOf n_breathWas n_sheetSize n_sheetLane n_sheet n_hands n_traceNow) := hD
      refine lv_if_ne (tgt := 28) hx hb dX6_cell_21 (by decide) (fun hc_21 => ?_) (fun hc_21 => ?_)
      · have h := h.1 hc_21
        refine lv_aload_n hx hb dX6_cell_28 rfl (lv_at hl 0 rfl) ?_
        refine va_get (D := (dC, dI)) (ci := 6) (v := .ref (ab 16)) (C := RX6) (T := TX6) (N := 27) hx hb hts hi_X6 hown hK hP 0 rfl rfl 22 (by decide) fl_55 (fun _ h9 => h9) rfl dX6_cell_29 ?_
        refine lv_iload_n hx hb dX6_cell_32 rfl (lv_at hl 1 rfl) ?_
        obtain ⟨hv_4, h⟩ := h
        refine va_iald hx hb hK hP 16 0 rfl rfl hv_4 dX6_cell_33 ?_
        refine xq_j0_go (X := ∀ (H : Heap) (locs : List Loc) (ls : Array Slot), va_P (dC, dI) vwCl (wm_u cyI cyJ ab (0 : Int32) n_things n_kindOf n_digitOf n_follows n_ifOf n_thenOf n_listOf n_breathOf n_heardOf n_readAt n_readThings n_readFollows n_readKind n_readDigit n_readIf n_readThen n_readings n_readingIn n_readingHour n_readingOf n_breathWas n_sheetSize n_sheetLane n_sheet n_hands n_traceNow) H → va_D A (wm_u cyI cyJ ab (0 : Int32) n_things n_kindOf n_digitOf n_follows n_ifOf n_thenOf n_listOf n_breathOf n_heardOf n_readAt n_readThings n_readFollows n_readKind n_readDigit n_readIf n_readThen n_readings n_readingIn n_readingHour n_readingOf n_breathWas n_sheetSize n_sheetLane n_sheet n_hands n_traceNow) → va_S A s.heap H locs → lv_has ls 4 [(0, .ref (ab 0)), (1, .int a_1), (2, .int a_2)] → W p l e (xq_R 2 47) s m args below meth c H locs 0 0 Q (F0 m 53 ls [])) h (fun  h H locs ls hP hD hS hl => ?_) (fun kj_5 h => ?_)
        · refine lv_aload_n hx hb dX6_cell_53 rfl (lv_at hl 0 rfl) ?_
          refine lv_iload_n hx hb dX6_cell_54 rfl (lv_at hl 1 rfl) ?_
          refine lv_iload_n hx hb dX6_cell_55 rfl (lv_at hl 2 rfl) ?_
          refine xq_ci (va_runV (As := [.int a_1, .int a_2]) (rest := []) ⟨hx, hb, hml, hown, hts⟩ (m_X6_noCell l dC dI cyI cyJ ab H.size h) (cwV 2 hts gX6_cell_X6_noCell rfl rfl rfl (by decide +kernel) ⟨Nat.le_of_ble_eq_true rfl, Nat.le_of_ble_eq_true rfl⟩) (xq_preV hK hP hD hN (ci := 6) (q0 := 0) rfl rfl) rfl rfl hl.1 rfl (lv_room (Nat.le_of_ble_eq_true rfl)) dX6_cell_56 ⟨Nat.le_refl _, Nat.le_refl _⟩) hD hS hA (fun rr_12 uu H locs h hP hD hS => ?_)
          have hP : va_P (dC, dI) vwCl (wm_u cyI cyJ ab (0 : Int32) n_things n_kindOf n_digitOf n_follows n_ifOf n_thenOf n_listOf n_breathOf n_heardOf n_readAt n_readThings n_readFollows n_readKind n_readDigit n_readIf n_readThen n_readings n_readingIn n_readingHour n_readingOf n_breathWas n_sheetSize n_sheetLane n_sheet n_hands n_traceNow) H := hP
          have hD : va_D A (wm_u cyI cyJ ab (0 : Int32) n_things n_kindOf n_digitOf n_follows n_ifOf n_thenOf n_listOf n_breathOf n_heardOf n_readAt n_readThings n_readFollows n_readKind n_readDigit n_readIf n_readThen n_readings n_readingIn n_readingHour n_readingOf n_breathWas n_sheetSize n_sheetLane n_sheet n_hands n_traceNow) := hD
          refine lv_if_le (tgt := 75) hx hb dX6_cell_59 (by decide) (fun hc_19 => ?_) (fun hc_19 => ?_)
          · have h := h.1 hc_19
            refine lv_aload_n hx hb dX6_cell_75 rfl (lv_at hl 0 rfl) ?_
            refine va_get (D := (dC, dI)) (ci := 6) (v := .ref (ab 18)) (C := RX6) (T := TX6) (N := 27) hx hb hts hi_X6 hown hK hP 0 rfl rfl 24 (by decide) fl_61 (fun _ h9 => h9) rfl dX6_cell_76 ?_
            refine lv_bipush (v := (60 : Int32)) hx hb dX6_cell_79 (by decide) ?_
            refine lv_iload_n hx hb dX6_cell_81 rfl (lv_at hl 1 rfl) ?_
            refine lv_imul hx hb dX6_cell_82 ?_
            refine lv_iload_n hx hb dX6_cell_83 rfl (lv_at hl 2 rfl) ?_
            refine lv_iadd hx hb dX6_cell_84 ?_
            obtain ⟨hv_13, h⟩ := h
            refine va_iald hx hb hK hP 18 0 rfl rfl hv_13 dX6_cell_85 ?_
            refine lv_i2l (v := (Int32.toInt64 (n_sheet (((60 : Int32) * a_1) + a_2).toNatClampNeg))) hx hb dX6_cell_86 rfl ?_
            exact xq_rl hQ hx hb hr hP hK hD hS (0 : Int32) rfl h dX6_cell_87 hlocks
          · have h := h.2 hc_19
            refine lv_aload_n hx hb dX6_cell_62 rfl (lv_at hl 0 rfl) ?_
            refine lv_aload_n hx hb dX6_cell_63 rfl (lv_at hl 0 rfl) ?_
            refine lv_iload_n hx hb dX6_cell_64 rfl (lv_at hl 1 rfl) ?_
            refine lv_iload_n hx hb dX6_cell_65 rfl (lv_at hl 2 rfl) ?_
            refine xq_ci (va_runV (As := [.int a_1, .int a_2]) (rest := [.ref (ab 0)]) ⟨hx, hb, hml, hown, hts⟩ (m_X6_noCell l dC dI cyI cyJ ab H.size h) (cwV 2 hts gX6_cell_X6_noCell rfl rfl rfl (by decide +kernel) ⟨Nat.le_of_ble_eq_true rfl, Nat.le_of_ble_eq_true rfl⟩) (xq_preV hK hP hD hN (ci := 6) (q0 := 0) rfl rfl) rfl rfl hl.1 rfl (lv_room (Nat.le_of_ble_eq_true rfl)) dX6_cell_66 ⟨Nat.le_refl _, Nat.le_refl _⟩) hD hS hA (fun rr_14 uu H locs h hP hD hS => ?_)
            have hP : va_P (dC, dI) vwCl (wm_u cyI cyJ ab (0 : Int32) n_things n_kindOf n_digitOf n_follows n_ifOf n_thenOf n_listOf n_breathOf n_heardOf n_readAt n_readThings n_readFollows n_readKind n_readDigit n_readIf n_readThen n_readings n_readingIn n_readingHour n_readingOf n_breathWas n_sheetSize n_sheetLane n_sheet n_hands n_traceNow) H := hP
            have hD : va_D A (wm_u cyI cyJ ab (0 : Int32) n_things n_kindOf n_digitOf n_follows n_ifOf n_thenOf n_listOf n_breathOf n_heardOf n_readAt n_readThings n_readFollows n_readKind n_readDigit n_readIf n_readThen n_readings n_readingIn n_readingHour n_readingOf n_breathWas n_sheetSize n_sheetLane n_sheet n_hands n_traceNow) := hD
            refine xq_cl (va_runV (As := [.int rr_14]) (rest := []) ⟨hx, hb, hml, hown, hts⟩ (m_X6_failedLong l dC dI cyI cyJ ab H.size h) (cwV 1 hts gX6_cell_X6_failedLong rfl rfl rfl (by decide +kernel) ⟨Nat.le_of_ble_eq_true rfl, Nat.le_of_ble_eq_true rfl⟩) (xq_preV hK hP hD hN (ci := 6) (q0 := 0) rfl rfl) rfl rfl hl.1 rfl (lv_room (Nat.le_of_ble_eq_true rfl)) dX6_cell_69 ⟨Nat.le_refl _, Nat.le_refl _⟩) hD hS hA (fun rr_15 uu H locs h hP hD hS => ?_)
            obtain ⟨cc_16, rfl⟩ : ∃ z, z = uu := ⟨_, rfl⟩
            have hP : va_P (dC, dI) vwCl (wm_u cyI cyJ ab cc_16 n_things n_kindOf n_digitOf n_follows n_ifOf n_thenOf n_listOf n_breathOf n_heardOf n_readAt n_readThings n_readFollows n_readKind n_readDigit n_readIf n_readThen n_readings n_readingIn n_readingHour n_readingOf n_breathWas n_sheetSize n_sheetLane n_sheet n_hands n_traceNow) H := hP
            have hD : va_D A (wm_u cyI cyJ ab cc_16 n_things n_kindOf n_digitOf n_follows n_ifOf n_thenOf n_listOf n_breathOf n_heardOf n_readAt n_readThings n_readFollows n_readKind n_readDigit n_readIf n_readThen n_readings n_readingIn n_readingHour n_readingOf n_breathWas n_sheetSize n_sheetLane n_sheet n_hands n_traceNow) := hD
            refine lv_goto (tgt := 87) hx hb dX6_cell_72 (by decide) ?_
            exact xq_rl hQ hx hb hr hP hK hD hS cc_16 rfl h dX6_cell_87 hlocks
        · refine lv_if_lt (tgt := 53) hx hb dX6_cell_34 (by decide) (fun hc_11 => ?_) (fun hc_11 => ?_)
          · have h := h.1 hc_11
            exact kj_5 h _ _ _ hP hD hS (lv_sub hl [0, 1, 2] rfl)
          · have h := h.2 hc_11
            refine lv_aload_n hx hb dX6_cell_37 rfl (lv_at hl 0 rfl) ?_
            refine va_get (D := (dC, dI)) (ci := 6) (v := .ref (ab 17)) (C := RX6) (T := TX6) (N := 27) hx hb hts hi_X6 hown hK hP 0 rfl rfl 23 (by decide) fl_58 (fun _ h9 => h9) rfl dX6_cell_38 ?_
            refine lv_iload_n hx hb dX6_cell_41 rfl (lv_at hl 1 rfl) ?_
            obtain ⟨hv_6, h⟩ := h
            refine va_iald hx hb hK hP 17 0 rfl rfl hv_6 dX6_cell_42 ?_
            refine lv_iload_n hx hb dX6_cell_43 rfl (lv_at hl 3 rfl) ?_
            refine lv_icmp_eq (tgt := 53) hx hb dX6_cell_44 (by decide) (fun hc_10 => ?_) (fun hc_10 => ?_)
            · have h := h.1 hc_10
              exact kj_5 h _ _ _ hP hD hS (lv_sub hl [0, 1, 2] rfl)
            · have h := h.2 hc_10
              refine lv_aload_n hx hb dX6_cell_47 rfl (lv_at hl 0 rfl) ?_
              refine lv_iconst (v := (2 : Int32)) hx hb dX6_cell_48 (by decide) ?_
              refine xq_cl (va_runV (As := [.int (2 : Int32)]) (rest := []) ⟨hx, hb, hml, hown, hts⟩ (m_X6_failedLong l dC dI cyI cyJ ab H.size h) (cwV 1 hts gX6_cell_X6_failedLong rfl rfl rfl (by decide +kernel) ⟨Nat.le_of_ble_eq_true rfl, Nat.le_of_ble_eq_true rfl⟩) (xq_preV hK hP hD hN (ci := 6) (q0 := 0) rfl rfl) rfl rfl hl.1 rfl (lv_room (Nat.le_of_ble_eq_true rfl)) dX6_cell_49 ⟨Nat.le_refl _, Nat.le_refl _⟩) hD hS hA (fun rr_7 uu H locs h hP hD hS => ?_)
              obtain ⟨cc_8, rfl⟩ : ∃ z, z = uu := ⟨_, rfl⟩
              have hP : va_P (dC, dI) vwCl (wm_u cyI cyJ ab cc_8 n_things n_kindOf n_digitOf n_follows n_ifOf n_thenOf n_listOf n_breathOf n_heardOf n_readAt n_readThings n_readFollows n_readKind n_readDigit n_readIf n_readThen n_readings n_readingIn n_readingHour n_readingOf n_breathWas n_sheetSize n_sheetLane n_sheet n_hands n_traceNow) H := hP
              have hD : va_D A (wm_u cyI cyJ ab cc_8 n_things n_kindOf n_digitOf n_follows n_ifOf n_thenOf n_listOf n_breathOf n_heardOf n_readAt n_readThings n_readFollows n_readKind n_readDigit n_readIf n_readThen n_readings n_readingIn n_readingHour n_readingOf n_breathWas n_sheetSize n_sheetLane n_sheet n_hands n_traceNow) := hD
              exact xq_rl hQ hx hb hr hP hK hD hS cc_8 rfl h dX6_cell_52 hlocks
      · have h := h.2 hc_21
        exact kj_2 h _ _ _ hP hD hS (lv_sub hl [] rfl)
def w_X6_isThought_L8 (a_1 : Int32) (n_things : Int32) (n_kindOf : Nat → Int32) (n_follows : Int32) (n_ifOf : Nat → Int32) (n_thenOf : Nat → Int32) (n_listOf : Nat → Int32) (n_breathOf : Nat → Int32) (n_heardOf : Nat → Int32) (post : Int32 → Prop) (kk : Int32 → Prop) : Nat → Int32 → Int32 → Prop
  | 0, _, _ => False
  | f_8 + 1, a_2, a_3 => ((6 : Int32) ≤ a_3 → (kk a_2)) ∧ (¬ (6 : Int32) ≤ a_3 → ((a_2 = 0 → (kk a_2)) ∧ (¬ a_2 = 0 → ((vp_in a_3 6) ∧ (((n_heardOf a_3.toNatClampNeg) < 0 → (w_X6_isThought_L8 a_1 n_things n_kindOf n_follows n_ifOf n_thenOf n_listOf n_breathOf n_heardOf post kk f_8 (1 : Int32) (a_3 + (1 : Int32)))) ∧ (¬ (n_heardOf a_3.toNatClampNeg) < 0 → (w_X6_calledIn n_things n_kindOf n_listOf n_breathOf a_1 a_3 (fun (rr_3 : Int32) => (vp_in a_3 6) ∧ ((¬ rr_3 = (n_heardOf a_3.toNatClampNeg) → (w_X6_isThought_L8 a_1 n_things n_kindOf n_follows n_ifOf n_thenOf n_listOf n_breathOf n_heardOf post kk f_8 (0 : Int32) (a_3 + (1 : Int32)))) ∧ (rr_3 = (n_heardOf a_3.toNatClampNeg) → (w_X6_isThought_L8 a_1 n_things n_kindOf n_follows n_ifOf n_thenOf n_listOf n_breathOf n_heardOf post kk f_8 (1 : Int32) (a_3 + (1 : Int32)))))))))))))
def w_X6_isThought (n_things : Int32) (n_kindOf : Nat → Int32) (n_follows : Int32) (n_ifOf : Nat → Int32) (n_thenOf : Nat → Int32) (n_listOf : Nat → Int32) (n_breathOf : Nat → Int32) (n_heardOf : Nat → Int32) (a_1 : Int32) (post : Int32 → Prop) : Prop := w_X6_isCase n_things n_follows n_ifOf n_thenOf a_1 (fun (rr_1 : Int32) => ∃ e_8, w_X6_isThought_L8 a_1 n_things n_kindOf n_follows n_ifOf n_thenOf n_listOf n_breathOf n_heardOf post (fun (xx_12 : Int32) => xq_z xx_12 ∧ post xx_12) e_8 rr_1 (0 : Int32))
set_option maxHeartbeats 4000000 in
set_option maxRecDepth 100000 in
theorem m_X6_isThought (l : Launch) (dC : Nat → ClassId) (dI : Nat → Nat → Nat) (cyI cyJ : ClassId) (ab : Nat → Nat) (sz : Nat) {n_fault : Int32} {n_things : Int32} {n_kindOf : Nat → Int32} {n_digitOf : Nat → Int32} {n_follows : Int32} {n_ifOf : Nat → Int32} {n_thenOf : Nat → Int32} {n_listOf : Nat → Int32} {n_breathOf : Nat → Int32} {n_heardOf : Nat → Int32} {n_readAt : Int32} {n_readThings : Int32} {n_readFollows : Int32} {n_readKind : Nat → Int32} {n_readDigit : Nat → Int32} {n_readIf : Nat → Int32} {n_readThen : Nat → Int32} {n_readings : Int32} {n_readingIn : Nat → Int32} {n_readingHour : Nat → Int32} {n_readingOf : Nat → Int32} {n_breathWas : Nat → Int32} {n_sheetSize : Nat → Int32} {n_sheetLane : Nat → Int32} {n_sheet : Nat → Int32} {n_hands : Nat → Int32} {n_traceNow : Int32} {a_1 : Int32} {post : Int32 → Prop} (h : w_X6_isThought n_things n_kindOf n_follows n_ifOf n_thenOf n_listOf n_breathOf n_heardOf a_1 post) : Met l yX6_isThought wsX6_isThought (xq_R 3 72) (va_Pc [.ref (ab 0), .int a_1] (xq_P (dC, dI) [(cyI, .int), (cyJ, .long)] (wm_u cyI cyJ ab n_fault n_things n_kindOf n_digitOf n_follows n_ifOf n_thenOf n_listOf n_breathOf n_heardOf n_readAt n_readThings n_readFollows n_readKind n_readDigit n_readIf n_readThen n_readings n_readingIn n_readingHour n_readingOf n_breathWas n_sheetSize n_sheetLane n_sheet n_hands n_traceNow) sz)) (va_Qi (fun (rr : Int32) (uu : Unit) => post rr ) (fun (uu : Unit) => xq_B (dC, dI) [(cyI, .int), (cyJ, .long)] (va_A (wm_u cyI cyJ ab n_fault n_things n_kindOf n_digitOf n_follows n_ifOf n_thenOf n_listOf n_breathOf n_heardOf n_readAt n_readThings n_readFollows n_readKind n_readDigit n_readIf n_readThen n_readings n_readingIn n_readingHour n_readingOf n_breathWas n_sheetSize n_sheetLane n_sheet n_hands n_traceNow) sz) (wm_u cyI cyJ ab n_fault n_things n_kindOf n_digitOf n_follows n_ifOf n_thenOf n_listOf n_breathOf n_heardOf n_readAt n_readThings n_readFollows n_readKind n_readDigit n_readIf n_readThen n_readings n_readingIn n_readingHour n_readingOf n_breathWas n_sheetSize n_sheetLane n_sheet n_hands n_traceNow)) (va_A (wm_u cyI cyJ ab n_fault n_things n_kindOf n_digitOf n_follows n_ifOf n_thenOf n_listOf n_breathOf n_heardOf n_readAt n_readThings n_readFollows n_readKind n_readDigit n_readIf n_readThen n_readings n_readingIn n_readingHour n_readingOf n_breathWas n_sheetSize n_sheetLane n_sheet n_hands n_traceNow) sz)) 0 0 (va_A (wm_u cyI cyJ ab n_fault n_things n_kindOf n_digitOf n_follows n_ifOf n_thenOf n_listOf n_breathOf n_heardOf n_readAt n_readThings n_readFollows n_readKind n_readDigit n_readIf n_readThen n_readings n_readingIn n_readingHour n_readingOf n_breathWas n_sheetSize n_sheetLane n_sheet n_hands n_traceNow) sz) := by
  refine xq_M (cc := cX6_isThought) (maxL := 4) (ret := (some .boolean)) (QA := fun A => va_Qi (fun (rr : Int32) (uu : Unit) => post rr ) (fun (uu : Unit) => xq_B (dC, dI) [(cyI, .int), (cyJ, .long)] A (wm_u cyI cyJ ab n_fault n_things n_kindOf n_digitOf n_follows n_ifOf n_thenOf n_listOf n_breathOf n_heardOf n_readAt n_readThings n_readFollows n_readKind n_readDigit n_readIf n_readThen n_readings n_readingIn n_readingHour n_readingOf n_breathWas n_sheetSize n_sheetLane n_sheet n_hands n_traceNow)) A) (by decide) rfl (Nat.le_of_ble_eq_true rfl) ?_
  intro p e s m args below meth c A ls Q hQ hx hb hr hml hts hown hlocks hsz hP hK hD hA hS hN hl
  subst hsz
  have hl : lv_has ls 4 [(0, .ref (ab 0)), (1, .int a_1)] := hl
  have hi_X6 : ∀ w ∈ wsX60, w ∈ wsX6_isThought := fun _ h => List.mem_cons_of_mem _ (List.mem_append_right _ h)
  have fl_28 := hts (.fieldLink RX6 28 "UnsaidCallsModel" "heardOf" "[I") (by decide +kernel)
  unfold w_X6_isThought at h
  refine lv_aload_n hx hb dX6_isThought_0 rfl (lv_at hl 0 rfl) ?_
  refine lv_iload_n hx hb dX6_isThought_1 rfl (lv_at hl 1 rfl) ?_
  refine xq_ci (va_runV (As := [.int a_1]) (rest := []) ⟨hx, hb, hml, hown, hts⟩ (m_X6_isCase l dC dI cyI cyJ ab s.heap.size h) (cwV 1 hts gX6_isThought_X6_isCase rfl rfl rfl (by decide +kernel) ⟨Nat.le_of_ble_eq_true rfl, Nat.le_of_ble_eq_true rfl⟩) (xq_preV hK hP hD hN (ci := 6) (q0 := 0) rfl rfl) rfl rfl hl.1 rfl (lv_room (Nat.le_of_ble_eq_true rfl)) dX6_isThought_2 ⟨Nat.le_refl _, Nat.le_refl _⟩) hD hS hA (fun rr_1 uu H locs h hP hD hS => ?_)
  have hP : va_P (dC, dI) vwCl (wm_u cyI cyJ ab n_fault n_things n_kindOf n_digitOf n_follows n_ifOf n_thenOf n_listOf n_breathOf n_heardOf n_readAt n_readThings n_readFollows n_readKind n_readDigit n_readIf n_readThen n_readings n_readingIn n_readingHour n_readingOf n_breathWas n_sheetSize n_sheetLane n_sheet n_hands n_traceNow) H := hP
  have hD : va_D A (wm_u cyI cyJ ab n_fault n_things n_kindOf n_digitOf n_follows n_ifOf n_thenOf n_listOf n_breathOf n_heardOf n_readAt n_readThings n_readFollows n_readKind n_readDigit n_readIf n_readThen n_readings n_readingIn n_readingHour n_readingOf n_breathWas n_sheetSize n_sheetLane n_sheet n_hands n_traceNow) := hD
  refine lv_istore_n (lv' := [(2, .int rr_1), (0, .ref (ab 0)), (1, .int a_1)]) hx hb dX6_isThought_5 rfl hl (by decide) rfl (fun ls hl => ?_)
  refine lv_iconst (v := (0 : Int32)) hx hb dX6_isThought_6 (by decide) ?_
  refine lv_istore_n (lv' := [(3, .int (0 : Int32)), (2, .int rr_1), (0, .ref (ab 0)), (1, .int a_1)]) hx hb dX6_isThought_7 rfl hl (by decide) rfl (fun ls hl => ?_)
  obtain ⟨ni, h⟩ := h
  have lp_8 : ∀ (kk : Int32 → Prop), (∀ (xx_12 : Int32) (H : Heap) (locs : List Loc) (ls : Array Slot), va_P (dC, dI) vwCl (wm_u cyI cyJ ab n_fault n_things n_kindOf n_digitOf n_follows n_ifOf n_thenOf n_listOf n_breathOf n_heardOf n_readAt n_readThings n_readFollows n_readKind n_readDigit n_readIf n_readThen n_readings n_readingIn n_readingHour n_readingOf n_breathWas n_sheetSize n_sheetLane n_sheet n_hands n_traceNow) H → va_D A (wm_u cyI cyJ ab n_fault n_things n_kindOf n_digitOf n_follows n_ifOf n_thenOf n_listOf n_breathOf n_heardOf n_readAt n_readThings n_readFollows n_readKind n_readDigit n_readIf n_readThen n_readings n_readingIn n_readingHour n_readingOf n_breathWas n_sheetSize n_sheetLane n_sheet n_hands n_traceNow) → va_S A s.heap H locs → lv_has ls 4 [(2, .int xx_12)] → kk xx_12 → W p l e (xq_R 3 72) s m args below meth c H locs 0 0 Q (F0 m 54 ls [])) → ∀ (ni : Nat) (aa_10 : Int32) (aa_11 : Int32) (H : Heap) (locs : List Loc) (ls : Array Slot), va_P (dC, dI) vwCl (wm_u cyI cyJ ab n_fault n_things n_kindOf n_digitOf n_follows n_ifOf n_thenOf n_listOf n_breathOf n_heardOf n_readAt n_readThings n_readFollows n_readKind n_readDigit n_readIf n_readThen n_readings n_readingIn n_readingHour n_readingOf n_breathWas n_sheetSize n_sheetLane n_sheet n_hands n_traceNow) H → va_D A (wm_u cyI cyJ ab n_fault n_things n_kindOf n_digitOf n_follows n_ifOf n_thenOf n_listOf n_breathOf n_heardOf n_readAt n_readThings n_readFollows n_readKind n_readDigit n_readIf n_readThen n_readings n_readingIn n_readingHour n_readingOf n_breathWas n_sheetSize n_sheetLane n_sheet n_hands n_traceNow) → va_S A s.heap H locs → lv_has ls 4 [(0, .ref (ab 0)), (1, .int a_1), (2, .int aa_10), (3, .int aa_11)] → w_X6_isThought_L8 a_1 n_things n_kindOf n_follows n_ifOf n_thenOf n_listOf n_breathOf n_heardOf post kk ni aa_10 aa_11 → W p l e (xq_R 3 72) s m args below meth c H locs 0 0 Q (F0 m 8 ls []) := by
    intro kk kx ni
    induction ni with
    | zero => intros; exact False.elim (by assumption)
    | succ ni ih =>
      intro aa_10 aa_11 H locs ls hP hD hS hl h
      rw [w_X6_isThought_L8] at h
      refine lv_iload_n hx hb dX6_isThought_8 rfl (lv_at hl 3 rfl) ?_
      refine lv_bipush (v := (6 : Int32)) hx hb dX6_isThought_9 (by decide) ?_
      refine lv_icmp_ge (tgt := 54) hx hb dX6_isThought_11 (by decide) (fun hc_21 => ?_) (fun hc_21 => ?_)
      · have h := h.1 hc_21
        exact kx aa_10 _ _ _ hP hD hS (lv_sub hl [2] rfl) h
      · have h := h.2 hc_21
        refine lv_iload_n hx hb dX6_isThought_14 rfl (lv_at hl 2 rfl) ?_
        refine lv_if_eq (tgt := 54) hx hb dX6_isThought_15 (by decide) (fun hc_20 => ?_) (fun hc_20 => ?_)
        · have h := h.1 hc_20
          exact kx aa_10 _ _ _ hP hD hS (lv_sub hl [2] rfl) h
        · have h := h.2 hc_20
          refine lv_aload_n hx hb dX6_isThought_18 rfl (lv_at hl 0 rfl) ?_
          refine va_get (D := (dC, dI)) (ci := 6) (v := .ref (ab 7)) (C := RX6) (T := TX6) (N := 27) hx hb hts hi_X6 hown hK hP 0 rfl rfl 9 (by decide) fl_28 (fun _ h9 => h9) rfl dX6_isThought_19 ?_
          refine lv_iload_n hx hb dX6_isThought_22 rfl (lv_at hl 3 rfl) ?_
          obtain ⟨hv_14, h⟩ := h
          refine va_iald hx hb hK hP 7 0 rfl rfl hv_14 dX6_isThought_23 ?_
          refine lv_if_lt (tgt := 42) hx hb dX6_isThought_24 (by decide) (fun hc_19 => ?_) (fun hc_19 => ?_)
          · have h := h.1 hc_19
            refine lv_iconst (v := (1 : Int32)) hx hb dX6_isThought_42 (by decide) ?_
            refine lv_goto (tgt := 47) hx hb dX6_isThought_43 (by decide) ?_
            refine lv_istore_n (lv' := [(2, .int (1 : Int32)), (0, .ref (ab 0)), (1, .int a_1), (3, .int aa_11)]) hx hb dX6_isThought_47 rfl hl (by decide) rfl (fun ls hl => ?_)
            refine lv_iinc (v := (aa_11 + (1 : Int32))) (lv' := [(3, .int (aa_11 + (1 : Int32))), (2, .int (1 : Int32)), (0, .ref (ab 0)), (1, .int a_1)]) hx hb dX6_isThought_48 hl (k := 3) rfl rfl (by decide) rfl (fun ls hl => ?_)
            refine lv_goto (tgt := 8) hx hb dX6_isThought_51 (by decide) ?_
            exact ih (1 : Int32) (aa_11 + (1 : Int32)) _ _ _ hP hD hS (lv_sub hl [2, 3, 1, 0] rfl) h
          · have h := h.2 hc_19
            refine lv_aload_n hx hb dX6_isThought_27 rfl (lv_at hl 0 rfl) ?_
            refine lv_iload_n hx hb dX6_isThought_28 rfl (lv_at hl 1 rfl) ?_
            refine lv_iload_n hx hb dX6_isThought_29 rfl (lv_at hl 3 rfl) ?_
            refine xq_ci (va_runV (As := [.int a_1, .int aa_11]) (rest := []) ⟨hx, hb, hml, hown, hts⟩ (m_X6_calledIn l dC dI cyI cyJ ab H.size h) (cwV 2 hts gX6_isThought_X6_calledIn rfl rfl rfl (by decide +kernel) ⟨Nat.le_of_ble_eq_true rfl, Nat.le_of_ble_eq_true rfl⟩) (xq_preV hK hP hD hN (ci := 6) (q0 := 0) rfl rfl) rfl rfl hl.1 rfl (lv_room (Nat.le_of_ble_eq_true rfl)) dX6_isThought_30 ⟨Nat.le_refl _, Nat.le_refl _⟩) hD hS hA (fun rr_15 uu H locs h hP hD hS => ?_)
            have hP : va_P (dC, dI) vwCl (wm_u cyI cyJ ab n_fault n_things n_kindOf n_digitOf n_follows n_ifOf n_thenOf n_listOf n_breathOf n_heardOf n_readAt n_readThings n_readFollows n_readKind n_readDigit n_readIf n_readThen n_readings n_readingIn n_readingHour n_readingOf n_breathWas n_sheetSize n_sheetLane n_sheet n_hands n_traceNow) H := hP
            have hD : va_D A (wm_u cyI cyJ ab n_fault n_things n_kindOf n_digitOf n_follows n_ifOf n_thenOf n_listOf n_breathOf n_heardOf n_readAt n_readThings n_readFollows n_readKind n_readDigit n_readIf n_readThen n_readings n_readingIn n_readingHour n_readingOf n_breathWas n_sheetSize n_sheetLane n_sheet n_hands n_traceNow) := hD
            refine lv_aload_n hx hb dX6_isThought_33 rfl (lv_at hl 0 rfl) ?_
            refine va_get (D := (dC, dI)) (ci := 6) (v := .ref (ab 7)) (C := RX6) (T := TX6) (N := 27) hx hb hts hi_X6 hown hK hP 0 rfl rfl 9 (by decide) fl_28 (fun _ h9 => h9) rfl dX6_isThought_34 ?_
            refine lv_iload_n hx hb dX6_isThought_37 rfl (lv_at hl 3 rfl) ?_
            obtain ⟨hv_16, h⟩ := h
            refine va_iald hx hb hK hP 7 0 rfl rfl hv_16 dX6_isThought_38 ?_
            refine lv_icmp_ne (tgt := 46) hx hb dX6_isThought_39 (by decide) (fun hc_17 => ?_) (fun hc_17 => ?_)
            · have h := h.1 hc_17
              refine lv_iconst (v := (0 : Int32)) hx hb dX6_isThought_46 (by decide) ?_
              refine lv_istore_n (lv' := [(2, .int (0 : Int32)), (0, .ref (ab 0)), (1, .int a_1), (3, .int aa_11)]) hx hb dX6_isThought_47 rfl hl (by decide) rfl (fun ls hl => ?_)
              refine lv_iinc (v := (aa_11 + (1 : Int32))) (lv' := [(3, .int (aa_11 + (1 : Int32))), (2, .int (0 : Int32)), (0, .ref (ab 0)), (1, .int a_1)]) hx hb dX6_isThought_48 hl (k := 3) rfl rfl (by decide) rfl (fun ls hl => ?_)
              refine lv_goto (tgt := 8) hx hb dX6_isThought_51 (by decide) ?_
              exact ih (0 : Int32) (aa_11 + (1 : Int32)) _ _ _ hP hD hS (lv_sub hl [2, 3, 1, 0] rfl) h
            · have h := h.2 hc_17
              refine lv_iconst (v := (1 : Int32)) hx hb dX6_isThought_42 (by decide) ?_
              refine lv_goto (tgt := 47) hx hb dX6_isThought_43 (by decide) ?_
              refine lv_istore_n (lv' := [(2, .int (1 : Int32)), (0, .ref (ab 0)), (1, .int a_1), (3, .int aa_11)]) hx hb dX6_isThought_47 rfl hl (by decide) rfl (fun ls hl => ?_)
              refine lv_iinc (v := (aa_11 + (1 : Int32))) (lv' := [(3, .int (aa_11 + (1 : Int32))), (2, .int (1 : Int32)), (0, .ref (ab 0)), (1, .int a_1)]) hx hb dX6_isThought_48 hl (k := 3) rfl rfl (by decide) rfl (fun ls hl => ?_)
              refine lv_goto (tgt := 8) hx hb dX6_isThought_51 (by decide) ?_
              exact ih (1 : Int32) (aa_11 + (1 : Int32)) _ _ _ hP hD hS (lv_sub hl [2, 3, 1, 0] rfl) h
  refine lp_8 _ (fun xx_12 H locs ls hP hD hS hl h => ?_) ni rr_1 (0 : Int32) _ _ _ hP hD hS (lv_sub hl [2, 3, 1, 0] rfl) h
  refine lv_iload_n hx hb dX6_isThought_54 rfl (lv_at hl 0 rfl) ?_
  obtain ⟨hv_13, h⟩ := h
  exact xq_rz hQ hx hb hr hv_13 hP hK hD hS () rfl h dX6_isThought_55 hlocks
def w_X6_told_L6 (a_0 : Int64) (a_2 : Int64) (a_4 : Int32)  (post : Int64 → Prop) (kk : Int64 → Prop) : Nat → Int64 → Int64 → Prop
  | 0, _, _ => False
  | f_6 + 1, a_5, a_7 => ((lg_cmp a_7 (0 : Int64)) = 0 → (kk a_5)) ∧ (¬ (lg_cmp a_7 (0 : Int64)) = 0 → ((¬ a_7 = 0) ∧ (w_X6_told_L6 a_0 a_2 a_4 post kk f_6 a_7 (a_5 - a_5 / a_7 * a_7))))
def w_X6_told (a_0 : Int64) (a_2 : Int64) (a_4 : Int32) (post : Int64 → Prop) : Prop := ∃ e_6, w_X6_told_L6 a_0 a_2 a_4 post (fun (xx_5 : Int64) => (¬ a_4 = 0 → ((¬ xx_5 = 0) ∧ (post (a_2 / xx_5)))) ∧ (a_4 = 0 → ((¬ xx_5 = 0) ∧ (post (a_0 / xx_5))))) e_6 a_0 a_2
set_option maxHeartbeats 4000000 in
set_option maxRecDepth 100000 in
theorem m_X6_told (l : Launch) (dC : Nat → ClassId) (dI : Nat → Nat → Nat) (cyI cyJ : ClassId) (ww : va_W) (sz : Nat) {a_0 : Int64} {a_2 : Int64} {a_4 : Int32} {post : Int64 → Prop} (h : w_X6_told a_0 a_2 a_4 post) : Met l yX6_told wsX6_told (xq_R 0 0) (va_Pc [.long a_0, .long a_2, .int a_4] (xq_P (dC, dI) [(cyI, .int), (cyJ, .long)] ww sz)) (va_Ql (fun (rr : Int64) (uu : Unit) => post rr ) (fun (uu : Unit) => xq_B (dC, dI) [(cyI, .int), (cyJ, .long)] (va_A ww sz) ww) (va_A ww sz)) 0 0 (va_A ww sz) := by
  refine xq_M (cc := cX6_told) (maxL := 11) (ret := (some .long)) (QA := fun A => va_Ql (fun (rr : Int64) (uu : Unit) => post rr ) (fun (uu : Unit) => xq_B (dC, dI) [(cyI, .int), (cyJ, .long)] A ww) A) (by decide) rfl (Nat.le_of_ble_eq_true rfl) ?_
  intro p e s m args below meth c A ls Q hQ hx hb hr hml hts hown hlocks hsz hP hK hD hA hS hN hl
  subst hsz
  have hl : lv_has ls 11 [(0, .long a_0), (2, .long a_2), (4, .int a_4)] := hl
  unfold w_X6_told at h
  refine lv_lload_n hx hb dX6_told_0 rfl (lv_at hl 0 rfl) ?_
  refine lv_lstore (lv' := [(5, .long a_0), (0, .long a_0), (2, .long a_2), (4, .int a_4)]) hx hb dX6_told_1 hl (by decide) rfl (fun ls hl => ?_)
  refine lv_lload_n hx hb dX6_told_3 rfl (lv_at hl 2 rfl) ?_
  refine lv_lstore (lv' := [(7, .long a_2), (5, .long a_0), (0, .long a_0), (2, .long a_2), (4, .int a_4)]) hx hb dX6_told_4 hl (by decide) rfl (fun ls hl => ?_)
  obtain ⟨ni, h⟩ := h
  have lp_6 : ∀ (kk : Int64 → Prop), (∀ (xx_5 : Int64) (H : Heap) (locs : List Loc) (ls : Array Slot), va_P (dC, dI) vwCl ww H → va_D A ww → va_S A s.heap H locs → lv_has ls 11 [(0, .long a_0), (2, .long a_2), (4, .int a_4), (5, .long xx_5)] → kk xx_5 → W p l e (xq_R 0 0) s m args below meth c H locs 0 0 Q (F0 m 31 ls [])) → ∀ (ni : Nat) (aa_3 : Int64) (aa_4 : Int64) (H : Heap) (locs : List Loc) (ls : Array Slot), va_P (dC, dI) vwCl ww H → va_D A ww → va_S A s.heap H locs → lv_has ls 11 [(0, .long a_0), (2, .long a_2), (4, .int a_4), (5, .long aa_3), (7, .long aa_4)] → w_X6_told_L6 a_0 a_2 a_4 post kk ni aa_3 aa_4 → W p l e (xq_R 0 0) s m args below meth c H locs 0 0 Q (F0 m 6 ls []) := by
    intro kk kx ni
    induction ni with
    | zero => intros; exact False.elim (by assumption)
    | succ ni ih =>
      intro aa_3 aa_4 H locs ls hP hD hS hl h
      rw [w_X6_told_L6] at h
      refine lv_lload hx hb dX6_told_6 (lv_at hl 4 rfl) ?_
      refine lv_lconst (v := (0 : Int64)) hx hb dX6_told_8 (by decide) ?_
      refine W.lcmp hx hb dX6_told_9 ?_
      refine lv_if_eq (tgt := 31) hx hb dX6_told_10 (by decide) (fun hc_10 => ?_) (fun hc_10 => ?_)
      · have h := h.1 hc_10
        exact kx aa_3 _ _ _ hP hD hS (lv_sub hl [0, 1, 2, 3] rfl) h
      · have h := h.2 hc_10
        refine lv_lload hx hb dX6_told_13 (lv_at hl 3 rfl) ?_
        refine lv_lload hx hb dX6_told_15 (lv_at hl 4 rfl) ?_
        obtain ⟨hv_9, h⟩ := h
        refine lv_lrem hx hb dX6_told_17 hv_9 ?_
        refine lv_lstore (lv' := [(9, .long (aa_3 - aa_3 / aa_4 * aa_4)), (0, .long a_0), (2, .long a_2), (4, .int a_4), (5, .long aa_3), (7, .long aa_4)]) hx hb dX6_told_18 hl (by decide) rfl (fun ls hl => ?_)
        refine lv_lload hx hb dX6_told_20 (lv_at hl 5 rfl) ?_
        refine lv_lstore (lv' := [(5, .long aa_4), (9, .long (aa_3 - aa_3 / aa_4 * aa_4)), (0, .long a_0), (2, .long a_2), (4, .int a_4), (7, .long aa_4)]) hx hb dX6_told_22 hl (by decide) rfl (fun ls hl => ?_)
        refine lv_lload hx hb dX6_told_24 (lv_at hl 1 rfl) ?_
        refine lv_lstore (lv' := [(7, .long (aa_3 - aa_3 / aa_4 * aa_4)), (5, .long aa_4), (9, .long (aa_3 - aa_3 / aa_4 * aa_4)), (0, .long a_0), (2, .long a_2), (4, .int a_4)]) hx hb dX6_told_26 hl (by decide) rfl (fun ls hl => ?_)
        refine lv_goto (tgt := 6) hx hb dX6_told_28 (by decide) ?_
        exact ih aa_4 (aa_3 - aa_3 / aa_4 * aa_4) _ _ _ hP hD hS (lv_sub hl [3, 4, 5, 1, 0] rfl) h
  refine lp_6 _ (fun xx_5 H locs ls hP hD hS hl h => ?_) ni a_0 a_2 _ _ _ hP hD hS (lv_sub hl [2, 3, 4, 1, 0] rfl) h
  refine lv_iload hx hb dX6_told_31 (lv_at hl 2 rfl) ?_
  refine lv_if_ne (tgt := 40) hx hb dX6_told_33 (by decide) (fun hc_8 => ?_) (fun hc_8 => ?_)
  · have h := h.1 hc_8
    refine lv_lload_n hx hb dX6_told_40 rfl (lv_at hl 1 rfl) ?_
    refine lv_lload hx hb dX6_told_41 (lv_at hl 3 rfl) ?_
    obtain ⟨hv_6, h⟩ := h
    refine lv_ldiv hx hb dX6_told_43 hv_6 ?_
    exact xq_rl hQ hx hb hr hP hK hD hS () rfl h dX6_told_44 hlocks
  · have h := h.2 hc_8
    refine lv_lload_n hx hb dX6_told_36 rfl (lv_at hl 0 rfl) ?_
    refine lv_goto (tgt := 41) hx hb dX6_told_37 (by decide) ?_
    refine lv_lload hx hb dX6_told_41 (lv_at hl 3 rfl) ?_
    obtain ⟨hv_7, h⟩ := h
    refine lv_ldiv hx hb dX6_told_43 hv_7 ?_
    exact xq_rl hQ hx hb hr hP hK hD hS () rfl h dX6_told_44 hlocks
def w_X6_weightOf_L4 (a_1 : Int32) (n_things : Int32) (n_digitOf : Nat → Int32) (post : Int32 → Prop) (kk : Int32 → Prop) : Nat → Int32 → Int32 → Prop
  | 0, _, _ => False
  | f_4 + 1, a_2, a_3 => (n_things ≤ a_3 → (kk a_2)) ∧ (¬ n_things ≤ a_3 → (w_X6_isIn a_1 a_3 (fun (rr_1 : Int32) => (rr_1 = 0 → ((vp_in a_3 6) ∧ (w_X6_weightOf_L4 a_1 n_things n_digitOf post kk f_4 (a_2 * ((10 : Int32) - (n_digitOf a_3.toNatClampNeg))) (a_3 + (1 : Int32))))) ∧ (¬ rr_1 = 0 → ((vp_in a_3 6) ∧ (w_X6_weightOf_L4 a_1 n_things n_digitOf post kk f_4 (a_2 * (n_digitOf a_3.toNatClampNeg)) (a_3 + (1 : Int32))))))))
def w_X6_weightOf (n_things : Int32) (n_digitOf : Nat → Int32) (a_1 : Int32) (post : Int32 → Prop) : Prop := ∃ e_4, w_X6_weightOf_L4 a_1 n_things n_digitOf post (fun (xx_9 : Int32) => post xx_9) e_4 (1 : Int32) (0 : Int32)
set_option maxHeartbeats 4000000 in
set_option maxRecDepth 100000 in
theorem m_X6_weightOf (l : Launch) (dC : Nat → ClassId) (dI : Nat → Nat → Nat) (cyI cyJ : ClassId) (ab : Nat → Nat) (sz : Nat) {n_fault : Int32} {n_things : Int32} {n_kindOf : Nat → Int32} {n_digitOf : Nat → Int32} {n_follows : Int32} {n_ifOf : Nat → Int32} {n_thenOf : Nat → Int32} {n_listOf : Nat → Int32} {n_breathOf : Nat → Int32} {n_heardOf : Nat → Int32} {n_readAt : Int32} {n_readThings : Int32} {n_readFollows : Int32} {n_readKind : Nat → Int32} {n_readDigit : Nat → Int32} {n_readIf : Nat → Int32} {n_readThen : Nat → Int32} {n_readings : Int32} {n_readingIn : Nat → Int32} {n_readingHour : Nat → Int32} {n_readingOf : Nat → Int32} {n_breathWas : Nat → Int32} {n_sheetSize : Nat → Int32} {n_sheetLane : Nat → Int32} {n_sheet : Nat → Int32} {n_hands : Nat → Int32} {n_traceNow : Int32} {a_1 : Int32} {post : Int32 → Prop} (h : w_X6_weightOf n_things n_digitOf a_1 post) : Met l yX6_weightOf wsX6_weightOf (xq_R 1 21) (va_Pc [.ref (ab 0), .int a_1] (xq_P (dC, dI) [(cyI, .int), (cyJ, .long)] (wm_u cyI cyJ ab n_fault n_things n_kindOf n_digitOf n_follows n_ifOf n_thenOf n_listOf n_breathOf n_heardOf n_readAt n_readThings n_readFollows n_readKind n_readDigit n_readIf n_readThen n_readings n_readingIn n_readingHour n_readingOf n_breathWas n_sheetSize n_sheetLane n_sheet n_hands n_traceNow) sz)) (va_Qi (fun (rr : Int32) (uu : Unit) => post rr ) (fun (uu : Unit) => xq_B (dC, dI) [(cyI, .int), (cyJ, .long)] (va_A (wm_u cyI cyJ ab n_fault n_things n_kindOf n_digitOf n_follows n_ifOf n_thenOf n_listOf n_breathOf n_heardOf n_readAt n_readThings n_readFollows n_readKind n_readDigit n_readIf n_readThen n_readings n_readingIn n_readingHour n_readingOf n_breathWas n_sheetSize n_sheetLane n_sheet n_hands n_traceNow) sz) (wm_u cyI cyJ ab n_fault n_things n_kindOf n_digitOf n_follows n_ifOf n_thenOf n_listOf n_breathOf n_heardOf n_readAt n_readThings n_readFollows n_readKind n_readDigit n_readIf n_readThen n_readings n_readingIn n_readingHour n_readingOf n_breathWas n_sheetSize n_sheetLane n_sheet n_hands n_traceNow)) (va_A (wm_u cyI cyJ ab n_fault n_things n_kindOf n_digitOf n_follows n_ifOf n_thenOf n_listOf n_breathOf n_heardOf n_readAt n_readThings n_readFollows n_readKind n_readDigit n_readIf n_readThen n_readings n_readingIn n_readingHour n_readingOf n_breathWas n_sheetSize n_sheetLane n_sheet n_hands n_traceNow) sz)) 0 0 (va_A (wm_u cyI cyJ ab n_fault n_things n_kindOf n_digitOf n_follows n_ifOf n_thenOf n_listOf n_breathOf n_heardOf n_readAt n_readThings n_readFollows n_readKind n_readDigit n_readIf n_readThen n_readings n_readingIn n_readingHour n_readingOf n_breathWas n_sheetSize n_sheetLane n_sheet n_hands n_traceNow) sz) := by
  refine xq_M (cc := cX6_weightOf) (maxL := 4) (ret := (some .int)) (QA := fun A => va_Qi (fun (rr : Int32) (uu : Unit) => post rr ) (fun (uu : Unit) => xq_B (dC, dI) [(cyI, .int), (cyJ, .long)] A (wm_u cyI cyJ ab n_fault n_things n_kindOf n_digitOf n_follows n_ifOf n_thenOf n_listOf n_breathOf n_heardOf n_readAt n_readThings n_readFollows n_readKind n_readDigit n_readIf n_readThen n_readings n_readingIn n_readingHour n_readingOf n_breathWas n_sheetSize n_sheetLane n_sheet n_hands n_traceNow)) A) (by decide) rfl (Nat.le_of_ble_eq_true rfl) ?_
  intro p e s m args below meth c A ls Q hQ hx hb hr hml hts hown hlocks hsz hP hK hD hA hS hN hl
  subst hsz
  have hl : lv_has ls 4 [(0, .ref (ab 0)), (1, .int a_1)] := hl
  have hi_X6 : ∀ w ∈ wsX60, w ∈ wsX6_weightOf := fun _ h => List.mem_cons_of_mem _ (List.mem_append_right _ h)
  have fl_13 := hts (.fieldLink RX6 13 "UnsaidCallsModel" "digitOf" "[I") (by decide +kernel)
  have fl_98 := hts (.fieldLink RX6 98 "UnsaidCallsModel" "things" "I") (by decide +kernel)
  unfold w_X6_weightOf at h
  refine lv_iconst (v := (1 : Int32)) hx hb dX6_weightOf_0 (by decide) ?_
  refine lv_istore_n (lv' := [(2, .int (1 : Int32)), (0, .ref (ab 0)), (1, .int a_1)]) hx hb dX6_weightOf_1 rfl hl (by decide) rfl (fun ls hl => ?_)
  refine lv_iconst (v := (0 : Int32)) hx hb dX6_weightOf_2 (by decide) ?_
  refine lv_istore_n (lv' := [(3, .int (0 : Int32)), (2, .int (1 : Int32)), (0, .ref (ab 0)), (1, .int a_1)]) hx hb dX6_weightOf_3 rfl hl (by decide) rfl (fun ls hl => ?_)
  obtain ⟨ni, h⟩ := h
  have lp_4 : ∀ (kk : Int32 → Prop), (∀ (xx_9 : Int32) (H : Heap) (locs : List Loc) (ls : Array Slot), va_P (dC, dI) vwCl (wm_u cyI cyJ ab n_fault n_things n_kindOf n_digitOf n_follows n_ifOf n_thenOf n_listOf n_breathOf n_heardOf n_readAt n_readThings n_readFollows n_readKind n_readDigit n_readIf n_readThen n_readings n_readingIn n_readingHour n_readingOf n_breathWas n_sheetSize n_sheetLane n_sheet n_hands n_traceNow) H → va_D A (wm_u cyI cyJ ab n_fault n_things n_kindOf n_digitOf n_follows n_ifOf n_thenOf n_listOf n_breathOf n_heardOf n_readAt n_readThings n_readFollows n_readKind n_readDigit n_readIf n_readThen n_readings n_readingIn n_readingHour n_readingOf n_breathWas n_sheetSize n_sheetLane n_sheet n_hands n_traceNow) → va_S A s.heap H locs → lv_has ls 4 [(2, .int xx_9)] → kk xx_9 → W p l e (xq_R 1 21) s m args below meth c H locs 0 0 Q (F0 m 47 ls [])) → ∀ (ni : Nat) (aa_7 : Int32) (aa_8 : Int32) (H : Heap) (locs : List Loc) (ls : Array Slot), va_P (dC, dI) vwCl (wm_u cyI cyJ ab n_fault n_things n_kindOf n_digitOf n_follows n_ifOf n_thenOf n_listOf n_breathOf n_heardOf n_readAt n_readThings n_readFollows n_readKind n_readDigit n_readIf n_readThen n_readings n_readingIn n_readingHour n_readingOf n_breathWas n_sheetSize n_sheetLane n_sheet n_hands n_traceNow) H → va_D A (wm_u cyI cyJ ab n_fault n_things n_kindOf n_digitOf n_follows n_ifOf n_thenOf n_listOf n_breathOf n_heardOf n_readAt n_readThings n_readFollows n_readKind n_readDigit n_readIf n_readThen n_readings n_readingIn n_readingHour n_readingOf n_breathWas n_sheetSize n_sheetLane n_sheet n_hands n_traceNow) → va_S A s.heap H locs → lv_has ls 4 [(0, .ref (ab 0)), (1, .int a_1), (2, .int aa_7), (3, .int aa_8)] → w_X6_weightOf_L4 a_1 n_things n_digitOf post kk ni aa_7 aa_8 → W p l e (xq_R 1 21) s m args below meth c H locs 0 0 Q (F0 m 4 ls []) := by
    intro kk kx ni
    induction ni with
    | zero => intros; exact False.elim (by assumption)
    | succ ni ih =>
      intro aa_7 aa_8 H locs ls hP hD hS hl h
      rw [w_X6_weightOf_L4] at h
      refine lv_iload_n hx hb dX6_weightOf_4 rfl (lv_at hl 3 rfl) ?_
      refine lv_aload_n hx hb dX6_weightOf_5 rfl (lv_at hl 0 rfl) ?_
      refine va_get (D := (dC, dI)) (ci := 6) (v := .int n_things) (C := RX6) (T := TX6) (N := 27) hx hb hts hi_X6 hown hK hP 0 rfl rfl 1 (by decide) fl_98 (fun _ h9 => h9) rfl dX6_weightOf_6 ?_
      refine lv_icmp_ge (tgt := 47) hx hb dX6_weightOf_9 (by decide) (fun hc_15 => ?_) (fun hc_15 => ?_)
      · have h := h.1 hc_15
        exact kx aa_7 _ _ _ hP hD hS (lv_sub hl [2] rfl) h
      · have h := h.2 hc_15
        refine lv_iload_n hx hb dX6_weightOf_12 rfl (lv_at hl 2 rfl) ?_
        refine lv_iload_n hx hb dX6_weightOf_13 rfl (lv_at hl 1 rfl) ?_
        refine lv_iload_n hx hb dX6_weightOf_14 rfl (lv_at hl 3 rfl) ?_
        refine xq_ci (va_runS (As := [.int a_1, .int aa_8]) (rest := [.int aa_7]) ⟨hx, hb, hml, hown, hts⟩ (m_X6_isIn l dC dI cyI cyJ (wm_u cyI cyJ ab n_fault n_things n_kindOf n_digitOf n_follows n_ifOf n_thenOf n_listOf n_breathOf n_heardOf n_readAt n_readThings n_readFollows n_readKind n_readDigit n_readIf n_readThen n_readings n_readingIn n_readingHour n_readingOf n_breathWas n_sheetSize n_sheetLane n_sheet n_hands n_traceNow) H.size h) (va_cwS 2 hts gX6_weightOf_X6_isIn rfl rfl rfl (by decide +kernel) ⟨Nat.le_of_ble_eq_true rfl, Nat.le_of_ble_eq_true rfl⟩) (xq_preS hK hP hD hN) rfl rfl hl.1 rfl (lv_room (Nat.le_of_ble_eq_true rfl)) dX6_weightOf_15 ⟨Nat.le_refl _, Nat.le_refl _⟩) hD hS hA (fun rr_10 uu H locs h hP hD hS => ?_)
        have hP : va_P (dC, dI) vwCl (wm_u cyI cyJ ab n_fault n_things n_kindOf n_digitOf n_follows n_ifOf n_thenOf n_listOf n_breathOf n_heardOf n_readAt n_readThings n_readFollows n_readKind n_readDigit n_readIf n_readThen n_readings n_readingIn n_readingHour n_readingOf n_breathWas n_sheetSize n_sheetLane n_sheet n_hands n_traceNow) H := hP
        have hD : va_D A (wm_u cyI cyJ ab n_fault n_things n_kindOf n_digitOf n_follows n_ifOf n_thenOf n_listOf n_breathOf n_heardOf n_readAt n_readThings n_readFollows n_readKind n_readDigit n_readIf n_readThen n_readings n_readingIn n_readingHour n_readingOf n_breathWas n_sheetSize n_sheetLane n_sheet n_hands n_traceNow) := hD
        refine lv_if_eq (tgt := 30) hx hb dX6_weightOf_18 (by decide) (fun hc_13 => ?_) (fun hc_13 => ?_)
        · have h := h.1 hc_13
          refine lv_bipush (v := (10 : Int32)) hx hb dX6_weightOf_30 (by decide) ?_
          refine lv_aload_n hx hb dX6_weightOf_32 rfl (lv_at hl 0 rfl) ?_
          refine va_get (D := (dC, dI)) (ci := 6) (v := .ref (ab 2)) (C := RX6) (T := TX6) (N := 27) hx hb hts hi_X6 hown hK hP 0 rfl rfl 3 (by decide) fl_13 (fun _ h9 => h9) rfl dX6_weightOf_33 ?_
          refine lv_iload_n hx hb dX6_weightOf_36 rfl (lv_at hl 3 rfl) ?_
          obtain ⟨hv_11, h⟩ := h
          refine va_iald hx hb hK hP 2 0 rfl rfl hv_11 dX6_weightOf_37 ?_
          refine lv_isub hx hb dX6_weightOf_38 ?_
          refine lv_imul hx hb dX6_weightOf_39 ?_
          refine lv_istore_n (lv' := [(2, .int (aa_7 * ((10 : Int32) - (n_digitOf aa_8.toNatClampNeg)))), (0, .ref (ab 0)), (1, .int a_1), (3, .int aa_8)]) hx hb dX6_weightOf_40 rfl hl (by decide) rfl (fun ls hl => ?_)
          refine lv_iinc (v := (aa_8 + (1 : Int32))) (lv' := [(3, .int (aa_8 + (1 : Int32))), (2, .int (aa_7 * ((10 : Int32) - (n_digitOf aa_8.toNatClampNeg)))), (0, .ref (ab 0)), (1, .int a_1)]) hx hb dX6_weightOf_41 hl (k := 3) rfl rfl (by decide) rfl (fun ls hl => ?_)
          refine lv_goto (tgt := 4) hx hb dX6_weightOf_44 (by decide) ?_
          exact ih (aa_7 * ((10 : Int32) - (n_digitOf aa_8.toNatClampNeg))) (aa_8 + (1 : Int32)) _ _ _ hP hD hS (lv_sub hl [2, 3, 1, 0] rfl) h
        · have h := h.2 hc_13
          refine lv_aload_n hx hb dX6_weightOf_21 rfl (lv_at hl 0 rfl) ?_
          refine va_get (D := (dC, dI)) (ci := 6) (v := .ref (ab 2)) (C := RX6) (T := TX6) (N := 27) hx hb hts hi_X6 hown hK hP 0 rfl rfl 3 (by decide) fl_13 (fun _ h9 => h9) rfl dX6_weightOf_22 ?_
          refine lv_iload_n hx hb dX6_weightOf_25 rfl (lv_at hl 3 rfl) ?_
          obtain ⟨hv_12, h⟩ := h
          refine va_iald hx hb hK hP 2 0 rfl rfl hv_12 dX6_weightOf_26 ?_
          refine lv_goto (tgt := 39) hx hb dX6_weightOf_27 (by decide) ?_
          refine lv_imul hx hb dX6_weightOf_39 ?_
          refine lv_istore_n (lv' := [(2, .int (aa_7 * (n_digitOf aa_8.toNatClampNeg))), (0, .ref (ab 0)), (1, .int a_1), (3, .int aa_8)]) hx hb dX6_weightOf_40 rfl hl (by decide) rfl (fun ls hl => ?_)
          refine lv_iinc (v := (aa_8 + (1 : Int32))) (lv' := [(3, .int (aa_8 + (1 : Int32))), (2, .int (aa_7 * (n_digitOf aa_8.toNatClampNeg))), (0, .ref (ab 0)), (1, .int a_1)]) hx hb dX6_weightOf_41 hl (k := 3) rfl rfl (by decide) rfl (fun ls hl => ?_)
          refine lv_goto (tgt := 4) hx hb dX6_weightOf_44 (by decide) ?_
          exact ih (aa_7 * (n_digitOf aa_8.toNatClampNeg)) (aa_8 + (1 : Int32)) _ _ _ hP hD hS (lv_sub hl [2, 3, 1, 0] rfl) h
  refine lp_4 _ (fun xx_9 H locs ls hP hD hS hl h => ?_) ni (1 : Int32) (0 : Int32) _ _ _ hP hD hS (lv_sub hl [2, 3, 1, 0] rfl) h
  refine lv_iload_n hx hb dX6_weightOf_47 rfl (lv_at hl 0 rfl) ?_
  exact xq_ri hQ hx hb hr hP hK hD hS () rfl h dX6_weightOf_48 hlocks
def w_X6_chance_L30 (a_1 : Int32) (a_2 : Int32) (n_things : Int32) (n_kindOf : Nat → Int32) (n_digitOf : Nat → Int32) (n_follows : Int32) (n_ifOf : Nat → Int32) (n_thenOf : Nat → Int32) (n_listOf : Nat → Int32) (n_breathOf : Nat → Int32) (n_heardOf : Nat → Int32) (post : Int64 → Prop) (kk : Int64 → Int64 → Prop) : Nat → Int64 → Int64 → Int32 → Prop
  | 0, _, _, _ => False
  | f_30 + 1, a_3, a_5, a_7 => w_X6_all n_things (fun (rr_3 : Int32) => (rr_3 < a_7 → (kk a_3 a_5)) ∧ (¬ rr_3 < a_7 → (w_X6_isThought n_things n_kindOf n_follows n_ifOf n_thenOf n_listOf n_breathOf n_heardOf a_7 (fun (rr_4 : Int32) => (rr_4 = 0 → (w_X6_chance_L30 a_1 a_2 n_things n_kindOf n_digitOf n_follows n_ifOf n_thenOf n_listOf n_breathOf n_heardOf post kk f_30 a_3 a_5 (a_7 + (1 : Int32)))) ∧ (¬ rr_4 = 0 → (w_X6_weightOf n_things n_digitOf a_7 (fun (rr_5 : Int32) => w_X6_isIn a_7 a_1 (fun (rr_6 : Int32) => (rr_6 = 0 → (w_X6_chance_L30 a_1 a_2 n_things n_kindOf n_digitOf n_follows n_ifOf n_thenOf n_listOf n_breathOf n_heardOf post kk f_30 (a_3 + (0 : Int64)) (a_5 + (Int32.toInt64 rr_5)) (a_7 + (1 : Int32)))) ∧ (¬ rr_6 = 0 → (w_X6_weightOf n_things n_digitOf a_7 (fun (rr_7 : Int32) => w_X6_chance_L30 a_1 a_2 n_things n_kindOf n_digitOf n_follows n_ifOf n_thenOf n_listOf n_breathOf n_heardOf post kk f_30 (a_3 + (Int32.toInt64 rr_7)) (a_5 + (Int32.toInt64 rr_5)) (a_7 + (1 : Int32)))))))))))))
def w_X6_chance (n_things : Int32) (n_kindOf : Nat → Int32) (n_digitOf : Nat → Int32) (n_follows : Int32) (n_ifOf : Nat → Int32) (n_thenOf : Nat → Int32) (n_listOf : Nat → Int32) (n_breathOf : Nat → Int32) (n_heardOf : Nat → Int32) (a_1 : Int32) (a_2 : Int32) (post : Int64 → Prop) : Prop := w_X6_noThing n_things a_1 (fun (rr_1 : Int32) => xq_j0 (fun (kj_2 : Prop) => (¬ rr_1 = 0 → (kj_2)) ∧ (rr_1 = 0 → (w_X6_in (Int32.toInt64 a_2) (0 : Int64) (1 : Int64) (fun (rr_3 : Int32) => (¬ rr_3 = 0 → (∃ e_30, w_X6_chance_L30 a_1 a_2 n_things n_kindOf n_digitOf n_follows n_ifOf n_thenOf n_listOf n_breathOf n_heardOf post (fun (xx_7 : Int64) (xx_8 : Int64) => (¬ (lg_cmp xx_8 (0 : Int64)) = 0 → (w_X6_told xx_7 xx_8 a_2 (fun (rr_9 : Int64) => post rr_9))) ∧ ((lg_cmp xx_8 (0 : Int64)) = 0 → (post (Int32.toInt64 a_2)))) e_30 (0 : Int64) (0 : Int64) (0 : Int32))) ∧ (rr_3 = 0 → (kj_2)))))) (w_X6_lost (fun (rr_28 : Int64) => post rr_28)))
set_option maxHeartbeats 4000000 in
set_option maxRecDepth 100000 in
theorem m_X6_chance (l : Launch) (dC : Nat → ClassId) (dI : Nat → Nat → Nat) (cyI cyJ : ClassId) (ab : Nat → Nat) (sz : Nat) {n_fault : Int32} {n_things : Int32} {n_kindOf : Nat → Int32} {n_digitOf : Nat → Int32} {n_follows : Int32} {n_ifOf : Nat → Int32} {n_thenOf : Nat → Int32} {n_listOf : Nat → Int32} {n_breathOf : Nat → Int32} {n_heardOf : Nat → Int32} {n_readAt : Int32} {n_readThings : Int32} {n_readFollows : Int32} {n_readKind : Nat → Int32} {n_readDigit : Nat → Int32} {n_readIf : Nat → Int32} {n_readThen : Nat → Int32} {n_readings : Int32} {n_readingIn : Nat → Int32} {n_readingHour : Nat → Int32} {n_readingOf : Nat → Int32} {n_breathWas : Nat → Int32} {n_sheetSize : Nat → Int32} {n_sheetLane : Nat → Int32} {n_sheet : Nat → Int32} {n_hands : Nat → Int32} {n_traceNow : Int32} {a_1 : Int32} {a_2 : Int32} {post : Int64 → Prop} (h : w_X6_chance n_things n_kindOf n_digitOf n_follows n_ifOf n_thenOf n_listOf n_breathOf n_heardOf a_1 a_2 post) : Met l yX6_chance wsX6_chance (xq_R 4 95) (va_Pc [.ref (ab 0), .int a_1, .int a_2] (xq_P (dC, dI) [(cyI, .int), (cyJ, .long)] (wm_u cyI cyJ ab n_fault n_things n_kindOf n_digitOf n_follows n_ifOf n_thenOf n_listOf n_breathOf n_heardOf n_readAt n_readThings n_readFollows n_readKind n_readDigit n_readIf n_readThen n_readings n_readingIn n_readingHour n_readingOf n_breathWas n_sheetSize n_sheetLane n_sheet n_hands n_traceNow) sz)) (va_Ql (fun (rr : Int64) (uu : Unit) => post rr ) (fun (uu : Unit) => xq_B (dC, dI) [(cyI, .int), (cyJ, .long)] (va_A (wm_u cyI cyJ ab n_fault n_things n_kindOf n_digitOf n_follows n_ifOf n_thenOf n_listOf n_breathOf n_heardOf n_readAt n_readThings n_readFollows n_readKind n_readDigit n_readIf n_readThen n_readings n_readingIn n_readingHour n_readingOf n_breathWas n_sheetSize n_sheetLane n_sheet n_hands n_traceNow) sz) (wm_u cyI cyJ ab n_fault n_things n_kindOf n_digitOf n_follows n_ifOf n_thenOf n_listOf n_breathOf n_heardOf n_readAt n_readThings n_readFollows n_readKind n_readDigit n_readIf n_readThen n_readings n_readingIn n_readingHour n_readingOf n_breathWas n_sheetSize n_sheetLane n_sheet n_hands n_traceNow)) (va_A (wm_u cyI cyJ ab n_fault n_things n_kindOf n_digitOf n_follows n_ifOf n_thenOf n_listOf n_breathOf n_heardOf n_readAt n_readThings n_readFollows n_readKind n_readDigit n_readIf n_readThen n_readings n_readingIn n_readingHour n_readingOf n_breathWas n_sheetSize n_sheetLane n_sheet n_hands n_traceNow) sz)) 0 0 (va_A (wm_u cyI cyJ ab n_fault n_things n_kindOf n_digitOf n_follows n_ifOf n_thenOf n_listOf n_breathOf n_heardOf n_readAt n_readThings n_readFollows n_readKind n_readDigit n_readIf n_readThen n_readings n_readingIn n_readingHour n_readingOf n_breathWas n_sheetSize n_sheetLane n_sheet n_hands n_traceNow) sz) := by
  refine xq_M (cc := cX6_chance) (maxL := 8) (ret := (some .long)) (QA := fun A => va_Ql (fun (rr : Int64) (uu : Unit) => post rr ) (fun (uu : Unit) => xq_B (dC, dI) [(cyI, .int), (cyJ, .long)] A (wm_u cyI cyJ ab n_fault n_things n_kindOf n_digitOf n_follows n_ifOf n_thenOf n_listOf n_breathOf n_heardOf n_readAt n_readThings n_readFollows n_readKind n_readDigit n_readIf n_readThen n_readings n_readingIn n_readingHour n_readingOf n_breathWas n_sheetSize n_sheetLane n_sheet n_hands n_traceNow)) A) (by decide) rfl (Nat.le_of_ble_eq_true rfl) ?_
  intro p e s m args below meth c A ls Q hQ hx hb hr hml hts hown hlocks hsz hP hK hD hA hS hN hl
  subst hsz
  have hl : lv_has ls 8 [(0, .ref (ab 0)), (1, .int a_1), (2, .int a_2)] := hl
  unfold w_X6_chance at h
  refine lv_aload_n hx hb dX6_chance_0 rfl (lv_at hl 0 rfl) ?_
  refine lv_iload_n hx hb dX6_chance_1 rfl (lv_at hl 1 rfl) ?_
  refine xq_ci (va_runV (As := [.int a_1]) (rest := []) ⟨hx, hb, hml, hown, hts⟩ (m_X6_noThing l dC dI cyI cyJ ab s.heap.size h) (cwV 1 hts gX6_chance_X6_noThing rfl rfl rfl (by decide +kernel) ⟨Nat.le_of_ble_eq_true rfl, Nat.le_of_ble_eq_true rfl⟩) (xq_preV hK hP hD hN (ci := 6) (q0 := 0) rfl rfl) rfl rfl hl.1 rfl (lv_room (Nat.le_of_ble_eq_true rfl)) dX6_chance_2 ⟨Nat.le_refl _, Nat.le_refl _⟩) hD hS hA (fun rr_1 uu H locs h hP hD hS => ?_)
  have hP : va_P (dC, dI) vwCl (wm_u cyI cyJ ab n_fault n_things n_kindOf n_digitOf n_follows n_ifOf n_thenOf n_listOf n_breathOf n_heardOf n_readAt n_readThings n_readFollows n_readKind n_readDigit n_readIf n_readThen n_readings n_readingIn n_readingHour n_readingOf n_breathWas n_sheetSize n_sheetLane n_sheet n_hands n_traceNow) H := hP
  have hD : va_D A (wm_u cyI cyJ ab n_fault n_things n_kindOf n_digitOf n_follows n_ifOf n_thenOf n_listOf n_breathOf n_heardOf n_readAt n_readThings n_readFollows n_readKind n_readDigit n_readIf n_readThen n_readings n_readingIn n_readingHour n_readingOf n_breathWas n_sheetSize n_sheetLane n_sheet n_hands n_traceNow) := hD
  refine xq_j0_go (X := ∀ (H : Heap) (locs : List Loc) (ls : Array Slot), va_P (dC, dI) vwCl (wm_u cyI cyJ ab n_fault n_things n_kindOf n_digitOf n_follows n_ifOf n_thenOf n_listOf n_breathOf n_heardOf n_readAt n_readThings n_readFollows n_readKind n_readDigit n_readIf n_readThen n_readings n_readingIn n_readingHour n_readingOf n_breathWas n_sheetSize n_sheetLane n_sheet n_hands n_traceNow) H → va_D A (wm_u cyI cyJ ab n_fault n_things n_kindOf n_digitOf n_follows n_ifOf n_thenOf n_listOf n_breathOf n_heardOf n_readAt n_readThings n_readFollows n_readKind n_readDigit n_readIf n_readThen n_readings n_readingIn n_readingHour n_readingOf n_breathWas n_sheetSize n_sheetLane n_sheet n_hands n_traceNow) → va_S A s.heap H locs → lv_has ls 8 [] → W p l e (xq_R 4 95) s m args below meth c H locs 0 0 Q (F0 m 18 ls [])) h (fun  h H locs ls hP hD hS hl => ?_) (fun kj_2 h => ?_)
  · refine xq_cl (va_runS (As := []) (rest := []) ⟨hx, hb, hml, hown, hts⟩ (m_X6_lost l dC dI cyI cyJ (wm_u cyI cyJ ab n_fault n_things n_kindOf n_digitOf n_follows n_ifOf n_thenOf n_listOf n_breathOf n_heardOf n_readAt n_readThings n_readFollows n_readKind n_readDigit n_readIf n_readThen n_readings n_readingIn n_readingHour n_readingOf n_breathWas n_sheetSize n_sheetLane n_sheet n_hands n_traceNow) H.size h) (va_cwS 0 hts gX6_chance_X6_lost rfl rfl rfl (by decide +kernel) ⟨Nat.le_of_ble_eq_true rfl, Nat.le_of_ble_eq_true rfl⟩) (xq_preS hK hP hD hN) rfl rfl hl.1 rfl (lv_room (Nat.le_of_ble_eq_true rfl)) dX6_chance_18 ⟨Nat.le_refl _, Nat.le_refl _⟩) hD hS hA (fun rr_28 uu H locs h hP hD hS => ?_)
    have hP : va_P (dC, dI) vwCl (wm_u cyI cyJ ab n_fault n_things n_kindOf n_digitOf n_follows n_ifOf n_thenOf n_listOf n_breathOf n_heardOf n_readAt n_readThings n_readFollows n_readKind n_readDigit n_readIf n_readThen n_readings n_readingIn n_readingHour n_readingOf n_breathWas n_sheetSize n_sheetLane n_sheet n_hands n_traceNow) H := hP
    have hD : va_D A (wm_u cyI cyJ ab n_fault n_things n_kindOf n_digitOf n_follows n_ifOf n_thenOf n_listOf n_breathOf n_heardOf n_readAt n_readThings n_readFollows n_readKind n_readDigit n_readIf n_readThen n_readings n_readingIn n_readingHour n_readingOf n_breathWas n_sheetSize n_sheetLane n_sheet n_hands n_traceNow) := hD
    exact xq_rl hQ hx hb hr hP hK hD hS () rfl h dX6_chance_21 hlocks
  · refine lv_if_ne (tgt := 18) hx hb dX6_chance_5 (by decide) (fun hc_27 => ?_) (fun hc_27 => ?_)
    · have h := h.1 hc_27
      exact kj_2 h _ _ _ hP hD hS (lv_sub hl [] rfl)
    · have h := h.2 hc_27
      refine lv_iload_n hx hb dX6_chance_8 rfl (lv_at hl 2 rfl) ?_
      refine lv_i2l (v := (Int32.toInt64 a_2)) hx hb dX6_chance_9 rfl ?_
      refine lv_lconst (v := (0 : Int64)) hx hb dX6_chance_10 (by decide) ?_
      refine lv_lconst (v := (1 : Int64)) hx hb dX6_chance_11 (by decide) ?_
      refine xq_ci (va_runS (As := [.long (Int32.toInt64 a_2), .long (0 : Int64), .long (1 : Int64)]) (rest := []) ⟨hx, hb, hml, hown, hts⟩ (m_X6_in l dC dI cyI cyJ (wm_u cyI cyJ ab n_fault n_things n_kindOf n_digitOf n_follows n_ifOf n_thenOf n_listOf n_breathOf n_heardOf n_readAt n_readThings n_readFollows n_readKind n_readDigit n_readIf n_readThen n_readings n_readingIn n_readingHour n_readingOf n_breathWas n_sheetSize n_sheetLane n_sheet n_hands n_traceNow) H.size h) (va_cwS 3 hts gX6_chance_X6_in rfl rfl rfl (by decide +kernel) ⟨Nat.le_of_ble_eq_true rfl, Nat.le_of_ble_eq_true rfl⟩) (xq_preS hK hP hD hN) rfl rfl hl.1 rfl (lv_room (Nat.le_of_ble_eq_true rfl)) dX6_chance_12 ⟨Nat.le_refl _, Nat.le_refl _⟩) hD hS hA (fun rr_3 uu H locs h hP hD hS => ?_)
      have hP : va_P (dC, dI) vwCl (wm_u cyI cyJ ab n_fault n_things n_kindOf n_digitOf n_follows n_ifOf n_thenOf n_listOf n_breathOf n_heardOf n_readAt n_readThings n_readFollows n_readKind n_readDigit n_readIf n_readThen n_readings n_readingIn n_readingHour n_readingOf n_breathWas n_sheetSize n_sheetLane n_sheet n_hands n_traceNow) H := hP
      have hD : va_D A (wm_u cyI cyJ ab n_fault n_things n_kindOf n_digitOf n_follows n_ifOf n_thenOf n_listOf n_breathOf n_heardOf n_readAt n_readThings n_readFollows n_readKind n_readDigit n_readIf n_readThen n_readings n_readingIn n_readingHour n_readingOf n_breathWas n_sheetSize n_sheetLane n_sheet n_hands n_traceNow) := hD
      refine lv_if_ne (tgt := 22) hx hb dX6_chance_15 (by decide) (fun hc_25 => ?_) (fun hc_25 => ?_)
      · have h := h.1 hc_25
        refine lv_lconst (v := (0 : Int64)) hx hb dX6_chance_22 (by decide) ?_
        refine lv_lstore_n (lv' := [(3, .long (0 : Int64)), (0, .ref (ab 0)), (1, .int a_1), (2, .int a_2)]) hx hb dX6_chance_23 rfl hl (by decide) rfl (fun ls hl => ?_)
        refine lv_lconst (v := (0 : Int64)) hx hb dX6_chance_24 (by decide) ?_
        refine lv_lstore (lv' := [(5, .long (0 : Int64)), (3, .long (0 : Int64)), (0, .ref (ab 0)), (1, .int a_1), (2, .int a_2)]) hx hb dX6_chance_25 hl (by decide) rfl (fun ls hl => ?_)
        refine lv_iconst (v := (0 : Int32)) hx hb dX6_chance_27 (by decide) ?_
        refine lv_istore (lv' := [(7, .int (0 : Int32)), (5, .long (0 : Int64)), (3, .long (0 : Int64)), (0, .ref (ab 0)), (1, .int a_1), (2, .int a_2)]) hx hb dX6_chance_28 hl (by decide) rfl (fun ls hl => ?_)
        obtain ⟨ni, h⟩ := h
        have lp_30 : ∀ (kk : Int64 → Int64 → Prop), (∀ (xx_7 : Int64) (xx_8 : Int64) (H : Heap) (locs : List Loc) (ls : Array Slot), va_P (dC, dI) vwCl (wm_u cyI cyJ ab n_fault n_things n_kindOf n_digitOf n_follows n_ifOf n_thenOf n_listOf n_breathOf n_heardOf n_readAt n_readThings n_readFollows n_readKind n_readDigit n_readIf n_readThen n_readings n_readingIn n_readingHour n_readingOf n_breathWas n_sheetSize n_sheetLane n_sheet n_hands n_traceNow) H → va_D A (wm_u cyI cyJ ab n_fault n_things n_kindOf n_digitOf n_follows n_ifOf n_thenOf n_listOf n_breathOf n_heardOf n_readAt n_readThings n_readFollows n_readKind n_readDigit n_readIf n_readThen n_readings n_readingIn n_readingHour n_readingOf n_breathWas n_sheetSize n_sheetLane n_sheet n_hands n_traceNow) → va_S A s.heap H locs → lv_has ls 8 [(2, .int a_2), (3, .long xx_7), (5, .long xx_8)] → kk xx_7 xx_8 → W p l e (xq_R 4 95) s m args below meth c H locs 0 0 Q (F0 m 89 ls [])) → ∀ (ni : Nat) (aa_4 : Int64) (aa_5 : Int64) (aa_6 : Int32) (H : Heap) (locs : List Loc) (ls : Array Slot), va_P (dC, dI) vwCl (wm_u cyI cyJ ab n_fault n_things n_kindOf n_digitOf n_follows n_ifOf n_thenOf n_listOf n_breathOf n_heardOf n_readAt n_readThings n_readFollows n_readKind n_readDigit n_readIf n_readThen n_readings n_readingIn n_readingHour n_readingOf n_breathWas n_sheetSize n_sheetLane n_sheet n_hands n_traceNow) H → va_D A (wm_u cyI cyJ ab n_fault n_things n_kindOf n_digitOf n_follows n_ifOf n_thenOf n_listOf n_breathOf n_heardOf n_readAt n_readThings n_readFollows n_readKind n_readDigit n_readIf n_readThen n_readings n_readingIn n_readingHour n_readingOf n_breathWas n_sheetSize n_sheetLane n_sheet n_hands n_traceNow) → va_S A s.heap H locs → lv_has ls 8 [(0, .ref (ab 0)), (1, .int a_1), (2, .int a_2), (3, .long aa_4), (5, .long aa_5), (7, .int aa_6)] → w_X6_chance_L30 a_1 a_2 n_things n_kindOf n_digitOf n_follows n_ifOf n_thenOf n_listOf n_breathOf n_heardOf post kk ni aa_4 aa_5 aa_6 → W p l e (xq_R 4 95) s m args below meth c H locs 0 0 Q (F0 m 30 ls []) := by
          intro kk kx ni
          induction ni with
          | zero => intros; exact False.elim (by assumption)
          | succ ni ih =>
            intro aa_4 aa_5 aa_6 H locs ls hP hD hS hl h
            rw [w_X6_chance_L30] at h
            refine lv_iload hx hb dX6_chance_30 (lv_at hl 5 rfl) ?_
            refine lv_aload_n hx hb dX6_chance_32 rfl (lv_at hl 0 rfl) ?_
            refine xq_ci (va_runV (As := []) (rest := [.int aa_6]) ⟨hx, hb, hml, hown, hts⟩ (m_X6_all l dC dI cyI cyJ ab H.size h) (cwV 0 hts gX6_chance_X6_all rfl rfl rfl (by decide +kernel) ⟨Nat.le_of_ble_eq_true rfl, Nat.le_of_ble_eq_true rfl⟩) (xq_preV hK hP hD hN (ci := 6) (q0 := 0) rfl rfl) rfl rfl hl.1 rfl (lv_room (Nat.le_of_ble_eq_true rfl)) dX6_chance_33 ⟨Nat.le_refl _, Nat.le_refl _⟩) hD hS hA (fun rr_12 uu H locs h hP hD hS => ?_)
            have hP : va_P (dC, dI) vwCl (wm_u cyI cyJ ab n_fault n_things n_kindOf n_digitOf n_follows n_ifOf n_thenOf n_listOf n_breathOf n_heardOf n_readAt n_readThings n_readFollows n_readKind n_readDigit n_readIf n_readThen n_readings n_readingIn n_readingHour n_readingOf n_breathWas n_sheetSize n_sheetLane n_sheet n_hands n_traceNow) H := hP
            have hD : va_D A (wm_u cyI cyJ ab n_fault n_things n_kindOf n_digitOf n_follows n_ifOf n_thenOf n_listOf n_breathOf n_heardOf n_readAt n_readThings n_readFollows n_readKind n_readDigit n_readIf n_readThen n_readings n_readingIn n_readingHour n_readingOf n_breathWas n_sheetSize n_sheetLane n_sheet n_hands n_traceNow) := hD
            refine lv_icmp_gt (tgt := 89) hx hb dX6_chance_36 (by decide) (fun hc_23 => ?_) (fun hc_23 => ?_)
            · have h := h.1 hc_23
              exact kx aa_4 aa_5 _ _ _ hP hD hS (lv_sub hl [2, 3, 4] rfl) h
            · have h := h.2 hc_23
              refine lv_aload_n hx hb dX6_chance_39 rfl (lv_at hl 0 rfl) ?_
              refine lv_iload hx hb dX6_chance_40 (lv_at hl 5 rfl) ?_
              refine xq_ci (va_runV (As := [.int aa_6]) (rest := []) ⟨hx, hb, hml, hown, hts⟩ (m_X6_isThought l dC dI cyI cyJ ab H.size h) (cwV 1 hts gX6_chance_X6_isThought rfl rfl rfl (by decide +kernel) ⟨Nat.le_of_ble_eq_true rfl, Nat.le_of_ble_eq_true rfl⟩) (xq_preV hK hP hD hN (ci := 6) (q0 := 0) rfl rfl) rfl rfl hl.1 rfl (lv_room (Nat.le_of_ble_eq_true rfl)) dX6_chance_42 ⟨Nat.le_refl _, Nat.le_refl _⟩) hD hS hA (fun rr_13 uu H locs h hP hD hS => ?_)
              have hP : va_P (dC, dI) vwCl (wm_u cyI cyJ ab n_fault n_things n_kindOf n_digitOf n_follows n_ifOf n_thenOf n_listOf n_breathOf n_heardOf n_readAt n_readThings n_readFollows n_readKind n_readDigit n_readIf n_readThen n_readings n_readingIn n_readingHour n_readingOf n_breathWas n_sheetSize n_sheetLane n_sheet n_hands n_traceNow) H := hP
              have hD : va_D A (wm_u cyI cyJ ab n_fault n_things n_kindOf n_digitOf n_follows n_ifOf n_thenOf n_listOf n_breathOf n_heardOf n_readAt n_readThings n_readFollows n_readKind n_readDigit n_readIf n_readThen n_readings n_readingIn n_readingHour n_readingOf n_breathWas n_sheetSize n_sheetLane n_sheet n_hands n_traceNow) := hD
              refine lv_if_eq (tgt := 83) hx hb dX6_chance_45 (by decide) (fun hc_21 => ?_) (fun hc_21 => ?_)
              · have h := h.1 hc_21
                refine lv_iinc (v := (aa_6 + (1 : Int32))) (lv' := [(7, .int (aa_6 + (1 : Int32))), (0, .ref (ab 0)), (1, .int a_1), (2, .int a_2), (3, .long aa_4), (5, .long aa_5)]) hx hb dX6_chance_83 hl (k := 5) rfl rfl (by decide) rfl (fun ls hl => ?_)
                refine lv_goto (tgt := 30) hx hb dX6_chance_86 (by decide) ?_
                exact ih aa_4 aa_5 (aa_6 + (1 : Int32)) _ _ _ hP hD hS (lv_sub hl [1, 2, 3, 4, 5, 0] rfl) h
              · have h := h.2 hc_21
                refine lv_lload hx hb dX6_chance_48 (lv_at hl 4 rfl) ?_
                refine lv_aload_n hx hb dX6_chance_50 rfl (lv_at hl 0 rfl) ?_
                refine lv_iload hx hb dX6_chance_51 (lv_at hl 5 rfl) ?_
                refine xq_ci (va_runV (As := [.int aa_6]) (rest := [.long aa_5]) ⟨hx, hb, hml, hown, hts⟩ (m_X6_weightOf l dC dI cyI cyJ ab H.size h) (cwV 1 hts gX6_chance_X6_weightOf rfl rfl rfl (by decide +kernel) ⟨Nat.le_of_ble_eq_true rfl, Nat.le_of_ble_eq_true rfl⟩) (xq_preV hK hP hD hN (ci := 6) (q0 := 0) rfl rfl) rfl rfl hl.1 rfl (lv_room (Nat.le_of_ble_eq_true rfl)) dX6_chance_53 ⟨Nat.le_refl _, Nat.le_refl _⟩) hD hS hA (fun rr_14 uu H locs h hP hD hS => ?_)
                have hP : va_P (dC, dI) vwCl (wm_u cyI cyJ ab n_fault n_things n_kindOf n_digitOf n_follows n_ifOf n_thenOf n_listOf n_breathOf n_heardOf n_readAt n_readThings n_readFollows n_readKind n_readDigit n_readIf n_readThen n_readings n_readingIn n_readingHour n_readingOf n_breathWas n_sheetSize n_sheetLane n_sheet n_hands n_traceNow) H := hP
                have hD : va_D A (wm_u cyI cyJ ab n_fault n_things n_kindOf n_digitOf n_follows n_ifOf n_thenOf n_listOf n_breathOf n_heardOf n_readAt n_readThings n_readFollows n_readKind n_readDigit n_readIf n_readThen n_readings n_readingIn n_readingHour n_readingOf n_breathWas n_sheetSize n_sheetLane n_sheet n_hands n_traceNow) := hD
                refine lv_i2l (v := (Int32.toInt64 rr_14)) hx hb dX6_chance_56 rfl ?_
                refine lv_ladd hx hb dX6_chance_57 ?_
                refine lv_lstore (lv' := [(5, .long (aa_5 + (Int32.toInt64 rr_14))), (0, .ref (ab 0)), (1, .int a_1), (2, .int a_2), (3, .long aa_4), (7, .int aa_6)]) hx hb dX6_chance_58 hl (by decide) rfl (fun ls hl => ?_)
                refine lv_lload_n hx hb dX6_chance_60 rfl (lv_at hl 4 rfl) ?_
                refine lv_iload hx hb dX6_chance_61 (lv_at hl 5 rfl) ?_
                refine lv_iload_n hx hb dX6_chance_63 rfl (lv_at hl 2 rfl) ?_
                refine xq_ci (va_runS (As := [.int aa_6, .int a_1]) (rest := [.long aa_4]) ⟨hx, hb, hml, hown, hts⟩ (m_X6_isIn l dC dI cyI cyJ (wm_u cyI cyJ ab n_fault n_things n_kindOf n_digitOf n_follows n_ifOf n_thenOf n_listOf n_breathOf n_heardOf n_readAt n_readThings n_readFollows n_readKind n_readDigit n_readIf n_readThen n_readings n_readingIn n_readingHour n_readingOf n_breathWas n_sheetSize n_sheetLane n_sheet n_hands n_traceNow) H.size h) (va_cwS 2 hts gX6_chance_X6_isIn rfl rfl rfl (by decide +kernel) ⟨Nat.le_of_ble_eq_true rfl, Nat.le_of_ble_eq_true rfl⟩) (xq_preS hK hP hD hN) rfl rfl hl.1 rfl (lv_room (Nat.le_of_ble_eq_true rfl)) dX6_chance_64 ⟨Nat.le_refl _, Nat.le_refl _⟩) hD hS hA (fun rr_15 uu H locs h hP hD hS => ?_)
                have hP : va_P (dC, dI) vwCl (wm_u cyI cyJ ab n_fault n_things n_kindOf n_digitOf n_follows n_ifOf n_thenOf n_listOf n_breathOf n_heardOf n_readAt n_readThings n_readFollows n_readKind n_readDigit n_readIf n_readThen n_readings n_readingIn n_readingHour n_readingOf n_breathWas n_sheetSize n_sheetLane n_sheet n_hands n_traceNow) H := hP
                have hD : va_D A (wm_u cyI cyJ ab n_fault n_things n_kindOf n_digitOf n_follows n_ifOf n_thenOf n_listOf n_breathOf n_heardOf n_readAt n_readThings n_readFollows n_readKind n_readDigit n_readIf n_readThen n_readings n_readingIn n_readingHour n_readingOf n_breathWas n_sheetSize n_sheetLane n_sheet n_hands n_traceNow) := hD
                refine lv_if_eq (tgt := 80) hx hb dX6_chance_67 (by decide) (fun hc_18 => ?_) (fun hc_18 => ?_)
                · have h := h.1 hc_18
                  refine lv_lconst (v := (0 : Int64)) hx hb dX6_chance_80 (by decide) ?_
                  refine lv_ladd hx hb dX6_chance_81 ?_
                  refine lv_lstore_n (lv' := [(3, .long (aa_4 + (0 : Int64))), (5, .long (aa_5 + (Int32.toInt64 rr_14))), (0, .ref (ab 0)), (1, .int a_1), (2, .int a_2), (7, .int aa_6)]) hx hb dX6_chance_82 rfl hl (by decide) rfl (fun ls hl => ?_)
                  refine lv_iinc (v := (aa_6 + (1 : Int32))) (lv' := [(7, .int (aa_6 + (1 : Int32))), (3, .long (aa_4 + (0 : Int64))), (5, .long (aa_5 + (Int32.toInt64 rr_14))), (0, .ref (ab 0)), (1, .int a_1), (2, .int a_2)]) hx hb dX6_chance_83 hl (k := 5) rfl rfl (by decide) rfl (fun ls hl => ?_)
                  refine lv_goto (tgt := 30) hx hb dX6_chance_86 (by decide) ?_
                  exact ih (aa_4 + (0 : Int64)) (aa_5 + (Int32.toInt64 rr_14)) (aa_6 + (1 : Int32)) _ _ _ hP hD hS (lv_sub hl [3, 4, 5, 1, 2, 0] rfl) h
                · have h := h.2 hc_18
                  refine lv_aload_n hx hb dX6_chance_70 rfl (lv_at hl 1 rfl) ?_
                  refine lv_iload hx hb dX6_chance_71 (lv_at hl 5 rfl) ?_
                  refine xq_ci (va_runV (As := [.int aa_6]) (rest := [.long aa_4]) ⟨hx, hb, hml, hown, hts⟩ (m_X6_weightOf l dC dI cyI cyJ ab H.size h) (cwV 1 hts gX6_chance_X6_weightOf rfl rfl rfl (by decide +kernel) ⟨Nat.le_of_ble_eq_true rfl, Nat.le_of_ble_eq_true rfl⟩) (xq_preV hK hP hD hN (ci := 6) (q0 := 0) rfl rfl) rfl rfl hl.1 rfl (lv_room (Nat.le_of_ble_eq_true rfl)) dX6_chance_73 ⟨Nat.le_refl _, Nat.le_refl _⟩) hD hS hA (fun rr_16 uu H locs h hP hD hS => ?_)
                  have hP : va_P (dC, dI) vwCl (wm_u cyI cyJ ab n_fault n_things n_kindOf n_digitOf n_follows n_ifOf n_thenOf n_listOf n_breathOf n_heardOf n_readAt n_readThings n_readFollows n_readKind n_readDigit n_readIf n_readThen n_readings n_readingIn n_readingHour n_readingOf n_breathWas n_sheetSize n_sheetLane n_sheet n_hands n_traceNow) H := hP
                  have hD : va_D A (wm_u cyI cyJ ab n_fault n_things n_kindOf n_digitOf n_follows n_ifOf n_thenOf n_listOf n_breathOf n_heardOf n_readAt n_readThings n_readFollows n_readKind n_readDigit n_readIf n_readThen n_readings n_readingIn n_readingHour n_readingOf n_breathWas n_sheetSize n_sheetLane n_sheet n_hands n_traceNow) := hD
                  refine lv_i2l (v := (Int32.toInt64 rr_16)) hx hb dX6_chance_76 rfl ?_
                  refine lv_goto (tgt := 81) hx hb dX6_chance_77 (by decide) ?_
                  refine lv_ladd hx hb dX6_chance_81 ?_
                  refine lv_lstore_n (lv' := [(3, .long (aa_4 + (Int32.toInt64 rr_16))), (5, .long (aa_5 + (Int32.toInt64 rr_14))), (0, .ref (ab 0)), (1, .int a_1), (2, .int a_2), (7, .int aa_6)]) hx hb dX6_chance_82 rfl hl (by decide) rfl (fun ls hl => ?_)
                  refine lv_iinc (v := (aa_6 + (1 : Int32))) (lv' := [(7, .int (aa_6 + (1 : Int32))), (3, .long (aa_4 + (Int32.toInt64 rr_16))), (5, .long (aa_5 + (Int32.toInt64 rr_14))), (0, .ref (ab 0)), (1, .int a_1), (2, .int a_2)]) hx hb dX6_chance_83 hl (k := 5) rfl rfl (by decide) rfl (fun ls hl => ?_)
                  refine lv_goto (tgt := 30) hx hb dX6_chance_86 (by decide) ?_
                  exact ih (aa_4 + (Int32.toInt64 rr_16)) (aa_5 + (Int32.toInt64 rr_14)) (aa_6 + (1 : Int32)) _ _ _ hP hD hS (lv_sub hl [3, 4, 5, 1, 2, 0] rfl) h
        refine lp_30 _ (fun xx_7 xx_8 H locs ls hP hD hS hl h => ?_) ni (0 : Int64) (0 : Int64) (0 : Int32) _ _ _ hP hD hS (lv_sub hl [3, 4, 5, 2, 1, 0] rfl) h
        refine lv_lload hx hb dX6_chance_89 (lv_at hl 2 rfl) ?_
        refine lv_lconst (v := (0 : Int64)) hx hb dX6_chance_91 (by decide) ?_
        refine W.lcmp hx hb dX6_chance_92 ?_
        refine lv_if_ne (tgt := 101) hx hb dX6_chance_93 (by decide) (fun hc_11 => ?_) (fun hc_11 => ?_)
        · have h := h.1 hc_11
          refine lv_lload_n hx hb dX6_chance_101 rfl (lv_at hl 1 rfl) ?_
          refine lv_lload hx hb dX6_chance_102 (lv_at hl 2 rfl) ?_
          refine lv_iload_n hx hb dX6_chance_104 rfl (lv_at hl 0 rfl) ?_
          refine xq_cl (va_runS (As := [.long xx_7, .long xx_8, .int a_2]) (rest := []) ⟨hx, hb, hml, hown, hts⟩ (m_X6_told l dC dI cyI cyJ (wm_u cyI cyJ ab n_fault n_things n_kindOf n_digitOf n_follows n_ifOf n_thenOf n_listOf n_breathOf n_heardOf n_readAt n_readThings n_readFollows n_readKind n_readDigit n_readIf n_readThen n_readings n_readingIn n_readingHour n_readingOf n_breathWas n_sheetSize n_sheetLane n_sheet n_hands n_traceNow) H.size h) (va_cwS 3 hts gX6_chance_X6_told rfl rfl rfl (by decide +kernel) ⟨Nat.le_of_ble_eq_true rfl, Nat.le_of_ble_eq_true rfl⟩) (xq_preS hK hP hD hN) rfl rfl hl.1 rfl (lv_room (Nat.le_of_ble_eq_true rfl)) dX6_chance_105 ⟨Nat.le_refl _, Nat.le_refl _⟩) hD hS hA (fun rr_9 uu H locs h hP hD hS => ?_)
          have hP : va_P (dC, dI) vwCl (wm_u cyI cyJ ab n_fault n_things n_kindOf n_digitOf n_follows n_ifOf n_thenOf n_listOf n_breathOf n_heardOf n_readAt n_readThings n_readFollows n_readKind n_readDigit n_readIf n_readThen n_readings n_readingIn n_readingHour n_readingOf n_breathWas n_sheetSize n_sheetLane n_sheet n_hands n_traceNow) H := hP
          have hD : va_D A (wm_u cyI cyJ ab n_fault n_things n_kindOf n_digitOf n_follows n_ifOf n_thenOf n_listOf n_breathOf n_heardOf n_readAt n_readThings n_readFollows n_readKind n_readDigit n_readIf n_readThen n_readings n_readingIn n_readingHour n_readingOf n_breathWas n_sheetSize n_sheetLane n_sheet n_hands n_traceNow) := hD
          exact xq_rl hQ hx hb hr hP hK hD hS () rfl h dX6_chance_108 hlocks
        · have h := h.2 hc_11
          refine lv_iload_n hx hb dX6_chance_96 rfl (lv_at hl 0 rfl) ?_
          refine lv_i2l (v := (Int32.toInt64 a_2)) hx hb dX6_chance_97 rfl ?_
          refine lv_goto (tgt := 108) hx hb dX6_chance_98 (by decide) ?_
          exact xq_rl hQ hx hb hr hP hK hD hS () rfl h dX6_chance_108 hlocks
      · have h := h.2 hc_25
        exact kj_2 h _ _ _ hP hD hS (lv_sub hl [] rfl)
def w_X6_codeAt (n_readAt : Int32) (n_sheet : Nat → Int32) (a_1 : Int32) (a_2 : Int32) (post : Int32 → Prop) : Prop := (a_2 ≤ n_readAt → (post (-9 : Int32))) ∧ (¬ a_2 ≤ n_readAt → ((vp_in (a_1 + n_readAt) 240) ∧ (post (n_sheet (a_1 + n_readAt).toNatClampNeg))))
set_option maxHeartbeats 4000000 in
set_option maxRecDepth 100000 in
theorem m_X6_codeAt (l : Launch) (dC : Nat → ClassId) (dI : Nat → Nat → Nat) (cyI cyJ : ClassId) (ab : Nat → Nat) (sz : Nat) {n_fault : Int32} {n_things : Int32} {n_kindOf : Nat → Int32} {n_digitOf : Nat → Int32} {n_follows : Int32} {n_ifOf : Nat → Int32} {n_thenOf : Nat → Int32} {n_listOf : Nat → Int32} {n_breathOf : Nat → Int32} {n_heardOf : Nat → Int32} {n_readAt : Int32} {n_readThings : Int32} {n_readFollows : Int32} {n_readKind : Nat → Int32} {n_readDigit : Nat → Int32} {n_readIf : Nat → Int32} {n_readThen : Nat → Int32} {n_readings : Int32} {n_readingIn : Nat → Int32} {n_readingHour : Nat → Int32} {n_readingOf : Nat → Int32} {n_breathWas : Nat → Int32} {n_sheetSize : Nat → Int32} {n_sheetLane : Nat → Int32} {n_sheet : Nat → Int32} {n_hands : Nat → Int32} {n_traceNow : Int32} {a_1 : Int32} {a_2 : Int32} {post : Int32 → Prop} (h : w_X6_codeAt n_readAt n_sheet a_1 a_2 post) : Met l yX6_codeAt wsX6_codeAt (xq_R 0 0) (va_Pc [.ref (ab 0), .int a_1, .int a_2] (xq_P (dC, dI) [(cyI, .int), (cyJ, .long)] (wm_u cyI cyJ ab n_fault n_things n_kindOf n_digitOf n_follows n_ifOf n_thenOf n_listOf n_breathOf n_heardOf n_readAt n_readThings n_readFollows n_readKind n_readDigit n_readIf n_readThen n_readings n_readingIn n_readingHour n_readingOf n_breathWas n_sheetSize n_sheetLane n_sheet n_hands n_traceNow) sz)) (va_Qi (fun (rr : Int32) (uu : Unit) => post rr ) (fun (uu : Unit) => xq_B (dC, dI) [(cyI, .int), (cyJ, .long)] (va_A (wm_u cyI cyJ ab n_fault n_things n_kindOf n_digitOf n_follows n_ifOf n_thenOf n_listOf n_breathOf n_heardOf n_readAt n_readThings n_readFollows n_readKind n_readDigit n_readIf n_readThen n_readings n_readingIn n_readingHour n_readingOf n_breathWas n_sheetSize n_sheetLane n_sheet n_hands n_traceNow) sz) (wm_u cyI cyJ ab n_fault n_things n_kindOf n_digitOf n_follows n_ifOf n_thenOf n_listOf n_breathOf n_heardOf n_readAt n_readThings n_readFollows n_readKind n_readDigit n_readIf n_readThen n_readings n_readingIn n_readingHour n_readingOf n_breathWas n_sheetSize n_sheetLane n_sheet n_hands n_traceNow)) (va_A (wm_u cyI cyJ ab n_fault n_things n_kindOf n_digitOf n_follows n_ifOf n_thenOf n_listOf n_breathOf n_heardOf n_readAt n_readThings n_readFollows n_readKind n_readDigit n_readIf n_readThen n_readings n_readingIn n_readingHour n_readingOf n_breathWas n_sheetSize n_sheetLane n_sheet n_hands n_traceNow) sz)) 0 0 (va_A (wm_u cyI cyJ ab n_fault n_things n_kindOf n_digitOf n_follows n_ifOf n_thenOf n_listOf n_breathOf n_heardOf n_readAt n_readThings n_readFollows n_readKind n_readDigit n_readIf n_readThen n_readings n_readingIn n_readingHour n_readingOf n_breathWas n_sheetSize n_sheetLane n_sheet n_hands n_traceNow) sz) := by
  refine xq_M (cc := cX6_codeAt) (maxL := 3) (ret := (some .int)) (QA := fun A => va_Qi (fun (rr : Int32) (uu : Unit) => post rr ) (fun (uu : Unit) => xq_B (dC, dI) [(cyI, .int), (cyJ, .long)] A (wm_u cyI cyJ ab n_fault n_things n_kindOf n_digitOf n_follows n_ifOf n_thenOf n_listOf n_breathOf n_heardOf n_readAt n_readThings n_readFollows n_readKind n_readDigit n_readIf n_readThen n_readings n_readingIn n_readingHour n_readingOf n_breathWas n_sheetSize n_sheetLane n_sheet n_hands n_traceNow)) A) (by decide) rfl (Nat.le_of_ble_eq_true rfl) ?_
  intro p e s m args below meth c A ls Q hQ hx hb hr hml hts hown hlocks hsz hP hK hD hA hS hN hl
  subst hsz
  have hl : lv_has ls 3 [(0, .ref (ab 0)), (1, .int a_1), (2, .int a_2)] := hl
  have hi_X6 : ∀ w ∈ wsX60, w ∈ wsX6_codeAt := fun _ h => List.mem_cons_of_mem _ (List.mem_append_right _ h)
  have fl_61 := hts (.fieldLink RX6 61 "UnsaidCallsModel" "sheet" "[I") (by decide +kernel)
  have fl_107 := hts (.fieldLink RX6 107 "UnsaidCallsModel" "readAt" "I") (by decide +kernel)
  unfold w_X6_codeAt at h
  refine lv_aload_n hx hb dX6_codeAt_0 rfl (lv_at hl 0 rfl) ?_
  refine va_get (D := (dC, dI)) (ci := 6) (v := .int n_readAt) (C := RX6) (T := TX6) (N := 27) hx hb hts hi_X6 hown hK hP 0 rfl rfl 10 (by decide) fl_107 (fun _ h9 => h9) rfl dX6_codeAt_1 ?_
  refine lv_iload_n hx hb dX6_codeAt_4 rfl (lv_at hl 2 rfl) ?_
  refine lv_icmp_ge (tgt := 22) hx hb dX6_codeAt_5 (by decide) (fun hc_2 => ?_) (fun hc_2 => ?_)
  · have h := h.1 hc_2
    refine lv_bipush (v := (-9 : Int32)) hx hb dX6_codeAt_22 (by decide) ?_
    exact xq_ri hQ hx hb hr hP hK hD hS () rfl h dX6_codeAt_24 hlocks
  · have h := h.2 hc_2
    refine lv_aload_n hx hb dX6_codeAt_8 rfl (lv_at hl 0 rfl) ?_
    refine va_get (D := (dC, dI)) (ci := 6) (v := .ref (ab 18)) (C := RX6) (T := TX6) (N := 27) hx hb hts hi_X6 hown hK hP 0 rfl rfl 24 (by decide) fl_61 (fun _ h9 => h9) rfl dX6_codeAt_9 ?_
    refine lv_iload_n hx hb dX6_codeAt_12 rfl (lv_at hl 1 rfl) ?_
    refine lv_aload_n hx hb dX6_codeAt_13 rfl (lv_at hl 0 rfl) ?_
    refine va_get (D := (dC, dI)) (ci := 6) (v := .int n_readAt) (C := RX6) (T := TX6) (N := 27) hx hb hts hi_X6 hown hK hP 0 rfl rfl 10 (by decide) fl_107 (fun _ h9 => h9) rfl dX6_codeAt_14 ?_
    refine lv_iadd hx hb dX6_codeAt_17 ?_
    obtain ⟨hv_1, h⟩ := h
    refine va_iald hx hb hK hP 18 0 rfl rfl hv_1 dX6_codeAt_18 ?_
    refine lv_goto (tgt := 24) hx hb dX6_codeAt_19 (by decide) ?_
    exact xq_ri hQ hx hb hr hP hK hD hS () rfl h dX6_codeAt_24 hlocks
def w_X6_copy_L107 (a_1 : Int32) (a_2 : Int32) (a_3 : Int32) (a_4 : Int32) (a_5 : Int32) (n_fault : Int32) (n_sheetSize : Nat → Int32) (n_sheetLane : Nat → Int32) (n_sheet : Nat → Int32) (post : Int32 → Int32 → (Nat → Int32) → (Nat → Int32) → Prop) (kk : (Nat → Int32) → Prop) : Nat → Int32 → (Nat → Int32) → Prop
  | 0, _, _ => False
  | f_107 + 1, a_6, n_hands => (a_5 ≤ a_6 → (kk n_hands)) ∧ (¬ a_5 ≤ a_6 → ((vp_in ((((60 : Int32) * a_1) + a_2) + a_6) 240) ∧ ((vp_in a_6 60) ∧ (w_X6_copy_L107 a_1 a_2 a_3 a_4 a_5 n_fault n_sheetSize n_sheetLane n_sheet post kk f_107 (a_6 + (1 : Int32)) (upd n_hands a_6.toNatClampNeg (n_sheet ((((60 : Int32) * a_1) + a_2) + a_6).toNatClampNeg))))))
def w_X6_copy_L144 (a_3 : Int32) (a_4 : Int32) (a_5 : Int32) (n_fault : Int32) (n_sheetSize : Nat → Int32) (n_sheetLane : Nat → Int32) (n_hands : Nat → Int32) (post : Int32 → Int32 → (Nat → Int32) → (Nat → Int32) → Prop) (kk : (Nat → Int32) → Prop) : Nat → Int32 → (Nat → Int32) → Prop
  | 0, _, _ => False
  | f_144 + 1, a_6, n_sheet => (a_5 ≤ a_6 → (kk n_sheet)) ∧ (¬ a_5 ≤ a_6 → ((vp_in a_6 60) ∧ ((vp_in ((((60 : Int32) * a_3) + a_4) + a_6) 240) ∧ (w_X6_copy_L144 a_3 a_4 a_5 n_fault n_sheetSize n_sheetLane n_hands post kk f_144 (a_6 + (1 : Int32)) (upd n_sheet ((((60 : Int32) * a_3) + a_4) + a_6).toNatClampNeg (n_hands a_6.toNatClampNeg))))))
def w_X6_copy (n_fault : Int32) (n_sheetSize : Nat → Int32) (n_sheetLane : Nat → Int32) (n_sheet : Nat → Int32) (n_hands : Nat → Int32) (a_1 : Int32) (a_2 : Int32) (a_3 : Int32) (a_4 : Int32) (a_5 : Int32) (post : Int32 → Int32 → (Nat → Int32) → (Nat → Int32) → Prop) : Prop := w_X6_noSheet a_1 (fun (rr_1 : Int32) => xq_j0 (fun (kj_2 : Prop) => (¬ rr_1 = 0 → (kj_2)) ∧ (rr_1 = 0 → (w_X6_noSheet a_3 (fun (rr_3 : Int32) => (rr_3 = 0 → ((vp_in a_1 4) ∧ (xq_j0 (fun (kj_5 : Prop) => ((n_sheetSize a_1.toNatClampNeg) < 0 → (kj_5)) ∧ (¬ (n_sheetSize a_1.toNatClampNeg) < 0 → ((vp_in a_3 4) ∧ ((0 ≤ (n_sheetSize a_3.toNatClampNeg) → ((vp_in a_1 4) ∧ ((vp_in a_3 4) ∧ (((n_sheetLane a_1.toNatClampNeg) = (n_sheetLane a_3.toNatClampNeg) → ((vp_in a_1 4) ∧ (w_X6_isBeyond a_2 (Int32.toInt64 a_5) (n_sheetSize a_1.toNatClampNeg) (fun (rr_10 : Int32) => xq_j0 (fun (kj_11 : Prop) => (¬ rr_10 = 0 → (kj_11)) ∧ (rr_10 = 0 → ((vp_in a_3 4) ∧ (w_X6_isBeyond a_4 (Int32.toInt64 a_5) (n_sheetSize a_3.toNatClampNeg) (fun (rr_13 : Int32) => (rr_13 = 0 → (∃ e_107, w_X6_copy_L107 a_1 a_2 a_3 a_4 a_5 n_fault n_sheetSize n_sheetLane n_sheet post (fun (xx_16 : Nat → Int32) => ∃ e_144, w_X6_copy_L144 a_3 a_4 a_5 n_fault n_sheetSize n_sheetLane xx_16 post (fun (xx_19 : Nat → Int32) => w_X6_refused n_fault a_5 (fun (rr_20 : Int32) (cc_21 : Int32) => post rr_20 cc_21 xx_19 xx_16)) e_144 (0 : Int32) n_sheet) e_107 (0 : Int32) n_hands)) ∧ (¬ rr_13 = 0 → (kj_11))))))) (w_X6_failed n_fault (3 : Int32) (fun (rr_32 : Int32) (cc_33 : Int32) => post rr_32 cc_33 n_sheet n_hands)))))) ∧ (¬ (n_sheetLane a_1.toNatClampNeg) = (n_sheetLane a_3.toNatClampNeg) → (w_X6_failed n_fault (2 : Int32) (fun (rr_36 : Int32) (cc_37 : Int32) => post rr_36 cc_37 n_sheet n_hands))))))) ∧ (¬ 0 ≤ (n_sheetSize a_3.toNatClampNeg) → (kj_5)))))) (w_X6_failed n_fault (1 : Int32) (fun (rr_42 : Int32) (cc_43 : Int32) => post rr_42 cc_43 n_sheet n_hands))))) ∧ (¬ rr_3 = 0 → (kj_2)))))) (w_X6_refused n_fault (-1 : Int32) (fun (rr_48 : Int32) (cc_49 : Int32) => post rr_48 cc_49 n_sheet n_hands)))
set_option maxHeartbeats 4000000 in
set_option maxRecDepth 100000 in
theorem m_X6_copy (l : Launch) (dC : Nat → ClassId) (dI : Nat → Nat → Nat) (cyI cyJ : ClassId) (ab : Nat → Nat) (sz : Nat) {n_fault : Int32} {n_things : Int32} {n_kindOf : Nat → Int32} {n_digitOf : Nat → Int32} {n_follows : Int32} {n_ifOf : Nat → Int32} {n_thenOf : Nat → Int32} {n_listOf : Nat → Int32} {n_breathOf : Nat → Int32} {n_heardOf : Nat → Int32} {n_readAt : Int32} {n_readThings : Int32} {n_readFollows : Int32} {n_readKind : Nat → Int32} {n_readDigit : Nat → Int32} {n_readIf : Nat → Int32} {n_readThen : Nat → Int32} {n_readings : Int32} {n_readingIn : Nat → Int32} {n_readingHour : Nat → Int32} {n_readingOf : Nat → Int32} {n_breathWas : Nat → Int32} {n_sheetSize : Nat → Int32} {n_sheetLane : Nat → Int32} {n_sheet : Nat → Int32} {n_hands : Nat → Int32} {n_traceNow : Int32} {a_1 : Int32} {a_2 : Int32} {a_3 : Int32} {a_4 : Int32} {a_5 : Int32} {post : Int32 → Int32 → (Nat → Int32) → (Nat → Int32) → Prop} (h : w_X6_copy n_fault n_sheetSize n_sheetLane n_sheet n_hands a_1 a_2 a_3 a_4 a_5 post) : Met l yX6_copy wsX6_copy (xq_R 2 45) (va_Pc [.ref (ab 0), .int a_1, .int a_2, .int a_3, .int a_4, .int a_5] (xq_P (dC, dI) [(cyI, .int), (cyJ, .long)] (wm_u cyI cyJ ab n_fault n_things n_kindOf n_digitOf n_follows n_ifOf n_thenOf n_listOf n_breathOf n_heardOf n_readAt n_readThings n_readFollows n_readKind n_readDigit n_readIf n_readThen n_readings n_readingIn n_readingHour n_readingOf n_breathWas n_sheetSize n_sheetLane n_sheet n_hands n_traceNow) sz)) (va_Qi (fun (rr : Int32) (uu : Int32 × (Nat → Int32) × (Nat → Int32)) => post rr uu.1 uu.2.1 uu.2.2) (fun (uu : Int32 × (Nat → Int32) × (Nat → Int32)) => xq_B (dC, dI) [(cyI, .int), (cyJ, .long)] (va_A (wm_u cyI cyJ ab n_fault n_things n_kindOf n_digitOf n_follows n_ifOf n_thenOf n_listOf n_breathOf n_heardOf n_readAt n_readThings n_readFollows n_readKind n_readDigit n_readIf n_readThen n_readings n_readingIn n_readingHour n_readingOf n_breathWas n_sheetSize n_sheetLane n_sheet n_hands n_traceNow) sz) (wm_u cyI cyJ ab uu.1 n_things n_kindOf n_digitOf n_follows n_ifOf n_thenOf n_listOf n_breathOf n_heardOf n_readAt n_readThings n_readFollows n_readKind n_readDigit n_readIf n_readThen n_readings n_readingIn n_readingHour n_readingOf n_breathWas n_sheetSize n_sheetLane uu.2.1 uu.2.2 n_traceNow)) (va_A (wm_u cyI cyJ ab n_fault n_things n_kindOf n_digitOf n_follows n_ifOf n_thenOf n_listOf n_breathOf n_heardOf n_readAt n_readThings n_readFollows n_readKind n_readDigit n_readIf n_readThen n_readings n_readingIn n_readingHour n_readingOf n_breathWas n_sheetSize n_sheetLane n_sheet n_hands n_traceNow) sz)) 0 0 (va_A (wm_u cyI cyJ ab n_fault n_things n_kindOf n_digitOf n_follows n_ifOf n_thenOf n_listOf n_breathOf n_heardOf n_readAt n_readThings n_readFollows n_readKind n_readDigit n_readIf n_readThen n_readings n_readingIn n_readingHour n_readingOf n_breathWas n_sheetSize n_sheetLane n_sheet n_hands n_traceNow) sz) := by
  refine xq_M (cc := cX6_copy) (maxL := 7) (ret := (some .int)) (QA := fun A => va_Qi (fun (rr : Int32) (uu : Int32 × (Nat → Int32) × (Nat → Int32)) => post rr uu.1 uu.2.1 uu.2.2) (fun (uu : Int32 × (Nat → Int32) × (Nat → Int32)) => xq_B (dC, dI) [(cyI, .int), (cyJ, .long)] A (wm_u cyI cyJ ab uu.1 n_things n_kindOf n_digitOf n_follows n_ifOf n_thenOf n_listOf n_breathOf n_heardOf n_readAt n_readThings n_readFollows n_readKind n_readDigit n_readIf n_readThen n_readings n_readingIn n_readingHour n_readingOf n_breathWas n_sheetSize n_sheetLane uu.2.1 uu.2.2 n_traceNow)) A) (by decide) rfl (Nat.le_of_ble_eq_true rfl) ?_
  intro p e s m args below meth c A ls Q hQ hx hb hr hml hts hown hlocks hsz hP hK hD hA hS hN hl
  subst hsz
  have hl : lv_has ls 7 [(0, .ref (ab 0)), (1, .int a_1), (2, .int a_2), (3, .int a_3), (4, .int a_4), (5, .int a_5)] := hl
  have hi_X6 : ∀ w ∈ wsX60, w ∈ wsX6_copy := fun _ h => List.mem_cons_of_mem _ (List.mem_append_right _ h)
  have fl_55 := hts (.fieldLink RX6 55 "UnsaidCallsModel" "sheetSize" "[I") (by decide +kernel)
  have fl_58 := hts (.fieldLink RX6 58 "UnsaidCallsModel" "sheetLane" "[I") (by decide +kernel)
  have fl_61 := hts (.fieldLink RX6 61 "UnsaidCallsModel" "sheet" "[I") (by decide +kernel)
  have fl_64 := hts (.fieldLink RX6 64 "UnsaidCallsModel" "hands" "[I") (by decide +kernel)
  unfold w_X6_copy at h
  refine lv_iload_n hx hb dX6_copy_0 rfl (lv_at hl 1 rfl) ?_
  refine xq_ci (va_runS (As := [.int a_1]) (rest := []) ⟨hx, hb, hml, hown, hts⟩ (m_X6_noSheet l dC dI cyI cyJ (wm_u cyI cyJ ab n_fault n_things n_kindOf n_digitOf n_follows n_ifOf n_thenOf n_listOf n_breathOf n_heardOf n_readAt n_readThings n_readFollows n_readKind n_readDigit n_readIf n_readThen n_readings n_readingIn n_readingHour n_readingOf n_breathWas n_sheetSize n_sheetLane n_sheet n_hands n_traceNow) s.heap.size h) (va_cwS 1 hts gX6_copy_X6_noSheet rfl rfl rfl (by decide +kernel) ⟨Nat.le_of_ble_eq_true rfl, Nat.le_of_ble_eq_true rfl⟩) (xq_preS hK hP hD hN) rfl rfl hl.1 rfl (lv_room (Nat.le_of_ble_eq_true rfl)) dX6_copy_1 ⟨Nat.le_refl _, Nat.le_refl _⟩) hD hS hA (fun rr_1 uu H locs h hP hD hS => ?_)
  have hP : va_P (dC, dI) vwCl (wm_u cyI cyJ ab n_fault n_things n_kindOf n_digitOf n_follows n_ifOf n_thenOf n_listOf n_breathOf n_heardOf n_readAt n_readThings n_readFollows n_readKind n_readDigit n_readIf n_readThen n_readings n_readingIn n_readingHour n_readingOf n_breathWas n_sheetSize n_sheetLane n_sheet n_hands n_traceNow) H := hP
  have hD : va_D A (wm_u cyI cyJ ab n_fault n_things n_kindOf n_digitOf n_follows n_ifOf n_thenOf n_listOf n_breathOf n_heardOf n_readAt n_readThings n_readFollows n_readKind n_readDigit n_readIf n_readThen n_readings n_readingIn n_readingHour n_readingOf n_breathWas n_sheetSize n_sheetLane n_sheet n_hands n_traceNow) := hD
  refine xq_j0_go (X := ∀ (H : Heap) (locs : List Loc) (ls : Array Slot), va_P (dC, dI) vwCl (wm_u cyI cyJ ab n_fault n_things n_kindOf n_digitOf n_follows n_ifOf n_thenOf n_listOf n_breathOf n_heardOf n_readAt n_readThings n_readFollows n_readKind n_readDigit n_readIf n_readThen n_readings n_readingIn n_readingHour n_readingOf n_breathWas n_sheetSize n_sheetLane n_sheet n_hands n_traceNow) H → va_D A (wm_u cyI cyJ ab n_fault n_things n_kindOf n_digitOf n_follows n_ifOf n_thenOf n_listOf n_breathOf n_heardOf n_readAt n_readThings n_readFollows n_readKind n_readDigit n_readIf n_readThen n_readings n_readingIn n_readingHour n_readingOf n_breathWas n_sheetSize n_sheetLane n_sheet n_hands n_traceNow) → va_S A s.heap H locs → lv_has ls 7 [(0, .ref (ab 0))] → W p l e (xq_R 2 45) s m args below meth c H locs 0 0 Q (F0 m 14 ls [])) h (fun  h H locs ls hP hD hS hl => ?_) (fun kj_2 h => ?_)
  · refine lv_aload_n hx hb dX6_copy_14 rfl (lv_at hl 0 rfl) ?_
    refine lv_iconst (v := (-1 : Int32)) hx hb dX6_copy_15 (by decide) ?_
    refine xq_ci (va_runV (As := [.int (-1 : Int32)]) (rest := []) ⟨hx, hb, hml, hown, hts⟩ (m_X6_refused l dC dI cyI cyJ ab H.size h) (cwV 1 hts gX6_copy_X6_refused rfl rfl rfl (by decide +kernel) ⟨Nat.le_of_ble_eq_true rfl, Nat.le_of_ble_eq_true rfl⟩) (xq_preV hK hP hD hN (ci := 6) (q0 := 0) rfl rfl) rfl rfl hl.1 rfl (lv_room (Nat.le_of_ble_eq_true rfl)) dX6_copy_16 ⟨Nat.le_refl _, Nat.le_refl _⟩) hD hS hA (fun rr_48 uu H locs h hP hD hS => ?_)
    obtain ⟨cc_49, rfl⟩ : ∃ z, z = uu := ⟨_, rfl⟩
    have hP : va_P (dC, dI) vwCl (wm_u cyI cyJ ab cc_49 n_things n_kindOf n_digitOf n_follows n_ifOf n_thenOf n_listOf n_breathOf n_heardOf n_readAt n_readThings n_readFollows n_readKind n_readDigit n_readIf n_readThen n_readings n_readingIn n_readingHour n_readingOf n_breathWas n_sheetSize n_sheetLane n_sheet n_hands n_traceNow) H := hP
    have hD : va_D A (wm_u cyI cyJ ab cc_49 n_things n_kindOf n_digitOf n_follows n_ifOf n_thenOf n_listOf n_breathOf n_heardOf n_readAt n_readThings n_readFollows n_readKind n_readDigit n_readIf n_readThen n_readings n_readingIn n_readingHour n_readingOf n_breathWas n_sheetSize n_sheetLane n_sheet n_hands n_traceNow) := hD
    exact xq_ri hQ hx hb hr hP hK hD hS (cc_49, n_sheet, n_hands) rfl h dX6_copy_19 hlocks
  · refine lv_if_ne (tgt := 14) hx hb dX6_copy_4 (by decide) (fun hc_47 => ?_) (fun hc_47 => ?_)
    · have h := h.1 hc_47
      exact kj_2 h _ _ _ hP hD hS (lv_sub hl [0] rfl)
    · have h := h.2 hc_47
      refine lv_iload_n hx hb dX6_copy_7 rfl (lv_at hl 3 rfl) ?_
      refine xq_ci (va_runS (As := [.int a_3]) (rest := []) ⟨hx, hb, hml, hown, hts⟩ (m_X6_noSheet l dC dI cyI cyJ (wm_u cyI cyJ ab n_fault n_things n_kindOf n_digitOf n_follows n_ifOf n_thenOf n_listOf n_breathOf n_heardOf n_readAt n_readThings n_readFollows n_readKind n_readDigit n_readIf n_readThen n_readings n_readingIn n_readingHour n_readingOf n_breathWas n_sheetSize n_sheetLane n_sheet n_hands n_traceNow) H.size h) (va_cwS 1 hts gX6_copy_X6_noSheet rfl rfl rfl (by decide +kernel) ⟨Nat.le_of_ble_eq_true rfl, Nat.le_of_ble_eq_true rfl⟩) (xq_preS hK hP hD hN) rfl rfl hl.1 rfl (lv_room (Nat.le_of_ble_eq_true rfl)) dX6_copy_8 ⟨Nat.le_refl _, Nat.le_refl _⟩) hD hS hA (fun rr_3 uu H locs h hP hD hS => ?_)
      have hP : va_P (dC, dI) vwCl (wm_u cyI cyJ ab n_fault n_things n_kindOf n_digitOf n_follows n_ifOf n_thenOf n_listOf n_breathOf n_heardOf n_readAt n_readThings n_readFollows n_readKind n_readDigit n_readIf n_readThen n_readings n_readingIn n_readingHour n_readingOf n_breathWas n_sheetSize n_sheetLane n_sheet n_hands n_traceNow) H := hP
      have hD : va_D A (wm_u cyI cyJ ab n_fault n_things n_kindOf n_digitOf n_follows n_ifOf n_thenOf n_listOf n_breathOf n_heardOf n_readAt n_readThings n_readFollows n_readKind n_readDigit n_readIf n_readThen n_readings n_readingIn n_readingHour n_readingOf n_breathWas n_sheetSize n_sheetLane n_sheet n_hands n_traceNow) := hD
      refine lv_if_eq (tgt := 20) hx hb dX6_copy_11 (by decide) (fun hc_45 => ?_) (fun hc_45 => ?_)
      · have h := h.1 hc_45
        refine lv_aload_n hx hb dX6_copy_20 rfl (lv_at hl 0 rfl) ?_
        refine va_get (D := (dC, dI)) (ci := 6) (v := .ref (ab 16)) (C := RX6) (T := TX6) (N := 27) hx hb hts hi_X6 hown hK hP 0 rfl rfl 22 (by decide) fl_55 (fun _ h9 => h9) rfl dX6_copy_21 ?_
        refine lv_iload_n hx hb dX6_copy_24 rfl (lv_at hl 1 rfl) ?_
        obtain ⟨hv_4, h⟩ := h
        refine va_iald hx hb hK hP 16 0 rfl rfl hv_4 dX6_copy_25 ?_
        refine xq_j0_go (X := ∀ (H : Heap) (locs : List Loc) (ls : Array Slot), va_P (dC, dI) vwCl (wm_u cyI cyJ ab n_fault n_things n_kindOf n_digitOf n_follows n_ifOf n_thenOf n_listOf n_breathOf n_heardOf n_readAt n_readThings n_readFollows n_readKind n_readDigit n_readIf n_readThen n_readings n_readingIn n_readingHour n_readingOf n_breathWas n_sheetSize n_sheetLane n_sheet n_hands n_traceNow) H → va_D A (wm_u cyI cyJ ab n_fault n_things n_kindOf n_digitOf n_follows n_ifOf n_thenOf n_listOf n_breathOf n_heardOf n_readAt n_readThings n_readFollows n_readKind n_readDigit n_readIf n_readThen n_readings n_readingIn n_readingHour n_readingOf n_breathWas n_sheetSize n_sheetLane n_sheet n_hands n_traceNow) → va_S A s.heap H locs → lv_has ls 7 [(0, .ref (ab 0))] → W p l e (xq_R 2 45) s m args below meth c H locs 0 0 Q (F0 m 38 ls [])) h (fun  h H locs ls hP hD hS hl => ?_) (fun kj_5 h => ?_)
        · refine lv_aload_n hx hb dX6_copy_38 rfl (lv_at hl 0 rfl) ?_
          refine lv_iconst (v := (1 : Int32)) hx hb dX6_copy_39 (by decide) ?_
          refine xq_ci (va_runV (As := [.int (1 : Int32)]) (rest := []) ⟨hx, hb, hml, hown, hts⟩ (m_X6_failed l dC dI cyI cyJ ab H.size h) (cwV 1 hts gX6_copy_X6_failed rfl rfl rfl (by decide +kernel) ⟨Nat.le_of_ble_eq_true rfl, Nat.le_of_ble_eq_true rfl⟩) (xq_preV hK hP hD hN (ci := 6) (q0 := 0) rfl rfl) rfl rfl hl.1 rfl (lv_room (Nat.le_of_ble_eq_true rfl)) dX6_copy_40 ⟨Nat.le_refl _, Nat.le_refl _⟩) hD hS hA (fun rr_42 uu H locs h hP hD hS => ?_)
          obtain ⟨cc_43, rfl⟩ : ∃ z, z = uu := ⟨_, rfl⟩
          have hP : va_P (dC, dI) vwCl (wm_u cyI cyJ ab cc_43 n_things n_kindOf n_digitOf n_follows n_ifOf n_thenOf n_listOf n_breathOf n_heardOf n_readAt n_readThings n_readFollows n_readKind n_readDigit n_readIf n_readThen n_readings n_readingIn n_readingHour n_readingOf n_breathWas n_sheetSize n_sheetLane n_sheet n_hands n_traceNow) H := hP
          have hD : va_D A (wm_u cyI cyJ ab cc_43 n_things n_kindOf n_digitOf n_follows n_ifOf n_thenOf n_listOf n_breathOf n_heardOf n_readAt n_readThings n_readFollows n_readKind n_readDigit n_readIf n_readThen n_readings n_readingIn n_readingHour n_readingOf n_breathWas n_sheetSize n_sheetLane n_sheet n_hands n_traceNow) := hD
          exact xq_ri hQ hx hb hr hP hK hD hS (cc_43, n_sheet, n_hands) rfl h dX6_copy_43 hlocks
        · refine lv_if_lt (tgt := 38) hx hb dX6_copy_26 (by decide) (fun hc_41 => ?_) (fun hc_41 => ?_)
          · have h := h.1 hc_41
            exact kj_5 h _ _ _ hP hD hS (lv_sub hl [0] rfl)
          · have h := h.2 hc_41
            refine lv_aload_n hx hb dX6_copy_29 rfl (lv_at hl 0 rfl) ?_
            refine va_get (D := (dC, dI)) (ci := 6) (v := .ref (ab 16)) (C := RX6) (T := TX6) (N := 27) hx hb hts hi_X6 hown hK hP 0 rfl rfl 22 (by decide) fl_55 (fun _ h9 => h9) rfl dX6_copy_30 ?_
            refine lv_iload_n hx hb dX6_copy_33 rfl (lv_at hl 3 rfl) ?_
            obtain ⟨hv_6, h⟩ := h
            refine va_iald hx hb hK hP 16 0 rfl rfl hv_6 dX6_copy_34 ?_
            refine lv_if_ge (tgt := 44) hx hb dX6_copy_35 (by decide) (fun hc_40 => ?_) (fun hc_40 => ?_)
            · have h := h.1 hc_40
              refine lv_aload_n hx hb dX6_copy_44 rfl (lv_at hl 0 rfl) ?_
              refine va_get (D := (dC, dI)) (ci := 6) (v := .ref (ab 17)) (C := RX6) (T := TX6) (N := 27) hx hb hts hi_X6 hown hK hP 0 rfl rfl 23 (by decide) fl_58 (fun _ h9 => h9) rfl dX6_copy_45 ?_
              refine lv_iload_n hx hb dX6_copy_48 rfl (lv_at hl 1 rfl) ?_
              obtain ⟨hv_7, h⟩ := h
              refine va_iald hx hb hK hP 17 0 rfl rfl hv_7 dX6_copy_49 ?_
              refine lv_aload_n hx hb dX6_copy_50 rfl (lv_at hl 0 rfl) ?_
              refine va_get (D := (dC, dI)) (ci := 6) (v := .ref (ab 17)) (C := RX6) (T := TX6) (N := 27) hx hb hts hi_X6 hown hK hP 0 rfl rfl 23 (by decide) fl_58 (fun _ h9 => h9) rfl dX6_copy_51 ?_
              refine lv_iload_n hx hb dX6_copy_54 rfl (lv_at hl 3 rfl) ?_
              obtain ⟨hv_8, h⟩ := h
              refine va_iald hx hb hK hP 17 0 rfl rfl hv_8 dX6_copy_55 ?_
              refine lv_icmp_eq (tgt := 65) hx hb dX6_copy_56 (by decide) (fun hc_39 => ?_) (fun hc_39 => ?_)
              · have h := h.1 hc_39
                refine lv_iload_n hx hb dX6_copy_65 rfl (lv_at hl 2 rfl) ?_
                refine lv_iload hx hb dX6_copy_66 (lv_at hl 5 rfl) ?_
                refine lv_i2l (v := (Int32.toInt64 a_5)) hx hb dX6_copy_68 rfl ?_
                refine lv_aload_n hx hb dX6_copy_69 rfl (lv_at hl 0 rfl) ?_
                refine va_get (D := (dC, dI)) (ci := 6) (v := .ref (ab 16)) (C := RX6) (T := TX6) (N := 27) hx hb hts hi_X6 hown hK hP 0 rfl rfl 22 (by decide) fl_55 (fun _ h9 => h9) rfl dX6_copy_70 ?_
                refine lv_iload_n hx hb dX6_copy_73 rfl (lv_at hl 1 rfl) ?_
                obtain ⟨hv_9, h⟩ := h
                refine va_iald hx hb hK hP 16 0 rfl rfl hv_9 dX6_copy_74 ?_
                refine xq_ci (va_runS (As := [.int a_2, .long (Int32.toInt64 a_5), .int (n_sheetSize a_1.toNatClampNeg)]) (rest := []) ⟨hx, hb, hml, hown, hts⟩ (m_X6_isBeyond l dC dI cyI cyJ (wm_u cyI cyJ ab n_fault n_things n_kindOf n_digitOf n_follows n_ifOf n_thenOf n_listOf n_breathOf n_heardOf n_readAt n_readThings n_readFollows n_readKind n_readDigit n_readIf n_readThen n_readings n_readingIn n_readingHour n_readingOf n_breathWas n_sheetSize n_sheetLane n_sheet n_hands n_traceNow) H.size h) (va_cwS 3 hts gX6_copy_X6_isBeyond rfl rfl rfl (by decide +kernel) ⟨Nat.le_of_ble_eq_true rfl, Nat.le_of_ble_eq_true rfl⟩) (xq_preS hK hP hD hN) rfl rfl hl.1 rfl (lv_room (Nat.le_of_ble_eq_true rfl)) dX6_copy_75 ⟨Nat.le_refl _, Nat.le_refl _⟩) hD hS hA (fun rr_10 uu H locs h hP hD hS => ?_)
                have hP : va_P (dC, dI) vwCl (wm_u cyI cyJ ab n_fault n_things n_kindOf n_digitOf n_follows n_ifOf n_thenOf n_listOf n_breathOf n_heardOf n_readAt n_readThings n_readFollows n_readKind n_readDigit n_readIf n_readThen n_readings n_readingIn n_readingHour n_readingOf n_breathWas n_sheetSize n_sheetLane n_sheet n_hands n_traceNow) H := hP
                have hD : va_D A (wm_u cyI cyJ ab n_fault n_things n_kindOf n_digitOf n_follows n_ifOf n_thenOf n_listOf n_breathOf n_heardOf n_readAt n_readThings n_readFollows n_readKind n_readDigit n_readIf n_readThen n_readings n_readingIn n_readingHour n_readingOf n_breathWas n_sheetSize n_sheetLane n_sheet n_hands n_traceNow) := hD
                refine xq_j0_go (X := ∀ (H : Heap) (locs : List Loc) (ls : Array Slot), va_P (dC, dI) vwCl (wm_u cyI cyJ ab n_fault n_things n_kindOf n_digitOf n_follows n_ifOf n_thenOf n_listOf n_breathOf n_heardOf n_readAt n_readThings n_readFollows n_readKind n_readDigit n_readIf n_readThen n_readings n_readingIn n_readingHour n_readingOf n_breathWas n_sheetSize n_sheetLane n_sheet n_hands n_traceNow) H → va_D A (wm_u cyI cyJ ab n_fault n_things n_kindOf n_digitOf n_follows n_ifOf n_thenOf n_listOf n_breathOf n_heardOf n_readAt n_readThings n_readFollows n_readKind n_readDigit n_readIf n_readThen n_readings n_readingIn n_readingHour n_readingOf n_breathWas n_sheetSize n_sheetLane n_sheet n_hands n_traceNow) → va_S A s.heap H locs → lv_has ls 7 [(0, .ref (ab 0))] → W p l e (xq_R 2 45) s m args below meth c H locs 0 0 Q (F0 m 98 ls [])) h (fun  h H locs ls hP hD hS hl => ?_) (fun kj_11 h => ?_)
                · refine lv_aload_n hx hb dX6_copy_98 rfl (lv_at hl 0 rfl) ?_
                  refine lv_iconst (v := (3 : Int32)) hx hb dX6_copy_99 (by decide) ?_
                  refine xq_ci (va_runV (As := [.int (3 : Int32)]) (rest := []) ⟨hx, hb, hml, hown, hts⟩ (m_X6_failed l dC dI cyI cyJ ab H.size h) (cwV 1 hts gX6_copy_X6_failed rfl rfl rfl (by decide +kernel) ⟨Nat.le_of_ble_eq_true rfl, Nat.le_of_ble_eq_true rfl⟩) (xq_preV hK hP hD hN (ci := 6) (q0 := 0) rfl rfl) rfl rfl hl.1 rfl (lv_room (Nat.le_of_ble_eq_true rfl)) dX6_copy_100 ⟨Nat.le_refl _, Nat.le_refl _⟩) hD hS hA (fun rr_32 uu H locs h hP hD hS => ?_)
                  obtain ⟨cc_33, rfl⟩ : ∃ z, z = uu := ⟨_, rfl⟩
                  have hP : va_P (dC, dI) vwCl (wm_u cyI cyJ ab cc_33 n_things n_kindOf n_digitOf n_follows n_ifOf n_thenOf n_listOf n_breathOf n_heardOf n_readAt n_readThings n_readFollows n_readKind n_readDigit n_readIf n_readThen n_readings n_readingIn n_readingHour n_readingOf n_breathWas n_sheetSize n_sheetLane n_sheet n_hands n_traceNow) H := hP
                  have hD : va_D A (wm_u cyI cyJ ab cc_33 n_things n_kindOf n_digitOf n_follows n_ifOf n_thenOf n_listOf n_breathOf n_heardOf n_readAt n_readThings n_readFollows n_readKind n_readDigit n_readIf n_readThen n_readings n_readingIn n_readingHour n_readingOf n_breathWas n_sheetSize n_sheetLane n_sheet n_hands n_traceNow) := hD
                  exact xq_ri hQ hx hb hr hP hK hD hS (cc_33, n_sheet, n_hands) rfl h dX6_copy_103 hlocks
                · refine lv_if_ne (tgt := 98) hx hb dX6_copy_78 (by decide) (fun hc_31 => ?_) (fun hc_31 => ?_)
                  · have h := h.1 hc_31
                    exact kj_11 h _ _ _ hP hD hS (lv_sub hl [0] rfl)
                  · have h := h.2 hc_31
                    refine lv_iload hx hb dX6_copy_81 (lv_at hl 4 rfl) ?_
                    refine lv_iload hx hb dX6_copy_83 (lv_at hl 5 rfl) ?_
                    refine lv_i2l (v := (Int32.toInt64 a_5)) hx hb dX6_copy_85 rfl ?_
                    refine lv_aload_n hx hb dX6_copy_86 rfl (lv_at hl 0 rfl) ?_
                    refine va_get (D := (dC, dI)) (ci := 6) (v := .ref (ab 16)) (C := RX6) (T := TX6) (N := 27) hx hb hts hi_X6 hown hK hP 0 rfl rfl 22 (by decide) fl_55 (fun _ h9 => h9) rfl dX6_copy_87 ?_
                    refine lv_iload_n hx hb dX6_copy_90 rfl (lv_at hl 3 rfl) ?_
                    obtain ⟨hv_12, h⟩ := h
                    refine va_iald hx hb hK hP 16 0 rfl rfl hv_12 dX6_copy_91 ?_
                    refine xq_ci (va_runS (As := [.int a_4, .long (Int32.toInt64 a_5), .int (n_sheetSize a_3.toNatClampNeg)]) (rest := []) ⟨hx, hb, hml, hown, hts⟩ (m_X6_isBeyond l dC dI cyI cyJ (wm_u cyI cyJ ab n_fault n_things n_kindOf n_digitOf n_follows n_ifOf n_thenOf n_listOf n_breathOf n_heardOf n_readAt n_readThings n_readFollows n_readKind n_readDigit n_readIf n_readThen n_readings n_readingIn n_readingHour n_readingOf n_breathWas n_sheetSize n_sheetLane n_sheet n_hands n_traceNow) H.size h) (va_cwS 3 hts gX6_copy_X6_isBeyond rfl rfl rfl (by decide +kernel) ⟨Nat.le_of_ble_eq_true rfl, Nat.le_of_ble_eq_true rfl⟩) (xq_preS hK hP hD hN) rfl rfl hl.1 rfl (lv_room (Nat.le_of_ble_eq_true rfl)) dX6_copy_92 ⟨Nat.le_refl _, Nat.le_refl _⟩) hD hS hA (fun rr_13 uu H locs h hP hD hS => ?_)
                    have hP : va_P (dC, dI) vwCl (wm_u cyI cyJ ab n_fault n_things n_kindOf n_digitOf n_follows n_ifOf n_thenOf n_listOf n_breathOf n_heardOf n_readAt n_readThings n_readFollows n_readKind n_readDigit n_readIf n_readThen n_readings n_readingIn n_readingHour n_readingOf n_breathWas n_sheetSize n_sheetLane n_sheet n_hands n_traceNow) H := hP
                    have hD : va_D A (wm_u cyI cyJ ab n_fault n_things n_kindOf n_digitOf n_follows n_ifOf n_thenOf n_listOf n_breathOf n_heardOf n_readAt n_readThings n_readFollows n_readKind n_readDigit n_readIf n_readThen n_readings n_readingIn n_readingHour n_readingOf n_breathWas n_sheetSize n_sheetLane n_sheet n_hands n_traceNow) := hD
                    refine lv_if_eq (tgt := 104) hx hb dX6_copy_95 (by decide) (fun hc_29 => ?_) (fun hc_29 => ?_)
                    · have h := h.1 hc_29
                      refine lv_iconst (v := (0 : Int32)) hx hb dX6_copy_104 (by decide) ?_
                      refine lv_istore (lv' := [(6, .int (0 : Int32)), (0, .ref (ab 0)), (1, .int a_1), (2, .int a_2), (3, .int a_3), (4, .int a_4), (5, .int a_5)]) hx hb dX6_copy_105 hl (by decide) rfl (fun ls hl => ?_)
                      obtain ⟨ni, h⟩ := h
                      have lp_107 : ∀ (kk : (Nat → Int32) → Prop), (∀ (xx_16 : Nat → Int32) (H : Heap) (locs : List Loc) (ls : Array Slot), va_P (dC, dI) vwCl (wm_u cyI cyJ ab n_fault n_things n_kindOf n_digitOf n_follows n_ifOf n_thenOf n_listOf n_breathOf n_heardOf n_readAt n_readThings n_readFollows n_readKind n_readDigit n_readIf n_readThen n_readings n_readingIn n_readingHour n_readingOf n_breathWas n_sheetSize n_sheetLane n_sheet xx_16 n_traceNow) H → va_D A (wm_u cyI cyJ ab n_fault n_things n_kindOf n_digitOf n_follows n_ifOf n_thenOf n_listOf n_breathOf n_heardOf n_readAt n_readThings n_readFollows n_readKind n_readDigit n_readIf n_readThen n_readings n_readingIn n_readingHour n_readingOf n_breathWas n_sheetSize n_sheetLane n_sheet xx_16 n_traceNow) → va_S A s.heap H locs → lv_has ls 7 [(0, .ref (ab 0)), (3, .int a_3), (4, .int a_4), (5, .int a_5)] → kk xx_16 → W p l e (xq_R 2 45) s m args below meth c H locs 0 0 Q (F0 m 141 ls [])) → ∀ (ni : Nat) (aa_14 : Int32) (cc_15 : Nat → Int32) (H : Heap) (locs : List Loc) (ls : Array Slot), va_P (dC, dI) vwCl (wm_u cyI cyJ ab n_fault n_things n_kindOf n_digitOf n_follows n_ifOf n_thenOf n_listOf n_breathOf n_heardOf n_readAt n_readThings n_readFollows n_readKind n_readDigit n_readIf n_readThen n_readings n_readingIn n_readingHour n_readingOf n_breathWas n_sheetSize n_sheetLane n_sheet cc_15 n_traceNow) H → va_D A (wm_u cyI cyJ ab n_fault n_things n_kindOf n_digitOf n_follows n_ifOf n_thenOf n_listOf n_breathOf n_heardOf n_readAt n_readThings n_readFollows n_readKind n_readDigit n_readIf n_readThen n_readings n_readingIn n_readingHour n_readingOf n_breathWas n_sheetSize n_sheetLane n_sheet cc_15 n_traceNow) → va_S A s.heap H locs → lv_has ls 7 [(0, .ref (ab 0)), (1, .int a_1), (2, .int a_2), (3, .int a_3), (4, .int a_4), (5, .int a_5), (6, .int aa_14)] → w_X6_copy_L107 a_1 a_2 a_3 a_4 a_5 n_fault n_sheetSize n_sheetLane n_sheet post kk ni aa_14 cc_15 → W p l e (xq_R 2 45) s m args below meth c H locs 0 0 Q (F0 m 107 ls []) := by
                        intro kk kx ni
                        induction ni with
                        | zero => intros; exact False.elim (by assumption)
                        | succ ni ih =>
                          intro aa_14 cc_15 H locs ls hP hD hS hl h
                          rw [w_X6_copy_L107] at h
                          refine lv_iload hx hb dX6_copy_107 (lv_at hl 6 rfl) ?_
                          refine lv_iload hx hb dX6_copy_109 (lv_at hl 5 rfl) ?_
                          refine lv_icmp_ge (tgt := 141) hx hb dX6_copy_111 (by decide) (fun hc_28 => ?_) (fun hc_28 => ?_)
                          · have h := h.1 hc_28
                            exact kx cc_15 _ _ _ hP hD hS (lv_sub hl [0, 3, 4, 5] rfl) h
                          · have h := h.2 hc_28
                            refine lv_aload_n hx hb dX6_copy_114 rfl (lv_at hl 0 rfl) ?_
                            refine va_get (D := (dC, dI)) (ci := 6) (v := .ref (ab 19)) (C := RX6) (T := TX6) (N := 27) hx hb hts hi_X6 hown hK hP 0 rfl rfl 25 (by decide) fl_64 (fun _ h9 => h9) rfl dX6_copy_115 ?_
                            refine lv_iload hx hb dX6_copy_118 (lv_at hl 6 rfl) ?_
                            refine lv_aload_n hx hb dX6_copy_120 rfl (lv_at hl 0 rfl) ?_
                            refine va_get (D := (dC, dI)) (ci := 6) (v := .ref (ab 18)) (C := RX6) (T := TX6) (N := 27) hx hb hts hi_X6 hown hK hP 0 rfl rfl 24 (by decide) fl_61 (fun _ h9 => h9) rfl dX6_copy_121 ?_
                            refine lv_bipush (v := (60 : Int32)) hx hb dX6_copy_124 (by decide) ?_
                            refine lv_iload_n hx hb dX6_copy_126 rfl (lv_at hl 1 rfl) ?_
                            refine lv_imul hx hb dX6_copy_127 ?_
                            refine lv_iload_n hx hb dX6_copy_128 rfl (lv_at hl 2 rfl) ?_
                            refine lv_iadd hx hb dX6_copy_129 ?_
                            refine lv_iload hx hb dX6_copy_130 (lv_at hl 6 rfl) ?_
                            refine lv_iadd hx hb dX6_copy_132 ?_
                            obtain ⟨hv_26, h⟩ := h
                            refine va_iald hx hb hK hP 18 0 rfl rfl hv_26 dX6_copy_133 ?_
                            obtain ⟨hv_27, h⟩ := h
                            refine va_iast hx hb hK hP hD hS 19 0 rfl rfl hv_27 dX6_copy_134 (fun H locs hP hD hS => ?_)
                            have hP : va_P (dC, dI) vwCl (wm_u cyI cyJ ab n_fault n_things n_kindOf n_digitOf n_follows n_ifOf n_thenOf n_listOf n_breathOf n_heardOf n_readAt n_readThings n_readFollows n_readKind n_readDigit n_readIf n_readThen n_readings n_readingIn n_readingHour n_readingOf n_breathWas n_sheetSize n_sheetLane n_sheet (upd cc_15 aa_14.toNatClampNeg (n_sheet ((((60 : Int32) * a_1) + a_2) + aa_14).toNatClampNeg)) n_traceNow) H := hP
                            have hD : va_D A (wm_u cyI cyJ ab n_fault n_things n_kindOf n_digitOf n_follows n_ifOf n_thenOf n_listOf n_breathOf n_heardOf n_readAt n_readThings n_readFollows n_readKind n_readDigit n_readIf n_readThen n_readings n_readingIn n_readingHour n_readingOf n_breathWas n_sheetSize n_sheetLane n_sheet (upd cc_15 aa_14.toNatClampNeg (n_sheet ((((60 : Int32) * a_1) + a_2) + aa_14).toNatClampNeg)) n_traceNow) := hD
                            refine lv_iinc (v := (aa_14 + (1 : Int32))) (lv' := [(6, .int (aa_14 + (1 : Int32))), (0, .ref (ab 0)), (1, .int a_1), (2, .int a_2), (3, .int a_3), (4, .int a_4), (5, .int a_5)]) hx hb dX6_copy_135 hl (k := 6) rfl rfl (by decide) rfl (fun ls hl => ?_)
                            refine lv_goto (tgt := 107) hx hb dX6_copy_138 (by decide) ?_
                            exact ih (aa_14 + (1 : Int32)) (upd cc_15 aa_14.toNatClampNeg (n_sheet ((((60 : Int32) * a_1) + a_2) + aa_14).toNatClampNeg)) _ _ _ hP hD hS (lv_sub hl [1, 2, 3, 4, 5, 6, 0] rfl) h
                      refine lp_107 _ (fun xx_16 H locs ls hP hD hS hl h => ?_) ni (0 : Int32) n_hands _ _ _ hP hD hS (lv_sub hl [1, 2, 3, 4, 5, 6, 0] rfl) h
                      refine lv_iconst (v := (0 : Int32)) hx hb dX6_copy_141 (by decide) ?_
                      refine lv_istore (lv' := [(6, .int (0 : Int32)), (0, .ref (ab 0)), (3, .int a_3), (4, .int a_4), (5, .int a_5)]) hx hb dX6_copy_142 hl (by decide) rfl (fun ls hl => ?_)
                      obtain ⟨ni, h⟩ := h
                      have lp_144 : ∀ (kk : (Nat → Int32) → Prop), (∀ (xx_19 : Nat → Int32) (H : Heap) (locs : List Loc) (ls : Array Slot), va_P (dC, dI) vwCl (wm_u cyI cyJ ab n_fault n_things n_kindOf n_digitOf n_follows n_ifOf n_thenOf n_listOf n_breathOf n_heardOf n_readAt n_readThings n_readFollows n_readKind n_readDigit n_readIf n_readThen n_readings n_readingIn n_readingHour n_readingOf n_breathWas n_sheetSize n_sheetLane xx_19 xx_16 n_traceNow) H → va_D A (wm_u cyI cyJ ab n_fault n_things n_kindOf n_digitOf n_follows n_ifOf n_thenOf n_listOf n_breathOf n_heardOf n_readAt n_readThings n_readFollows n_readKind n_readDigit n_readIf n_readThen n_readings n_readingIn n_readingHour n_readingOf n_breathWas n_sheetSize n_sheetLane xx_19 xx_16 n_traceNow) → va_S A s.heap H locs → lv_has ls 7 [(0, .ref (ab 0)), (5, .int a_5)] → kk xx_19 → W p l e (xq_R 2 45) s m args below meth c H locs 0 0 Q (F0 m 179 ls [])) → ∀ (ni : Nat) (aa_17 : Int32) (cc_18 : Nat → Int32) (H : Heap) (locs : List Loc) (ls : Array Slot), va_P (dC, dI) vwCl (wm_u cyI cyJ ab n_fault n_things n_kindOf n_digitOf n_follows n_ifOf n_thenOf n_listOf n_breathOf n_heardOf n_readAt n_readThings n_readFollows n_readKind n_readDigit n_readIf n_readThen n_readings n_readingIn n_readingHour n_readingOf n_breathWas n_sheetSize n_sheetLane cc_18 xx_16 n_traceNow) H → va_D A (wm_u cyI cyJ ab n_fault n_things n_kindOf n_digitOf n_follows n_ifOf n_thenOf n_listOf n_breathOf n_heardOf n_readAt n_readThings n_readFollows n_readKind n_readDigit n_readIf n_readThen n_readings n_readingIn n_readingHour n_readingOf n_breathWas n_sheetSize n_sheetLane cc_18 xx_16 n_traceNow) → va_S A s.heap H locs → lv_has ls 7 [(0, .ref (ab 0)), (3, .int a_3), (4, .int a_4), (5, .int a_5), (6, .int aa_17)] → w_X6_copy_L144 a_3 a_4 a_5 n_fault n_sheetSize n_sheetLane xx_16 post kk ni aa_17 cc_18 → W p l e (xq_R 2 45) s m args below meth c H locs 0 0 Q (F0 m 144 ls []) := by
                        intro kk kx ni
                        induction ni with
                        | zero => intros; exact False.elim (by assumption)
                        | succ ni ih =>
                          intro aa_17 cc_18 H locs ls hP hD hS hl h
                          rw [w_X6_copy_L144] at h
                          refine lv_iload hx hb dX6_copy_144 (lv_at hl 4 rfl) ?_
                          refine lv_iload hx hb dX6_copy_146 (lv_at hl 3 rfl) ?_
                          refine lv_icmp_ge (tgt := 179) hx hb dX6_copy_148 (by decide) (fun hc_25 => ?_) (fun hc_25 => ?_)
                          · have h := h.1 hc_25
                            exact kx cc_18 _ _ _ hP hD hS (lv_sub hl [0, 3] rfl) h
                          · have h := h.2 hc_25
                            refine lv_aload_n hx hb dX6_copy_151 rfl (lv_at hl 0 rfl) ?_
                            refine va_get (D := (dC, dI)) (ci := 6) (v := .ref (ab 18)) (C := RX6) (T := TX6) (N := 27) hx hb hts hi_X6 hown hK hP 0 rfl rfl 24 (by decide) fl_61 (fun _ h9 => h9) rfl dX6_copy_152 ?_
                            refine lv_bipush (v := (60 : Int32)) hx hb dX6_copy_155 (by decide) ?_
                            refine lv_iload_n hx hb dX6_copy_157 rfl (lv_at hl 1 rfl) ?_
                            refine lv_imul hx hb dX6_copy_158 ?_
                            refine lv_iload hx hb dX6_copy_159 (lv_at hl 2 rfl) ?_
                            refine lv_iadd hx hb dX6_copy_161 ?_
                            refine lv_iload hx hb dX6_copy_162 (lv_at hl 4 rfl) ?_
                            refine lv_iadd hx hb dX6_copy_164 ?_
                            refine lv_aload_n hx hb dX6_copy_165 rfl (lv_at hl 0 rfl) ?_
                            refine va_get (D := (dC, dI)) (ci := 6) (v := .ref (ab 19)) (C := RX6) (T := TX6) (N := 27) hx hb hts hi_X6 hown hK hP 0 rfl rfl 25 (by decide) fl_64 (fun _ h9 => h9) rfl dX6_copy_166 ?_
                            refine lv_iload hx hb dX6_copy_169 (lv_at hl 4 rfl) ?_
                            obtain ⟨hv_23, h⟩ := h
                            refine va_iald hx hb hK hP 19 0 rfl rfl hv_23 dX6_copy_171 ?_
                            obtain ⟨hv_24, h⟩ := h
                            refine va_iast hx hb hK hP hD hS 18 0 rfl rfl hv_24 dX6_copy_172 (fun H locs hP hD hS => ?_)
                            have hP : va_P (dC, dI) vwCl (wm_u cyI cyJ ab n_fault n_things n_kindOf n_digitOf n_follows n_ifOf n_thenOf n_listOf n_breathOf n_heardOf n_readAt n_readThings n_readFollows n_readKind n_readDigit n_readIf n_readThen n_readings n_readingIn n_readingHour n_readingOf n_breathWas n_sheetSize n_sheetLane (upd cc_18 ((((60 : Int32) * a_3) + a_4) + aa_17).toNatClampNeg (xx_16 aa_17.toNatClampNeg)) xx_16 n_traceNow) H := hP
                            have hD : va_D A (wm_u cyI cyJ ab n_fault n_things n_kindOf n_digitOf n_follows n_ifOf n_thenOf n_listOf n_breathOf n_heardOf n_readAt n_readThings n_readFollows n_readKind n_readDigit n_readIf n_readThen n_readings n_readingIn n_readingHour n_readingOf n_breathWas n_sheetSize n_sheetLane (upd cc_18 ((((60 : Int32) * a_3) + a_4) + aa_17).toNatClampNeg (xx_16 aa_17.toNatClampNeg)) xx_16 n_traceNow) := hD
                            refine lv_iinc (v := (aa_17 + (1 : Int32))) (lv' := [(6, .int (aa_17 + (1 : Int32))), (0, .ref (ab 0)), (3, .int a_3), (4, .int a_4), (5, .int a_5)]) hx hb dX6_copy_173 hl (k := 4) rfl rfl (by decide) rfl (fun ls hl => ?_)
                            refine lv_goto (tgt := 144) hx hb dX6_copy_176 (by decide) ?_
                            exact ih (aa_17 + (1 : Int32)) (upd cc_18 ((((60 : Int32) * a_3) + a_4) + aa_17).toNatClampNeg (xx_16 aa_17.toNatClampNeg)) _ _ _ hP hD hS (lv_sub hl [1, 2, 3, 4, 0] rfl) h
                      refine lp_144 _ (fun xx_19 H locs ls hP hD hS hl h => ?_) ni (0 : Int32) n_sheet _ _ _ hP hD hS (lv_sub hl [1, 2, 3, 4, 0] rfl) h
                      refine lv_aload_n hx hb dX6_copy_179 rfl (lv_at hl 0 rfl) ?_
                      refine lv_iload hx hb dX6_copy_180 (lv_at hl 1 rfl) ?_
                      refine xq_ci (va_runV (As := [.int a_5]) (rest := []) ⟨hx, hb, hml, hown, hts⟩ (m_X6_refused l dC dI cyI cyJ ab H.size h) (cwV 1 hts gX6_copy_X6_refused rfl rfl rfl (by decide +kernel) ⟨Nat.le_of_ble_eq_true rfl, Nat.le_of_ble_eq_true rfl⟩) (xq_preV hK hP hD hN (ci := 6) (q0 := 0) rfl rfl) rfl rfl hl.1 rfl (lv_room (Nat.le_of_ble_eq_true rfl)) dX6_copy_182 ⟨Nat.le_refl _, Nat.le_refl _⟩) hD hS hA (fun rr_20 uu H locs h hP hD hS => ?_)
                      obtain ⟨cc_21, rfl⟩ : ∃ z, z = uu := ⟨_, rfl⟩
                      have hP : va_P (dC, dI) vwCl (wm_u cyI cyJ ab cc_21 n_things n_kindOf n_digitOf n_follows n_ifOf n_thenOf n_listOf n_breathOf n_heardOf n_readAt n_readThings n_readFollows n_readKind n_readDigit n_readIf n_readThen n_readings n_readingIn n_readingHour n_readingOf n_breathWas n_sheetSize n_sheetLane xx_19 xx_16 n_traceNow) H := hP
                      have hD : va_D A (wm_u cyI cyJ ab cc_21 n_things n_kindOf n_digitOf n_follows n_ifOf n_thenOf n_listOf n_breathOf n_heardOf n_readAt n_readThings n_readFollows n_readKind n_readDigit n_readIf n_readThen n_readings n_readingIn n_readingHour n_readingOf n_breathWas n_sheetSize n_sheetLane xx_19 xx_16 n_traceNow) := hD
                      exact xq_ri hQ hx hb hr hP hK hD hS (cc_21, xx_19, xx_16) rfl h dX6_copy_185 hlocks
                    · have h := h.2 hc_29
                      exact kj_11 h _ _ _ hP hD hS (lv_sub hl [0] rfl)
              · have h := h.2 hc_39
                refine lv_aload_n hx hb dX6_copy_59 rfl (lv_at hl 0 rfl) ?_
                refine lv_iconst (v := (2 : Int32)) hx hb dX6_copy_60 (by decide) ?_
                refine xq_ci (va_runV (As := [.int (2 : Int32)]) (rest := []) ⟨hx, hb, hml, hown, hts⟩ (m_X6_failed l dC dI cyI cyJ ab H.size h) (cwV 1 hts gX6_copy_X6_failed rfl rfl rfl (by decide +kernel) ⟨Nat.le_of_ble_eq_true rfl, Nat.le_of_ble_eq_true rfl⟩) (xq_preV hK hP hD hN (ci := 6) (q0 := 0) rfl rfl) rfl rfl hl.1 rfl (lv_room (Nat.le_of_ble_eq_true rfl)) dX6_copy_61 ⟨Nat.le_refl _, Nat.le_refl _⟩) hD hS hA (fun rr_36 uu H locs h hP hD hS => ?_)
                obtain ⟨cc_37, rfl⟩ : ∃ z, z = uu := ⟨_, rfl⟩
                have hP : va_P (dC, dI) vwCl (wm_u cyI cyJ ab cc_37 n_things n_kindOf n_digitOf n_follows n_ifOf n_thenOf n_listOf n_breathOf n_heardOf n_readAt n_readThings n_readFollows n_readKind n_readDigit n_readIf n_readThen n_readings n_readingIn n_readingHour n_readingOf n_breathWas n_sheetSize n_sheetLane n_sheet n_hands n_traceNow) H := hP
                have hD : va_D A (wm_u cyI cyJ ab cc_37 n_things n_kindOf n_digitOf n_follows n_ifOf n_thenOf n_listOf n_breathOf n_heardOf n_readAt n_readThings n_readFollows n_readKind n_readDigit n_readIf n_readThen n_readings n_readingIn n_readingHour n_readingOf n_breathWas n_sheetSize n_sheetLane n_sheet n_hands n_traceNow) := hD
                exact xq_ri hQ hx hb hr hP hK hD hS (cc_37, n_sheet, n_hands) rfl h dX6_copy_64 hlocks
            · have h := h.2 hc_40
              exact kj_5 h _ _ _ hP hD hS (lv_sub hl [0] rfl)
      · have h := h.2 hc_45
        exact kj_2 h _ _ _ hP hD hS (lv_sub hl [0] rfl)
def w_X6_fault (n_fault : Int32) (post : Int32 → Prop) : Prop := post n_fault
set_option maxHeartbeats 4000000 in
set_option maxRecDepth 100000 in
theorem m_X6_fault (l : Launch) (dC : Nat → ClassId) (dI : Nat → Nat → Nat) (cyI cyJ : ClassId) (ab : Nat → Nat) (sz : Nat) {n_fault : Int32} {n_things : Int32} {n_kindOf : Nat → Int32} {n_digitOf : Nat → Int32} {n_follows : Int32} {n_ifOf : Nat → Int32} {n_thenOf : Nat → Int32} {n_listOf : Nat → Int32} {n_breathOf : Nat → Int32} {n_heardOf : Nat → Int32} {n_readAt : Int32} {n_readThings : Int32} {n_readFollows : Int32} {n_readKind : Nat → Int32} {n_readDigit : Nat → Int32} {n_readIf : Nat → Int32} {n_readThen : Nat → Int32} {n_readings : Int32} {n_readingIn : Nat → Int32} {n_readingHour : Nat → Int32} {n_readingOf : Nat → Int32} {n_breathWas : Nat → Int32} {n_sheetSize : Nat → Int32} {n_sheetLane : Nat → Int32} {n_sheet : Nat → Int32} {n_hands : Nat → Int32} {n_traceNow : Int32} {post : Int32 → Prop} (h : w_X6_fault n_fault post) : Met l yX6_fault wsX6_fault (xq_R 0 0) (va_Pc [.ref (ab 0)] (xq_P (dC, dI) [(cyI, .int), (cyJ, .long)] (wm_u cyI cyJ ab n_fault n_things n_kindOf n_digitOf n_follows n_ifOf n_thenOf n_listOf n_breathOf n_heardOf n_readAt n_readThings n_readFollows n_readKind n_readDigit n_readIf n_readThen n_readings n_readingIn n_readingHour n_readingOf n_breathWas n_sheetSize n_sheetLane n_sheet n_hands n_traceNow) sz)) (va_Qi (fun (rr : Int32) (uu : Unit) => post rr ) (fun (uu : Unit) => xq_B (dC, dI) [(cyI, .int), (cyJ, .long)] (va_A (wm_u cyI cyJ ab n_fault n_things n_kindOf n_digitOf n_follows n_ifOf n_thenOf n_listOf n_breathOf n_heardOf n_readAt n_readThings n_readFollows n_readKind n_readDigit n_readIf n_readThen n_readings n_readingIn n_readingHour n_readingOf n_breathWas n_sheetSize n_sheetLane n_sheet n_hands n_traceNow) sz) (wm_u cyI cyJ ab n_fault n_things n_kindOf n_digitOf n_follows n_ifOf n_thenOf n_listOf n_breathOf n_heardOf n_readAt n_readThings n_readFollows n_readKind n_readDigit n_readIf n_readThen n_readings n_readingIn n_readingHour n_readingOf n_breathWas n_sheetSize n_sheetLane n_sheet n_hands n_traceNow)) (va_A (wm_u cyI cyJ ab n_fault n_things n_kindOf n_digitOf n_follows n_ifOf n_thenOf n_listOf n_breathOf n_heardOf n_readAt n_readThings n_readFollows n_readKind n_readDigit n_readIf n_readThen n_readings n_readingIn n_readingHour n_readingOf n_breathWas n_sheetSize n_sheetLane n_sheet n_hands n_traceNow) sz)) 0 0 (va_A (wm_u cyI cyJ ab n_fault n_things n_kindOf n_digitOf n_follows n_ifOf n_thenOf n_listOf n_breathOf n_heardOf n_readAt n_readThings n_readFollows n_readKind n_readDigit n_readIf n_readThen n_readings n_readingIn n_readingHour n_readingOf n_breathWas n_sheetSize n_sheetLane n_sheet n_hands n_traceNow) sz) := by
  refine xq_M (cc := cX6_fault) (maxL := 1) (ret := (some .int)) (QA := fun A => va_Qi (fun (rr : Int32) (uu : Unit) => post rr ) (fun (uu : Unit) => xq_B (dC, dI) [(cyI, .int), (cyJ, .long)] A (wm_u cyI cyJ ab n_fault n_things n_kindOf n_digitOf n_follows n_ifOf n_thenOf n_listOf n_breathOf n_heardOf n_readAt n_readThings n_readFollows n_readKind n_readDigit n_readIf n_readThen n_readings n_readingIn n_readingHour n_readingOf n_breathWas n_sheetSize n_sheetLane n_sheet n_hands n_traceNow)) A) (by decide) rfl (Nat.le_of_ble_eq_true rfl) ?_
  intro p e s m args below meth c A ls Q hQ hx hb hr hml hts hown hlocks hsz hP hK hD hA hS hN hl
  subst hsz
  have hl : lv_has ls 1 [(0, .ref (ab 0))] := hl
  have hi_X6 : ∀ w ∈ wsX60, w ∈ wsX6_fault := fun _ h => List.mem_cons_of_mem _ (List.mem_append_right _ h)
  have fl_69 := hts (.fieldLink RX6 69 "UnsaidCallsModel" "fault" "I") (by decide +kernel)
  unfold w_X6_fault at h
  refine lv_aload_n hx hb dX6_fault_0 rfl (lv_at hl 0 rfl) ?_
  refine va_get (D := (dC, dI)) (ci := 6) (v := .int n_fault) (C := RX6) (T := TX6) (N := 27) hx hb hts hi_X6 hown hK hP 0 rfl rfl 0 (by decide) fl_69 (fun _ h9 => h9) rfl dX6_fault_1 ?_
  exact xq_ri hQ hx hb hr hP hK hD hS () rfl h dX6_fault_4 hlocks
def w_X6_traced (n_traceNow : Int32) (a_1 : Int32) (post : Int32 → Prop) : Prop := post (((31 : Int32) * n_traceNow) + a_1)
set_option maxHeartbeats 4000000 in
set_option maxRecDepth 100000 in
theorem m_X6_traced (l : Launch) (dC : Nat → ClassId) (dI : Nat → Nat → Nat) (cyI cyJ : ClassId) (ab : Nat → Nat) (sz : Nat) {n_fault : Int32} {n_things : Int32} {n_kindOf : Nat → Int32} {n_digitOf : Nat → Int32} {n_follows : Int32} {n_ifOf : Nat → Int32} {n_thenOf : Nat → Int32} {n_listOf : Nat → Int32} {n_breathOf : Nat → Int32} {n_heardOf : Nat → Int32} {n_readAt : Int32} {n_readThings : Int32} {n_readFollows : Int32} {n_readKind : Nat → Int32} {n_readDigit : Nat → Int32} {n_readIf : Nat → Int32} {n_readThen : Nat → Int32} {n_readings : Int32} {n_readingIn : Nat → Int32} {n_readingHour : Nat → Int32} {n_readingOf : Nat → Int32} {n_breathWas : Nat → Int32} {n_sheetSize : Nat → Int32} {n_sheetLane : Nat → Int32} {n_sheet : Nat → Int32} {n_hands : Nat → Int32} {n_traceNow : Int32} {a_1 : Int32} {post : Int32 → Prop} (h : w_X6_traced n_traceNow a_1 post) : Met l yX6_traced wsX6_traced (xq_R 0 0) (va_Pc [.ref (ab 0), .int a_1] (xq_P (dC, dI) [(cyI, .int), (cyJ, .long)] (wm_u cyI cyJ ab n_fault n_things n_kindOf n_digitOf n_follows n_ifOf n_thenOf n_listOf n_breathOf n_heardOf n_readAt n_readThings n_readFollows n_readKind n_readDigit n_readIf n_readThen n_readings n_readingIn n_readingHour n_readingOf n_breathWas n_sheetSize n_sheetLane n_sheet n_hands n_traceNow) sz)) (va_Qv (fun (uu : Int32) => post uu) (fun (uu : Int32) => xq_B (dC, dI) [(cyI, .int), (cyJ, .long)] (va_A (wm_u cyI cyJ ab n_fault n_things n_kindOf n_digitOf n_follows n_ifOf n_thenOf n_listOf n_breathOf n_heardOf n_readAt n_readThings n_readFollows n_readKind n_readDigit n_readIf n_readThen n_readings n_readingIn n_readingHour n_readingOf n_breathWas n_sheetSize n_sheetLane n_sheet n_hands n_traceNow) sz) (wm_u cyI cyJ ab n_fault n_things n_kindOf n_digitOf n_follows n_ifOf n_thenOf n_listOf n_breathOf n_heardOf n_readAt n_readThings n_readFollows n_readKind n_readDigit n_readIf n_readThen n_readings n_readingIn n_readingHour n_readingOf n_breathWas n_sheetSize n_sheetLane n_sheet n_hands uu)) (va_A (wm_u cyI cyJ ab n_fault n_things n_kindOf n_digitOf n_follows n_ifOf n_thenOf n_listOf n_breathOf n_heardOf n_readAt n_readThings n_readFollows n_readKind n_readDigit n_readIf n_readThen n_readings n_readingIn n_readingHour n_readingOf n_breathWas n_sheetSize n_sheetLane n_sheet n_hands n_traceNow) sz)) 0 0 (va_A (wm_u cyI cyJ ab n_fault n_things n_kindOf n_digitOf n_follows n_ifOf n_thenOf n_listOf n_breathOf n_heardOf n_readAt n_readThings n_readFollows n_readKind n_readDigit n_readIf n_readThen n_readings n_readingIn n_readingHour n_readingOf n_breathWas n_sheetSize n_sheetLane n_sheet n_hands n_traceNow) sz) := by
  refine xq_M (cc := cX6_traced) (maxL := 2) (ret := none) (QA := fun A => va_Qv (fun (uu : Int32) => post uu) (fun (uu : Int32) => xq_B (dC, dI) [(cyI, .int), (cyJ, .long)] A (wm_u cyI cyJ ab n_fault n_things n_kindOf n_digitOf n_follows n_ifOf n_thenOf n_listOf n_breathOf n_heardOf n_readAt n_readThings n_readFollows n_readKind n_readDigit n_readIf n_readThen n_readings n_readingIn n_readingHour n_readingOf n_breathWas n_sheetSize n_sheetLane n_sheet n_hands uu)) A) (by decide) rfl (Nat.le_of_ble_eq_true rfl) ?_
  intro p e s m args below meth c A ls Q hQ hx hb hr hml hts hown hlocks hsz hP hK hD hA hS hN hl
  subst hsz
  have hl : lv_has ls 2 [(0, .ref (ab 0)), (1, .int a_1)] := hl
  have hi_X6 : ∀ w ∈ wsX60, w ∈ wsX6_traced := fun _ h => List.mem_cons_of_mem _ (List.mem_append_right _ h)
  have fl_212 := hts (.fieldLink RX6 212 "UnsaidCallsModel" "traceNow" "I") (by decide +kernel)
  unfold w_X6_traced at h
  refine lv_aload_n hx hb dX6_traced_0 rfl (lv_at hl 0 rfl) ?_
  refine lv_bipush (v := (31 : Int32)) hx hb dX6_traced_1 (by decide) ?_
  refine lv_aload_n hx hb dX6_traced_3 rfl (lv_at hl 0 rfl) ?_
  refine va_get (D := (dC, dI)) (ci := 6) (v := .int n_traceNow) (C := RX6) (T := TX6) (N := 27) hx hb hts hi_X6 hown hK hP 0 rfl rfl 26 (by decide) fl_212 (fun _ h9 => h9) rfl dX6_traced_4 ?_
  refine lv_imul hx hb dX6_traced_7 ?_
  refine lv_iload_n hx hb dX6_traced_8 rfl (lv_at hl 1 rfl) ?_
  refine lv_iadd hx hb dX6_traced_9 ?_
  refine va_put (D := (dC, dI)) (ci := 6) (v := .int (((31 : Int32) * n_traceNow) + a_1)) (ty := .int) (C := RX6) (T := TX6) (N := 27) hx hb hts hi_X6 tyX6 tyX6_ok nmX6 hown hK hP hD hS 0 rfl rfl 26 (by decide) fl_212 (fun _ h9 => h9) rfl (by decide +kernel) rfl rfl (Nat.le_of_ble_eq_true rfl) dX6_traced_10 (fun H locs hP hD hS => ?_)
  have hP : va_P (dC, dI) vwCl (wm_u cyI cyJ ab n_fault n_things n_kindOf n_digitOf n_follows n_ifOf n_thenOf n_listOf n_breathOf n_heardOf n_readAt n_readThings n_readFollows n_readKind n_readDigit n_readIf n_readThen n_readings n_readingIn n_readingHour n_readingOf n_breathWas n_sheetSize n_sheetLane n_sheet n_hands (((31 : Int32) * n_traceNow) + a_1)) H := hP
  have hD : va_D A (wm_u cyI cyJ ab n_fault n_things n_kindOf n_digitOf n_follows n_ifOf n_thenOf n_listOf n_breathOf n_heardOf n_readAt n_readThings n_readFollows n_readKind n_readDigit n_readIf n_readThen n_readings n_readingIn n_readingHour n_readingOf n_breathWas n_sheetSize n_sheetLane n_sheet n_hands (((31 : Int32) * n_traceNow) + a_1)) := hD
  exact xq_rv hQ hx hb hr hP hK hD hS (((31 : Int32) * n_traceNow) + a_1) rfl h dX6_traced_13 hlocks
def w_X6_fear (n_things : Int32) (n_kindOf : Nat → Int32) (n_traceNow : Int32) (a_1 : Int32) (post : Int32 → Int32 → Prop) : Prop := w_X6_noThing n_things a_1 (fun (rr_1 : Int32) => (rr_1 = 0 → ((vp_in a_1 6) ∧ (xq_j1 (fun (kj_4 : Int32 → Prop) => (¬ (n_kindOf a_1.toNatClampNeg) = (2 : Int32) → (kj_4 (4 : Int32))) ∧ ((n_kindOf a_1.toNatClampNeg) = (2 : Int32) → (kj_4 (5 : Int32)))) (fun (jj_3 : Int32) => w_X6_traced n_traceNow jj_3 (fun (cc_6 : Int32) => (vp_in a_1 6) ∧ ((¬ (n_kindOf a_1.toNatClampNeg) = (2 : Int32) → (post a_1 cc_6)) ∧ ((n_kindOf a_1.toNatClampNeg) = (2 : Int32) → (post (30 : Int32) cc_6)))))))) ∧ (¬ rr_1 = 0 → (post (-1 : Int32) n_traceNow)))
set_option maxHeartbeats 4000000 in
set_option maxRecDepth 100000 in
theorem m_X6_fear (l : Launch) (dC : Nat → ClassId) (dI : Nat → Nat → Nat) (cyI cyJ : ClassId) (ab : Nat → Nat) (sz : Nat) {n_fault : Int32} {n_things : Int32} {n_kindOf : Nat → Int32} {n_digitOf : Nat → Int32} {n_follows : Int32} {n_ifOf : Nat → Int32} {n_thenOf : Nat → Int32} {n_listOf : Nat → Int32} {n_breathOf : Nat → Int32} {n_heardOf : Nat → Int32} {n_readAt : Int32} {n_readThings : Int32} {n_readFollows : Int32} {n_readKind : Nat → Int32} {n_readDigit : Nat → Int32} {n_readIf : Nat → Int32} {n_readThen : Nat → Int32} {n_readings : Int32} {n_readingIn : Nat → Int32} {n_readingHour : Nat → Int32} {n_readingOf : Nat → Int32} {n_breathWas : Nat → Int32} {n_sheetSize : Nat → Int32} {n_sheetLane : Nat → Int32} {n_sheet : Nat → Int32} {n_hands : Nat → Int32} {n_traceNow : Int32} {a_1 : Int32} {post : Int32 → Int32 → Prop} (h : w_X6_fear n_things n_kindOf n_traceNow a_1 post) : Met l yX6_fear wsX6_fear (xq_R 2 46) (va_Pc [.ref (ab 0), .int a_1] (xq_P (dC, dI) [(cyI, .int), (cyJ, .long)] (wm_u cyI cyJ ab n_fault n_things n_kindOf n_digitOf n_follows n_ifOf n_thenOf n_listOf n_breathOf n_heardOf n_readAt n_readThings n_readFollows n_readKind n_readDigit n_readIf n_readThen n_readings n_readingIn n_readingHour n_readingOf n_breathWas n_sheetSize n_sheetLane n_sheet n_hands n_traceNow) sz)) (va_Qi (fun (rr : Int32) (uu : Int32) => post rr uu) (fun (uu : Int32) => xq_B (dC, dI) [(cyI, .int), (cyJ, .long)] (va_A (wm_u cyI cyJ ab n_fault n_things n_kindOf n_digitOf n_follows n_ifOf n_thenOf n_listOf n_breathOf n_heardOf n_readAt n_readThings n_readFollows n_readKind n_readDigit n_readIf n_readThen n_readings n_readingIn n_readingHour n_readingOf n_breathWas n_sheetSize n_sheetLane n_sheet n_hands n_traceNow) sz) (wm_u cyI cyJ ab n_fault n_things n_kindOf n_digitOf n_follows n_ifOf n_thenOf n_listOf n_breathOf n_heardOf n_readAt n_readThings n_readFollows n_readKind n_readDigit n_readIf n_readThen n_readings n_readingIn n_readingHour n_readingOf n_breathWas n_sheetSize n_sheetLane n_sheet n_hands uu)) (va_A (wm_u cyI cyJ ab n_fault n_things n_kindOf n_digitOf n_follows n_ifOf n_thenOf n_listOf n_breathOf n_heardOf n_readAt n_readThings n_readFollows n_readKind n_readDigit n_readIf n_readThen n_readings n_readingIn n_readingHour n_readingOf n_breathWas n_sheetSize n_sheetLane n_sheet n_hands n_traceNow) sz)) 0 0 (va_A (wm_u cyI cyJ ab n_fault n_things n_kindOf n_digitOf n_follows n_ifOf n_thenOf n_listOf n_breathOf n_heardOf n_readAt n_readThings n_readFollows n_readKind n_readDigit n_readIf n_readThen n_readings n_readingIn n_readingHour n_readingOf n_breathWas n_sheetSize n_sheetLane n_sheet n_hands n_traceNow) sz) := by
  refine xq_M (cc := cX6_fear) (maxL := 2) (ret := (some .int)) (QA := fun A => va_Qi (fun (rr : Int32) (uu : Int32) => post rr uu) (fun (uu : Int32) => xq_B (dC, dI) [(cyI, .int), (cyJ, .long)] A (wm_u cyI cyJ ab n_fault n_things n_kindOf n_digitOf n_follows n_ifOf n_thenOf n_listOf n_breathOf n_heardOf n_readAt n_readThings n_readFollows n_readKind n_readDigit n_readIf n_readThen n_readings n_readingIn n_readingHour n_readingOf n_breathWas n_sheetSize n_sheetLane n_sheet n_hands uu)) A) (by decide) rfl (Nat.le_of_ble_eq_true rfl) ?_
  intro p e s m args below meth c A ls Q hQ hx hb hr hml hts hown hlocks hsz hP hK hD hA hS hN hl
  subst hsz
  have hl : lv_has ls 2 [(0, .ref (ab 0)), (1, .int a_1)] := hl
  have hi_X6 : ∀ w ∈ wsX60, w ∈ wsX6_fear := fun _ h => List.mem_cons_of_mem _ (List.mem_append_right _ h)
  have fl_7 := hts (.fieldLink RX6 7 "UnsaidCallsModel" "kindOf" "[I") (by decide +kernel)
  unfold w_X6_fear at h
  refine lv_aload_n hx hb dX6_fear_0 rfl (lv_at hl 0 rfl) ?_
  refine lv_iload_n hx hb dX6_fear_1 rfl (lv_at hl 1 rfl) ?_
  refine xq_ci (va_runV (As := [.int a_1]) (rest := []) ⟨hx, hb, hml, hown, hts⟩ (m_X6_noThing l dC dI cyI cyJ ab s.heap.size h) (cwV 1 hts gX6_fear_X6_noThing rfl rfl rfl (by decide +kernel) ⟨Nat.le_of_ble_eq_true rfl, Nat.le_of_ble_eq_true rfl⟩) (xq_preV hK hP hD hN (ci := 6) (q0 := 0) rfl rfl) rfl rfl hl.1 rfl (lv_room (Nat.le_of_ble_eq_true rfl)) dX6_fear_2 ⟨Nat.le_refl _, Nat.le_refl _⟩) hD hS hA (fun rr_1 uu H locs h hP hD hS => ?_)
  have hP : va_P (dC, dI) vwCl (wm_u cyI cyJ ab n_fault n_things n_kindOf n_digitOf n_follows n_ifOf n_thenOf n_listOf n_breathOf n_heardOf n_readAt n_readThings n_readFollows n_readKind n_readDigit n_readIf n_readThen n_readings n_readingIn n_readingHour n_readingOf n_breathWas n_sheetSize n_sheetLane n_sheet n_hands n_traceNow) H := hP
  have hD : va_D A (wm_u cyI cyJ ab n_fault n_things n_kindOf n_digitOf n_follows n_ifOf n_thenOf n_listOf n_breathOf n_heardOf n_readAt n_readThings n_readFollows n_readKind n_readDigit n_readIf n_readThen n_readings n_readingIn n_readingHour n_readingOf n_breathWas n_sheetSize n_sheetLane n_sheet n_hands n_traceNow) := hD
  refine lv_if_eq (tgt := 10) hx hb dX6_fear_5 (by decide) (fun hc_10 => ?_) (fun hc_10 => ?_)
  · have h := h.1 hc_10
    refine lv_aload_n hx hb dX6_fear_10 rfl (lv_at hl 0 rfl) ?_
    refine lv_aload_n hx hb dX6_fear_11 rfl (lv_at hl 0 rfl) ?_
    refine va_get (D := (dC, dI)) (ci := 6) (v := .ref (ab 1)) (C := RX6) (T := TX6) (N := 27) hx hb hts hi_X6 hown hK hP 0 rfl rfl 2 (by decide) fl_7 (fun _ h9 => h9) rfl dX6_fear_12 ?_
    refine lv_iload_n hx hb dX6_fear_15 rfl (lv_at hl 1 rfl) ?_
    obtain ⟨hv_2, h⟩ := h
    refine va_iald hx hb hK hP 1 0 rfl rfl hv_2 dX6_fear_16 ?_
    refine lv_iconst (v := (2 : Int32)) hx hb dX6_fear_17 (by decide) ?_
    refine xq_j1_go (X := fun (jj_3 : Int32) => ∀ (H : Heap) (locs : List Loc) (ls : Array Slot), va_P (dC, dI) vwCl (wm_u cyI cyJ ab n_fault n_things n_kindOf n_digitOf n_follows n_ifOf n_thenOf n_listOf n_breathOf n_heardOf n_readAt n_readThings n_readFollows n_readKind n_readDigit n_readIf n_readThen n_readings n_readingIn n_readingHour n_readingOf n_breathWas n_sheetSize n_sheetLane n_sheet n_hands n_traceNow) H → va_D A (wm_u cyI cyJ ab n_fault n_things n_kindOf n_digitOf n_follows n_ifOf n_thenOf n_listOf n_breathOf n_heardOf n_readAt n_readThings n_readFollows n_readKind n_readDigit n_readIf n_readThen n_readings n_readingIn n_readingHour n_readingOf n_breathWas n_sheetSize n_sheetLane n_sheet n_hands n_traceNow) → va_S A s.heap H locs → lv_has ls 2 [(0, .ref (ab 0)), (1, .int a_1)] → W p l e (xq_R 2 46) s m args below meth c H locs 0 0 Q (F0 m 26 ls [.int jj_3, .ref (ab 0)])) h (fun jj_3 h H locs ls hP hD hS hl => ?_) (fun kj_4 h => ?_)
    · refine xq_cv (va_runV (As := [.int jj_3]) (rest := []) ⟨hx, hb, hml, hown, hts⟩ (m_X6_traced l dC dI cyI cyJ ab H.size h) (cwV 1 hts gX6_fear_X6_traced rfl rfl rfl (by decide +kernel) ⟨Nat.le_of_ble_eq_true rfl, Nat.le_of_ble_eq_true rfl⟩) (xq_preV hK hP hD hN (ci := 6) (q0 := 0) rfl rfl) rfl rfl hl.1 rfl (lv_room (Nat.le_of_ble_eq_true rfl)) dX6_fear_26 ⟨Nat.le_refl _, Nat.le_refl _⟩) hD hS hA (fun uu H locs h hP hD hS => ?_)
      obtain ⟨cc_6, rfl⟩ : ∃ z, z = uu := ⟨_, rfl⟩
      have hP : va_P (dC, dI) vwCl (wm_u cyI cyJ ab n_fault n_things n_kindOf n_digitOf n_follows n_ifOf n_thenOf n_listOf n_breathOf n_heardOf n_readAt n_readThings n_readFollows n_readKind n_readDigit n_readIf n_readThen n_readings n_readingIn n_readingHour n_readingOf n_breathWas n_sheetSize n_sheetLane n_sheet n_hands cc_6) H := hP
      have hD : va_D A (wm_u cyI cyJ ab n_fault n_things n_kindOf n_digitOf n_follows n_ifOf n_thenOf n_listOf n_breathOf n_heardOf n_readAt n_readThings n_readFollows n_readKind n_readDigit n_readIf n_readThen n_readings n_readingIn n_readingHour n_readingOf n_breathWas n_sheetSize n_sheetLane n_sheet n_hands cc_6) := hD
      refine lv_aload_n hx hb dX6_fear_29 rfl (lv_at hl 0 rfl) ?_
      refine va_get (D := (dC, dI)) (ci := 6) (v := .ref (ab 1)) (C := RX6) (T := TX6) (N := 27) hx hb hts hi_X6 hown hK hP 0 rfl rfl 2 (by decide) fl_7 (fun _ h9 => h9) rfl dX6_fear_30 ?_
      refine lv_iload_n hx hb dX6_fear_33 rfl (lv_at hl 1 rfl) ?_
      obtain ⟨hv_7, h⟩ := h
      refine va_iald hx hb hK hP 1 0 rfl rfl hv_7 dX6_fear_34 ?_
      refine lv_iconst (v := (2 : Int32)) hx hb dX6_fear_35 (by decide) ?_
      refine lv_icmp_ne (tgt := 44) hx hb dX6_fear_36 (by decide) (fun hc_8 => ?_) (fun hc_8 => ?_)
      · have h := h.1 hc_8
        refine lv_iload_n hx hb dX6_fear_44 rfl (lv_at hl 1 rfl) ?_
        exact xq_ri hQ hx hb hr hP hK hD hS cc_6 rfl h dX6_fear_45 hlocks
      · have h := h.2 hc_8
        refine lv_bipush (v := (30 : Int32)) hx hb dX6_fear_39 (by decide) ?_
        refine lv_goto (tgt := 45) hx hb dX6_fear_41 (by decide) ?_
        exact xq_ri hQ hx hb hr hP hK hD hS cc_6 rfl h dX6_fear_45 hlocks
    · refine lv_icmp_ne (tgt := 25) hx hb dX6_fear_18 (by decide) (fun hc_5 => ?_) (fun hc_5 => ?_)
      · have h := h.1 hc_5
        refine lv_iconst (v := (4 : Int32)) hx hb dX6_fear_25 (by decide) ?_
        exact kj_4 (4 : Int32) h _ _ _ hP hD hS (lv_sub hl [0, 1] rfl)
      · have h := h.2 hc_5
        refine lv_iconst (v := (5 : Int32)) hx hb dX6_fear_21 (by decide) ?_
        refine lv_goto (tgt := 26) hx hb dX6_fear_22 (by decide) ?_
        exact kj_4 (5 : Int32) h _ _ _ hP hD hS (lv_sub hl [0, 1] rfl)
  · have h := h.2 hc_10
    refine lv_iconst (v := (-1 : Int32)) hx hb dX6_fear_8 (by decide) ?_
    exact xq_ri hQ hx hb hr hP hK hD hS n_traceNow rfl h dX6_fear_9 hlocks
def w_X6_figure (n_readAt : Int32) (n_sheet : Nat → Int32) (a_1 : Int32) (a_2 : Int32) (a_3 : Int32) (a_4 : Int32) (post : Int32 → Int32 → Prop) : Prop := w_X6_codeAt n_readAt n_sheet a_1 a_2 (fun (rr_1 : Int32) => w_X6_in (Int32.toInt64 (rr_1 - (48 : Int32))) (Int32.toInt64 a_3) (Int32.toInt64 a_4) (fun (rr_2 : Int32) => xq_j1 (fun (kj_4 : Int32 → Prop) => (rr_2 = 0 → (kj_4 (0 : Int32))) ∧ (¬ rr_2 = 0 → (kj_4 (1 : Int32)))) (fun (jj_3 : Int32) => (rr_2 = 0 → (post (-9 : Int32) (n_readAt + jj_3))) ∧ (¬ rr_2 = 0 → (post (rr_1 - (48 : Int32)) (n_readAt + jj_3))))))
set_option maxHeartbeats 4000000 in
set_option maxRecDepth 100000 in
theorem m_X6_figure (l : Launch) (dC : Nat → ClassId) (dI : Nat → Nat → Nat) (cyI cyJ : ClassId) (ab : Nat → Nat) (sz : Nat) {n_fault : Int32} {n_things : Int32} {n_kindOf : Nat → Int32} {n_digitOf : Nat → Int32} {n_follows : Int32} {n_ifOf : Nat → Int32} {n_thenOf : Nat → Int32} {n_listOf : Nat → Int32} {n_breathOf : Nat → Int32} {n_heardOf : Nat → Int32} {n_readAt : Int32} {n_readThings : Int32} {n_readFollows : Int32} {n_readKind : Nat → Int32} {n_readDigit : Nat → Int32} {n_readIf : Nat → Int32} {n_readThen : Nat → Int32} {n_readings : Int32} {n_readingIn : Nat → Int32} {n_readingHour : Nat → Int32} {n_readingOf : Nat → Int32} {n_breathWas : Nat → Int32} {n_sheetSize : Nat → Int32} {n_sheetLane : Nat → Int32} {n_sheet : Nat → Int32} {n_hands : Nat → Int32} {n_traceNow : Int32} {a_1 : Int32} {a_2 : Int32} {a_3 : Int32} {a_4 : Int32} {post : Int32 → Int32 → Prop} (h : w_X6_figure n_readAt n_sheet a_1 a_2 a_3 a_4 post) : Met l yX6_figure wsX6_figure (xq_R 1 25) (va_Pc [.ref (ab 0), .int a_1, .int a_2, .int a_3, .int a_4] (xq_P (dC, dI) [(cyI, .int), (cyJ, .long)] (wm_u cyI cyJ ab n_fault n_things n_kindOf n_digitOf n_follows n_ifOf n_thenOf n_listOf n_breathOf n_heardOf n_readAt n_readThings n_readFollows n_readKind n_readDigit n_readIf n_readThen n_readings n_readingIn n_readingHour n_readingOf n_breathWas n_sheetSize n_sheetLane n_sheet n_hands n_traceNow) sz)) (va_Qi (fun (rr : Int32) (uu : Int32) => post rr uu) (fun (uu : Int32) => xq_B (dC, dI) [(cyI, .int), (cyJ, .long)] (va_A (wm_u cyI cyJ ab n_fault n_things n_kindOf n_digitOf n_follows n_ifOf n_thenOf n_listOf n_breathOf n_heardOf n_readAt n_readThings n_readFollows n_readKind n_readDigit n_readIf n_readThen n_readings n_readingIn n_readingHour n_readingOf n_breathWas n_sheetSize n_sheetLane n_sheet n_hands n_traceNow) sz) (wm_u cyI cyJ ab n_fault n_things n_kindOf n_digitOf n_follows n_ifOf n_thenOf n_listOf n_breathOf n_heardOf uu n_readThings n_readFollows n_readKind n_readDigit n_readIf n_readThen n_readings n_readingIn n_readingHour n_readingOf n_breathWas n_sheetSize n_sheetLane n_sheet n_hands n_traceNow)) (va_A (wm_u cyI cyJ ab n_fault n_things n_kindOf n_digitOf n_follows n_ifOf n_thenOf n_listOf n_breathOf n_heardOf n_readAt n_readThings n_readFollows n_readKind n_readDigit n_readIf n_readThen n_readings n_readingIn n_readingHour n_readingOf n_breathWas n_sheetSize n_sheetLane n_sheet n_hands n_traceNow) sz)) 0 0 (va_A (wm_u cyI cyJ ab n_fault n_things n_kindOf n_digitOf n_follows n_ifOf n_thenOf n_listOf n_breathOf n_heardOf n_readAt n_readThings n_readFollows n_readKind n_readDigit n_readIf n_readThen n_readings n_readingIn n_readingHour n_readingOf n_breathWas n_sheetSize n_sheetLane n_sheet n_hands n_traceNow) sz) := by
  refine xq_M (cc := cX6_figure) (maxL := 7) (ret := (some .int)) (QA := fun A => va_Qi (fun (rr : Int32) (uu : Int32) => post rr uu) (fun (uu : Int32) => xq_B (dC, dI) [(cyI, .int), (cyJ, .long)] A (wm_u cyI cyJ ab n_fault n_things n_kindOf n_digitOf n_follows n_ifOf n_thenOf n_listOf n_breathOf n_heardOf uu n_readThings n_readFollows n_readKind n_readDigit n_readIf n_readThen n_readings n_readingIn n_readingHour n_readingOf n_breathWas n_sheetSize n_sheetLane n_sheet n_hands n_traceNow)) A) (by decide) rfl (Nat.le_of_ble_eq_true rfl) ?_
  intro p e s m args below meth c A ls Q hQ hx hb hr hml hts hown hlocks hsz hP hK hD hA hS hN hl
  subst hsz
  have hl : lv_has ls 7 [(0, .ref (ab 0)), (1, .int a_1), (2, .int a_2), (3, .int a_3), (4, .int a_4)] := hl
  have hi_X6 : ∀ w ∈ wsX60, w ∈ wsX6_figure := fun _ h => List.mem_cons_of_mem _ (List.mem_append_right _ h)
  have fl_107 := hts (.fieldLink RX6 107 "UnsaidCallsModel" "readAt" "I") (by decide +kernel)
  unfold w_X6_figure at h
  refine lv_aload_n hx hb dX6_figure_0 rfl (lv_at hl 0 rfl) ?_
  refine lv_iload_n hx hb dX6_figure_1 rfl (lv_at hl 1 rfl) ?_
  refine lv_iload_n hx hb dX6_figure_2 rfl (lv_at hl 2 rfl) ?_
  refine xq_ci (va_runV (As := [.int a_1, .int a_2]) (rest := []) ⟨hx, hb, hml, hown, hts⟩ (m_X6_codeAt l dC dI cyI cyJ ab s.heap.size h) (cwV 2 hts gX6_figure_X6_codeAt rfl rfl rfl (by decide +kernel) ⟨Nat.le_of_ble_eq_true rfl, Nat.le_of_ble_eq_true rfl⟩) (xq_preV hK hP hD hN (ci := 6) (q0 := 0) rfl rfl) rfl rfl hl.1 rfl (lv_room (Nat.le_of_ble_eq_true rfl)) dX6_figure_3 ⟨Nat.le_refl _, Nat.le_refl _⟩) hD hS hA (fun rr_1 uu H locs h hP hD hS => ?_)
  have hP : va_P (dC, dI) vwCl (wm_u cyI cyJ ab n_fault n_things n_kindOf n_digitOf n_follows n_ifOf n_thenOf n_listOf n_breathOf n_heardOf n_readAt n_readThings n_readFollows n_readKind n_readDigit n_readIf n_readThen n_readings n_readingIn n_readingHour n_readingOf n_breathWas n_sheetSize n_sheetLane n_sheet n_hands n_traceNow) H := hP
  have hD : va_D A (wm_u cyI cyJ ab n_fault n_things n_kindOf n_digitOf n_follows n_ifOf n_thenOf n_listOf n_breathOf n_heardOf n_readAt n_readThings n_readFollows n_readKind n_readDigit n_readIf n_readThen n_readings n_readingIn n_readingHour n_readingOf n_breathWas n_sheetSize n_sheetLane n_sheet n_hands n_traceNow) := hD
  refine lv_bipush (v := (48 : Int32)) hx hb dX6_figure_6 (by decide) ?_
  refine lv_isub hx hb dX6_figure_8 ?_
  refine lv_istore (lv' := [(5, .int (rr_1 - (48 : Int32))), (0, .ref (ab 0)), (1, .int a_1), (2, .int a_2), (3, .int a_3), (4, .int a_4)]) hx hb dX6_figure_9 hl (by decide) rfl (fun ls hl => ?_)
  refine lv_iload hx hb dX6_figure_11 (lv_at hl 0 rfl) ?_
  refine lv_i2l (v := (Int32.toInt64 (rr_1 - (48 : Int32)))) hx hb dX6_figure_13 rfl ?_
  refine lv_iload_n hx hb dX6_figure_14 rfl (lv_at hl 4 rfl) ?_
  refine lv_i2l (v := (Int32.toInt64 a_3)) hx hb dX6_figure_15 rfl ?_
  refine lv_iload hx hb dX6_figure_16 (lv_at hl 5 rfl) ?_
  refine lv_i2l (v := (Int32.toInt64 a_4)) hx hb dX6_figure_18 rfl ?_
  refine xq_ci (va_runS (As := [.long (Int32.toInt64 (rr_1 - (48 : Int32))), .long (Int32.toInt64 a_3), .long (Int32.toInt64 a_4)]) (rest := []) ⟨hx, hb, hml, hown, hts⟩ (m_X6_in l dC dI cyI cyJ (wm_u cyI cyJ ab n_fault n_things n_kindOf n_digitOf n_follows n_ifOf n_thenOf n_listOf n_breathOf n_heardOf n_readAt n_readThings n_readFollows n_readKind n_readDigit n_readIf n_readThen n_readings n_readingIn n_readingHour n_readingOf n_breathWas n_sheetSize n_sheetLane n_sheet n_hands n_traceNow) H.size h) (va_cwS 3 hts gX6_figure_X6_in rfl rfl rfl (by decide +kernel) ⟨Nat.le_of_ble_eq_true rfl, Nat.le_of_ble_eq_true rfl⟩) (xq_preS hK hP hD hN) rfl rfl hl.1 rfl (lv_room (Nat.le_of_ble_eq_true rfl)) dX6_figure_19 ⟨Nat.le_refl _, Nat.le_refl _⟩) hD hS hA (fun rr_2 uu H locs h hP hD hS => ?_)
  have hP : va_P (dC, dI) vwCl (wm_u cyI cyJ ab n_fault n_things n_kindOf n_digitOf n_follows n_ifOf n_thenOf n_listOf n_breathOf n_heardOf n_readAt n_readThings n_readFollows n_readKind n_readDigit n_readIf n_readThen n_readings n_readingIn n_readingHour n_readingOf n_breathWas n_sheetSize n_sheetLane n_sheet n_hands n_traceNow) H := hP
  have hD : va_D A (wm_u cyI cyJ ab n_fault n_things n_kindOf n_digitOf n_follows n_ifOf n_thenOf n_listOf n_breathOf n_heardOf n_readAt n_readThings n_readFollows n_readKind n_readDigit n_readIf n_readThen n_readings n_readingIn n_readingHour n_readingOf n_breathWas n_sheetSize n_sheetLane n_sheet n_hands n_traceNow) := hD
  refine lv_istore (lv' := [(6, .int rr_2), (5, .int (rr_1 - (48 : Int32))), (0, .ref (ab 0)), (1, .int a_1), (2, .int a_2), (3, .int a_3), (4, .int a_4)]) hx hb dX6_figure_22 hl (by decide) rfl (fun ls hl => ?_)
  refine lv_aload_n hx hb dX6_figure_24 rfl (lv_at hl 2 rfl) ?_
  refine lv_dup hx hb dX6_figure_25 rfl ?_
  refine va_get (D := (dC, dI)) (ci := 6) (v := .int n_readAt) (C := RX6) (T := TX6) (N := 27) hx hb hts hi_X6 hown hK hP 0 rfl rfl 10 (by decide) fl_107 (fun _ h9 => h9) rfl dX6_figure_26 ?_
  refine lv_iload hx hb dX6_figure_29 (lv_at hl 0 rfl) ?_
  refine xq_j1_go (X := fun (jj_3 : Int32) => ∀ (H : Heap) (locs : List Loc) (ls : Array Slot), va_P (dC, dI) vwCl (wm_u cyI cyJ ab n_fault n_things n_kindOf n_digitOf n_follows n_ifOf n_thenOf n_listOf n_breathOf n_heardOf n_readAt n_readThings n_readFollows n_readKind n_readDigit n_readIf n_readThen n_readings n_readingIn n_readingHour n_readingOf n_breathWas n_sheetSize n_sheetLane n_sheet n_hands n_traceNow) H → va_D A (wm_u cyI cyJ ab n_fault n_things n_kindOf n_digitOf n_follows n_ifOf n_thenOf n_listOf n_breathOf n_heardOf n_readAt n_readThings n_readFollows n_readKind n_readDigit n_readIf n_readThen n_readings n_readingIn n_readingHour n_readingOf n_breathWas n_sheetSize n_sheetLane n_sheet n_hands n_traceNow) → va_S A s.heap H locs → lv_has ls 7 [(5, .int (rr_1 - (48 : Int32))), (6, .int rr_2)] → W p l e (xq_R 1 25) s m args below meth c H locs 0 0 Q (F0 m 39 ls [.int jj_3, .int n_readAt, .ref (ab 0)])) h (fun jj_3 h H locs ls hP hD hS hl => ?_) (fun kj_4 h => ?_)
  · refine lv_iadd hx hb dX6_figure_39 ?_
    refine va_put (D := (dC, dI)) (ci := 6) (v := .int (n_readAt + jj_3)) (ty := .int) (C := RX6) (T := TX6) (N := 27) hx hb hts hi_X6 tyX6 tyX6_ok nmX6 hown hK hP hD hS 0 rfl rfl 10 (by decide) fl_107 (fun _ h9 => h9) rfl (by decide +kernel) rfl rfl (Nat.le_of_ble_eq_true rfl) dX6_figure_40 (fun H locs hP hD hS => ?_)
    have hP : va_P (dC, dI) vwCl (wm_u cyI cyJ ab n_fault n_things n_kindOf n_digitOf n_follows n_ifOf n_thenOf n_listOf n_breathOf n_heardOf (n_readAt + jj_3) n_readThings n_readFollows n_readKind n_readDigit n_readIf n_readThen n_readings n_readingIn n_readingHour n_readingOf n_breathWas n_sheetSize n_sheetLane n_sheet n_hands n_traceNow) H := hP
    have hD : va_D A (wm_u cyI cyJ ab n_fault n_things n_kindOf n_digitOf n_follows n_ifOf n_thenOf n_listOf n_breathOf n_heardOf (n_readAt + jj_3) n_readThings n_readFollows n_readKind n_readDigit n_readIf n_readThen n_readings n_readingIn n_readingHour n_readingOf n_breathWas n_sheetSize n_sheetLane n_sheet n_hands n_traceNow) := hD
    refine lv_iload hx hb dX6_figure_43 (lv_at hl 1 rfl) ?_
    refine lv_if_eq (tgt := 53) hx hb dX6_figure_45 (by decide) (fun hc_6 => ?_) (fun hc_6 => ?_)
    · have h := h.1 hc_6
      refine lv_bipush (v := (-9 : Int32)) hx hb dX6_figure_53 (by decide) ?_
      exact xq_ri hQ hx hb hr hP hK hD hS (n_readAt + jj_3) rfl h dX6_figure_55 hlocks
    · have h := h.2 hc_6
      refine lv_iload hx hb dX6_figure_48 (lv_at hl 0 rfl) ?_
      refine lv_goto (tgt := 55) hx hb dX6_figure_50 (by decide) ?_
      exact xq_ri hQ hx hb hr hP hK hD hS (n_readAt + jj_3) rfl h dX6_figure_55 hlocks
  · refine lv_if_eq (tgt := 38) hx hb dX6_figure_31 (by decide) (fun hc_5 => ?_) (fun hc_5 => ?_)
    · have h := h.1 hc_5
      refine lv_iconst (v := (0 : Int32)) hx hb dX6_figure_38 (by decide) ?_
      exact kj_4 (0 : Int32) h _ _ _ hP hD hS (lv_sub hl [1, 0] rfl)
    · have h := h.2 hc_5
      refine lv_iconst (v := (1 : Int32)) hx hb dX6_figure_34 (by decide) ?_
      refine lv_goto (tgt := 39) hx hb dX6_figure_35 (by decide) ?_
      exact kj_4 (1 : Int32) h _ _ _ hP hD hS (lv_sub hl [1, 0] rfl)
def w_X6_hear (n_things : Int32) (n_heardOf : Nat → Int32) (a_1 : Int32) (a_2 : Int32) (post : Int32 → (Nat → Int32) → Prop) : Prop := w_X6_noHour a_1 (fun (rr_1 : Int32) => (rr_1 = 0 → (xq_j0 (fun (kj_2 : Prop) => (a_2 = (-9 : Int32) → (kj_2)) ∧ (¬ a_2 = (-9 : Int32) → (w_X6_isOfThings n_things a_2 (fun (rr_3 : Int32) => (¬ rr_3 = 0 → (kj_2)) ∧ (rr_3 = 0 → (post (-2 : Int32) n_heardOf)))))) ((¬ n_things = 0 → ((vp_in a_1 6) ∧ ((vp_in a_1 6) ∧ (post (n_heardOf a_1.toNatClampNeg) (upd n_heardOf a_1.toNatClampNeg a_2))))) ∧ (n_things = 0 → (post (-3 : Int32) n_heardOf))))) ∧ (¬ rr_1 = 0 → (post (-1 : Int32) n_heardOf)))
set_option maxHeartbeats 4000000 in
set_option maxRecDepth 100000 in
theorem m_X6_hear (l : Launch) (dC : Nat → ClassId) (dI : Nat → Nat → Nat) (cyI cyJ : ClassId) (ab : Nat → Nat) (sz : Nat) {n_fault : Int32} {n_things : Int32} {n_kindOf : Nat → Int32} {n_digitOf : Nat → Int32} {n_follows : Int32} {n_ifOf : Nat → Int32} {n_thenOf : Nat → Int32} {n_listOf : Nat → Int32} {n_breathOf : Nat → Int32} {n_heardOf : Nat → Int32} {n_readAt : Int32} {n_readThings : Int32} {n_readFollows : Int32} {n_readKind : Nat → Int32} {n_readDigit : Nat → Int32} {n_readIf : Nat → Int32} {n_readThen : Nat → Int32} {n_readings : Int32} {n_readingIn : Nat → Int32} {n_readingHour : Nat → Int32} {n_readingOf : Nat → Int32} {n_breathWas : Nat → Int32} {n_sheetSize : Nat → Int32} {n_sheetLane : Nat → Int32} {n_sheet : Nat → Int32} {n_hands : Nat → Int32} {n_traceNow : Int32} {a_1 : Int32} {a_2 : Int32} {post : Int32 → (Nat → Int32) → Prop} (h : w_X6_hear n_things n_heardOf a_1 a_2 post) : Met l yX6_hear wsX6_hear (xq_R 2 46) (va_Pc [.ref (ab 0), .int a_1, .int a_2] (xq_P (dC, dI) [(cyI, .int), (cyJ, .long)] (wm_u cyI cyJ ab n_fault n_things n_kindOf n_digitOf n_follows n_ifOf n_thenOf n_listOf n_breathOf n_heardOf n_readAt n_readThings n_readFollows n_readKind n_readDigit n_readIf n_readThen n_readings n_readingIn n_readingHour n_readingOf n_breathWas n_sheetSize n_sheetLane n_sheet n_hands n_traceNow) sz)) (va_Qi (fun (rr : Int32) (uu : (Nat → Int32)) => post rr uu) (fun (uu : (Nat → Int32)) => xq_B (dC, dI) [(cyI, .int), (cyJ, .long)] (va_A (wm_u cyI cyJ ab n_fault n_things n_kindOf n_digitOf n_follows n_ifOf n_thenOf n_listOf n_breathOf n_heardOf n_readAt n_readThings n_readFollows n_readKind n_readDigit n_readIf n_readThen n_readings n_readingIn n_readingHour n_readingOf n_breathWas n_sheetSize n_sheetLane n_sheet n_hands n_traceNow) sz) (wm_u cyI cyJ ab n_fault n_things n_kindOf n_digitOf n_follows n_ifOf n_thenOf n_listOf n_breathOf uu n_readAt n_readThings n_readFollows n_readKind n_readDigit n_readIf n_readThen n_readings n_readingIn n_readingHour n_readingOf n_breathWas n_sheetSize n_sheetLane n_sheet n_hands n_traceNow)) (va_A (wm_u cyI cyJ ab n_fault n_things n_kindOf n_digitOf n_follows n_ifOf n_thenOf n_listOf n_breathOf n_heardOf n_readAt n_readThings n_readFollows n_readKind n_readDigit n_readIf n_readThen n_readings n_readingIn n_readingHour n_readingOf n_breathWas n_sheetSize n_sheetLane n_sheet n_hands n_traceNow) sz)) 0 0 (va_A (wm_u cyI cyJ ab n_fault n_things n_kindOf n_digitOf n_follows n_ifOf n_thenOf n_listOf n_breathOf n_heardOf n_readAt n_readThings n_readFollows n_readKind n_readDigit n_readIf n_readThen n_readings n_readingIn n_readingHour n_readingOf n_breathWas n_sheetSize n_sheetLane n_sheet n_hands n_traceNow) sz) := by
  refine xq_M (cc := cX6_hear) (maxL := 4) (ret := (some .int)) (QA := fun A => va_Qi (fun (rr : Int32) (uu : (Nat → Int32)) => post rr uu) (fun (uu : (Nat → Int32)) => xq_B (dC, dI) [(cyI, .int), (cyJ, .long)] A (wm_u cyI cyJ ab n_fault n_things n_kindOf n_digitOf n_follows n_ifOf n_thenOf n_listOf n_breathOf uu n_readAt n_readThings n_readFollows n_readKind n_readDigit n_readIf n_readThen n_readings n_readingIn n_readingHour n_readingOf n_breathWas n_sheetSize n_sheetLane n_sheet n_hands n_traceNow)) A) (by decide) rfl (Nat.le_of_ble_eq_true rfl) ?_
  intro p e s m args below meth c A ls Q hQ hx hb hr hml hts hown hlocks hsz hP hK hD hA hS hN hl
  subst hsz
  have hl : lv_has ls 4 [(0, .ref (ab 0)), (1, .int a_1), (2, .int a_2)] := hl
  have hi_X6 : ∀ w ∈ wsX60, w ∈ wsX6_hear := fun _ h => List.mem_cons_of_mem _ (List.mem_append_right _ h)
  have fl_28 := hts (.fieldLink RX6 28 "UnsaidCallsModel" "heardOf" "[I") (by decide +kernel)
  have fl_98 := hts (.fieldLink RX6 98 "UnsaidCallsModel" "things" "I") (by decide +kernel)
  unfold w_X6_hear at h
  refine lv_iload_n hx hb dX6_hear_0 rfl (lv_at hl 1 rfl) ?_
  refine xq_ci (va_runS (As := [.int a_1]) (rest := []) ⟨hx, hb, hml, hown, hts⟩ (m_X6_noHour l dC dI cyI cyJ (wm_u cyI cyJ ab n_fault n_things n_kindOf n_digitOf n_follows n_ifOf n_thenOf n_listOf n_breathOf n_heardOf n_readAt n_readThings n_readFollows n_readKind n_readDigit n_readIf n_readThen n_readings n_readingIn n_readingHour n_readingOf n_breathWas n_sheetSize n_sheetLane n_sheet n_hands n_traceNow) s.heap.size h) (va_cwS 1 hts gX6_hear_X6_noHour rfl rfl rfl (by decide +kernel) ⟨Nat.le_of_ble_eq_true rfl, Nat.le_of_ble_eq_true rfl⟩) (xq_preS hK hP hD hN) rfl rfl hl.1 rfl (lv_room (Nat.le_of_ble_eq_true rfl)) dX6_hear_1 ⟨Nat.le_refl _, Nat.le_refl _⟩) hD hS hA (fun rr_1 uu H locs h hP hD hS => ?_)
  have hP : va_P (dC, dI) vwCl (wm_u cyI cyJ ab n_fault n_things n_kindOf n_digitOf n_follows n_ifOf n_thenOf n_listOf n_breathOf n_heardOf n_readAt n_readThings n_readFollows n_readKind n_readDigit n_readIf n_readThen n_readings n_readingIn n_readingHour n_readingOf n_breathWas n_sheetSize n_sheetLane n_sheet n_hands n_traceNow) H := hP
  have hD : va_D A (wm_u cyI cyJ ab n_fault n_things n_kindOf n_digitOf n_follows n_ifOf n_thenOf n_listOf n_breathOf n_heardOf n_readAt n_readThings n_readFollows n_readKind n_readDigit n_readIf n_readThen n_readings n_readingIn n_readingHour n_readingOf n_breathWas n_sheetSize n_sheetLane n_sheet n_hands n_traceNow) := hD
  refine lv_if_eq (tgt := 9) hx hb dX6_hear_4 (by decide) (fun hc_10 => ?_) (fun hc_10 => ?_)
  · have h := h.1 hc_10
    refine lv_iload_n hx hb dX6_hear_9 rfl (lv_at hl 2 rfl) ?_
    refine lv_bipush (v := (-9 : Int32)) hx hb dX6_hear_10 (by decide) ?_
    refine xq_j0_go (X := ∀ (H : Heap) (locs : List Loc) (ls : Array Slot), va_P (dC, dI) vwCl (wm_u cyI cyJ ab n_fault n_things n_kindOf n_digitOf n_follows n_ifOf n_thenOf n_listOf n_breathOf n_heardOf n_readAt n_readThings n_readFollows n_readKind n_readDigit n_readIf n_readThen n_readings n_readingIn n_readingHour n_readingOf n_breathWas n_sheetSize n_sheetLane n_sheet n_hands n_traceNow) H → va_D A (wm_u cyI cyJ ab n_fault n_things n_kindOf n_digitOf n_follows n_ifOf n_thenOf n_listOf n_breathOf n_heardOf n_readAt n_readThings n_readFollows n_readKind n_readDigit n_readIf n_readThen n_readings n_readingIn n_readingHour n_readingOf n_breathWas n_sheetSize n_sheetLane n_sheet n_hands n_traceNow) → va_S A s.heap H locs → lv_has ls 4 [(0, .ref (ab 0)), (1, .int a_1), (2, .int a_2)] → W p l e (xq_R 2 46) s m args below meth c H locs 0 0 Q (F0 m 26 ls [])) h (fun  h H locs ls hP hD hS hl => ?_) (fun kj_2 h => ?_)
    · refine lv_aload_n hx hb dX6_hear_26 rfl (lv_at hl 0 rfl) ?_
      refine va_get (D := (dC, dI)) (ci := 6) (v := .int n_things) (C := RX6) (T := TX6) (N := 27) hx hb hts hi_X6 hown hK hP 0 rfl rfl 1 (by decide) fl_98 (fun _ h9 => h9) rfl dX6_hear_27 ?_
      refine lv_if_ne (tgt := 36) hx hb dX6_hear_30 (by decide) (fun hc_9 => ?_) (fun hc_9 => ?_)
      · have h := h.1 hc_9
        refine lv_aload_n hx hb dX6_hear_36 rfl (lv_at hl 0 rfl) ?_
        refine va_get (D := (dC, dI)) (ci := 6) (v := .ref (ab 7)) (C := RX6) (T := TX6) (N := 27) hx hb hts hi_X6 hown hK hP 0 rfl rfl 9 (by decide) fl_28 (fun _ h9 => h9) rfl dX6_hear_37 ?_
        refine lv_iload_n hx hb dX6_hear_40 rfl (lv_at hl 1 rfl) ?_
        obtain ⟨hv_7, h⟩ := h
        refine va_iald hx hb hK hP 7 0 rfl rfl hv_7 dX6_hear_41 ?_
        refine lv_istore_n (lv' := [(3, .int (n_heardOf a_1.toNatClampNeg)), (0, .ref (ab 0)), (1, .int a_1), (2, .int a_2)]) hx hb dX6_hear_42 rfl hl (by decide) rfl (fun ls hl => ?_)
        refine lv_aload_n hx hb dX6_hear_43 rfl (lv_at hl 1 rfl) ?_
        refine va_get (D := (dC, dI)) (ci := 6) (v := .ref (ab 7)) (C := RX6) (T := TX6) (N := 27) hx hb hts hi_X6 hown hK hP 0 rfl rfl 9 (by decide) fl_28 (fun _ h9 => h9) rfl dX6_hear_44 ?_
        refine lv_iload_n hx hb dX6_hear_47 rfl (lv_at hl 2 rfl) ?_
        refine lv_iload_n hx hb dX6_hear_48 rfl (lv_at hl 3 rfl) ?_
        obtain ⟨hv_8, h⟩ := h
        refine va_iast hx hb hK hP hD hS 7 0 rfl rfl hv_8 dX6_hear_49 (fun H locs hP hD hS => ?_)
        have hP : va_P (dC, dI) vwCl (wm_u cyI cyJ ab n_fault n_things n_kindOf n_digitOf n_follows n_ifOf n_thenOf n_listOf n_breathOf (upd n_heardOf a_1.toNatClampNeg a_2) n_readAt n_readThings n_readFollows n_readKind n_readDigit n_readIf n_readThen n_readings n_readingIn n_readingHour n_readingOf n_breathWas n_sheetSize n_sheetLane n_sheet n_hands n_traceNow) H := hP
        have hD : va_D A (wm_u cyI cyJ ab n_fault n_things n_kindOf n_digitOf n_follows n_ifOf n_thenOf n_listOf n_breathOf (upd n_heardOf a_1.toNatClampNeg a_2) n_readAt n_readThings n_readFollows n_readKind n_readDigit n_readIf n_readThen n_readings n_readingIn n_readingHour n_readingOf n_breathWas n_sheetSize n_sheetLane n_sheet n_hands n_traceNow) := hD
        refine lv_iload_n hx hb dX6_hear_50 rfl (lv_at hl 0 rfl) ?_
        exact xq_ri hQ hx hb hr hP hK hD hS (upd n_heardOf a_1.toNatClampNeg a_2) rfl h dX6_hear_51 hlocks
      · have h := h.2 hc_9
        refine lv_bipush (v := (-3 : Int32)) hx hb dX6_hear_33 (by decide) ?_
        exact xq_ri hQ hx hb hr hP hK hD hS n_heardOf rfl h dX6_hear_35 hlocks
    · refine lv_icmp_eq (tgt := 26) hx hb dX6_hear_12 (by decide) (fun hc_6 => ?_) (fun hc_6 => ?_)
      · have h := h.1 hc_6
        exact kj_2 h _ _ _ hP hD hS (lv_sub hl [0, 1, 2] rfl)
      · have h := h.2 hc_6
        refine lv_aload_n hx hb dX6_hear_15 rfl (lv_at hl 0 rfl) ?_
        refine lv_iload_n hx hb dX6_hear_16 rfl (lv_at hl 2 rfl) ?_
        refine xq_ci (va_runV (As := [.int a_2]) (rest := []) ⟨hx, hb, hml, hown, hts⟩ (m_X6_isOfThings l dC dI cyI cyJ ab H.size h) (cwV 1 hts gX6_hear_X6_isOfThings rfl rfl rfl (by decide +kernel) ⟨Nat.le_of_ble_eq_true rfl, Nat.le_of_ble_eq_true rfl⟩) (xq_preV hK hP hD hN (ci := 6) (q0 := 0) rfl rfl) rfl rfl hl.1 rfl (lv_room (Nat.le_of_ble_eq_true rfl)) dX6_hear_17 ⟨Nat.le_refl _, Nat.le_refl _⟩) hD hS hA (fun rr_3 uu H locs h hP hD hS => ?_)
        have hP : va_P (dC, dI) vwCl (wm_u cyI cyJ ab n_fault n_things n_kindOf n_digitOf n_follows n_ifOf n_thenOf n_listOf n_breathOf n_heardOf n_readAt n_readThings n_readFollows n_readKind n_readDigit n_readIf n_readThen n_readings n_readingIn n_readingHour n_readingOf n_breathWas n_sheetSize n_sheetLane n_sheet n_hands n_traceNow) H := hP
        have hD : va_D A (wm_u cyI cyJ ab n_fault n_things n_kindOf n_digitOf n_follows n_ifOf n_thenOf n_listOf n_breathOf n_heardOf n_readAt n_readThings n_readFollows n_readKind n_readDigit n_readIf n_readThen n_readings n_readingIn n_readingHour n_readingOf n_breathWas n_sheetSize n_sheetLane n_sheet n_hands n_traceNow) := hD
        refine lv_if_ne (tgt := 26) hx hb dX6_hear_20 (by decide) (fun hc_4 => ?_) (fun hc_4 => ?_)
        · have h := h.1 hc_4
          exact kj_2 h _ _ _ hP hD hS (lv_sub hl [0, 1, 2] rfl)
        · have h := h.2 hc_4
          refine lv_bipush (v := (-2 : Int32)) hx hb dX6_hear_23 (by decide) ?_
          exact xq_ri hQ hx hb hr hP hK hD hS n_heardOf rfl h dX6_hear_25 hlocks
  · have h := h.2 hc_10
    refine lv_iconst (v := (-1 : Int32)) hx hb dX6_hear_7 (by decide) ?_
    exact xq_ri hQ hx hb hr hP hK hD hS n_heardOf rfl h dX6_hear_8 hlocks
def w_X6_isKnown_L17 (a_1 : Int32) (a_2 : Int32) (a_3 : Int32) (a_4 : Int32) (a_5 : Int32) (a_6 : Int32) (n_things : Int32) (n_kindOf : Nat → Int32) (n_follows : Int32) (n_ifOf : Nat → Int32) (n_thenOf : Nat → Int32) (post : Int32 → Prop) (kk : Int32 → Prop) : Nat → Int32 → Int32 → Prop
  | 0, _, _ => False
  | f_17 + 1, a_7, a_8 => w_X6_all n_things (fun (rr_2 : Int32) => (rr_2 < a_8 → (kk a_7)) ∧ (¬ rr_2 < a_8 → ((a_7 = 0 → (kk a_7)) ∧ (¬ a_7 = 0 → (w_X6_isCase n_things n_follows n_ifOf n_thenOf a_8 (fun (rr_3 : Int32) => xq_j1 (fun (kj_5 : Int32 → Prop) => (rr_3 = 0 → (kj_5 (0 : Int32))) ∧ (¬ rr_3 = 0 → ((¬ ((a_1 ^^^ a_8) &&& a_2) = 0 → (kj_5 (0 : Int32))) ∧ (((a_1 ^^^ a_8) &&& a_2) = 0 → (w_X6_namedBy n_things n_kindOf a_8 a_4 a_5 (fun (rr_6 : Int32) => (¬ rr_6 = a_6 → (kj_5 (0 : Int32))) ∧ (rr_6 = a_6 → (kj_5 (1 : Int32))))))))) (fun (jj_4 : Int32) => (jj_4 = 0 → (w_X6_isKnown_L17 a_1 a_2 a_3 a_4 a_5 a_6 n_things n_kindOf n_follows n_ifOf n_thenOf post kk f_17 (1 : Int32) (a_8 + (1 : Int32)))) ∧ (¬ jj_4 = 0 → (w_X6_isIn a_8 a_3 (fun (rr_11 : Int32) => w_X6_isIn a_1 a_3 (fun (rr_12 : Int32) => (¬ rr_11 = rr_12 → (w_X6_isKnown_L17 a_1 a_2 a_3 a_4 a_5 a_6 n_things n_kindOf n_follows n_ifOf n_thenOf post kk f_17 (0 : Int32) (a_8 + (1 : Int32)))) ∧ (rr_11 = rr_12 → (w_X6_isKnown_L17 a_1 a_2 a_3 a_4 a_5 a_6 n_things n_kindOf n_follows n_ifOf n_thenOf post kk f_17 (1 : Int32) (a_8 + (1 : Int32)))))))))))))))
def w_X6_isKnown (n_things : Int32) (n_kindOf : Nat → Int32) (n_follows : Int32) (n_ifOf : Nat → Int32) (n_thenOf : Nat → Int32) (a_1 : Int32) (a_2 : Int32) (a_3 : Int32) (a_4 : Int32) (a_5 : Int32) (post : Int32 → Prop) : Prop := w_X6_namedBy n_things n_kindOf a_1 a_4 a_5 (fun (rr_1 : Int32) => ∃ e_17, w_X6_isKnown_L17 a_1 a_2 a_3 a_4 a_5 rr_1 n_things n_kindOf n_follows n_ifOf n_thenOf post (fun (xx_23 : Int32) => xq_z xx_23 ∧ post xx_23) e_17 (1 : Int32) (0 : Int32))
set_option maxHeartbeats 4000000 in
set_option maxRecDepth 100000 in
theorem m_X6_isKnown (l : Launch) (dC : Nat → ClassId) (dI : Nat → Nat → Nat) (cyI cyJ : ClassId) (ab : Nat → Nat) (sz : Nat) {n_fault : Int32} {n_things : Int32} {n_kindOf : Nat → Int32} {n_digitOf : Nat → Int32} {n_follows : Int32} {n_ifOf : Nat → Int32} {n_thenOf : Nat → Int32} {n_listOf : Nat → Int32} {n_breathOf : Nat → Int32} {n_heardOf : Nat → Int32} {n_readAt : Int32} {n_readThings : Int32} {n_readFollows : Int32} {n_readKind : Nat → Int32} {n_readDigit : Nat → Int32} {n_readIf : Nat → Int32} {n_readThen : Nat → Int32} {n_readings : Int32} {n_readingIn : Nat → Int32} {n_readingHour : Nat → Int32} {n_readingOf : Nat → Int32} {n_breathWas : Nat → Int32} {n_sheetSize : Nat → Int32} {n_sheetLane : Nat → Int32} {n_sheet : Nat → Int32} {n_hands : Nat → Int32} {n_traceNow : Int32} {a_1 : Int32} {a_2 : Int32} {a_3 : Int32} {a_4 : Int32} {a_5 : Int32} {post : Int32 → Prop} (h : w_X6_isKnown n_things n_kindOf n_follows n_ifOf n_thenOf a_1 a_2 a_3 a_4 a_5 post) : Met l yX6_isKnown wsX6_isKnown (xq_R 3 69) (va_Pc [.ref (ab 0), .int a_1, .int a_2, .int a_3, .int a_4, .int a_5] (xq_P (dC, dI) [(cyI, .int), (cyJ, .long)] (wm_u cyI cyJ ab n_fault n_things n_kindOf n_digitOf n_follows n_ifOf n_thenOf n_listOf n_breathOf n_heardOf n_readAt n_readThings n_readFollows n_readKind n_readDigit n_readIf n_readThen n_readings n_readingIn n_readingHour n_readingOf n_breathWas n_sheetSize n_sheetLane n_sheet n_hands n_traceNow) sz)) (va_Qi (fun (rr : Int32) (uu : Unit) => post rr ) (fun (uu : Unit) => xq_B (dC, dI) [(cyI, .int), (cyJ, .long)] (va_A (wm_u cyI cyJ ab n_fault n_things n_kindOf n_digitOf n_follows n_ifOf n_thenOf n_listOf n_breathOf n_heardOf n_readAt n_readThings n_readFollows n_readKind n_readDigit n_readIf n_readThen n_readings n_readingIn n_readingHour n_readingOf n_breathWas n_sheetSize n_sheetLane n_sheet n_hands n_traceNow) sz) (wm_u cyI cyJ ab n_fault n_things n_kindOf n_digitOf n_follows n_ifOf n_thenOf n_listOf n_breathOf n_heardOf n_readAt n_readThings n_readFollows n_readKind n_readDigit n_readIf n_readThen n_readings n_readingIn n_readingHour n_readingOf n_breathWas n_sheetSize n_sheetLane n_sheet n_hands n_traceNow)) (va_A (wm_u cyI cyJ ab n_fault n_things n_kindOf n_digitOf n_follows n_ifOf n_thenOf n_listOf n_breathOf n_heardOf n_readAt n_readThings n_readFollows n_readKind n_readDigit n_readIf n_readThen n_readings n_readingIn n_readingHour n_readingOf n_breathWas n_sheetSize n_sheetLane n_sheet n_hands n_traceNow) sz)) 0 0 (va_A (wm_u cyI cyJ ab n_fault n_things n_kindOf n_digitOf n_follows n_ifOf n_thenOf n_listOf n_breathOf n_heardOf n_readAt n_readThings n_readFollows n_readKind n_readDigit n_readIf n_readThen n_readings n_readingIn n_readingHour n_readingOf n_breathWas n_sheetSize n_sheetLane n_sheet n_hands n_traceNow) sz) := by
  refine xq_M (cc := cX6_isKnown) (maxL := 10) (ret := (some .boolean)) (QA := fun A => va_Qi (fun (rr : Int32) (uu : Unit) => post rr ) (fun (uu : Unit) => xq_B (dC, dI) [(cyI, .int), (cyJ, .long)] A (wm_u cyI cyJ ab n_fault n_things n_kindOf n_digitOf n_follows n_ifOf n_thenOf n_listOf n_breathOf n_heardOf n_readAt n_readThings n_readFollows n_readKind n_readDigit n_readIf n_readThen n_readings n_readingIn n_readingHour n_readingOf n_breathWas n_sheetSize n_sheetLane n_sheet n_hands n_traceNow)) A) (by decide) rfl (Nat.le_of_ble_eq_true rfl) ?_
  intro p e s m args below meth c A ls Q hQ hx hb hr hml hts hown hlocks hsz hP hK hD hA hS hN hl
  subst hsz
  have hl : lv_has ls 10 [(0, .ref (ab 0)), (1, .int a_1), (2, .int a_2), (3, .int a_3), (4, .int a_4), (5, .int a_5)] := hl
  unfold w_X6_isKnown at h
  refine lv_aload_n hx hb dX6_isKnown_0 rfl (lv_at hl 0 rfl) ?_
  refine lv_iload_n hx hb dX6_isKnown_1 rfl (lv_at hl 1 rfl) ?_
  refine lv_iload hx hb dX6_isKnown_2 (lv_at hl 4 rfl) ?_
  refine lv_iload hx hb dX6_isKnown_4 (lv_at hl 5 rfl) ?_
  refine xq_ci (va_runV (As := [.int a_1, .int a_4, .int a_5]) (rest := []) ⟨hx, hb, hml, hown, hts⟩ (m_X6_namedBy l dC dI cyI cyJ ab s.heap.size h) (cwV 3 hts gX6_isKnown_X6_namedBy rfl rfl rfl (by decide +kernel) ⟨Nat.le_of_ble_eq_true rfl, Nat.le_of_ble_eq_true rfl⟩) (xq_preV hK hP hD hN (ci := 6) (q0 := 0) rfl rfl) rfl rfl hl.1 rfl (lv_room (Nat.le_of_ble_eq_true rfl)) dX6_isKnown_6 ⟨Nat.le_refl _, Nat.le_refl _⟩) hD hS hA (fun rr_1 uu H locs h hP hD hS => ?_)
  have hP : va_P (dC, dI) vwCl (wm_u cyI cyJ ab n_fault n_things n_kindOf n_digitOf n_follows n_ifOf n_thenOf n_listOf n_breathOf n_heardOf n_readAt n_readThings n_readFollows n_readKind n_readDigit n_readIf n_readThen n_readings n_readingIn n_readingHour n_readingOf n_breathWas n_sheetSize n_sheetLane n_sheet n_hands n_traceNow) H := hP
  have hD : va_D A (wm_u cyI cyJ ab n_fault n_things n_kindOf n_digitOf n_follows n_ifOf n_thenOf n_listOf n_breathOf n_heardOf n_readAt n_readThings n_readFollows n_readKind n_readDigit n_readIf n_readThen n_readings n_readingIn n_readingHour n_readingOf n_breathWas n_sheetSize n_sheetLane n_sheet n_hands n_traceNow) := hD
  refine lv_istore (lv' := [(6, .int rr_1), (0, .ref (ab 0)), (1, .int a_1), (2, .int a_2), (3, .int a_3), (4, .int a_4), (5, .int a_5)]) hx hb dX6_isKnown_9 hl (by decide) rfl (fun ls hl => ?_)
  refine lv_iconst (v := (1 : Int32)) hx hb dX6_isKnown_11 (by decide) ?_
  refine lv_istore (lv' := [(7, .int (1 : Int32)), (6, .int rr_1), (0, .ref (ab 0)), (1, .int a_1), (2, .int a_2), (3, .int a_3), (4, .int a_4), (5, .int a_5)]) hx hb dX6_isKnown_12 hl (by decide) rfl (fun ls hl => ?_)
  refine lv_iconst (v := (0 : Int32)) hx hb dX6_isKnown_14 (by decide) ?_
  refine lv_istore (lv' := [(8, .int (0 : Int32)), (7, .int (1 : Int32)), (6, .int rr_1), (0, .ref (ab 0)), (1, .int a_1), (2, .int a_2), (3, .int a_3), (4, .int a_4), (5, .int a_5)]) hx hb dX6_isKnown_15 hl (by decide) rfl (fun ls hl => ?_)
  obtain ⟨ni, h⟩ := h
  have lp_17 : ∀ (kk : Int32 → Prop), (∀ (xx_23 : Int32) (H : Heap) (locs : List Loc) (ls : Array Slot), va_P (dC, dI) vwCl (wm_u cyI cyJ ab n_fault n_things n_kindOf n_digitOf n_follows n_ifOf n_thenOf n_listOf n_breathOf n_heardOf n_readAt n_readThings n_readFollows n_readKind n_readDigit n_readIf n_readThen n_readings n_readingIn n_readingHour n_readingOf n_breathWas n_sheetSize n_sheetLane n_sheet n_hands n_traceNow) H → va_D A (wm_u cyI cyJ ab n_fault n_things n_kindOf n_digitOf n_follows n_ifOf n_thenOf n_listOf n_breathOf n_heardOf n_readAt n_readThings n_readFollows n_readKind n_readDigit n_readIf n_readThen n_readings n_readingIn n_readingHour n_readingOf n_breathWas n_sheetSize n_sheetLane n_sheet n_hands n_traceNow) → va_S A s.heap H locs → lv_has ls 10 [(7, .int xx_23)] → kk xx_23 → W p l e (xq_R 3 69) s m args below meth c H locs 0 0 Q (F0 m 103 ls [])) → ∀ (ni : Nat) (aa_21 : Int32) (aa_22 : Int32) (H : Heap) (locs : List Loc) (ls : Array Slot), va_P (dC, dI) vwCl (wm_u cyI cyJ ab n_fault n_things n_kindOf n_digitOf n_follows n_ifOf n_thenOf n_listOf n_breathOf n_heardOf n_readAt n_readThings n_readFollows n_readKind n_readDigit n_readIf n_readThen n_readings n_readingIn n_readingHour n_readingOf n_breathWas n_sheetSize n_sheetLane n_sheet n_hands n_traceNow) H → va_D A (wm_u cyI cyJ ab n_fault n_things n_kindOf n_digitOf n_follows n_ifOf n_thenOf n_listOf n_breathOf n_heardOf n_readAt n_readThings n_readFollows n_readKind n_readDigit n_readIf n_readThen n_readings n_readingIn n_readingHour n_readingOf n_breathWas n_sheetSize n_sheetLane n_sheet n_hands n_traceNow) → va_S A s.heap H locs → lv_has ls 10 [(0, .ref (ab 0)), (1, .int a_1), (2, .int a_2), (3, .int a_3), (4, .int a_4), (5, .int a_5), (6, .int rr_1), (7, .int aa_21), (8, .int aa_22)] → w_X6_isKnown_L17 a_1 a_2 a_3 a_4 a_5 rr_1 n_things n_kindOf n_follows n_ifOf n_thenOf post kk ni aa_21 aa_22 → W p l e (xq_R 3 69) s m args below meth c H locs 0 0 Q (F0 m 17 ls []) := by
    intro kk kx ni
    induction ni with
    | zero => intros; exact False.elim (by assumption)
    | succ ni ih =>
      intro aa_21 aa_22 H locs ls hP hD hS hl h
      rw [w_X6_isKnown_L17] at h
      refine lv_iload hx hb dX6_isKnown_17 (lv_at hl 8 rfl) ?_
      refine lv_aload_n hx hb dX6_isKnown_19 rfl (lv_at hl 0 rfl) ?_
      refine xq_ci (va_runV (As := []) (rest := [.int aa_22]) ⟨hx, hb, hml, hown, hts⟩ (m_X6_all l dC dI cyI cyJ ab H.size h) (cwV 0 hts gX6_isKnown_X6_all rfl rfl rfl (by decide +kernel) ⟨Nat.le_of_ble_eq_true rfl, Nat.le_of_ble_eq_true rfl⟩) (xq_preV hK hP hD hN (ci := 6) (q0 := 0) rfl rfl) rfl rfl hl.1 rfl (lv_room (Nat.le_of_ble_eq_true rfl)) dX6_isKnown_20 ⟨Nat.le_refl _, Nat.le_refl _⟩) hD hS hA (fun rr_25 uu H locs h hP hD hS => ?_)
      have hP : va_P (dC, dI) vwCl (wm_u cyI cyJ ab n_fault n_things n_kindOf n_digitOf n_follows n_ifOf n_thenOf n_listOf n_breathOf n_heardOf n_readAt n_readThings n_readFollows n_readKind n_readDigit n_readIf n_readThen n_readings n_readingIn n_readingHour n_readingOf n_breathWas n_sheetSize n_sheetLane n_sheet n_hands n_traceNow) H := hP
      have hD : va_D A (wm_u cyI cyJ ab n_fault n_things n_kindOf n_digitOf n_follows n_ifOf n_thenOf n_listOf n_breathOf n_heardOf n_readAt n_readThings n_readFollows n_readKind n_readDigit n_readIf n_readThen n_readings n_readingIn n_readingHour n_readingOf n_breathWas n_sheetSize n_sheetLane n_sheet n_hands n_traceNow) := hD
      refine lv_icmp_gt (tgt := 103) hx hb dX6_isKnown_23 (by decide) (fun hc_42 => ?_) (fun hc_42 => ?_)
      · have h := h.1 hc_42
        exact kx aa_21 _ _ _ hP hD hS (lv_sub hl [7] rfl) h
      · have h := h.2 hc_42
        refine lv_iload hx hb dX6_isKnown_26 (lv_at hl 7 rfl) ?_
        refine lv_if_eq (tgt := 103) hx hb dX6_isKnown_28 (by decide) (fun hc_41 => ?_) (fun hc_41 => ?_)
        · have h := h.1 hc_41
          exact kx aa_21 _ _ _ hP hD hS (lv_sub hl [7] rfl) h
        · have h := h.2 hc_41
          refine lv_aload_n hx hb dX6_isKnown_31 rfl (lv_at hl 0 rfl) ?_
          refine lv_iload hx hb dX6_isKnown_32 (lv_at hl 8 rfl) ?_
          refine xq_ci (va_runV (As := [.int aa_22]) (rest := []) ⟨hx, hb, hml, hown, hts⟩ (m_X6_isCase l dC dI cyI cyJ ab H.size h) (cwV 1 hts gX6_isKnown_X6_isCase rfl rfl rfl (by decide +kernel) ⟨Nat.le_of_ble_eq_true rfl, Nat.le_of_ble_eq_true rfl⟩) (xq_preV hK hP hD hN (ci := 6) (q0 := 0) rfl rfl) rfl rfl hl.1 rfl (lv_room (Nat.le_of_ble_eq_true rfl)) dX6_isKnown_34 ⟨Nat.le_refl _, Nat.le_refl _⟩) hD hS hA (fun rr_26 uu H locs h hP hD hS => ?_)
          have hP : va_P (dC, dI) vwCl (wm_u cyI cyJ ab n_fault n_things n_kindOf n_digitOf n_follows n_ifOf n_thenOf n_listOf n_breathOf n_heardOf n_readAt n_readThings n_readFollows n_readKind n_readDigit n_readIf n_readThen n_readings n_readingIn n_readingHour n_readingOf n_breathWas n_sheetSize n_sheetLane n_sheet n_hands n_traceNow) H := hP
          have hD : va_D A (wm_u cyI cyJ ab n_fault n_things n_kindOf n_digitOf n_follows n_ifOf n_thenOf n_listOf n_breathOf n_heardOf n_readAt n_readThings n_readFollows n_readKind n_readDigit n_readIf n_readThen n_readings n_readingIn n_readingHour n_readingOf n_breathWas n_sheetSize n_sheetLane n_sheet n_hands n_traceNow) := hD
          refine xq_j1_go (X := fun (jj_27 : Int32) => ∀ (H : Heap) (locs : List Loc) (ls : Array Slot), va_P (dC, dI) vwCl (wm_u cyI cyJ ab n_fault n_things n_kindOf n_digitOf n_follows n_ifOf n_thenOf n_listOf n_breathOf n_heardOf n_readAt n_readThings n_readFollows n_readKind n_readDigit n_readIf n_readThen n_readings n_readingIn n_readingHour n_readingOf n_breathWas n_sheetSize n_sheetLane n_sheet n_hands n_traceNow) H → va_D A (wm_u cyI cyJ ab n_fault n_things n_kindOf n_digitOf n_follows n_ifOf n_thenOf n_listOf n_breathOf n_heardOf n_readAt n_readThings n_readFollows n_readKind n_readDigit n_readIf n_readThen n_readings n_readingIn n_readingHour n_readingOf n_breathWas n_sheetSize n_sheetLane n_sheet n_hands n_traceNow) → va_S A s.heap H locs → lv_has ls 10 [(0, .ref (ab 0)), (1, .int a_1), (2, .int a_2), (3, .int a_3), (4, .int a_4), (5, .int a_5), (6, .int rr_1), (8, .int aa_22)] → W p l e (xq_R 3 69) s m args below meth c H locs 0 0 Q (F0 m 69 ls [.int jj_27])) h (fun jj_27 h H locs ls hP hD hS hl => ?_) (fun kj_28 h => ?_)
          · refine lv_istore (lv' := [(9, .int jj_27), (0, .ref (ab 0)), (1, .int a_1), (2, .int a_2), (3, .int a_3), (4, .int a_4), (5, .int a_5), (6, .int rr_1), (8, .int aa_22)]) hx hb dX6_isKnown_69 hl (by decide) rfl (fun ls hl => ?_)
            refine lv_iload hx hb dX6_isKnown_71 (lv_at hl 0 rfl) ?_
            refine lv_if_eq (tgt := 90) hx hb dX6_isKnown_73 (by decide) (fun hc_39 => ?_) (fun hc_39 => ?_)
            · have h := h.1 hc_39
              refine lv_iconst (v := (1 : Int32)) hx hb dX6_isKnown_90 (by decide) ?_
              refine lv_goto (tgt := 95) hx hb dX6_isKnown_91 (by decide) ?_
              refine lv_istore (lv' := [(7, .int (1 : Int32)), (9, .int jj_27), (0, .ref (ab 0)), (1, .int a_1), (2, .int a_2), (3, .int a_3), (4, .int a_4), (5, .int a_5), (6, .int rr_1), (8, .int aa_22)]) hx hb dX6_isKnown_95 hl (by decide) rfl (fun ls hl => ?_)
              refine lv_iinc (v := (aa_22 + (1 : Int32))) (lv' := [(8, .int (aa_22 + (1 : Int32))), (7, .int (1 : Int32)), (9, .int jj_27), (0, .ref (ab 0)), (1, .int a_1), (2, .int a_2), (3, .int a_3), (4, .int a_4), (5, .int a_5), (6, .int rr_1)]) hx hb dX6_isKnown_97 hl (k := 9) rfl rfl (by decide) rfl (fun ls hl => ?_)
              refine lv_goto (tgt := 17) hx hb dX6_isKnown_100 (by decide) ?_
              exact ih (1 : Int32) (aa_22 + (1 : Int32)) _ _ _ hP hD hS (lv_sub hl [3, 4, 5, 6, 7, 8, 9, 1, 0] rfl) h
            · have h := h.2 hc_39
              refine lv_iload hx hb dX6_isKnown_76 (lv_at hl 8 rfl) ?_
              refine lv_iload_n hx hb dX6_isKnown_78 rfl (lv_at hl 4 rfl) ?_
              refine xq_ci (va_runS (As := [.int aa_22, .int a_3]) (rest := []) ⟨hx, hb, hml, hown, hts⟩ (m_X6_isIn l dC dI cyI cyJ (wm_u cyI cyJ ab n_fault n_things n_kindOf n_digitOf n_follows n_ifOf n_thenOf n_listOf n_breathOf n_heardOf n_readAt n_readThings n_readFollows n_readKind n_readDigit n_readIf n_readThen n_readings n_readingIn n_readingHour n_readingOf n_breathWas n_sheetSize n_sheetLane n_sheet n_hands n_traceNow) H.size h) (va_cwS 2 hts gX6_isKnown_X6_isIn rfl rfl rfl (by decide +kernel) ⟨Nat.le_of_ble_eq_true rfl, Nat.le_of_ble_eq_true rfl⟩) (xq_preS hK hP hD hN) rfl rfl hl.1 rfl (lv_room (Nat.le_of_ble_eq_true rfl)) dX6_isKnown_79 ⟨Nat.le_refl _, Nat.le_refl _⟩) hD hS hA (fun rr_34 uu H locs h hP hD hS => ?_)
              have hP : va_P (dC, dI) vwCl (wm_u cyI cyJ ab n_fault n_things n_kindOf n_digitOf n_follows n_ifOf n_thenOf n_listOf n_breathOf n_heardOf n_readAt n_readThings n_readFollows n_readKind n_readDigit n_readIf n_readThen n_readings n_readingIn n_readingHour n_readingOf n_breathWas n_sheetSize n_sheetLane n_sheet n_hands n_traceNow) H := hP
              have hD : va_D A (wm_u cyI cyJ ab n_fault n_things n_kindOf n_digitOf n_follows n_ifOf n_thenOf n_listOf n_breathOf n_heardOf n_readAt n_readThings n_readFollows n_readKind n_readDigit n_readIf n_readThen n_readings n_readingIn n_readingHour n_readingOf n_breathWas n_sheetSize n_sheetLane n_sheet n_hands n_traceNow) := hD
              refine lv_iload_n hx hb dX6_isKnown_82 rfl (lv_at hl 2 rfl) ?_
              refine lv_iload_n hx hb dX6_isKnown_83 rfl (lv_at hl 4 rfl) ?_
              refine xq_ci (va_runS (As := [.int a_1, .int a_3]) (rest := [.int rr_34]) ⟨hx, hb, hml, hown, hts⟩ (m_X6_isIn l dC dI cyI cyJ (wm_u cyI cyJ ab n_fault n_things n_kindOf n_digitOf n_follows n_ifOf n_thenOf n_listOf n_breathOf n_heardOf n_readAt n_readThings n_readFollows n_readKind n_readDigit n_readIf n_readThen n_readings n_readingIn n_readingHour n_readingOf n_breathWas n_sheetSize n_sheetLane n_sheet n_hands n_traceNow) H.size h) (va_cwS 2 hts gX6_isKnown_X6_isIn rfl rfl rfl (by decide +kernel) ⟨Nat.le_of_ble_eq_true rfl, Nat.le_of_ble_eq_true rfl⟩) (xq_preS hK hP hD hN) rfl rfl hl.1 rfl (lv_room (Nat.le_of_ble_eq_true rfl)) dX6_isKnown_84 ⟨Nat.le_refl _, Nat.le_refl _⟩) hD hS hA (fun rr_35 uu H locs h hP hD hS => ?_)
              have hP : va_P (dC, dI) vwCl (wm_u cyI cyJ ab n_fault n_things n_kindOf n_digitOf n_follows n_ifOf n_thenOf n_listOf n_breathOf n_heardOf n_readAt n_readThings n_readFollows n_readKind n_readDigit n_readIf n_readThen n_readings n_readingIn n_readingHour n_readingOf n_breathWas n_sheetSize n_sheetLane n_sheet n_hands n_traceNow) H := hP
              have hD : va_D A (wm_u cyI cyJ ab n_fault n_things n_kindOf n_digitOf n_follows n_ifOf n_thenOf n_listOf n_breathOf n_heardOf n_readAt n_readThings n_readFollows n_readKind n_readDigit n_readIf n_readThen n_readings n_readingIn n_readingHour n_readingOf n_breathWas n_sheetSize n_sheetLane n_sheet n_hands n_traceNow) := hD
              refine lv_icmp_ne (tgt := 94) hx hb dX6_isKnown_87 (by decide) (fun hc_36 => ?_) (fun hc_36 => ?_)
              · have h := h.1 hc_36
                refine lv_iconst (v := (0 : Int32)) hx hb dX6_isKnown_94 (by decide) ?_
                refine lv_istore (lv' := [(7, .int (0 : Int32)), (9, .int jj_27), (0, .ref (ab 0)), (1, .int a_1), (2, .int a_2), (3, .int a_3), (4, .int a_4), (5, .int a_5), (6, .int rr_1), (8, .int aa_22)]) hx hb dX6_isKnown_95 hl (by decide) rfl (fun ls hl => ?_)
                refine lv_iinc (v := (aa_22 + (1 : Int32))) (lv' := [(8, .int (aa_22 + (1 : Int32))), (7, .int (0 : Int32)), (9, .int jj_27), (0, .ref (ab 0)), (1, .int a_1), (2, .int a_2), (3, .int a_3), (4, .int a_4), (5, .int a_5), (6, .int rr_1)]) hx hb dX6_isKnown_97 hl (k := 9) rfl rfl (by decide) rfl (fun ls hl => ?_)
                refine lv_goto (tgt := 17) hx hb dX6_isKnown_100 (by decide) ?_
                exact ih (0 : Int32) (aa_22 + (1 : Int32)) _ _ _ hP hD hS (lv_sub hl [3, 4, 5, 6, 7, 8, 9, 1, 0] rfl) h
              · have h := h.2 hc_36
                refine lv_iconst (v := (1 : Int32)) hx hb dX6_isKnown_90 (by decide) ?_
                refine lv_goto (tgt := 95) hx hb dX6_isKnown_91 (by decide) ?_
                refine lv_istore (lv' := [(7, .int (1 : Int32)), (9, .int jj_27), (0, .ref (ab 0)), (1, .int a_1), (2, .int a_2), (3, .int a_3), (4, .int a_4), (5, .int a_5), (6, .int rr_1), (8, .int aa_22)]) hx hb dX6_isKnown_95 hl (by decide) rfl (fun ls hl => ?_)
                refine lv_iinc (v := (aa_22 + (1 : Int32))) (lv' := [(8, .int (aa_22 + (1 : Int32))), (7, .int (1 : Int32)), (9, .int jj_27), (0, .ref (ab 0)), (1, .int a_1), (2, .int a_2), (3, .int a_3), (4, .int a_4), (5, .int a_5), (6, .int rr_1)]) hx hb dX6_isKnown_97 hl (k := 9) rfl rfl (by decide) rfl (fun ls hl => ?_)
                refine lv_goto (tgt := 17) hx hb dX6_isKnown_100 (by decide) ?_
                exact ih (1 : Int32) (aa_22 + (1 : Int32)) _ _ _ hP hD hS (lv_sub hl [3, 4, 5, 6, 7, 8, 9, 1, 0] rfl) h
          · refine lv_if_eq (tgt := 68) hx hb dX6_isKnown_37 (by decide) (fun hc_33 => ?_) (fun hc_33 => ?_)
            · have h := h.1 hc_33
              refine lv_iconst (v := (0 : Int32)) hx hb dX6_isKnown_68 (by decide) ?_
              exact kj_28 (0 : Int32) h _ _ _ hP hD hS (lv_sub hl [0, 1, 2, 3, 4, 5, 6, 8] rfl)
            · have h := h.2 hc_33
              refine lv_iload_n hx hb dX6_isKnown_40 rfl (lv_at hl 1 rfl) ?_
              refine lv_iload hx hb dX6_isKnown_41 (lv_at hl 8 rfl) ?_
              refine lv_ixor hx hb dX6_isKnown_43 ?_
              refine lv_iload_n hx hb dX6_isKnown_44 rfl (lv_at hl 2 rfl) ?_
              refine lv_iand hx hb dX6_isKnown_45 ?_
              refine lv_if_ne (tgt := 68) hx hb dX6_isKnown_46 (by decide) (fun hc_32 => ?_) (fun hc_32 => ?_)
              · have h := h.1 hc_32
                refine lv_iconst (v := (0 : Int32)) hx hb dX6_isKnown_68 (by decide) ?_
                exact kj_28 (0 : Int32) h _ _ _ hP hD hS (lv_sub hl [0, 1, 2, 3, 4, 5, 6, 8] rfl)
              · have h := h.2 hc_32
                refine lv_aload_n hx hb dX6_isKnown_49 rfl (lv_at hl 0 rfl) ?_
                refine lv_iload hx hb dX6_isKnown_50 (lv_at hl 8 rfl) ?_
                refine lv_iload hx hb dX6_isKnown_52 (lv_at hl 4 rfl) ?_
                refine lv_iload hx hb dX6_isKnown_54 (lv_at hl 5 rfl) ?_
                refine xq_ci (va_runV (As := [.int aa_22, .int a_4, .int a_5]) (rest := []) ⟨hx, hb, hml, hown, hts⟩ (m_X6_namedBy l dC dI cyI cyJ ab H.size h) (cwV 3 hts gX6_isKnown_X6_namedBy rfl rfl rfl (by decide +kernel) ⟨Nat.le_of_ble_eq_true rfl, Nat.le_of_ble_eq_true rfl⟩) (xq_preV hK hP hD hN (ci := 6) (q0 := 0) rfl rfl) rfl rfl hl.1 rfl (lv_room (Nat.le_of_ble_eq_true rfl)) dX6_isKnown_56 ⟨Nat.le_refl _, Nat.le_refl _⟩) hD hS hA (fun rr_29 uu H locs h hP hD hS => ?_)
                have hP : va_P (dC, dI) vwCl (wm_u cyI cyJ ab n_fault n_things n_kindOf n_digitOf n_follows n_ifOf n_thenOf n_listOf n_breathOf n_heardOf n_readAt n_readThings n_readFollows n_readKind n_readDigit n_readIf n_readThen n_readings n_readingIn n_readingHour n_readingOf n_breathWas n_sheetSize n_sheetLane n_sheet n_hands n_traceNow) H := hP
                have hD : va_D A (wm_u cyI cyJ ab n_fault n_things n_kindOf n_digitOf n_follows n_ifOf n_thenOf n_listOf n_breathOf n_heardOf n_readAt n_readThings n_readFollows n_readKind n_readDigit n_readIf n_readThen n_readings n_readingIn n_readingHour n_readingOf n_breathWas n_sheetSize n_sheetLane n_sheet n_hands n_traceNow) := hD
                refine lv_iload hx hb dX6_isKnown_59 (lv_at hl 6 rfl) ?_
                refine lv_icmp_ne (tgt := 68) hx hb dX6_isKnown_61 (by decide) (fun hc_30 => ?_) (fun hc_30 => ?_)
                · have h := h.1 hc_30
                  refine lv_iconst (v := (0 : Int32)) hx hb dX6_isKnown_68 (by decide) ?_
                  exact kj_28 (0 : Int32) h _ _ _ hP hD hS (lv_sub hl [0, 1, 2, 3, 4, 5, 6, 8] rfl)
                · have h := h.2 hc_30
                  refine lv_iconst (v := (1 : Int32)) hx hb dX6_isKnown_64 (by decide) ?_
                  refine lv_goto (tgt := 69) hx hb dX6_isKnown_65 (by decide) ?_
                  exact kj_28 (1 : Int32) h _ _ _ hP hD hS (lv_sub hl [0, 1, 2, 3, 4, 5, 6, 8] rfl)
  refine lp_17 _ (fun xx_23 H locs ls hP hD hS hl h => ?_) ni (1 : Int32) (0 : Int32) _ _ _ hP hD hS (lv_sub hl [3, 4, 5, 6, 7, 8, 2, 1, 0] rfl) h
  refine lv_iload hx hb dX6_isKnown_103 (lv_at hl 0 rfl) ?_
  obtain ⟨hv_24, h⟩ := h
  exact xq_rz hQ hx hb hr hv_24 hP hK hD hS () rfl h dX6_isKnown_105 hlocks
def w_X6_isAlwaysKnown_L6 (a_1 : Int32) (a_2 : Int32) (a_3 : Int32) (n_things : Int32) (n_kindOf : Nat → Int32) (n_follows : Int32) (n_ifOf : Nat → Int32) (n_thenOf : Nat → Int32) (post : Int32 → Prop) (kk : Int32 → Prop) : Nat → Int32 → Int32 → Prop
  | 0, _, _ => False
  | f_6 + 1, a_4, a_5 => w_X6_all n_things (fun (rr_1 : Int32) => (rr_1 < a_5 → (kk a_4)) ∧ (¬ rr_1 < a_5 → ((a_4 = 0 → (kk a_4)) ∧ (¬ a_4 = 0 → (w_X6_isCase n_things n_follows n_ifOf n_thenOf a_5 (fun (rr_2 : Int32) => (rr_2 = 0 → (w_X6_isAlwaysKnown_L6 a_1 a_2 a_3 n_things n_kindOf n_follows n_ifOf n_thenOf post kk f_6 (1 : Int32) (a_5 + (1 : Int32)))) ∧ (¬ rr_2 = 0 → (w_X6_isKnown n_things n_kindOf n_follows n_ifOf n_thenOf a_5 (0 : Int32) a_1 a_2 a_3 (fun (rr_3 : Int32) => (rr_3 = 0 → (w_X6_isAlwaysKnown_L6 a_1 a_2 a_3 n_things n_kindOf n_follows n_ifOf n_thenOf post kk f_6 (0 : Int32) (a_5 + (1 : Int32)))) ∧ (¬ rr_3 = 0 → (w_X6_isAlwaysKnown_L6 a_1 a_2 a_3 n_things n_kindOf n_follows n_ifOf n_thenOf post kk f_6 (1 : Int32) (a_5 + (1 : Int32)))))))))))))
def w_X6_isAlwaysKnown (n_things : Int32) (n_kindOf : Nat → Int32) (n_follows : Int32) (n_ifOf : Nat → Int32) (n_thenOf : Nat → Int32) (a_1 : Int32) (a_2 : Int32) (a_3 : Int32) (post : Int32 → Prop) : Prop := ∃ e_6, w_X6_isAlwaysKnown_L6 a_1 a_2 a_3 n_things n_kindOf n_follows n_ifOf n_thenOf post (fun (xx_13 : Int32) => xq_z xx_13 ∧ post xx_13) e_6 (1 : Int32) (0 : Int32)
set_option maxHeartbeats 4000000 in
set_option maxRecDepth 100000 in
theorem m_X6_isAlwaysKnown (l : Launch) (dC : Nat → ClassId) (dI : Nat → Nat → Nat) (cyI cyJ : ClassId) (ab : Nat → Nat) (sz : Nat) {n_fault : Int32} {n_things : Int32} {n_kindOf : Nat → Int32} {n_digitOf : Nat → Int32} {n_follows : Int32} {n_ifOf : Nat → Int32} {n_thenOf : Nat → Int32} {n_listOf : Nat → Int32} {n_breathOf : Nat → Int32} {n_heardOf : Nat → Int32} {n_readAt : Int32} {n_readThings : Int32} {n_readFollows : Int32} {n_readKind : Nat → Int32} {n_readDigit : Nat → Int32} {n_readIf : Nat → Int32} {n_readThen : Nat → Int32} {n_readings : Int32} {n_readingIn : Nat → Int32} {n_readingHour : Nat → Int32} {n_readingOf : Nat → Int32} {n_breathWas : Nat → Int32} {n_sheetSize : Nat → Int32} {n_sheetLane : Nat → Int32} {n_sheet : Nat → Int32} {n_hands : Nat → Int32} {n_traceNow : Int32} {a_1 : Int32} {a_2 : Int32} {a_3 : Int32} {post : Int32 → Prop} (h : w_X6_isAlwaysKnown n_things n_kindOf n_follows n_ifOf n_thenOf a_1 a_2 a_3 post) : Met l yX6_isAlwaysKnown wsX6_isAlwaysKnown (xq_R 4 98) (va_Pc [.ref (ab 0), .int a_1, .int a_2, .int a_3] (xq_P (dC, dI) [(cyI, .int), (cyJ, .long)] (wm_u cyI cyJ ab n_fault n_things n_kindOf n_digitOf n_follows n_ifOf n_thenOf n_listOf n_breathOf n_heardOf n_readAt n_readThings n_readFollows n_readKind n_readDigit n_readIf n_readThen n_readings n_readingIn n_readingHour n_readingOf n_breathWas n_sheetSize n_sheetLane n_sheet n_hands n_traceNow) sz)) (va_Qi (fun (rr : Int32) (uu : Unit) => post rr ) (fun (uu : Unit) => xq_B (dC, dI) [(cyI, .int), (cyJ, .long)] (va_A (wm_u cyI cyJ ab n_fault n_things n_kindOf n_digitOf n_follows n_ifOf n_thenOf n_listOf n_breathOf n_heardOf n_readAt n_readThings n_readFollows n_readKind n_readDigit n_readIf n_readThen n_readings n_readingIn n_readingHour n_readingOf n_breathWas n_sheetSize n_sheetLane n_sheet n_hands n_traceNow) sz) (wm_u cyI cyJ ab n_fault n_things n_kindOf n_digitOf n_follows n_ifOf n_thenOf n_listOf n_breathOf n_heardOf n_readAt n_readThings n_readFollows n_readKind n_readDigit n_readIf n_readThen n_readings n_readingIn n_readingHour n_readingOf n_breathWas n_sheetSize n_sheetLane n_sheet n_hands n_traceNow)) (va_A (wm_u cyI cyJ ab n_fault n_things n_kindOf n_digitOf n_follows n_ifOf n_thenOf n_listOf n_breathOf n_heardOf n_readAt n_readThings n_readFollows n_readKind n_readDigit n_readIf n_readThen n_readings n_readingIn n_readingHour n_readingOf n_breathWas n_sheetSize n_sheetLane n_sheet n_hands n_traceNow) sz)) 0 0 (va_A (wm_u cyI cyJ ab n_fault n_things n_kindOf n_digitOf n_follows n_ifOf n_thenOf n_listOf n_breathOf n_heardOf n_readAt n_readThings n_readFollows n_readKind n_readDigit n_readIf n_readThen n_readings n_readingIn n_readingHour n_readingOf n_breathWas n_sheetSize n_sheetLane n_sheet n_hands n_traceNow) sz) := by
  refine xq_M (cc := cX6_isAlwaysKnown) (maxL := 6) (ret := (some .boolean)) (QA := fun A => va_Qi (fun (rr : Int32) (uu : Unit) => post rr ) (fun (uu : Unit) => xq_B (dC, dI) [(cyI, .int), (cyJ, .long)] A (wm_u cyI cyJ ab n_fault n_things n_kindOf n_digitOf n_follows n_ifOf n_thenOf n_listOf n_breathOf n_heardOf n_readAt n_readThings n_readFollows n_readKind n_readDigit n_readIf n_readThen n_readings n_readingIn n_readingHour n_readingOf n_breathWas n_sheetSize n_sheetLane n_sheet n_hands n_traceNow)) A) (by decide) rfl (Nat.le_of_ble_eq_true rfl) ?_
  intro p e s m args below meth c A ls Q hQ hx hb hr hml hts hown hlocks hsz hP hK hD hA hS hN hl
  subst hsz
  have hl : lv_has ls 6 [(0, .ref (ab 0)), (1, .int a_1), (2, .int a_2), (3, .int a_3)] := hl
  unfold w_X6_isAlwaysKnown at h
  refine lv_iconst (v := (1 : Int32)) hx hb dX6_isAlwaysKnown_0 (by decide) ?_
  refine lv_istore (lv' := [(4, .int (1 : Int32)), (0, .ref (ab 0)), (1, .int a_1), (2, .int a_2), (3, .int a_3)]) hx hb dX6_isAlwaysKnown_1 hl (by decide) rfl (fun ls hl => ?_)
  refine lv_iconst (v := (0 : Int32)) hx hb dX6_isAlwaysKnown_3 (by decide) ?_
  refine lv_istore (lv' := [(5, .int (0 : Int32)), (4, .int (1 : Int32)), (0, .ref (ab 0)), (1, .int a_1), (2, .int a_2), (3, .int a_3)]) hx hb dX6_isAlwaysKnown_4 hl (by decide) rfl (fun ls hl => ?_)
  obtain ⟨ni, h⟩ := h
  have lp_6 : ∀ (kk : Int32 → Prop), (∀ (xx_13 : Int32) (H : Heap) (locs : List Loc) (ls : Array Slot), va_P (dC, dI) vwCl (wm_u cyI cyJ ab n_fault n_things n_kindOf n_digitOf n_follows n_ifOf n_thenOf n_listOf n_breathOf n_heardOf n_readAt n_readThings n_readFollows n_readKind n_readDigit n_readIf n_readThen n_readings n_readingIn n_readingHour n_readingOf n_breathWas n_sheetSize n_sheetLane n_sheet n_hands n_traceNow) H → va_D A (wm_u cyI cyJ ab n_fault n_things n_kindOf n_digitOf n_follows n_ifOf n_thenOf n_listOf n_breathOf n_heardOf n_readAt n_readThings n_readFollows n_readKind n_readDigit n_readIf n_readThen n_readings n_readingIn n_readingHour n_readingOf n_breathWas n_sheetSize n_sheetLane n_sheet n_hands n_traceNow) → va_S A s.heap H locs → lv_has ls 6 [(4, .int xx_13)] → kk xx_13 → W p l e (xq_R 4 98) s m args below meth c H locs 0 0 Q (F0 m 55 ls [])) → ∀ (ni : Nat) (aa_11 : Int32) (aa_12 : Int32) (H : Heap) (locs : List Loc) (ls : Array Slot), va_P (dC, dI) vwCl (wm_u cyI cyJ ab n_fault n_things n_kindOf n_digitOf n_follows n_ifOf n_thenOf n_listOf n_breathOf n_heardOf n_readAt n_readThings n_readFollows n_readKind n_readDigit n_readIf n_readThen n_readings n_readingIn n_readingHour n_readingOf n_breathWas n_sheetSize n_sheetLane n_sheet n_hands n_traceNow) H → va_D A (wm_u cyI cyJ ab n_fault n_things n_kindOf n_digitOf n_follows n_ifOf n_thenOf n_listOf n_breathOf n_heardOf n_readAt n_readThings n_readFollows n_readKind n_readDigit n_readIf n_readThen n_readings n_readingIn n_readingHour n_readingOf n_breathWas n_sheetSize n_sheetLane n_sheet n_hands n_traceNow) → va_S A s.heap H locs → lv_has ls 6 [(0, .ref (ab 0)), (1, .int a_1), (2, .int a_2), (3, .int a_3), (4, .int aa_11), (5, .int aa_12)] → w_X6_isAlwaysKnown_L6 a_1 a_2 a_3 n_things n_kindOf n_follows n_ifOf n_thenOf post kk ni aa_11 aa_12 → W p l e (xq_R 4 98) s m args below meth c H locs 0 0 Q (F0 m 6 ls []) := by
    intro kk kx ni
    induction ni with
    | zero => intros; exact False.elim (by assumption)
    | succ ni ih =>
      intro aa_11 aa_12 H locs ls hP hD hS hl h
      rw [w_X6_isAlwaysKnown_L6] at h
      refine lv_iload hx hb dX6_isAlwaysKnown_6 (lv_at hl 5 rfl) ?_
      refine lv_aload_n hx hb dX6_isAlwaysKnown_8 rfl (lv_at hl 0 rfl) ?_
      refine xq_ci (va_runV (As := []) (rest := [.int aa_12]) ⟨hx, hb, hml, hown, hts⟩ (m_X6_all l dC dI cyI cyJ ab H.size h) (cwV 0 hts gX6_isAlwaysKnown_X6_all rfl rfl rfl (by decide +kernel) ⟨Nat.le_of_ble_eq_true rfl, Nat.le_of_ble_eq_true rfl⟩) (xq_preV hK hP hD hN (ci := 6) (q0 := 0) rfl rfl) rfl rfl hl.1 rfl (lv_room (Nat.le_of_ble_eq_true rfl)) dX6_isAlwaysKnown_9 ⟨Nat.le_refl _, Nat.le_refl _⟩) hD hS hA (fun rr_15 uu H locs h hP hD hS => ?_)
      have hP : va_P (dC, dI) vwCl (wm_u cyI cyJ ab n_fault n_things n_kindOf n_digitOf n_follows n_ifOf n_thenOf n_listOf n_breathOf n_heardOf n_readAt n_readThings n_readFollows n_readKind n_readDigit n_readIf n_readThen n_readings n_readingIn n_readingHour n_readingOf n_breathWas n_sheetSize n_sheetLane n_sheet n_hands n_traceNow) H := hP
      have hD : va_D A (wm_u cyI cyJ ab n_fault n_things n_kindOf n_digitOf n_follows n_ifOf n_thenOf n_listOf n_breathOf n_heardOf n_readAt n_readThings n_readFollows n_readKind n_readDigit n_readIf n_readThen n_readings n_readingIn n_readingHour n_readingOf n_breathWas n_sheetSize n_sheetLane n_sheet n_hands n_traceNow) := hD
      refine lv_icmp_gt (tgt := 55) hx hb dX6_isAlwaysKnown_12 (by decide) (fun hc_23 => ?_) (fun hc_23 => ?_)
      · have h := h.1 hc_23
        exact kx aa_11 _ _ _ hP hD hS (lv_sub hl [4] rfl) h
      · have h := h.2 hc_23
        refine lv_iload hx hb dX6_isAlwaysKnown_15 (lv_at hl 4 rfl) ?_
        refine lv_if_eq (tgt := 55) hx hb dX6_isAlwaysKnown_17 (by decide) (fun hc_22 => ?_) (fun hc_22 => ?_)
        · have h := h.1 hc_22
          exact kx aa_11 _ _ _ hP hD hS (lv_sub hl [4] rfl) h
        · have h := h.2 hc_22
          refine lv_aload_n hx hb dX6_isAlwaysKnown_20 rfl (lv_at hl 0 rfl) ?_
          refine lv_iload hx hb dX6_isAlwaysKnown_21 (lv_at hl 5 rfl) ?_
          refine xq_ci (va_runV (As := [.int aa_12]) (rest := []) ⟨hx, hb, hml, hown, hts⟩ (m_X6_isCase l dC dI cyI cyJ ab H.size h) (cwV 1 hts gX6_isAlwaysKnown_X6_isCase rfl rfl rfl (by decide +kernel) ⟨Nat.le_of_ble_eq_true rfl, Nat.le_of_ble_eq_true rfl⟩) (xq_preV hK hP hD hN (ci := 6) (q0 := 0) rfl rfl) rfl rfl hl.1 rfl (lv_room (Nat.le_of_ble_eq_true rfl)) dX6_isAlwaysKnown_23 ⟨Nat.le_refl _, Nat.le_refl _⟩) hD hS hA (fun rr_16 uu H locs h hP hD hS => ?_)
          have hP : va_P (dC, dI) vwCl (wm_u cyI cyJ ab n_fault n_things n_kindOf n_digitOf n_follows n_ifOf n_thenOf n_listOf n_breathOf n_heardOf n_readAt n_readThings n_readFollows n_readKind n_readDigit n_readIf n_readThen n_readings n_readingIn n_readingHour n_readingOf n_breathWas n_sheetSize n_sheetLane n_sheet n_hands n_traceNow) H := hP
          have hD : va_D A (wm_u cyI cyJ ab n_fault n_things n_kindOf n_digitOf n_follows n_ifOf n_thenOf n_listOf n_breathOf n_heardOf n_readAt n_readThings n_readFollows n_readKind n_readDigit n_readIf n_readThen n_readings n_readingIn n_readingHour n_readingOf n_breathWas n_sheetSize n_sheetLane n_sheet n_hands n_traceNow) := hD
          refine lv_if_eq (tgt := 42) hx hb dX6_isAlwaysKnown_26 (by decide) (fun hc_20 => ?_) (fun hc_20 => ?_)
          · have h := h.1 hc_20
            refine lv_iconst (v := (1 : Int32)) hx hb dX6_isAlwaysKnown_42 (by decide) ?_
            refine lv_goto (tgt := 47) hx hb dX6_isAlwaysKnown_43 (by decide) ?_
            refine lv_istore (lv' := [(4, .int (1 : Int32)), (0, .ref (ab 0)), (1, .int a_1), (2, .int a_2), (3, .int a_3), (5, .int aa_12)]) hx hb dX6_isAlwaysKnown_47 hl (by decide) rfl (fun ls hl => ?_)
            refine lv_iinc (v := (aa_12 + (1 : Int32))) (lv' := [(5, .int (aa_12 + (1 : Int32))), (4, .int (1 : Int32)), (0, .ref (ab 0)), (1, .int a_1), (2, .int a_2), (3, .int a_3)]) hx hb dX6_isAlwaysKnown_49 hl (k := 5) rfl rfl (by decide) rfl (fun ls hl => ?_)
            refine lv_goto (tgt := 6) hx hb dX6_isAlwaysKnown_52 (by decide) ?_
            exact ih (1 : Int32) (aa_12 + (1 : Int32)) _ _ _ hP hD hS (lv_sub hl [2, 3, 4, 5, 1, 0] rfl) h
          · have h := h.2 hc_20
            refine lv_aload_n hx hb dX6_isAlwaysKnown_29 rfl (lv_at hl 0 rfl) ?_
            refine lv_iload hx hb dX6_isAlwaysKnown_30 (lv_at hl 5 rfl) ?_
            refine lv_iconst (v := (0 : Int32)) hx hb dX6_isAlwaysKnown_32 (by decide) ?_
            refine lv_iload_n hx hb dX6_isAlwaysKnown_33 rfl (lv_at hl 1 rfl) ?_
            refine lv_iload_n hx hb dX6_isAlwaysKnown_34 rfl (lv_at hl 2 rfl) ?_
            refine lv_iload_n hx hb dX6_isAlwaysKnown_35 rfl (lv_at hl 3 rfl) ?_
            refine xq_ci (va_runV (As := [.int aa_12, .int (0 : Int32), .int a_1, .int a_2, .int a_3]) (rest := []) ⟨hx, hb, hml, hown, hts⟩ (m_X6_isKnown l dC dI cyI cyJ ab H.size h) (cwV 5 hts gX6_isAlwaysKnown_X6_isKnown rfl rfl rfl (by decide +kernel) ⟨Nat.le_of_ble_eq_true rfl, Nat.le_of_ble_eq_true rfl⟩) (xq_preV hK hP hD hN (ci := 6) (q0 := 0) rfl rfl) rfl rfl hl.1 rfl (lv_room (Nat.le_of_ble_eq_true rfl)) dX6_isAlwaysKnown_36 ⟨Nat.le_refl _, Nat.le_refl _⟩) hD hS hA (fun rr_17 uu H locs h hP hD hS => ?_)
            have hP : va_P (dC, dI) vwCl (wm_u cyI cyJ ab n_fault n_things n_kindOf n_digitOf n_follows n_ifOf n_thenOf n_listOf n_breathOf n_heardOf n_readAt n_readThings n_readFollows n_readKind n_readDigit n_readIf n_readThen n_readings n_readingIn n_readingHour n_readingOf n_breathWas n_sheetSize n_sheetLane n_sheet n_hands n_traceNow) H := hP
            have hD : va_D A (wm_u cyI cyJ ab n_fault n_things n_kindOf n_digitOf n_follows n_ifOf n_thenOf n_listOf n_breathOf n_heardOf n_readAt n_readThings n_readFollows n_readKind n_readDigit n_readIf n_readThen n_readings n_readingIn n_readingHour n_readingOf n_breathWas n_sheetSize n_sheetLane n_sheet n_hands n_traceNow) := hD
            refine lv_if_eq (tgt := 46) hx hb dX6_isAlwaysKnown_39 (by decide) (fun hc_18 => ?_) (fun hc_18 => ?_)
            · have h := h.1 hc_18
              refine lv_iconst (v := (0 : Int32)) hx hb dX6_isAlwaysKnown_46 (by decide) ?_
              refine lv_istore (lv' := [(4, .int (0 : Int32)), (0, .ref (ab 0)), (1, .int a_1), (2, .int a_2), (3, .int a_3), (5, .int aa_12)]) hx hb dX6_isAlwaysKnown_47 hl (by decide) rfl (fun ls hl => ?_)
              refine lv_iinc (v := (aa_12 + (1 : Int32))) (lv' := [(5, .int (aa_12 + (1 : Int32))), (4, .int (0 : Int32)), (0, .ref (ab 0)), (1, .int a_1), (2, .int a_2), (3, .int a_3)]) hx hb dX6_isAlwaysKnown_49 hl (k := 5) rfl rfl (by decide) rfl (fun ls hl => ?_)
              refine lv_goto (tgt := 6) hx hb dX6_isAlwaysKnown_52 (by decide) ?_
              exact ih (0 : Int32) (aa_12 + (1 : Int32)) _ _ _ hP hD hS (lv_sub hl [2, 3, 4, 5, 1, 0] rfl) h
            · have h := h.2 hc_18
              refine lv_iconst (v := (1 : Int32)) hx hb dX6_isAlwaysKnown_42 (by decide) ?_
              refine lv_goto (tgt := 47) hx hb dX6_isAlwaysKnown_43 (by decide) ?_
              refine lv_istore (lv' := [(4, .int (1 : Int32)), (0, .ref (ab 0)), (1, .int a_1), (2, .int a_2), (3, .int a_3), (5, .int aa_12)]) hx hb dX6_isAlwaysKnown_47 hl (by decide) rfl (fun ls hl => ?_)
              refine lv_iinc (v := (aa_12 + (1 : Int32))) (lv' := [(5, .int (aa_12 + (1 : Int32))), (4, .int (1 : Int32)), (0, .ref (ab 0)), (1, .int a_1), (2, .int a_2), (3, .int a_3)]) hx hb dX6_isAlwaysKnown_49 hl (k := 5) rfl rfl (by decide) rfl (fun ls hl => ?_)
              refine lv_goto (tgt := 6) hx hb dX6_isAlwaysKnown_52 (by decide) ?_
              exact ih (1 : Int32) (aa_12 + (1 : Int32)) _ _ _ hP hD hS (lv_sub hl [2, 3, 4, 5, 1, 0] rfl) h
  refine lp_6 _ (fun xx_13 H locs ls hP hD hS hl h => ?_) ni (1 : Int32) (0 : Int32) _ _ _ hP hD hS (lv_sub hl [2, 3, 4, 5, 1, 0] rfl) h
  refine lv_iload hx hb dX6_isAlwaysKnown_55 (lv_at hl 0 rfl) ?_
  obtain ⟨hv_14, h⟩ := h
  exact xq_rz hQ hx hb hr hv_14 hP hK hD hS () rfl h dX6_isAlwaysKnown_57 hlocks
def w_X6_isRule_L5 (a_1 : Int32) (a_2 : Int32) (n_things : Int32) (n_kindOf : Nat → Int32) (n_breathOf : Nat → Int32) (n_readings : Int32) (n_readingIn : Nat → Int32) (n_readingHour : Nat → Int32) (n_readingOf : Nat → Int32) (post : Int32 → Prop) (kk : Int32 → Prop) : Nat → Int32 → Int32 → Prop
  | 0, _, _ => False
  | f_5 + 1, a_3, a_4 => (n_readings ≤ a_4 → (kk a_3)) ∧ (¬ n_readings ≤ a_4 → ((a_3 = 0 → (w_X6_isRule_L5 a_1 a_2 n_things n_kindOf n_breathOf n_readings n_readingIn n_readingHour n_readingOf post kk f_5 (0 : Int32) (a_4 + (1 : Int32)))) ∧ (¬ a_3 = 0 → ((vp_in a_4 8) ∧ ((¬ (n_readingHour a_4.toNatClampNeg) = a_2 → (w_X6_isRule_L5 a_1 a_2 n_things n_kindOf n_breathOf n_readings n_readingIn n_readingHour n_readingOf post kk f_5 (1 : Int32) (a_4 + (1 : Int32)))) ∧ ((n_readingHour a_4.toNatClampNeg) = a_2 → ((vp_in a_4 8) ∧ ((vp_in a_2 6) ∧ (w_X6_namedBy n_things n_kindOf (n_readingIn a_4.toNatClampNeg) a_1 (n_breathOf a_2.toNatClampNeg) (fun (rr_4 : Int32) => (vp_in a_4 8) ∧ ((¬ rr_4 = (n_readingOf a_4.toNatClampNeg) → (w_X6_isRule_L5 a_1 a_2 n_things n_kindOf n_breathOf n_readings n_readingIn n_readingHour n_readingOf post kk f_5 (0 : Int32) (a_4 + (1 : Int32)))) ∧ (rr_4 = (n_readingOf a_4.toNatClampNeg) → (w_X6_isRule_L5 a_1 a_2 n_things n_kindOf n_breathOf n_readings n_readingIn n_readingHour n_readingOf post kk f_5 (1 : Int32) (a_4 + (1 : Int32)))))))))))))))
def w_X6_isRule (n_things : Int32) (n_kindOf : Nat → Int32) (n_breathOf : Nat → Int32) (n_readings : Int32) (n_readingIn : Nat → Int32) (n_readingHour : Nat → Int32) (n_readingOf : Nat → Int32) (a_1 : Int32) (a_2 : Int32) (post : Int32 → Prop) : Prop := ∃ e_5, w_X6_isRule_L5 a_1 a_2 n_things n_kindOf n_breathOf n_readings n_readingIn n_readingHour n_readingOf post (fun (xx_13 : Int32) => xq_z xx_13 ∧ post xx_13) e_5 (1 : Int32) (0 : Int32)
set_option maxHeartbeats 4000000 in
set_option maxRecDepth 100000 in
theorem m_X6_isRule (l : Launch) (dC : Nat → ClassId) (dI : Nat → Nat → Nat) (cyI cyJ : ClassId) (ab : Nat → Nat) (sz : Nat) {n_fault : Int32} {n_things : Int32} {n_kindOf : Nat → Int32} {n_digitOf : Nat → Int32} {n_follows : Int32} {n_ifOf : Nat → Int32} {n_thenOf : Nat → Int32} {n_listOf : Nat → Int32} {n_breathOf : Nat → Int32} {n_heardOf : Nat → Int32} {n_readAt : Int32} {n_readThings : Int32} {n_readFollows : Int32} {n_readKind : Nat → Int32} {n_readDigit : Nat → Int32} {n_readIf : Nat → Int32} {n_readThen : Nat → Int32} {n_readings : Int32} {n_readingIn : Nat → Int32} {n_readingHour : Nat → Int32} {n_readingOf : Nat → Int32} {n_breathWas : Nat → Int32} {n_sheetSize : Nat → Int32} {n_sheetLane : Nat → Int32} {n_sheet : Nat → Int32} {n_hands : Nat → Int32} {n_traceNow : Int32} {a_1 : Int32} {a_2 : Int32} {post : Int32 → Prop} (h : w_X6_isRule n_things n_kindOf n_breathOf n_readings n_readingIn n_readingHour n_readingOf a_1 a_2 post) : Met l yX6_isRule wsX6_isRule (xq_R 2 50) (va_Pc [.ref (ab 0), .int a_1, .int a_2] (xq_P (dC, dI) [(cyI, .int), (cyJ, .long)] (wm_u cyI cyJ ab n_fault n_things n_kindOf n_digitOf n_follows n_ifOf n_thenOf n_listOf n_breathOf n_heardOf n_readAt n_readThings n_readFollows n_readKind n_readDigit n_readIf n_readThen n_readings n_readingIn n_readingHour n_readingOf n_breathWas n_sheetSize n_sheetLane n_sheet n_hands n_traceNow) sz)) (va_Qi (fun (rr : Int32) (uu : Unit) => post rr ) (fun (uu : Unit) => xq_B (dC, dI) [(cyI, .int), (cyJ, .long)] (va_A (wm_u cyI cyJ ab n_fault n_things n_kindOf n_digitOf n_follows n_ifOf n_thenOf n_listOf n_breathOf n_heardOf n_readAt n_readThings n_readFollows n_readKind n_readDigit n_readIf n_readThen n_readings n_readingIn n_readingHour n_readingOf n_breathWas n_sheetSize n_sheetLane n_sheet n_hands n_traceNow) sz) (wm_u cyI cyJ ab n_fault n_things n_kindOf n_digitOf n_follows n_ifOf n_thenOf n_listOf n_breathOf n_heardOf n_readAt n_readThings n_readFollows n_readKind n_readDigit n_readIf n_readThen n_readings n_readingIn n_readingHour n_readingOf n_breathWas n_sheetSize n_sheetLane n_sheet n_hands n_traceNow)) (va_A (wm_u cyI cyJ ab n_fault n_things n_kindOf n_digitOf n_follows n_ifOf n_thenOf n_listOf n_breathOf n_heardOf n_readAt n_readThings n_readFollows n_readKind n_readDigit n_readIf n_readThen n_readings n_readingIn n_readingHour n_readingOf n_breathWas n_sheetSize n_sheetLane n_sheet n_hands n_traceNow) sz)) 0 0 (va_A (wm_u cyI cyJ ab n_fault n_things n_kindOf n_digitOf n_follows n_ifOf n_thenOf n_listOf n_breathOf n_heardOf n_readAt n_readThings n_readFollows n_readKind n_readDigit n_readIf n_readThen n_readings n_readingIn n_readingHour n_readingOf n_breathWas n_sheetSize n_sheetLane n_sheet n_hands n_traceNow) sz) := by
  refine xq_M (cc := cX6_isRule) (maxL := 5) (ret := (some .boolean)) (QA := fun A => va_Qi (fun (rr : Int32) (uu : Unit) => post rr ) (fun (uu : Unit) => xq_B (dC, dI) [(cyI, .int), (cyJ, .long)] A (wm_u cyI cyJ ab n_fault n_things n_kindOf n_digitOf n_follows n_ifOf n_thenOf n_listOf n_breathOf n_heardOf n_readAt n_readThings n_readFollows n_readKind n_readDigit n_readIf n_readThen n_readings n_readingIn n_readingHour n_readingOf n_breathWas n_sheetSize n_sheetLane n_sheet n_hands n_traceNow)) A) (by decide) rfl (Nat.le_of_ble_eq_true rfl) ?_
  intro p e s m args below meth c A ls Q hQ hx hb hr hml hts hown hlocks hsz hP hK hD hA hS hN hl
  subst hsz
  have hl : lv_has ls 5 [(0, .ref (ab 0)), (1, .int a_1), (2, .int a_2)] := hl
  have hi_X6 : ∀ w ∈ wsX60, w ∈ wsX6_isRule := fun _ h => List.mem_cons_of_mem _ (List.mem_append_right _ h)
  have fl_25 := hts (.fieldLink RX6 25 "UnsaidCallsModel" "breathOf" "[I") (by decide +kernel)
  have fl_43 := hts (.fieldLink RX6 43 "UnsaidCallsModel" "readingIn" "[I") (by decide +kernel)
  have fl_46 := hts (.fieldLink RX6 46 "UnsaidCallsModel" "readingHour" "[I") (by decide +kernel)
  have fl_49 := hts (.fieldLink RX6 49 "UnsaidCallsModel" "readingOf" "[I") (by decide +kernel)
  have fl_141 := hts (.fieldLink RX6 141 "UnsaidCallsModel" "readings" "I") (by decide +kernel)
  unfold w_X6_isRule at h
  refine lv_iconst (v := (1 : Int32)) hx hb dX6_isRule_0 (by decide) ?_
  refine lv_istore_n (lv' := [(3, .int (1 : Int32)), (0, .ref (ab 0)), (1, .int a_1), (2, .int a_2)]) hx hb dX6_isRule_1 rfl hl (by decide) rfl (fun ls hl => ?_)
  refine lv_iconst (v := (0 : Int32)) hx hb dX6_isRule_2 (by decide) ?_
  refine lv_istore (lv' := [(4, .int (0 : Int32)), (3, .int (1 : Int32)), (0, .ref (ab 0)), (1, .int a_1), (2, .int a_2)]) hx hb dX6_isRule_3 hl (by decide) rfl (fun ls hl => ?_)
  obtain ⟨ni, h⟩ := h
  have lp_5 : ∀ (kk : Int32 → Prop), (∀ (xx_13 : Int32) (H : Heap) (locs : List Loc) (ls : Array Slot), va_P (dC, dI) vwCl (wm_u cyI cyJ ab n_fault n_things n_kindOf n_digitOf n_follows n_ifOf n_thenOf n_listOf n_breathOf n_heardOf n_readAt n_readThings n_readFollows n_readKind n_readDigit n_readIf n_readThen n_readings n_readingIn n_readingHour n_readingOf n_breathWas n_sheetSize n_sheetLane n_sheet n_hands n_traceNow) H → va_D A (wm_u cyI cyJ ab n_fault n_things n_kindOf n_digitOf n_follows n_ifOf n_thenOf n_listOf n_breathOf n_heardOf n_readAt n_readThings n_readFollows n_readKind n_readDigit n_readIf n_readThen n_readings n_readingIn n_readingHour n_readingOf n_breathWas n_sheetSize n_sheetLane n_sheet n_hands n_traceNow) → va_S A s.heap H locs → lv_has ls 5 [(3, .int xx_13)] → kk xx_13 → W p l e (xq_R 2 50) s m args below meth c H locs 0 0 Q (F0 m 69 ls [])) → ∀ (ni : Nat) (aa_11 : Int32) (aa_12 : Int32) (H : Heap) (locs : List Loc) (ls : Array Slot), va_P (dC, dI) vwCl (wm_u cyI cyJ ab n_fault n_things n_kindOf n_digitOf n_follows n_ifOf n_thenOf n_listOf n_breathOf n_heardOf n_readAt n_readThings n_readFollows n_readKind n_readDigit n_readIf n_readThen n_readings n_readingIn n_readingHour n_readingOf n_breathWas n_sheetSize n_sheetLane n_sheet n_hands n_traceNow) H → va_D A (wm_u cyI cyJ ab n_fault n_things n_kindOf n_digitOf n_follows n_ifOf n_thenOf n_listOf n_breathOf n_heardOf n_readAt n_readThings n_readFollows n_readKind n_readDigit n_readIf n_readThen n_readings n_readingIn n_readingHour n_readingOf n_breathWas n_sheetSize n_sheetLane n_sheet n_hands n_traceNow) → va_S A s.heap H locs → lv_has ls 5 [(0, .ref (ab 0)), (1, .int a_1), (2, .int a_2), (3, .int aa_11), (4, .int aa_12)] → w_X6_isRule_L5 a_1 a_2 n_things n_kindOf n_breathOf n_readings n_readingIn n_readingHour n_readingOf post kk ni aa_11 aa_12 → W p l e (xq_R 2 50) s m args below meth c H locs 0 0 Q (F0 m 5 ls []) := by
    intro kk kx ni
    induction ni with
    | zero => intros; exact False.elim (by assumption)
    | succ ni ih =>
      intro aa_11 aa_12 H locs ls hP hD hS hl h
      rw [w_X6_isRule_L5] at h
      refine lv_iload hx hb dX6_isRule_5 (lv_at hl 4 rfl) ?_
      refine lv_aload_n hx hb dX6_isRule_7 rfl (lv_at hl 0 rfl) ?_
      refine va_get (D := (dC, dI)) (ci := 6) (v := .int n_readings) (C := RX6) (T := TX6) (N := 27) hx hb hts hi_X6 hown hK hP 0 rfl rfl 17 (by decide) fl_141 (fun _ h9 => h9) rfl dX6_isRule_8 ?_
      refine lv_icmp_ge (tgt := 69) hx hb dX6_isRule_11 (by decide) (fun hc_24 => ?_) (fun hc_24 => ?_)
      · have h := h.1 hc_24
        exact kx aa_11 _ _ _ hP hD hS (lv_sub hl [3] rfl) h
      · have h := h.2 hc_24
        refine lv_iload_n hx hb dX6_isRule_14 rfl (lv_at hl 3 rfl) ?_
        refine lv_if_eq (tgt := 61) hx hb dX6_isRule_15 (by decide) (fun hc_23 => ?_) (fun hc_23 => ?_)
        · have h := h.1 hc_23
          refine lv_iconst (v := (0 : Int32)) hx hb dX6_isRule_61 (by decide) ?_
          refine lv_istore_n (lv' := [(3, .int (0 : Int32)), (0, .ref (ab 0)), (1, .int a_1), (2, .int a_2), (4, .int aa_12)]) hx hb dX6_isRule_62 rfl hl (by decide) rfl (fun ls hl => ?_)
          refine lv_iinc (v := (aa_12 + (1 : Int32))) (lv' := [(4, .int (aa_12 + (1 : Int32))), (3, .int (0 : Int32)), (0, .ref (ab 0)), (1, .int a_1), (2, .int a_2)]) hx hb dX6_isRule_63 hl (k := 4) rfl rfl (by decide) rfl (fun ls hl => ?_)
          refine lv_goto (tgt := 5) hx hb dX6_isRule_66 (by decide) ?_
          exact ih (0 : Int32) (aa_12 + (1 : Int32)) _ _ _ hP hD hS (lv_sub hl [2, 3, 4, 1, 0] rfl) h
        · have h := h.2 hc_23
          refine lv_aload_n hx hb dX6_isRule_18 rfl (lv_at hl 0 rfl) ?_
          refine va_get (D := (dC, dI)) (ci := 6) (v := .ref (ab 13)) (C := RX6) (T := TX6) (N := 27) hx hb hts hi_X6 hown hK hP 0 rfl rfl 19 (by decide) fl_46 (fun _ h9 => h9) rfl dX6_isRule_19 ?_
          refine lv_iload hx hb dX6_isRule_22 (lv_at hl 4 rfl) ?_
          obtain ⟨hv_15, h⟩ := h
          refine va_iald hx hb hK hP 13 0 rfl rfl hv_15 dX6_isRule_24 ?_
          refine lv_iload_n hx hb dX6_isRule_25 rfl (lv_at hl 2 rfl) ?_
          refine lv_icmp_ne (tgt := 57) hx hb dX6_isRule_26 (by decide) (fun hc_22 => ?_) (fun hc_22 => ?_)
          · have h := h.1 hc_22
            refine lv_iconst (v := (1 : Int32)) hx hb dX6_isRule_57 (by decide) ?_
            refine lv_goto (tgt := 62) hx hb dX6_isRule_58 (by decide) ?_
            refine lv_istore_n (lv' := [(3, .int (1 : Int32)), (0, .ref (ab 0)), (1, .int a_1), (2, .int a_2), (4, .int aa_12)]) hx hb dX6_isRule_62 rfl hl (by decide) rfl (fun ls hl => ?_)
            refine lv_iinc (v := (aa_12 + (1 : Int32))) (lv' := [(4, .int (aa_12 + (1 : Int32))), (3, .int (1 : Int32)), (0, .ref (ab 0)), (1, .int a_1), (2, .int a_2)]) hx hb dX6_isRule_63 hl (k := 4) rfl rfl (by decide) rfl (fun ls hl => ?_)
            refine lv_goto (tgt := 5) hx hb dX6_isRule_66 (by decide) ?_
            exact ih (1 : Int32) (aa_12 + (1 : Int32)) _ _ _ hP hD hS (lv_sub hl [2, 3, 4, 1, 0] rfl) h
          · have h := h.2 hc_22
            refine lv_aload_n hx hb dX6_isRule_29 rfl (lv_at hl 0 rfl) ?_
            refine lv_aload_n hx hb dX6_isRule_30 rfl (lv_at hl 0 rfl) ?_
            refine va_get (D := (dC, dI)) (ci := 6) (v := .ref (ab 12)) (C := RX6) (T := TX6) (N := 27) hx hb hts hi_X6 hown hK hP 0 rfl rfl 18 (by decide) fl_43 (fun _ h9 => h9) rfl dX6_isRule_31 ?_
            refine lv_iload hx hb dX6_isRule_34 (lv_at hl 4 rfl) ?_
            obtain ⟨hv_16, h⟩ := h
            refine va_iald hx hb hK hP 12 0 rfl rfl hv_16 dX6_isRule_36 ?_
            refine lv_iload_n hx hb dX6_isRule_37 rfl (lv_at hl 1 rfl) ?_
            refine lv_aload_n hx hb dX6_isRule_38 rfl (lv_at hl 0 rfl) ?_
            refine va_get (D := (dC, dI)) (ci := 6) (v := .ref (ab 6)) (C := RX6) (T := TX6) (N := 27) hx hb hts hi_X6 hown hK hP 0 rfl rfl 8 (by decide) fl_25 (fun _ h9 => h9) rfl dX6_isRule_39 ?_
            refine lv_iload_n hx hb dX6_isRule_42 rfl (lv_at hl 2 rfl) ?_
            obtain ⟨hv_17, h⟩ := h
            refine va_iald hx hb hK hP 6 0 rfl rfl hv_17 dX6_isRule_43 ?_
            refine xq_ci (va_runV (As := [.int (n_readingIn aa_12.toNatClampNeg), .int a_1, .int (n_breathOf a_2.toNatClampNeg)]) (rest := []) ⟨hx, hb, hml, hown, hts⟩ (m_X6_namedBy l dC dI cyI cyJ ab H.size h) (cwV 3 hts gX6_isRule_X6_namedBy rfl rfl rfl (by decide +kernel) ⟨Nat.le_of_ble_eq_true rfl, Nat.le_of_ble_eq_true rfl⟩) (xq_preV hK hP hD hN (ci := 6) (q0 := 0) rfl rfl) rfl rfl hl.1 rfl (lv_room (Nat.le_of_ble_eq_true rfl)) dX6_isRule_44 ⟨Nat.le_refl _, Nat.le_refl _⟩) hD hS hA (fun rr_18 uu H locs h hP hD hS => ?_)
            have hP : va_P (dC, dI) vwCl (wm_u cyI cyJ ab n_fault n_things n_kindOf n_digitOf n_follows n_ifOf n_thenOf n_listOf n_breathOf n_heardOf n_readAt n_readThings n_readFollows n_readKind n_readDigit n_readIf n_readThen n_readings n_readingIn n_readingHour n_readingOf n_breathWas n_sheetSize n_sheetLane n_sheet n_hands n_traceNow) H := hP
            have hD : va_D A (wm_u cyI cyJ ab n_fault n_things n_kindOf n_digitOf n_follows n_ifOf n_thenOf n_listOf n_breathOf n_heardOf n_readAt n_readThings n_readFollows n_readKind n_readDigit n_readIf n_readThen n_readings n_readingIn n_readingHour n_readingOf n_breathWas n_sheetSize n_sheetLane n_sheet n_hands n_traceNow) := hD
            refine lv_aload_n hx hb dX6_isRule_47 rfl (lv_at hl 0 rfl) ?_
            refine va_get (D := (dC, dI)) (ci := 6) (v := .ref (ab 14)) (C := RX6) (T := TX6) (N := 27) hx hb hts hi_X6 hown hK hP 0 rfl rfl 20 (by decide) fl_49 (fun _ h9 => h9) rfl dX6_isRule_48 ?_
            refine lv_iload hx hb dX6_isRule_51 (lv_at hl 4 rfl) ?_
            obtain ⟨hv_19, h⟩ := h
            refine va_iald hx hb hK hP 14 0 rfl rfl hv_19 dX6_isRule_53 ?_
            refine lv_icmp_ne (tgt := 61) hx hb dX6_isRule_54 (by decide) (fun hc_20 => ?_) (fun hc_20 => ?_)
            · have h := h.1 hc_20
              refine lv_iconst (v := (0 : Int32)) hx hb dX6_isRule_61 (by decide) ?_
              refine lv_istore_n (lv' := [(3, .int (0 : Int32)), (0, .ref (ab 0)), (1, .int a_1), (2, .int a_2), (4, .int aa_12)]) hx hb dX6_isRule_62 rfl hl (by decide) rfl (fun ls hl => ?_)
              refine lv_iinc (v := (aa_12 + (1 : Int32))) (lv' := [(4, .int (aa_12 + (1 : Int32))), (3, .int (0 : Int32)), (0, .ref (ab 0)), (1, .int a_1), (2, .int a_2)]) hx hb dX6_isRule_63 hl (k := 4) rfl rfl (by decide) rfl (fun ls hl => ?_)
              refine lv_goto (tgt := 5) hx hb dX6_isRule_66 (by decide) ?_
              exact ih (0 : Int32) (aa_12 + (1 : Int32)) _ _ _ hP hD hS (lv_sub hl [2, 3, 4, 1, 0] rfl) h
            · have h := h.2 hc_20
              refine lv_iconst (v := (1 : Int32)) hx hb dX6_isRule_57 (by decide) ?_
              refine lv_goto (tgt := 62) hx hb dX6_isRule_58 (by decide) ?_
              refine lv_istore_n (lv' := [(3, .int (1 : Int32)), (0, .ref (ab 0)), (1, .int a_1), (2, .int a_2), (4, .int aa_12)]) hx hb dX6_isRule_62 rfl hl (by decide) rfl (fun ls hl => ?_)
              refine lv_iinc (v := (aa_12 + (1 : Int32))) (lv' := [(4, .int (aa_12 + (1 : Int32))), (3, .int (1 : Int32)), (0, .ref (ab 0)), (1, .int a_1), (2, .int a_2)]) hx hb dX6_isRule_63 hl (k := 4) rfl rfl (by decide) rfl (fun ls hl => ?_)
              refine lv_goto (tgt := 5) hx hb dX6_isRule_66 (by decide) ?_
              exact ih (1 : Int32) (aa_12 + (1 : Int32)) _ _ _ hP hD hS (lv_sub hl [2, 3, 4, 1, 0] rfl) h
  refine lp_5 _ (fun xx_13 H locs ls hP hD hS hl h => ?_) ni (1 : Int32) (0 : Int32) _ _ _ hP hD hS (lv_sub hl [2, 3, 4, 1, 0] rfl) h
  refine lv_iload_n hx hb dX6_isRule_69 rfl (lv_at hl 0 rfl) ?_
  obtain ⟨hv_14, h⟩ := h
  exact xq_rz hQ hx hb hr hv_14 hP hK hD hS () rfl h dX6_isRule_70 hlocks
def w_X6_list (n_things : Int32) (n_listOf : Nat → Int32) (a_1 : Int32) (a_2 : Int32) (post : Int32 → (Nat → Int32) → Prop) : Prop := w_X6_noHour a_1 (fun (rr_1 : Int32) => (rr_1 = 0 → (w_X6_isOfThings n_things a_2 (fun (rr_2 : Int32) => (¬ rr_2 = 0 → ((¬ n_things = 0 → ((vp_in a_1 6) ∧ ((vp_in a_1 6) ∧ (post (n_listOf a_1.toNatClampNeg) (upd n_listOf a_1.toNatClampNeg a_2))))) ∧ (n_things = 0 → (post (-3 : Int32) n_listOf)))) ∧ (rr_2 = 0 → (post (-2 : Int32) n_listOf))))) ∧ (¬ rr_1 = 0 → (post (-1 : Int32) n_listOf)))
set_option maxHeartbeats 4000000 in
set_option maxRecDepth 100000 in
theorem m_X6_list (l : Launch) (dC : Nat → ClassId) (dI : Nat → Nat → Nat) (cyI cyJ : ClassId) (ab : Nat → Nat) (sz : Nat) {n_fault : Int32} {n_things : Int32} {n_kindOf : Nat → Int32} {n_digitOf : Nat → Int32} {n_follows : Int32} {n_ifOf : Nat → Int32} {n_thenOf : Nat → Int32} {n_listOf : Nat → Int32} {n_breathOf : Nat → Int32} {n_heardOf : Nat → Int32} {n_readAt : Int32} {n_readThings : Int32} {n_readFollows : Int32} {n_readKind : Nat → Int32} {n_readDigit : Nat → Int32} {n_readIf : Nat → Int32} {n_readThen : Nat → Int32} {n_readings : Int32} {n_readingIn : Nat → Int32} {n_readingHour : Nat → Int32} {n_readingOf : Nat → Int32} {n_breathWas : Nat → Int32} {n_sheetSize : Nat → Int32} {n_sheetLane : Nat → Int32} {n_sheet : Nat → Int32} {n_hands : Nat → Int32} {n_traceNow : Int32} {a_1 : Int32} {a_2 : Int32} {post : Int32 → (Nat → Int32) → Prop} (h : w_X6_list n_things n_listOf a_1 a_2 post) : Met l yX6_list wsX6_list (xq_R 2 46) (va_Pc [.ref (ab 0), .int a_1, .int a_2] (xq_P (dC, dI) [(cyI, .int), (cyJ, .long)] (wm_u cyI cyJ ab n_fault n_things n_kindOf n_digitOf n_follows n_ifOf n_thenOf n_listOf n_breathOf n_heardOf n_readAt n_readThings n_readFollows n_readKind n_readDigit n_readIf n_readThen n_readings n_readingIn n_readingHour n_readingOf n_breathWas n_sheetSize n_sheetLane n_sheet n_hands n_traceNow) sz)) (va_Qi (fun (rr : Int32) (uu : (Nat → Int32)) => post rr uu) (fun (uu : (Nat → Int32)) => xq_B (dC, dI) [(cyI, .int), (cyJ, .long)] (va_A (wm_u cyI cyJ ab n_fault n_things n_kindOf n_digitOf n_follows n_ifOf n_thenOf n_listOf n_breathOf n_heardOf n_readAt n_readThings n_readFollows n_readKind n_readDigit n_readIf n_readThen n_readings n_readingIn n_readingHour n_readingOf n_breathWas n_sheetSize n_sheetLane n_sheet n_hands n_traceNow) sz) (wm_u cyI cyJ ab n_fault n_things n_kindOf n_digitOf n_follows n_ifOf n_thenOf uu n_breathOf n_heardOf n_readAt n_readThings n_readFollows n_readKind n_readDigit n_readIf n_readThen n_readings n_readingIn n_readingHour n_readingOf n_breathWas n_sheetSize n_sheetLane n_sheet n_hands n_traceNow)) (va_A (wm_u cyI cyJ ab n_fault n_things n_kindOf n_digitOf n_follows n_ifOf n_thenOf n_listOf n_breathOf n_heardOf n_readAt n_readThings n_readFollows n_readKind n_readDigit n_readIf n_readThen n_readings n_readingIn n_readingHour n_readingOf n_breathWas n_sheetSize n_sheetLane n_sheet n_hands n_traceNow) sz)) 0 0 (va_A (wm_u cyI cyJ ab n_fault n_things n_kindOf n_digitOf n_follows n_ifOf n_thenOf n_listOf n_breathOf n_heardOf n_readAt n_readThings n_readFollows n_readKind n_readDigit n_readIf n_readThen n_readings n_readingIn n_readingHour n_readingOf n_breathWas n_sheetSize n_sheetLane n_sheet n_hands n_traceNow) sz) := by
  refine xq_M (cc := cX6_list) (maxL := 4) (ret := (some .int)) (QA := fun A => va_Qi (fun (rr : Int32) (uu : (Nat → Int32)) => post rr uu) (fun (uu : (Nat → Int32)) => xq_B (dC, dI) [(cyI, .int), (cyJ, .long)] A (wm_u cyI cyJ ab n_fault n_things n_kindOf n_digitOf n_follows n_ifOf n_thenOf uu n_breathOf n_heardOf n_readAt n_readThings n_readFollows n_readKind n_readDigit n_readIf n_readThen n_readings n_readingIn n_readingHour n_readingOf n_breathWas n_sheetSize n_sheetLane n_sheet n_hands n_traceNow)) A) (by decide) rfl (Nat.le_of_ble_eq_true rfl) ?_
  intro p e s m args below meth c A ls Q hQ hx hb hr hml hts hown hlocks hsz hP hK hD hA hS hN hl
  subst hsz
  have hl : lv_has ls 4 [(0, .ref (ab 0)), (1, .int a_1), (2, .int a_2)] := hl
  have hi_X6 : ∀ w ∈ wsX60, w ∈ wsX6_list := fun _ h => List.mem_cons_of_mem _ (List.mem_append_right _ h)
  have fl_22 := hts (.fieldLink RX6 22 "UnsaidCallsModel" "listOf" "[I") (by decide +kernel)
  have fl_98 := hts (.fieldLink RX6 98 "UnsaidCallsModel" "things" "I") (by decide +kernel)
  unfold w_X6_list at h
  refine lv_iload_n hx hb dX6_list_0 rfl (lv_at hl 1 rfl) ?_
  refine xq_ci (va_runS (As := [.int a_1]) (rest := []) ⟨hx, hb, hml, hown, hts⟩ (m_X6_noHour l dC dI cyI cyJ (wm_u cyI cyJ ab n_fault n_things n_kindOf n_digitOf n_follows n_ifOf n_thenOf n_listOf n_breathOf n_heardOf n_readAt n_readThings n_readFollows n_readKind n_readDigit n_readIf n_readThen n_readings n_readingIn n_readingHour n_readingOf n_breathWas n_sheetSize n_sheetLane n_sheet n_hands n_traceNow) s.heap.size h) (va_cwS 1 hts gX6_list_X6_noHour rfl rfl rfl (by decide +kernel) ⟨Nat.le_of_ble_eq_true rfl, Nat.le_of_ble_eq_true rfl⟩) (xq_preS hK hP hD hN) rfl rfl hl.1 rfl (lv_room (Nat.le_of_ble_eq_true rfl)) dX6_list_1 ⟨Nat.le_refl _, Nat.le_refl _⟩) hD hS hA (fun rr_1 uu H locs h hP hD hS => ?_)
  have hP : va_P (dC, dI) vwCl (wm_u cyI cyJ ab n_fault n_things n_kindOf n_digitOf n_follows n_ifOf n_thenOf n_listOf n_breathOf n_heardOf n_readAt n_readThings n_readFollows n_readKind n_readDigit n_readIf n_readThen n_readings n_readingIn n_readingHour n_readingOf n_breathWas n_sheetSize n_sheetLane n_sheet n_hands n_traceNow) H := hP
  have hD : va_D A (wm_u cyI cyJ ab n_fault n_things n_kindOf n_digitOf n_follows n_ifOf n_thenOf n_listOf n_breathOf n_heardOf n_readAt n_readThings n_readFollows n_readKind n_readDigit n_readIf n_readThen n_readings n_readingIn n_readingHour n_readingOf n_breathWas n_sheetSize n_sheetLane n_sheet n_hands n_traceNow) := hD
  refine lv_if_eq (tgt := 9) hx hb dX6_list_4 (by decide) (fun hc_8 => ?_) (fun hc_8 => ?_)
  · have h := h.1 hc_8
    refine lv_aload_n hx hb dX6_list_9 rfl (lv_at hl 0 rfl) ?_
    refine lv_iload_n hx hb dX6_list_10 rfl (lv_at hl 2 rfl) ?_
    refine xq_ci (va_runV (As := [.int a_2]) (rest := []) ⟨hx, hb, hml, hown, hts⟩ (m_X6_isOfThings l dC dI cyI cyJ ab H.size h) (cwV 1 hts gX6_list_X6_isOfThings rfl rfl rfl (by decide +kernel) ⟨Nat.le_of_ble_eq_true rfl, Nat.le_of_ble_eq_true rfl⟩) (xq_preV hK hP hD hN (ci := 6) (q0 := 0) rfl rfl) rfl rfl hl.1 rfl (lv_room (Nat.le_of_ble_eq_true rfl)) dX6_list_11 ⟨Nat.le_refl _, Nat.le_refl _⟩) hD hS hA (fun rr_2 uu H locs h hP hD hS => ?_)
    have hP : va_P (dC, dI) vwCl (wm_u cyI cyJ ab n_fault n_things n_kindOf n_digitOf n_follows n_ifOf n_thenOf n_listOf n_breathOf n_heardOf n_readAt n_readThings n_readFollows n_readKind n_readDigit n_readIf n_readThen n_readings n_readingIn n_readingHour n_readingOf n_breathWas n_sheetSize n_sheetLane n_sheet n_hands n_traceNow) H := hP
    have hD : va_D A (wm_u cyI cyJ ab n_fault n_things n_kindOf n_digitOf n_follows n_ifOf n_thenOf n_listOf n_breathOf n_heardOf n_readAt n_readThings n_readFollows n_readKind n_readDigit n_readIf n_readThen n_readings n_readingIn n_readingHour n_readingOf n_breathWas n_sheetSize n_sheetLane n_sheet n_hands n_traceNow) := hD
    refine lv_if_ne (tgt := 20) hx hb dX6_list_14 (by decide) (fun hc_6 => ?_) (fun hc_6 => ?_)
    · have h := h.1 hc_6
      refine lv_aload_n hx hb dX6_list_20 rfl (lv_at hl 0 rfl) ?_
      refine va_get (D := (dC, dI)) (ci := 6) (v := .int n_things) (C := RX6) (T := TX6) (N := 27) hx hb hts hi_X6 hown hK hP 0 rfl rfl 1 (by decide) fl_98 (fun _ h9 => h9) rfl dX6_list_21 ?_
      refine lv_if_ne (tgt := 30) hx hb dX6_list_24 (by decide) (fun hc_5 => ?_) (fun hc_5 => ?_)
      · have h := h.1 hc_5
        refine lv_aload_n hx hb dX6_list_30 rfl (lv_at hl 0 rfl) ?_
        refine va_get (D := (dC, dI)) (ci := 6) (v := .ref (ab 5)) (C := RX6) (T := TX6) (N := 27) hx hb hts hi_X6 hown hK hP 0 rfl rfl 7 (by decide) fl_22 (fun _ h9 => h9) rfl dX6_list_31 ?_
        refine lv_iload_n hx hb dX6_list_34 rfl (lv_at hl 1 rfl) ?_
        obtain ⟨hv_3, h⟩ := h
        refine va_iald hx hb hK hP 5 0 rfl rfl hv_3 dX6_list_35 ?_
        refine lv_istore_n (lv' := [(3, .int (n_listOf a_1.toNatClampNeg)), (0, .ref (ab 0)), (1, .int a_1), (2, .int a_2)]) hx hb dX6_list_36 rfl hl (by decide) rfl (fun ls hl => ?_)
        refine lv_aload_n hx hb dX6_list_37 rfl (lv_at hl 1 rfl) ?_
        refine va_get (D := (dC, dI)) (ci := 6) (v := .ref (ab 5)) (C := RX6) (T := TX6) (N := 27) hx hb hts hi_X6 hown hK hP 0 rfl rfl 7 (by decide) fl_22 (fun _ h9 => h9) rfl dX6_list_38 ?_
        refine lv_iload_n hx hb dX6_list_41 rfl (lv_at hl 2 rfl) ?_
        refine lv_iload_n hx hb dX6_list_42 rfl (lv_at hl 3 rfl) ?_
        obtain ⟨hv_4, h⟩ := h
        refine va_iast hx hb hK hP hD hS 5 0 rfl rfl hv_4 dX6_list_43 (fun H locs hP hD hS => ?_)
        have hP : va_P (dC, dI) vwCl (wm_u cyI cyJ ab n_fault n_things n_kindOf n_digitOf n_follows n_ifOf n_thenOf (upd n_listOf a_1.toNatClampNeg a_2) n_breathOf n_heardOf n_readAt n_readThings n_readFollows n_readKind n_readDigit n_readIf n_readThen n_readings n_readingIn n_readingHour n_readingOf n_breathWas n_sheetSize n_sheetLane n_sheet n_hands n_traceNow) H := hP
        have hD : va_D A (wm_u cyI cyJ ab n_fault n_things n_kindOf n_digitOf n_follows n_ifOf n_thenOf (upd n_listOf a_1.toNatClampNeg a_2) n_breathOf n_heardOf n_readAt n_readThings n_readFollows n_readKind n_readDigit n_readIf n_readThen n_readings n_readingIn n_readingHour n_readingOf n_breathWas n_sheetSize n_sheetLane n_sheet n_hands n_traceNow) := hD
        refine lv_iload_n hx hb dX6_list_44 rfl (lv_at hl 0 rfl) ?_
        exact xq_ri hQ hx hb hr hP hK hD hS (upd n_listOf a_1.toNatClampNeg a_2) rfl h dX6_list_45 hlocks
      · have h := h.2 hc_5
        refine lv_bipush (v := (-3 : Int32)) hx hb dX6_list_27 (by decide) ?_
        exact xq_ri hQ hx hb hr hP hK hD hS n_listOf rfl h dX6_list_29 hlocks
    · have h := h.2 hc_6
      refine lv_bipush (v := (-2 : Int32)) hx hb dX6_list_17 (by decide) ?_
      exact xq_ri hQ hx hb hr hP hK hD hS n_listOf rfl h dX6_list_19 hlocks
  · have h := h.2 hc_8
    refine lv_iconst (v := (-1 : Int32)) hx hb dX6_list_7 (by decide) ?_
    exact xq_ri hQ hx hb hr hP hK hD hS n_listOf rfl h dX6_list_8 hlocks
