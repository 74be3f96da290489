def w_X6_lose (n_sheetSize : Nat → Int32) (a_1 : Int32) (post : Int32 → (Nat → Int32) → Prop) : Prop := w_X6_noSheet a_1 (fun (rr_1 : Int32) => (rr_1 = 0 → ((vp_in a_1 4) ∧ (xq_j1 (fun (kj_4 : Int32 → Prop) => (0 ≤ (n_sheetSize a_1.toNatClampNeg) → (kj_4 (1 : Int32))) ∧ (¬ 0 ≤ (n_sheetSize a_1.toNatClampNeg) → (kj_4 (0 : Int32)))) (fun (jj_3 : Int32) => (vp_in a_1 4) ∧ (post jj_3 (upd n_sheetSize a_1.toNatClampNeg (-1 : Int32))))))) ∧ (¬ rr_1 = 0 → (post (-1 : Int32) n_sheetSize)))
set_option maxHeartbeats 4000000 in
set_option maxRecDepth 100000 in
theorem m_X6_lose (l : Launch) (dC : Nat → ClassId) (dI : Nat → Nat → Nat) (cyI cyJ : ClassId) (ab : Nat → Nat) (sz : Nat) {n_fault : Int32} {n_things : Int32} {n_kindOf : Nat → Int32} {n_digitOf : Nat → Int32} {n_follows : Int32} {n_ifOf : Nat → Int32} {n_thenOf : Nat → Int32} {n_listOf : Nat → Int32} {n_breathOf : Nat → Int32} {n_heardOf : Nat → Int32} {n_readAt : Int32} {n_readThings : Int32} {n_readFollows : Int32} {n_readKind : Nat → Int32} {n_readDigit : Nat → Int32} {n_readIf : Nat → Int32} {n_readThen : Nat → Int32} {n_readings : Int32} {n_readingIn : Nat → Int32} {n_readingHour : Nat → Int32} {n_readingOf : Nat → Int32} {n_breathWas : Nat → Int32} {n_sheetSize : Nat → Int32} {n_sheetLane : Nat → Int32} {n_sheet : Nat → Int32} {n_hands : Nat → Int32} {n_traceNow : Int32} {a_1 : Int32} {post : Int32 → (Nat → Int32) → Prop} (h : w_X6_lose n_sheetSize a_1 post) : Met l yX6_lose wsX6_lose (xq_R 2 45) (va_Pc [.ref (ab 0), .int a_1] (xq_P (dC, dI) [(cyI, .int), (cyJ, .long)] (wm_u cyI cyJ ab n_fault n_things n_kindOf n_digitOf n_follows n_ifOf n_thenOf n_listOf n_breathOf n_heardOf n_readAt n_readThings n_readFollows n_readKind n_readDigit n_readIf n_readThen n_readings n_readingIn n_readingHour n_readingOf n_breathWas n_sheetSize n_sheetLane n_sheet n_hands n_traceNow) sz)) (va_Qi (fun (rr : Int32) (uu : (Nat → Int32)) => post rr uu) (fun (uu : (Nat → Int32)) => xq_B (dC, dI) [(cyI, .int), (cyJ, .long)] (va_A (wm_u cyI cyJ ab n_fault n_things n_kindOf n_digitOf n_follows n_ifOf n_thenOf n_listOf n_breathOf n_heardOf n_readAt n_readThings n_readFollows n_readKind n_readDigit n_readIf n_readThen n_readings n_readingIn n_readingHour n_readingOf n_breathWas n_sheetSize n_sheetLane n_sheet n_hands n_traceNow) sz) (wm_u cyI cyJ ab n_fault n_things n_kindOf n_digitOf n_follows n_ifOf n_thenOf n_listOf n_breathOf n_heardOf n_readAt n_readThings n_readFollows n_readKind n_readDigit n_readIf n_readThen n_readings n_readingIn n_readingHour n_readingOf n_breathWas uu n_sheetLane n_sheet n_hands n_traceNow)) (va_A (wm_u cyI cyJ ab n_fault n_things n_kindOf n_digitOf n_follows n_ifOf n_thenOf n_listOf n_breathOf n_heardOf n_readAt n_readThings n_readFollows n_readKind n_readDigit n_readIf n_readThen n_readings n_readingIn n_readingHour n_readingOf n_breathWas n_sheetSize n_sheetLane n_sheet n_hands n_traceNow) sz)) 0 0 (va_A (wm_u cyI cyJ ab n_fault n_things n_kindOf n_digitOf n_follows n_ifOf n_thenOf n_listOf n_breathOf n_heardOf n_readAt n_readThings n_readFollows n_readKind n_readDigit n_readIf n_readThen n_readings n_readingIn n_readingHour n_readingOf n_breathWas n_sheetSize n_sheetLane n_sheet n_hands n_traceNow) sz) := by
  refine xq_M (cc := cX6_lose) (maxL := 3) (ret := (some .int)) (QA := fun A => va_Qi (fun (rr : Int32) (uu : (Nat → Int32)) => post rr uu) (fun (uu : (Nat → Int32)) => xq_B (dC, dI) [(cyI, .int), (cyJ, .long)] A (wm_u cyI cyJ ab n_fault n_things n_kindOf n_digitOf n_follows n_ifOf n_thenOf n_listOf n_breathOf n_heardOf n_readAt n_readThings n_readFollows n_readKind n_readDigit n_readIf n_readThen n_readings n_readingIn n_readingHour n_readingOf n_breathWas uu n_sheetLane n_sheet n_hands n_traceNow)) A) (by decide) rfl (Nat.le_of_ble_eq_true rfl) ?_
  intro p e s m args below meth c A ls Q hQ hx hb hr hml hts hown hlocks hsz hP hK hD hA hS hN hl
  subst hsz
  have hl : lv_has ls 3 [(0, .ref (ab 0)), (1, .int a_1)] := hl
  have hi_X6 : ∀ w ∈ wsX60, w ∈ wsX6_lose := fun _ h => List.mem_cons_of_mem _ (List.mem_append_right _ h)
  have fl_55 := hts (.fieldLink RX6 55 "UnsaidCallsModel" "sheetSize" "[I") (by decide +kernel)
  unfold w_X6_lose at h
  refine lv_iload_n hx hb dX6_lose_0 rfl (lv_at hl 1 rfl) ?_
  refine xq_ci (va_runS (As := [.int a_1]) (rest := []) ⟨hx, hb, hml, hown, hts⟩ (m_X6_noSheet l dC dI cyI cyJ (wm_u cyI cyJ ab n_fault n_things n_kindOf n_digitOf n_follows n_ifOf n_thenOf n_listOf n_breathOf n_heardOf n_readAt n_readThings n_readFollows n_readKind n_readDigit n_readIf n_readThen n_readings n_readingIn n_readingHour n_readingOf n_breathWas n_sheetSize n_sheetLane n_sheet n_hands n_traceNow) s.heap.size h) (va_cwS 1 hts gX6_lose_X6_noSheet rfl rfl rfl (by decide +kernel) ⟨Nat.le_of_ble_eq_true rfl, Nat.le_of_ble_eq_true rfl⟩) (xq_preS hK hP hD hN) rfl rfl hl.1 rfl (lv_room (Nat.le_of_ble_eq_true rfl)) dX6_lose_1 ⟨Nat.le_refl _, Nat.le_refl _⟩) hD hS hA (fun rr_1 uu H locs h hP hD hS => ?_)
  have hP : va_P (dC, dI) vwCl (wm_u cyI cyJ ab n_fault n_things n_kindOf n_digitOf n_follows n_ifOf n_thenOf n_listOf n_breathOf n_heardOf n_readAt n_readThings n_readFollows n_readKind n_readDigit n_readIf n_readThen n_readings n_readingIn n_readingHour n_readingOf n_breathWas n_sheetSize n_sheetLane n_sheet n_hands n_traceNow) H := hP
  have hD : va_D A (wm_u cyI cyJ ab n_fault n_things n_kindOf n_digitOf n_follows n_ifOf n_thenOf n_listOf n_breathOf n_heardOf n_readAt n_readThings n_readFollows n_readKind n_readDigit n_readIf n_readThen n_readings n_readingIn n_readingHour n_readingOf n_breathWas n_sheetSize n_sheetLane n_sheet n_hands n_traceNow) := hD
  refine lv_if_eq (tgt := 9) hx hb dX6_lose_4 (by decide) (fun hc_7 => ?_) (fun hc_7 => ?_)
  · have h := h.1 hc_7
    refine lv_aload_n hx hb dX6_lose_9 rfl (lv_at hl 0 rfl) ?_
    refine va_get (D := (dC, dI)) (ci := 6) (v := .ref (ab 16)) (C := RX6) (T := TX6) (N := 27) hx hb hts hi_X6 hown hK hP 0 rfl rfl 22 (by decide) fl_55 (fun _ h9 => h9) rfl dX6_lose_10 ?_
    refine lv_iload_n hx hb dX6_lose_13 rfl (lv_at hl 1 rfl) ?_
    obtain ⟨hv_2, h⟩ := h
    refine va_iald hx hb hK hP 16 0 rfl rfl hv_2 dX6_lose_14 ?_
    refine xq_j1_go (X := fun (jj_3 : Int32) => ∀ (H : Heap) (locs : List Loc) (ls : Array Slot), va_P (dC, dI) vwCl (wm_u cyI cyJ ab n_fault n_things n_kindOf n_digitOf n_follows n_ifOf n_thenOf n_listOf n_breathOf n_heardOf n_readAt n_readThings n_readFollows n_readKind n_readDigit n_readIf n_readThen n_readings n_readingIn n_readingHour n_readingOf n_breathWas n_sheetSize n_sheetLane n_sheet n_hands n_traceNow) H → va_D A (wm_u cyI cyJ ab n_fault n_things n_kindOf n_digitOf n_follows n_ifOf n_thenOf n_listOf n_breathOf n_heardOf n_readAt n_readThings n_readFollows n_readKind n_readDigit n_readIf n_readThen n_readings n_readingIn n_readingHour n_readingOf n_breathWas n_sheetSize n_sheetLane n_sheet n_hands n_traceNow) → va_S A s.heap H locs → lv_has ls 3 [(0, .ref (ab 0)), (1, .int a_1)] → W p l e (xq_R 2 45) s m args below meth c H locs 0 0 Q (F0 m 23 ls [.int jj_3])) h (fun jj_3 h H locs ls hP hD hS hl => ?_) (fun kj_4 h => ?_)
    · refine lv_istore_n (lv' := [(2, .int jj_3), (0, .ref (ab 0)), (1, .int a_1)]) hx hb dX6_lose_23 rfl hl (by decide) rfl (fun ls hl => ?_)
      refine lv_aload_n hx hb dX6_lose_24 rfl (lv_at hl 1 rfl) ?_
      refine va_get (D := (dC, dI)) (ci := 6) (v := .ref (ab 16)) (C := RX6) (T := TX6) (N := 27) hx hb hts hi_X6 hown hK hP 0 rfl rfl 22 (by decide) fl_55 (fun _ h9 => h9) rfl dX6_lose_25 ?_
      refine lv_iload_n hx hb dX6_lose_28 rfl (lv_at hl 2 rfl) ?_
      refine lv_iconst (v := (-1 : Int32)) hx hb dX6_lose_29 (by decide) ?_
      obtain ⟨hv_6, h⟩ := h
      refine va_iast hx hb hK hP hD hS 16 0 rfl rfl hv_6 dX6_lose_30 (fun H locs hP hD hS => ?_)
      have hP : va_P (dC, dI) vwCl (wm_u cyI cyJ ab n_fault n_things n_kindOf n_digitOf n_follows n_ifOf n_thenOf n_listOf n_breathOf n_heardOf n_readAt n_readThings n_readFollows n_readKind n_readDigit n_readIf n_readThen n_readings n_readingIn n_readingHour n_readingOf n_breathWas (upd n_sheetSize a_1.toNatClampNeg (-1 : Int32)) n_sheetLane n_sheet n_hands n_traceNow) H := hP
      have hD : va_D A (wm_u cyI cyJ ab n_fault n_things n_kindOf n_digitOf n_follows n_ifOf n_thenOf n_listOf n_breathOf n_heardOf n_readAt n_readThings n_readFollows n_readKind n_readDigit n_readIf n_readThen n_readings n_readingIn n_readingHour n_readingOf n_breathWas (upd n_sheetSize a_1.toNatClampNeg (-1 : Int32)) n_sheetLane n_sheet n_hands n_traceNow) := hD
      refine lv_iload_n hx hb dX6_lose_31 rfl (lv_at hl 0 rfl) ?_
      exact xq_ri hQ hx hb hr hP hK hD hS (upd n_sheetSize a_1.toNatClampNeg (-1 : Int32)) rfl h dX6_lose_32 hlocks
    · refine lv_if_ge (tgt := 22) hx hb dX6_lose_15 (by decide) (fun hc_5 => ?_) (fun hc_5 => ?_)
      · have h := h.1 hc_5
        refine lv_iconst (v := (1 : Int32)) hx hb dX6_lose_22 (by decide) ?_
        exact kj_4 (1 : Int32) h _ _ _ hP hD hS (lv_sub hl [0, 1] rfl)
      · have h := h.2 hc_5
        refine lv_iconst (v := (0 : Int32)) hx hb dX6_lose_18 (by decide) ?_
        refine lv_goto (tgt := 23) hx hb dX6_lose_19 (by decide) ?_
        exact kj_4 (0 : Int32) h _ _ _ hP hD hS (lv_sub hl [0, 1] rfl)
  · have h := h.2 hc_7
    refine lv_iconst (v := (-1 : Int32)) hx hb dX6_lose_7 (by decide) ?_
    exact xq_ri hQ hx hb hr hP hK hD hS n_sheetSize rfl h dX6_lose_8 hlocks
def w_X6_many_L7 (a_1 : Int32) (a_3 : Int32) (n_things : Int32) (n_follows : Int32) (n_ifOf : Nat → Int32) (n_thenOf : Nat → Int32) (n_heardOf : Nat → Int32) (n_readings : Int32) (post : Int32 → Prop) (kk : Int32 → Prop) : Nat → Int32 → Int32 → Prop
  | 0, _, _ => False
  | f_7 + 1, a_2, a_4 => ((64 : Int32) ≤ a_4 → (kk a_2)) ∧ (¬ (64 : Int32) ≤ a_4 → (w_X6_isCase n_things n_follows n_ifOf n_thenOf a_4 (fun (rr_1 : Int32) => (rr_1 = 0 → (w_X6_many_L7 a_1 a_3 n_things n_follows n_ifOf n_thenOf n_heardOf n_readings post kk f_7 (a_2 + (0 : Int32)) (a_4 + (1 : Int32)))) ∧ (¬ rr_1 = 0 → (w_X6_many_L7 a_1 a_3 n_things n_follows n_ifOf n_thenOf n_heardOf n_readings post kk f_7 (a_2 + (1 : Int32)) (a_4 + (1 : Int32)))))))
def w_X6_many_L40 (a_1 : Int32) (a_2 : Int32) (n_things : Int32) (n_follows : Int32) (n_ifOf : Nat → Int32) (n_thenOf : Nat → Int32) (n_heardOf : Nat → Int32) (n_readings : Int32) (post : Int32 → Prop) (kk : Int32 → Prop) : Nat → Int32 → Int32 → Prop
  | 0, _, _ => False
  | f_40 + 1, a_3, a_4 => ((6 : Int32) ≤ a_4 → (kk a_3)) ∧ (¬ (6 : Int32) ≤ a_4 → ((n_things ≤ 0 → (kk a_3)) ∧ (¬ n_things ≤ 0 → ((vp_in a_4 6) ∧ (((n_heardOf a_4.toNatClampNeg) < 0 → (w_X6_many_L40 a_1 a_2 n_things n_follows n_ifOf n_thenOf n_heardOf n_readings post kk f_40 (a_3 + (0 : Int32)) (a_4 + (1 : Int32)))) ∧ (¬ (n_heardOf a_4.toNatClampNeg) < 0 → (w_X6_many_L40 a_1 a_2 n_things n_follows n_ifOf n_thenOf n_heardOf n_readings post kk f_40 (a_3 + (1 : Int32)) (a_4 + (1 : Int32)))))))))
def w_X6_many (n_things : Int32) (n_follows : Int32) (n_ifOf : Nat → Int32) (n_thenOf : Nat → Int32) (n_heardOf : Nat → Int32) (n_readings : Int32) (a_1 : Int32) (post : Int32 → Prop) : Prop := ∃ e_7, w_X6_many_L7 a_1 (0 : Int32) n_things n_follows n_ifOf n_thenOf n_heardOf n_readings post (fun (xx_7 : Int32) => ∃ e_40, w_X6_many_L40 a_1 xx_7 n_things n_follows n_ifOf n_thenOf n_heardOf n_readings post (fun (xx_14 : Int32) => (a_1 = (0 : Int32) → (post n_things)) ∧ (a_1 = (1 : Int32) → (post xx_7)) ∧ (a_1 = (2 : Int32) → (post xx_14)) ∧ (a_1 = (3 : Int32) → (post n_readings)) ∧ (¬ a_1 = (0 : Int32) → ¬ a_1 = (1 : Int32) → ¬ a_1 = (2 : Int32) → ¬ a_1 = (3 : Int32) → (post (-2 : Int32)))) e_40 (0 : Int32) (0 : Int32)) e_7 (0 : Int32) (0 : Int32)
set_option maxHeartbeats 4000000 in
set_option maxRecDepth 100000 in
theorem m_X6_many (l : Launch) (dC : Nat → ClassId) (dI : Nat → Nat → Nat) (cyI cyJ : ClassId) (ab : Nat → Nat) (sz : Nat) {n_fault : Int32} {n_things : Int32} {n_kindOf : Nat → Int32} {n_digitOf : Nat → Int32} {n_follows : Int32} {n_ifOf : Nat → Int32} {n_thenOf : Nat → Int32} {n_listOf : Nat → Int32} {n_breathOf : Nat → Int32} {n_heardOf : Nat → Int32} {n_readAt : Int32} {n_readThings : Int32} {n_readFollows : Int32} {n_readKind : Nat → Int32} {n_readDigit : Nat → Int32} {n_readIf : Nat → Int32} {n_readThen : Nat → Int32} {n_readings : Int32} {n_readingIn : Nat → Int32} {n_readingHour : Nat → Int32} {n_readingOf : Nat → Int32} {n_breathWas : Nat → Int32} {n_sheetSize : Nat → Int32} {n_sheetLane : Nat → Int32} {n_sheet : Nat → Int32} {n_hands : Nat → Int32} {n_traceNow : Int32} {a_1 : Int32} {post : Int32 → Prop} (h : w_X6_many n_things n_follows n_ifOf n_thenOf n_heardOf n_readings a_1 post) : Met l yX6_many wsX6_many (xq_R 3 69) (va_Pc [.ref (ab 0), .int a_1] (xq_P (dC, dI) [(cyI, .int), (cyJ, .long)] (wm_u cyI cyJ ab n_fault n_things n_kindOf n_digitOf n_follows n_ifOf n_thenOf n_listOf n_breathOf n_heardOf n_readAt n_readThings n_readFollows n_readKind n_readDigit n_readIf n_readThen n_readings n_readingIn n_readingHour n_readingOf n_breathWas n_sheetSize n_sheetLane n_sheet n_hands n_traceNow) sz)) (va_Qi (fun (rr : Int32) (uu : Unit) => post rr ) (fun (uu : Unit) => xq_B (dC, dI) [(cyI, .int), (cyJ, .long)] (va_A (wm_u cyI cyJ ab n_fault n_things n_kindOf n_digitOf n_follows n_ifOf n_thenOf n_listOf n_breathOf n_heardOf n_readAt n_readThings n_readFollows n_readKind n_readDigit n_readIf n_readThen n_readings n_readingIn n_readingHour n_readingOf n_breathWas n_sheetSize n_sheetLane n_sheet n_hands n_traceNow) sz) (wm_u cyI cyJ ab n_fault n_things n_kindOf n_digitOf n_follows n_ifOf n_thenOf n_listOf n_breathOf n_heardOf n_readAt n_readThings n_readFollows n_readKind n_readDigit n_readIf n_readThen n_readings n_readingIn n_readingHour n_readingOf n_breathWas n_sheetSize n_sheetLane n_sheet n_hands n_traceNow)) (va_A (wm_u cyI cyJ ab n_fault n_things n_kindOf n_digitOf n_follows n_ifOf n_thenOf n_listOf n_breathOf n_heardOf n_readAt n_readThings n_readFollows n_readKind n_readDigit n_readIf n_readThen n_readings n_readingIn n_readingHour n_readingOf n_breathWas n_sheetSize n_sheetLane n_sheet n_hands n_traceNow) sz)) 0 0 (va_A (wm_u cyI cyJ ab n_fault n_things n_kindOf n_digitOf n_follows n_ifOf n_thenOf n_listOf n_breathOf n_heardOf n_readAt n_readThings n_readFollows n_readKind n_readDigit n_readIf n_readThen n_readings n_readingIn n_readingHour n_readingOf n_breathWas n_sheetSize n_sheetLane n_sheet n_hands n_traceNow) sz) := by
  refine xq_M (cc := cX6_many) (maxL := 5) (ret := (some .int)) (QA := fun A => va_Qi (fun (rr : Int32) (uu : Unit) => post rr ) (fun (uu : Unit) => xq_B (dC, dI) [(cyI, .int), (cyJ, .long)] A (wm_u cyI cyJ ab n_fault n_things n_kindOf n_digitOf n_follows n_ifOf n_thenOf n_listOf n_breathOf n_heardOf n_readAt n_readThings n_readFollows n_readKind n_readDigit n_readIf n_readThen n_readings n_readingIn n_readingHour n_readingOf n_breathWas n_sheetSize n_sheetLane n_sheet n_hands n_traceNow)) A) (by decide) rfl (Nat.le_of_ble_eq_true rfl) ?_
  intro p e s m args below meth c A ls Q hQ hx hb hr hml hts hown hlocks hsz hP hK hD hA hS hN hl
  subst hsz
  have hl : lv_has ls 5 [(0, .ref (ab 0)), (1, .int a_1)] := hl
  have hi_X6 : ∀ w ∈ wsX60, w ∈ wsX6_many := fun _ h => List.mem_cons_of_mem _ (List.mem_append_right _ h)
  have fl_28 := hts (.fieldLink RX6 28 "UnsaidCallsModel" "heardOf" "[I") (by decide +kernel)
  have fl_98 := hts (.fieldLink RX6 98 "UnsaidCallsModel" "things" "I") (by decide +kernel)
  have fl_141 := hts (.fieldLink RX6 141 "UnsaidCallsModel" "readings" "I") (by decide +kernel)
  unfold w_X6_many at h
  refine lv_iconst (v := (0 : Int32)) hx hb dX6_many_0 (by decide) ?_
  refine lv_istore_n (lv' := [(2, .int (0 : Int32)), (0, .ref (ab 0)), (1, .int a_1)]) hx hb dX6_many_1 rfl hl (by decide) rfl (fun ls hl => ?_)
  refine lv_iconst (v := (0 : Int32)) hx hb dX6_many_2 (by decide) ?_
  refine lv_istore_n (lv' := [(3, .int (0 : Int32)), (2, .int (0 : Int32)), (0, .ref (ab 0)), (1, .int a_1)]) hx hb dX6_many_3 rfl hl (by decide) rfl (fun ls hl => ?_)
  refine lv_iconst (v := (0 : Int32)) hx hb dX6_many_4 (by decide) ?_
  refine lv_istore (lv' := [(4, .int (0 : Int32)), (3, .int (0 : Int32)), (2, .int (0 : Int32)), (0, .ref (ab 0)), (1, .int a_1)]) hx hb dX6_many_5 hl (by decide) rfl (fun ls hl => ?_)
  obtain ⟨ni, h⟩ := h
  have lp_7 : ∀ (kk : Int32 → Prop), (∀ (xx_7 : Int32) (H : Heap) (locs : List Loc) (ls : Array Slot), va_P (dC, dI) vwCl (wm_u cyI cyJ ab n_fault n_things n_kindOf n_digitOf n_follows n_ifOf n_thenOf n_listOf n_breathOf n_heardOf n_readAt n_readThings n_readFollows n_readKind n_readDigit n_readIf n_readThen n_readings n_readingIn n_readingHour n_readingOf n_breathWas n_sheetSize n_sheetLane n_sheet n_hands n_traceNow) H → va_D A (wm_u cyI cyJ ab n_fault n_things n_kindOf n_digitOf n_follows n_ifOf n_thenOf n_listOf n_breathOf n_heardOf n_readAt n_readThings n_readFollows n_readKind n_readDigit n_readIf n_readThen n_readings n_readingIn n_readingHour n_readingOf n_breathWas n_sheetSize n_sheetLane n_sheet n_hands n_traceNow) → va_S A s.heap H locs → lv_has ls 5 [(0, .ref (ab 0)), (1, .int a_1), (2, .int xx_7), (3, .int (0 : Int32))] → kk xx_7 → W p l e (xq_R 3 69) s m args below meth c H locs 0 0 Q (F0 m 37 ls [])) → ∀ (ni : Nat) (aa_5 : Int32) (aa_6 : Int32) (H : Heap) (locs : List Loc) (ls : Array Slot), va_P (dC, dI) vwCl (wm_u cyI cyJ ab n_fault n_things n_kindOf n_digitOf n_follows n_ifOf n_thenOf n_listOf n_breathOf n_heardOf n_readAt n_readThings n_readFollows n_readKind n_readDigit n_readIf n_readThen n_readings n_readingIn n_readingHour n_readingOf n_breathWas n_sheetSize n_sheetLane n_sheet n_hands n_traceNow) H → va_D A (wm_u cyI cyJ ab n_fault n_things n_kindOf n_digitOf n_follows n_ifOf n_thenOf n_listOf n_breathOf n_heardOf n_readAt n_readThings n_readFollows n_readKind n_readDigit n_readIf n_readThen n_readings n_readingIn n_readingHour n_readingOf n_breathWas n_sheetSize n_sheetLane n_sheet n_hands n_traceNow) → va_S A s.heap H locs → lv_has ls 5 [(0, .ref (ab 0)), (1, .int a_1), (2, .int aa_5), (3, .int (0 : Int32)), (4, .int aa_6)] → w_X6_many_L7 a_1 (0 : Int32) n_things n_follows n_ifOf n_thenOf n_heardOf n_readings post kk ni aa_5 aa_6 → W p l e (xq_R 3 69) s m args below meth c H locs 0 0 Q (F0 m 7 ls []) := by
    intro kk kx ni
    induction ni with
    | zero => intros; exact False.elim (by assumption)
    | succ ni ih =>
      intro aa_5 aa_6 H locs ls hP hD hS hl h
      rw [w_X6_many_L7] at h
      refine lv_iload hx hb dX6_many_7 (lv_at hl 4 rfl) ?_
      refine lv_bipush (v := (64 : Int32)) hx hb dX6_many_9 (by decide) ?_
      refine lv_icmp_ge (tgt := 37) hx hb dX6_many_11 (by decide) (fun hc_26 => ?_) (fun hc_26 => ?_)
      · have h := h.1 hc_26
        exact kx aa_5 _ _ _ hP hD hS (lv_sub hl [0, 1, 2, 3] rfl) h
      · have h := h.2 hc_26
        refine lv_iload_n hx hb dX6_many_14 rfl (lv_at hl 2 rfl) ?_
        refine lv_aload_n hx hb dX6_many_15 rfl (lv_at hl 0 rfl) ?_
        refine lv_iload hx hb dX6_many_16 (lv_at hl 4 rfl) ?_
        refine xq_ci (va_runV (As := [.int aa_6]) (rest := [.int aa_5]) ⟨hx, hb, hml, hown, hts⟩ (m_X6_isCase l dC dI cyI cyJ ab H.size h) (cwV 1 hts gX6_many_X6_isCase rfl rfl rfl (by decide +kernel) ⟨Nat.le_of_ble_eq_true rfl, Nat.le_of_ble_eq_true rfl⟩) (xq_preV hK hP hD hN (ci := 6) (q0 := 0) rfl rfl) rfl rfl hl.1 rfl (lv_room (Nat.le_of_ble_eq_true rfl)) dX6_many_18 ⟨Nat.le_refl _, Nat.le_refl _⟩) hD hS hA (fun rr_23 uu H locs h hP hD hS => ?_)
        have hP : va_P (dC, dI) vwCl (wm_u cyI cyJ ab n_fault n_things n_kindOf n_digitOf n_follows n_ifOf n_thenOf n_listOf n_breathOf n_heardOf n_readAt n_readThings n_readFollows n_readKind n_readDigit n_readIf n_readThen n_readings n_readingIn n_readingHour n_readingOf n_breathWas n_sheetSize n_sheetLane n_sheet n_hands n_traceNow) H := hP
        have hD : va_D A (wm_u cyI cyJ ab n_fault n_things n_kindOf n_digitOf n_follows n_ifOf n_thenOf n_listOf n_breathOf n_heardOf n_readAt n_readThings n_readFollows n_readKind n_readDigit n_readIf n_readThen n_readings n_readingIn n_readingHour n_readingOf n_breathWas n_sheetSize n_sheetLane n_sheet n_hands n_traceNow) := hD
        refine lv_if_eq (tgt := 28) hx hb dX6_many_21 (by decide) (fun hc_24 => ?_) (fun hc_24 => ?_)
        · have h := h.1 hc_24
          refine lv_iconst (v := (0 : Int32)) hx hb dX6_many_28 (by decide) ?_
          refine lv_iadd hx hb dX6_many_29 ?_
          refine lv_istore_n (lv' := [(2, .int (aa_5 + (0 : Int32))), (0, .ref (ab 0)), (1, .int a_1), (3, .int (0 : Int32)), (4, .int aa_6)]) hx hb dX6_many_30 rfl hl (by decide) rfl (fun ls hl => ?_)
          refine lv_iinc (v := (aa_6 + (1 : Int32))) (lv' := [(4, .int (aa_6 + (1 : Int32))), (2, .int (aa_5 + (0 : Int32))), (0, .ref (ab 0)), (1, .int a_1), (3, .int (0 : Int32))]) hx hb dX6_many_31 hl (k := 4) rfl rfl (by decide) rfl (fun ls hl => ?_)
          refine lv_goto (tgt := 7) hx hb dX6_many_34 (by decide) ?_
          exact ih (aa_5 + (0 : Int32)) (aa_6 + (1 : Int32)) _ _ _ hP hD hS (lv_sub hl [2, 3, 1, 4, 0] rfl) h
        · have h := h.2 hc_24
          refine lv_iconst (v := (1 : Int32)) hx hb dX6_many_24 (by decide) ?_
          refine lv_goto (tgt := 29) hx hb dX6_many_25 (by decide) ?_
          refine lv_iadd hx hb dX6_many_29 ?_
          refine lv_istore_n (lv' := [(2, .int (aa_5 + (1 : Int32))), (0, .ref (ab 0)), (1, .int a_1), (3, .int (0 : Int32)), (4, .int aa_6)]) hx hb dX6_many_30 rfl hl (by decide) rfl (fun ls hl => ?_)
          refine lv_iinc (v := (aa_6 + (1 : Int32))) (lv' := [(4, .int (aa_6 + (1 : Int32))), (2, .int (aa_5 + (1 : Int32))), (0, .ref (ab 0)), (1, .int a_1), (3, .int (0 : Int32))]) hx hb dX6_many_31 hl (k := 4) rfl rfl (by decide) rfl (fun ls hl => ?_)
          refine lv_goto (tgt := 7) hx hb dX6_many_34 (by decide) ?_
          exact ih (aa_5 + (1 : Int32)) (aa_6 + (1 : Int32)) _ _ _ hP hD hS (lv_sub hl [2, 3, 1, 4, 0] rfl) h
  refine lp_7 _ (fun xx_7 H locs ls hP hD hS hl h => ?_) ni (0 : Int32) (0 : Int32) _ _ _ hP hD hS (lv_sub hl [3, 4, 2, 1, 0] rfl) h
  refine lv_iconst (v := (0 : Int32)) hx hb dX6_many_37 (by decide) ?_
  refine lv_istore (lv' := [(4, .int (0 : Int32)), (0, .ref (ab 0)), (1, .int a_1), (2, .int xx_7), (3, .int (0 : Int32))]) hx hb dX6_many_38 hl (by decide) rfl (fun ls hl => ?_)
  obtain ⟨ni, h⟩ := h
  have lp_40 : ∀ (kk : Int32 → Prop), (∀ (xx_14 : Int32) (H : Heap) (locs : List Loc) (ls : Array Slot), va_P (dC, dI) vwCl (wm_u cyI cyJ ab n_fault n_things n_kindOf n_digitOf n_follows n_ifOf n_thenOf n_listOf n_breathOf n_heardOf n_readAt n_readThings n_readFollows n_readKind n_readDigit n_readIf n_readThen n_readings n_readingIn n_readingHour n_readingOf n_breathWas n_sheetSize n_sheetLane n_sheet n_hands n_traceNow) H → va_D A (wm_u cyI cyJ ab n_fault n_things n_kindOf n_digitOf n_follows n_ifOf n_thenOf n_listOf n_breathOf n_heardOf n_readAt n_readThings n_readFollows n_readKind n_readDigit n_readIf n_readThen n_readings n_readingIn n_readingHour n_readingOf n_breathWas n_sheetSize n_sheetLane n_sheet n_hands n_traceNow) → va_S A s.heap H locs → lv_has ls 5 [(0, .ref (ab 0)), (1, .int a_1), (2, .int xx_7), (3, .int xx_14)] → kk xx_14 → W p l e (xq_R 3 69) s m args below meth c H locs 0 0 Q (F0 m 78 ls [])) → ∀ (ni : Nat) (aa_12 : Int32) (aa_13 : Int32) (H : Heap) (locs : List Loc) (ls : Array Slot), va_P (dC, dI) vwCl (wm_u cyI cyJ ab n_fault n_things n_kindOf n_digitOf n_follows n_ifOf n_thenOf n_listOf n_breathOf n_heardOf n_readAt n_readThings n_readFollows n_readKind n_readDigit n_readIf n_readThen n_readings n_readingIn n_readingHour n_readingOf n_breathWas n_sheetSize n_sheetLane n_sheet n_hands n_traceNow) H → va_D A (wm_u cyI cyJ ab n_fault n_things n_kindOf n_digitOf n_follows n_ifOf n_thenOf n_listOf n_breathOf n_heardOf n_readAt n_readThings n_readFollows n_readKind n_readDigit n_readIf n_readThen n_readings n_readingIn n_readingHour n_readingOf n_breathWas n_sheetSize n_sheetLane n_sheet n_hands n_traceNow) → va_S A s.heap H locs → lv_has ls 5 [(0, .ref (ab 0)), (1, .int a_1), (2, .int xx_7), (3, .int aa_12), (4, .int aa_13)] → w_X6_many_L40 a_1 xx_7 n_things n_follows n_ifOf n_thenOf n_heardOf n_readings post kk ni aa_12 aa_13 → W p l e (xq_R 3 69) s m args below meth c H locs 0 0 Q (F0 m 40 ls []) := by
    intro kk kx ni
    induction ni with
    | zero => intros; exact False.elim (by assumption)
    | succ ni ih =>
      intro aa_12 aa_13 H locs ls hP hD hS hl h
      rw [w_X6_many_L40] at h
      refine lv_iload hx hb dX6_many_40 (lv_at hl 4 rfl) ?_
      refine lv_bipush (v := (6 : Int32)) hx hb dX6_many_42 (by decide) ?_
      refine lv_icmp_ge (tgt := 78) hx hb dX6_many_44 (by decide) (fun hc_22 => ?_) (fun hc_22 => ?_)
      · have h := h.1 hc_22
        exact kx aa_12 _ _ _ hP hD hS (lv_sub hl [0, 1, 2, 3] rfl) h
      · have h := h.2 hc_22
        refine lv_aload_n hx hb dX6_many_47 rfl (lv_at hl 0 rfl) ?_
        refine va_get (D := (dC, dI)) (ci := 6) (v := .int n_things) (C := RX6) (T := TX6) (N := 27) hx hb hts hi_X6 hown hK hP 0 rfl rfl 1 (by decide) fl_98 (fun _ h9 => h9) rfl dX6_many_48 ?_
        refine lv_if_le (tgt := 78) hx hb dX6_many_51 (by decide) (fun hc_21 => ?_) (fun hc_21 => ?_)
        · have h := h.1 hc_21
          exact kx aa_12 _ _ _ hP hD hS (lv_sub hl [0, 1, 2, 3] rfl) h
        · have h := h.2 hc_21
          refine lv_iload_n hx hb dX6_many_54 rfl (lv_at hl 3 rfl) ?_
          refine lv_aload_n hx hb dX6_many_55 rfl (lv_at hl 0 rfl) ?_
          refine va_get (D := (dC, dI)) (ci := 6) (v := .ref (ab 7)) (C := RX6) (T := TX6) (N := 27) hx hb hts hi_X6 hown hK hP 0 rfl rfl 9 (by decide) fl_28 (fun _ h9 => h9) rfl dX6_many_56 ?_
          refine lv_iload hx hb dX6_many_59 (lv_at hl 4 rfl) ?_
          obtain ⟨hv_19, h⟩ := h
          refine va_iald hx hb hK hP 7 0 rfl rfl hv_19 dX6_many_61 ?_
          refine lv_if_lt (tgt := 69) hx hb dX6_many_62 (by decide) (fun hc_20 => ?_) (fun hc_20 => ?_)
          · have h := h.1 hc_20
            refine lv_iconst (v := (0 : Int32)) hx hb dX6_many_69 (by decide) ?_
            refine lv_iadd hx hb dX6_many_70 ?_
            refine lv_istore_n (lv' := [(3, .int (aa_12 + (0 : Int32))), (0, .ref (ab 0)), (1, .int a_1), (2, .int xx_7), (4, .int aa_13)]) hx hb dX6_many_71 rfl hl (by decide) rfl (fun ls hl => ?_)
            refine lv_iinc (v := (aa_13 + (1 : Int32))) (lv' := [(4, .int (aa_13 + (1 : Int32))), (3, .int (aa_12 + (0 : Int32))), (0, .ref (ab 0)), (1, .int a_1), (2, .int xx_7)]) hx hb dX6_many_72 hl (k := 4) rfl rfl (by decide) rfl (fun ls hl => ?_)
            refine lv_goto (tgt := 40) hx hb dX6_many_75 (by decide) ?_
            exact ih (aa_12 + (0 : Int32)) (aa_13 + (1 : Int32)) _ _ _ hP hD hS (lv_sub hl [2, 3, 4, 1, 0] rfl) h
          · have h := h.2 hc_20
            refine lv_iconst (v := (1 : Int32)) hx hb dX6_many_65 (by decide) ?_
            refine lv_goto (tgt := 70) hx hb dX6_many_66 (by decide) ?_
            refine lv_iadd hx hb dX6_many_70 ?_
            refine lv_istore_n (lv' := [(3, .int (aa_12 + (1 : Int32))), (0, .ref (ab 0)), (1, .int a_1), (2, .int xx_7), (4, .int aa_13)]) hx hb dX6_many_71 rfl hl (by decide) rfl (fun ls hl => ?_)
            refine lv_iinc (v := (aa_13 + (1 : Int32))) (lv' := [(4, .int (aa_13 + (1 : Int32))), (3, .int (aa_12 + (1 : Int32))), (0, .ref (ab 0)), (1, .int a_1), (2, .int xx_7)]) hx hb dX6_many_72 hl (k := 4) rfl rfl (by decide) rfl (fun ls hl => ?_)
            refine lv_goto (tgt := 40) hx hb dX6_many_75 (by decide) ?_
            exact ih (aa_12 + (1 : Int32)) (aa_13 + (1 : Int32)) _ _ _ hP hD hS (lv_sub hl [2, 3, 4, 1, 0] rfl) h
  refine lp_40 _ (fun xx_14 H locs ls hP hD hS hl h => ?_) ni (0 : Int32) (0 : Int32) _ _ _ hP hD hS (lv_sub hl [1, 2, 3, 4, 0] rfl) h
  refine lv_iload_n hx hb dX6_many_78 rfl (lv_at hl 1 rfl) ?_
  rcases Decidable.em (a_1 = (0 : Int32)) with hc_15 | hc_15
  · have h := h.1 hc_15
    refine lv_tableIn (off := 29) (tgt := 108) hx hb dX6_many_79 (by rw [hc_15]; decide) (by rw [hc_15]; decide) (by rw [hc_15]; rfl) (by decide) ?_
    refine lv_aload_n hx hb dX6_many_108 rfl (lv_at hl 0 rfl) ?_
    refine va_get (D := (dC, dI)) (ci := 6) (v := .int n_things) (C := RX6) (T := TX6) (N := 27) hx hb hts hi_X6 hown hK hP 0 rfl rfl 1 (by decide) fl_98 (fun _ h9 => h9) rfl dX6_many_109 ?_
    exact xq_ri hQ hx hb hr hP hK hD hS () rfl h dX6_many_112 hlocks
  rcases Decidable.em (a_1 = (1 : Int32)) with hc_16 | hc_16
  · have h := h.2.1 hc_16
    refine lv_tableIn (off := 34) (tgt := 113) hx hb dX6_many_79 (by rw [hc_16]; decide) (by rw [hc_16]; decide) (by rw [hc_16]; rfl) (by decide) ?_
    refine lv_iload_n hx hb dX6_many_113 rfl (lv_at hl 2 rfl) ?_
    exact xq_ri hQ hx hb hr hP hK hD hS () rfl h dX6_many_114 hlocks
  rcases Decidable.em (a_1 = (2 : Int32)) with hc_17 | hc_17
  · have h := h.2.2.1 hc_17
    refine lv_tableIn (off := 36) (tgt := 115) hx hb dX6_many_79 (by rw [hc_17]; decide) (by rw [hc_17]; decide) (by rw [hc_17]; rfl) (by decide) ?_
    refine lv_iload_n hx hb dX6_many_115 rfl (lv_at hl 3 rfl) ?_
    exact xq_ri hQ hx hb hr hP hK hD hS () rfl h dX6_many_116 hlocks
  rcases Decidable.em (a_1 = (3 : Int32)) with hc_18 | hc_18
  · have h := h.2.2.2.1 hc_18
    refine lv_tableIn (off := 38) (tgt := 117) hx hb dX6_many_79 (by rw [hc_18]; decide) (by rw [hc_18]; decide) (by rw [hc_18]; rfl) (by decide) ?_
    refine lv_aload_n hx hb dX6_many_117 rfl (lv_at hl 0 rfl) ?_
    refine va_get (D := (dC, dI)) (ci := 6) (v := .int n_readings) (C := RX6) (T := TX6) (N := 27) hx hb hts hi_X6 hown hK hP 0 rfl rfl 17 (by decide) fl_141 (fun _ h9 => h9) rfl dX6_many_118 ?_
    exact xq_ri hQ hx hb hr hP hK hD hS () rfl h dX6_many_121 hlocks
  have h := h.2.2.2.2 hc_15 hc_16 hc_17 hc_18
  refine lv_tableOut (tgt := 122) hx hb dX6_many_79 (xq_sw4 hc_15 hc_16 hc_17 hc_18) (by decide) ?_
  refine lv_bipush (v := (-2 : Int32)) hx hb dX6_many_122 (by decide) ?_
  exact xq_ri hQ hx hb hr hP hK hD hS () rfl h dX6_many_124 hlocks
def w_X6_night_L51 (a_1 : Int32) (a_3 : Int32) (a_4 : Int32) (n_fault : Int32) (n_things : Int32) (n_kindOf : Nat → Int32) (n_follows : Int32) (n_ifOf : Nat → Int32) (n_thenOf : Nat → Int32) (n_listOf : Nat → Int32) (n_breathOf : Nat → Int32) (n_breathWas : Nat → Int32) (n_sheetSize : Nat → Int32) (n_sheetLane : Nat → Int32) (n_sheet : Nat → Int32) (post : Int32 → Int32 → (Nat → Int32) → (Nat → Int32) → Prop) (kk : Int32 → Prop) : Nat → Int32 → Int32 → Prop
  | 0, _, _ => False
  | f_51 + 1, a_6, a_7 => (a_4 ≤ a_7 → (kk a_6)) ∧ (¬ a_4 ≤ a_7 → ((a_6 = 0 → (kk a_6)) ∧ (¬ a_6 = 0 → ((vp_in ((((60 : Int32) * a_1) + a_3) + a_7) 240) ∧ (w_X6_in (Int32.toInt64 (n_sheet ((((60 : Int32) * a_1) + a_3) + a_7).toNatClampNeg)) (0 : Int64) (18 : Int64) (fun (rr_4 : Int32) => w_X6_night_L51 a_1 a_3 a_4 n_fault n_things n_kindOf n_follows n_ifOf n_thenOf n_listOf n_breathOf n_breathWas n_sheetSize n_sheetLane n_sheet post kk f_51 rr_4 (a_7 + (1 : Int32))))))))
def w_X6_night_L108 (a_1 : Int32) (a_3 : Int32) (a_4 : Int32) (n_fault : Int32) (n_things : Int32) (n_kindOf : Nat → Int32) (n_follows : Int32) (n_ifOf : Nat → Int32) (n_thenOf : Nat → Int32) (n_listOf : Nat → Int32) (n_sheetSize : Nat → Int32) (n_sheetLane : Nat → Int32) (n_sheet : Nat → Int32) (post : Int32 → Int32 → (Nat → Int32) → (Nat → Int32) → Prop) (kk : (Nat → Int32) → (Nat → Int32) → Prop) : Nat → Int32 → (Nat → Int32) → (Nat → Int32) → Prop
  | 0, _, _, _ => False
  | f_108 + 1, a_7, n_breathOf, n_breathWas => (a_4 ≤ a_7 → (kk n_breathOf n_breathWas)) ∧ (¬ a_4 ≤ a_7 → ((vp_in a_7 6) ∧ ((vp_in a_7 6) ∧ ((vp_in ((((60 : Int32) * a_1) + a_3) + a_7) 240) ∧ ((vp_in a_7 6) ∧ (w_X6_night_L108 a_1 a_3 a_4 n_fault n_things n_kindOf n_follows n_ifOf n_thenOf n_listOf n_sheetSize n_sheetLane n_sheet post kk f_108 (a_7 + (1 : Int32)) (upd n_breathOf a_7.toNatClampNeg (n_sheet ((((60 : Int32) * a_1) + a_3) + a_7).toNatClampNeg)) (upd n_breathWas a_7.toNatClampNeg (n_breathOf a_7.toNatClampNeg))))))))
def w_X6_night_L167 (a_4 : Int32) (a_7 : Int32) (n_fault : Int32) (n_things : Int32) (n_kindOf : Nat → Int32) (n_follows : Int32) (n_ifOf : Nat → Int32) (n_thenOf : Nat → Int32) (n_listOf : Nat → Int32) (n_breathWas : Nat → Int32) (n_sheetSize : Nat → Int32) (n_sheetLane : Nat → Int32) (n_sheet : Nat → Int32) (post : Int32 → Int32 → (Nat → Int32) → (Nat → Int32) → Prop) (kk : (Nat → Int32) → Prop) : Nat → Int32 → (Nat → Int32) → Prop
  | 0, _, _ => False
  | f_167 + 1, a_8, n_breathOf => (a_4 ≤ a_8 → (kk n_breathOf)) ∧ (¬ a_4 ≤ a_8 → ((vp_in a_8 6) ∧ ((vp_in a_8 6) ∧ (w_X6_night_L167 a_4 a_7 n_fault n_things n_kindOf n_follows n_ifOf n_thenOf n_listOf n_breathWas n_sheetSize n_sheetLane n_sheet post kk f_167 (a_8 + (1 : Int32)) (upd n_breathOf a_8.toNatClampNeg (n_breathWas a_8.toNatClampNeg))))))
def w_X6_night (n_fault : Int32) (n_things : Int32) (n_kindOf : Nat → Int32) (n_follows : Int32) (n_ifOf : Nat → Int32) (n_thenOf : Nat → Int32) (n_listOf : Nat → Int32) (n_breathOf : Nat → Int32) (n_breathWas : Nat → Int32) (n_sheetSize : Nat → Int32) (n_sheetLane : Nat → Int32) (n_sheet : Nat → Int32) (a_1 : Int32) (a_2 : Int32) (a_3 : Int32) (a_4 : Int32) (post : Int32 → Int32 → (Nat → Int32) → (Nat → Int32) → Prop) : Prop := w_X6_barred n_fault n_sheetSize n_sheetLane a_1 a_2 a_3 (Int32.toInt64 a_4) (fun (rr_1 : Int32) (cc_2 : Int32) => (0 ≤ rr_1 → ((¬ n_things = 0 → (((6 : Int32) < a_4 → (∃ e_51, w_X6_night_L51 a_1 a_3 a_4 cc_2 n_things n_kindOf n_follows n_ifOf n_thenOf n_listOf n_breathOf n_breathWas n_sheetSize n_sheetLane n_sheet post (fun (xx_10 : Int32) => (¬ xx_10 = 0 → (∃ e_108, w_X6_night_L108 a_1 a_3 a_4 cc_2 n_things n_kindOf n_follows n_ifOf n_thenOf n_listOf n_sheetSize n_sheetLane n_sheet post (fun (xx_19 : Nat → Int32) (xx_20 : Nat → Int32) => w_X6_partsBy n_things n_kindOf n_follows n_ifOf n_thenOf n_listOf xx_19 a_4 (fun (rr_21 : Int32) => ∃ e_167, w_X6_night_L167 a_4 rr_21 cc_2 n_things n_kindOf n_follows n_ifOf n_thenOf n_listOf xx_20 n_sheetSize n_sheetLane n_sheet post (fun (xx_27 : Nat → Int32) => w_X6_refused cc_2 rr_21 (fun (rr_28 : Int32) (cc_29 : Int32) => post rr_28 cc_29 xx_27 xx_20)) e_167 (0 : Int32) xx_19)) e_108 (0 : Int32) n_breathOf n_breathWas)) ∧ (xx_10 = 0 → (w_X6_refused cc_2 (-2 : Int32) (fun (rr_40 : Int32) (cc_41 : Int32) => post rr_40 cc_41 n_breathOf n_breathWas)))) e_51 (0 : Int32) (0 : Int32))) ∧ (¬ (6 : Int32) < a_4 → (∃ e_51, w_X6_night_L51 a_1 a_3 a_4 cc_2 n_things n_kindOf n_follows n_ifOf n_thenOf n_listOf n_breathOf n_breathWas n_sheetSize n_sheetLane n_sheet post (fun (xx_51 : Int32) => (¬ xx_51 = 0 → (∃ e_108, w_X6_night_L108 a_1 a_3 a_4 cc_2 n_things n_kindOf n_follows n_ifOf n_thenOf n_listOf n_sheetSize n_sheetLane n_sheet post (fun (xx_55 : Nat → Int32) (xx_56 : Nat → Int32) => w_X6_partsBy n_things n_kindOf n_follows n_ifOf n_thenOf n_listOf xx_55 a_4 (fun (rr_57 : Int32) => ∃ e_167, w_X6_night_L167 a_4 rr_57 cc_2 n_things n_kindOf n_follows n_ifOf n_thenOf n_listOf xx_56 n_sheetSize n_sheetLane n_sheet post (fun (xx_60 : Nat → Int32) => w_X6_refused cc_2 rr_57 (fun (rr_61 : Int32) (cc_62 : Int32) => post rr_61 cc_62 xx_60 xx_56)) e_167 (0 : Int32) xx_55)) e_108 (0 : Int32) n_breathOf n_breathWas)) ∧ (xx_51 = 0 → (w_X6_refused cc_2 (-2 : Int32) (fun (rr_73 : Int32) (cc_74 : Int32) => post rr_73 cc_74 n_breathOf n_breathWas)))) e_51 (1 : Int32) (0 : Int32))))) ∧ (n_things = 0 → (w_X6_refused cc_2 (-3 : Int32) (fun (rr_83 : Int32) (cc_84 : Int32) => post rr_83 cc_84 n_breathOf n_breathWas))))) ∧ (¬ 0 ≤ rr_1 → (post rr_1 cc_2 n_breathOf n_breathWas)))
set_option maxHeartbeats 4000000 in
set_option maxRecDepth 100000 in
theorem m_X6_night (l : Launch) (dC : Nat → ClassId) (dI : Nat → Nat → Nat) (cyI cyJ : ClassId) (ab : Nat → Nat) (sz : Nat) {n_fault : Int32} {n_things : Int32} {n_kindOf : Nat → Int32} {n_digitOf : Nat → Int32} {n_follows : Int32} {n_ifOf : Nat → Int32} {n_thenOf : Nat → Int32} {n_listOf : Nat → Int32} {n_breathOf : Nat → Int32} {n_heardOf : Nat → Int32} {n_readAt : Int32} {n_readThings : Int32} {n_readFollows : Int32} {n_readKind : Nat → Int32} {n_readDigit : Nat → Int32} {n_readIf : Nat → Int32} {n_readThen : Nat → Int32} {n_readings : Int32} {n_readingIn : Nat → Int32} {n_readingHour : Nat → Int32} {n_readingOf : Nat → Int32} {n_breathWas : Nat → Int32} {n_sheetSize : Nat → Int32} {n_sheetLane : Nat → Int32} {n_sheet : Nat → Int32} {n_hands : Nat → Int32} {n_traceNow : Int32} {a_1 : Int32} {a_2 : Int32} {a_3 : Int32} {a_4 : Int32} {post : Int32 → Int32 → (Nat → Int32) → (Nat → Int32) → Prop} (h : w_X6_night n_fault n_things n_kindOf n_follows n_ifOf n_thenOf n_listOf n_breathOf n_breathWas n_sheetSize n_sheetLane n_sheet a_1 a_2 a_3 a_4 post) : Met l yX6_night wsX6_night (xq_R 5 122) (va_Pc [.ref (ab 0), .int a_1, .int a_2, .int a_3, .int a_4] (xq_P (dC, dI) [(cyI, .int), (cyJ, .long)] (wm_u cyI cyJ ab n_fault n_things n_kindOf n_digitOf n_follows n_ifOf n_thenOf n_listOf n_breathOf n_heardOf n_readAt n_readThings n_readFollows n_readKind n_readDigit n_readIf n_readThen n_readings n_readingIn n_readingHour n_readingOf n_breathWas n_sheetSize n_sheetLane n_sheet n_hands n_traceNow) sz)) (va_Qi (fun (rr : Int32) (uu : Int32 × (Nat → Int32) × (Nat → Int32)) => post rr uu.1 uu.2.1 uu.2.2) (fun (uu : Int32 × (Nat → Int32) × (Nat → Int32)) => xq_B (dC, dI) [(cyI, .int), (cyJ, .long)] (va_A (wm_u cyI cyJ ab n_fault n_things n_kindOf n_digitOf n_follows n_ifOf n_thenOf n_listOf n_breathOf n_heardOf n_readAt n_readThings n_readFollows n_readKind n_readDigit n_readIf n_readThen n_readings n_readingIn n_readingHour n_readingOf n_breathWas n_sheetSize n_sheetLane n_sheet n_hands n_traceNow) sz) (wm_u cyI cyJ ab uu.1 n_things n_kindOf n_digitOf n_follows n_ifOf n_thenOf n_listOf uu.2.1 n_heardOf n_readAt n_readThings n_readFollows n_readKind n_readDigit n_readIf n_readThen n_readings n_readingIn n_readingHour n_readingOf uu.2.2 n_sheetSize n_sheetLane n_sheet n_hands n_traceNow)) (va_A (wm_u cyI cyJ ab n_fault n_things n_kindOf n_digitOf n_follows n_ifOf n_thenOf n_listOf n_breathOf n_heardOf n_readAt n_readThings n_readFollows n_readKind n_readDigit n_readIf n_readThen n_readings n_readingIn n_readingHour n_readingOf n_breathWas n_sheetSize n_sheetLane n_sheet n_hands n_traceNow) sz)) 0 0 (va_A (wm_u cyI cyJ ab n_fault n_things n_kindOf n_digitOf n_follows n_ifOf n_thenOf n_listOf n_breathOf n_heardOf n_readAt n_readThings n_readFollows n_readKind n_readDigit n_readIf n_readThen n_readings n_readingIn n_readingHour n_readingOf n_breathWas n_sheetSize n_sheetLane n_sheet n_hands n_traceNow) sz) := by
  refine xq_M (cc := cX6_night) (maxL := 9) (ret := (some .int)) (QA := fun A => va_Qi (fun (rr : Int32) (uu : Int32 × (Nat → Int32) × (Nat → Int32)) => post rr uu.1 uu.2.1 uu.2.2) (fun (uu : Int32 × (Nat → Int32) × (Nat → Int32)) => xq_B (dC, dI) [(cyI, .int), (cyJ, .long)] A (wm_u cyI cyJ ab uu.1 n_things n_kindOf n_digitOf n_follows n_ifOf n_thenOf n_listOf uu.2.1 n_heardOf n_readAt n_readThings n_readFollows n_readKind n_readDigit n_readIf n_readThen n_readings n_readingIn n_readingHour n_readingOf uu.2.2 n_sheetSize n_sheetLane n_sheet n_hands n_traceNow)) A) (by decide) rfl (Nat.le_of_ble_eq_true rfl) ?_
  intro p e s m args below meth c A ls Q hQ hx hb hr hml hts hown hlocks hsz hP hK hD hA hS hN hl
  subst hsz
  have hl : lv_has ls 9 [(0, .ref (ab 0)), (1, .int a_1), (2, .int a_2), (3, .int a_3), (4, .int a_4)] := hl
  have hi_X6 : ∀ w ∈ wsX60, w ∈ wsX6_night := fun _ h => List.mem_cons_of_mem _ (List.mem_append_right _ h)
  have fl_25 := hts (.fieldLink RX6 25 "UnsaidCallsModel" "breathOf" "[I") (by decide +kernel)
  have fl_52 := hts (.fieldLink RX6 52 "UnsaidCallsModel" "breathWas" "[I") (by decide +kernel)
  have fl_61 := hts (.fieldLink RX6 61 "UnsaidCallsModel" "sheet" "[I") (by decide +kernel)
  have fl_98 := hts (.fieldLink RX6 98 "UnsaidCallsModel" "things" "I") (by decide +kernel)
  unfold w_X6_night at h
  refine lv_aload_n hx hb dX6_night_0 rfl (lv_at hl 0 rfl) ?_
  refine lv_iload_n hx hb dX6_night_1 rfl (lv_at hl 1 rfl) ?_
  refine lv_iload_n hx hb dX6_night_2 rfl (lv_at hl 2 rfl) ?_
  refine lv_iload_n hx hb dX6_night_3 rfl (lv_at hl 3 rfl) ?_
  refine lv_iload hx hb dX6_night_4 (lv_at hl 4 rfl) ?_
  refine lv_i2l (v := (Int32.toInt64 a_4)) hx hb dX6_night_6 rfl ?_
  refine xq_ci (va_runV (As := [.int a_1, .int a_2, .int a_3, .long (Int32.toInt64 a_4)]) (rest := []) ⟨hx, hb, hml, hown, hts⟩ (m_X6_barred l dC dI cyI cyJ ab s.heap.size h) (cwV 4 hts gX6_night_X6_barred rfl rfl rfl (by decide +kernel) ⟨Nat.le_of_ble_eq_true rfl, Nat.le_of_ble_eq_true rfl⟩) (xq_preV hK hP hD hN (ci := 6) (q0 := 0) rfl rfl) rfl rfl hl.1 rfl (lv_room (Nat.le_of_ble_eq_true rfl)) dX6_night_7 ⟨Nat.le_refl _, Nat.le_refl _⟩) hD hS hA (fun rr_1 uu H locs h hP hD hS => ?_)
  obtain ⟨cc_2, rfl⟩ : ∃ z, z = uu := ⟨_, rfl⟩
  have hP : va_P (dC, dI) vwCl (wm_u cyI cyJ ab cc_2 n_things n_kindOf n_digitOf n_follows n_ifOf n_thenOf n_listOf n_breathOf n_heardOf n_readAt n_readThings n_readFollows n_readKind n_readDigit n_readIf n_readThen n_readings n_readingIn n_readingHour n_readingOf n_breathWas n_sheetSize n_sheetLane n_sheet n_hands n_traceNow) H := hP
  have hD : va_D A (wm_u cyI cyJ ab cc_2 n_things n_kindOf n_digitOf n_follows n_ifOf n_thenOf n_listOf n_breathOf n_heardOf n_readAt n_readThings n_readFollows n_readKind n_readDigit n_readIf n_readThen n_readings n_readingIn n_readingHour n_readingOf n_breathWas n_sheetSize n_sheetLane n_sheet n_hands n_traceNow) := hD
  refine lv_istore (lv' := [(5, .int rr_1), (0, .ref (ab 0)), (1, .int a_1), (2, .int a_2), (3, .int a_3), (4, .int a_4)]) hx hb dX6_night_10 hl (by decide) rfl (fun ls hl => ?_)
  refine lv_iload hx hb dX6_night_12 (lv_at hl 0 rfl) ?_
  refine lv_if_ge (tgt := 20) hx hb dX6_night_14 (by decide) (fun hc_87 => ?_) (fun hc_87 => ?_)
  · have h := h.1 hc_87
    refine lv_aload_n hx hb dX6_night_20 rfl (lv_at hl 1 rfl) ?_
    refine va_get (D := (dC, dI)) (ci := 6) (v := .int n_things) (C := RX6) (T := TX6) (N := 27) hx hb hts hi_X6 hown hK hP 0 rfl rfl 1 (by decide) fl_98 (fun _ h9 => h9) rfl dX6_night_21 ?_
    refine lv_if_ne (tgt := 34) hx hb dX6_night_24 (by decide) (fun hc_86 => ?_) (fun hc_86 => ?_)
    · have h := h.1 hc_86
      refine lv_iload hx hb dX6_night_34 (lv_at hl 5 rfl) ?_
      refine lv_bipush (v := (6 : Int32)) hx hb dX6_night_36 (by decide) ?_
      refine lv_icmp_gt (tgt := 45) hx hb dX6_night_38 (by decide) (fun hc_82 => ?_) (fun hc_82 => ?_)
      · have h := h.1 hc_82
        refine lv_iconst (v := (0 : Int32)) hx hb dX6_night_45 (by decide) ?_
        refine lv_istore (lv' := [(6, .int (0 : Int32)), (5, .int rr_1), (0, .ref (ab 0)), (1, .int a_1), (2, .int a_2), (3, .int a_3), (4, .int a_4)]) hx hb dX6_night_46 hl (by decide) rfl (fun ls hl => ?_)
        refine lv_iconst (v := (0 : Int32)) hx hb dX6_night_48 (by decide) ?_
        refine lv_istore (lv' := [(7, .int (0 : Int32)), (6, .int (0 : Int32)), (5, .int rr_1), (0, .ref (ab 0)), (1, .int a_1), (2, .int a_2), (3, .int a_3), (4, .int a_4)]) hx hb dX6_night_49 hl (by decide) rfl (fun ls hl => ?_)
        obtain ⟨ni, h⟩ := h
        have lp_51 : ∀ (kk : Int32 → Prop), (∀ (xx_10 : Int32) (H : Heap) (locs : List Loc) (ls : Array Slot), va_P (dC, dI) vwCl (wm_u cyI cyJ ab cc_2 n_things n_kindOf n_digitOf n_follows n_ifOf n_thenOf n_listOf n_breathOf n_heardOf n_readAt n_readThings n_readFollows n_readKind n_readDigit n_readIf n_readThen n_readings n_readingIn n_readingHour n_readingOf n_breathWas n_sheetSize n_sheetLane n_sheet n_hands n_traceNow) H → va_D A (wm_u cyI cyJ ab cc_2 n_things n_kindOf n_digitOf n_follows n_ifOf n_thenOf n_listOf n_breathOf n_heardOf n_readAt n_readThings n_readFollows n_readKind n_readDigit n_readIf n_readThen n_readings n_readingIn n_readingHour n_readingOf n_breathWas n_sheetSize n_sheetLane n_sheet n_hands n_traceNow) → va_S A s.heap H locs → lv_has ls 9 [(0, .ref (ab 0)), (1, .int a_1), (3, .int a_3), (4, .int a_4), (6, .int xx_10)] → kk xx_10 → W p l e (xq_R 5 122) s m args below meth c H locs 0 0 Q (F0 m 93 ls [])) → ∀ (ni : Nat) (aa_8 : Int32) (aa_9 : Int32) (H : Heap) (locs : List Loc) (ls : Array Slot), va_P (dC, dI) vwCl (wm_u cyI cyJ ab cc_2 n_things n_kindOf n_digitOf n_follows n_ifOf n_thenOf n_listOf n_breathOf n_heardOf n_readAt n_readThings n_readFollows n_readKind n_readDigit n_readIf n_readThen n_readings n_readingIn n_readingHour n_readingOf n_breathWas n_sheetSize n_sheetLane n_sheet n_hands n_traceNow) H → va_D A (wm_u cyI cyJ ab cc_2 n_things n_kindOf n_digitOf n_follows n_ifOf n_thenOf n_listOf n_breathOf n_heardOf n_readAt n_readThings n_readFollows n_readKind n_readDigit n_readIf n_readThen n_readings n_readingIn n_readingHour n_readingOf n_breathWas n_sheetSize n_sheetLane n_sheet n_hands n_traceNow) → va_S A s.heap H locs → lv_has ls 9 [(0, .ref (ab 0)), (1, .int a_1), (3, .int a_3), (4, .int a_4), (6, .int aa_8), (7, .int aa_9)] → w_X6_night_L51 a_1 a_3 a_4 cc_2 n_things n_kindOf n_follows n_ifOf n_thenOf n_listOf n_breathOf n_breathWas n_sheetSize n_sheetLane n_sheet post kk ni aa_8 aa_9 → W p l e (xq_R 5 122) s m args below meth c H locs 0 0 Q (F0 m 51 ls []) := by
          intro kk kx ni
          induction ni with
          | zero => intros; exact False.elim (by assumption)
          | succ ni ih =>
            intro aa_8 aa_9 H locs ls hP hD hS hl h
            rw [w_X6_night_L51] at h
            refine lv_iload hx hb dX6_night_51 (lv_at hl 5 rfl) ?_
            refine lv_iload hx hb dX6_night_53 (lv_at hl 3 rfl) ?_
            refine lv_icmp_ge (tgt := 93) hx hb dX6_night_55 (by decide) (fun hc_48 => ?_) (fun hc_48 => ?_)
            · have h := h.1 hc_48
              exact kx aa_8 _ _ _ hP hD hS (lv_sub hl [0, 1, 2, 3, 4] rfl) h
            · have h := h.2 hc_48
              refine lv_iload hx hb dX6_night_58 (lv_at hl 4 rfl) ?_
              refine lv_if_eq (tgt := 93) hx hb dX6_night_60 (by decide) (fun hc_47 => ?_) (fun hc_47 => ?_)
              · have h := h.1 hc_47
                exact kx aa_8 _ _ _ hP hD hS (lv_sub hl [0, 1, 2, 3, 4] rfl) h
              · have h := h.2 hc_47
                refine lv_aload_n hx hb dX6_night_63 rfl (lv_at hl 0 rfl) ?_
                refine va_get (D := (dC, dI)) (ci := 6) (v := .ref (ab 18)) (C := RX6) (T := TX6) (N := 27) hx hb hts hi_X6 hown hK hP 0 rfl rfl 24 (by decide) fl_61 (fun _ h9 => h9) rfl dX6_night_64 ?_
                refine lv_bipush (v := (60 : Int32)) hx hb dX6_night_67 (by decide) ?_
                refine lv_iload_n hx hb dX6_night_69 rfl (lv_at hl 1 rfl) ?_
                refine lv_imul hx hb dX6_night_70 ?_
                refine lv_iload_n hx hb dX6_night_71 rfl (lv_at hl 2 rfl) ?_
                refine lv_iadd hx hb dX6_night_72 ?_
                refine lv_iload hx hb dX6_night_73 (lv_at hl 5 rfl) ?_
                refine lv_iadd hx hb dX6_night_75 ?_
                obtain ⟨hv_44, h⟩ := h
                refine va_iald hx hb hK hP 18 0 rfl rfl hv_44 dX6_night_76 ?_
                refine lv_i2l (v := (Int32.toInt64 (n_sheet ((((60 : Int32) * a_1) + a_3) + aa_9).toNatClampNeg))) hx hb dX6_night_77 rfl ?_
                refine lv_lconst (v := (0 : Int64)) hx hb dX6_night_78 (by decide) ?_
                refine lv_ldc2 (v := (18 : Int64)) hx hb hown (hts (.constantLong RX6 162 (18)) (by decide +kernel)) dX6_night_79 ?_
                refine xq_ci (va_runS (As := [.long (Int32.toInt64 (n_sheet ((((60 : Int32) * a_1) + a_3) + aa_9).toNatClampNeg)), .long (0 : Int64), .long (18 : Int64)]) (rest := []) ⟨hx, hb, hml, hown, hts⟩ (m_X6_in l dC dI cyI cyJ (wm_u cyI cyJ ab cc_2 n_things n_kindOf n_digitOf n_follows n_ifOf n_thenOf n_listOf n_breathOf n_heardOf n_readAt n_readThings n_readFollows n_readKind n_readDigit n_readIf n_readThen n_readings n_readingIn n_readingHour n_readingOf n_breathWas n_sheetSize n_sheetLane n_sheet n_hands n_traceNow) H.size h) (va_cwS 3 hts gX6_night_X6_in rfl rfl rfl (by decide +kernel) ⟨Nat.le_of_ble_eq_true rfl, Nat.le_of_ble_eq_true rfl⟩) (xq_preS hK hP hD hN) rfl rfl hl.1 rfl (lv_room (Nat.le_of_ble_eq_true rfl)) dX6_night_82 ⟨Nat.le_refl _, Nat.le_refl _⟩) hD hS hA (fun rr_45 uu H locs h hP hD hS => ?_)
                have hP : va_P (dC, dI) vwCl (wm_u cyI cyJ ab cc_2 n_things n_kindOf n_digitOf n_follows n_ifOf n_thenOf n_listOf n_breathOf n_heardOf n_readAt n_readThings n_readFollows n_readKind n_readDigit n_readIf n_readThen n_readings n_readingIn n_readingHour n_readingOf n_breathWas n_sheetSize n_sheetLane n_sheet n_hands n_traceNow) H := hP
                have hD : va_D A (wm_u cyI cyJ ab cc_2 n_things n_kindOf n_digitOf n_follows n_ifOf n_thenOf n_listOf n_breathOf n_heardOf n_readAt n_readThings n_readFollows n_readKind n_readDigit n_readIf n_readThen n_readings n_readingIn n_readingHour n_readingOf n_breathWas n_sheetSize n_sheetLane n_sheet n_hands n_traceNow) := hD
                refine lv_istore (lv' := [(6, .int rr_45), (0, .ref (ab 0)), (1, .int a_1), (3, .int a_3), (4, .int a_4), (7, .int aa_9)]) hx hb dX6_night_85 hl (by decide) rfl (fun ls hl => ?_)
                refine lv_iinc (v := (aa_9 + (1 : Int32))) (lv' := [(7, .int (aa_9 + (1 : Int32))), (6, .int rr_45), (0, .ref (ab 0)), (1, .int a_1), (3, .int a_3), (4, .int a_4)]) hx hb dX6_night_87 hl (k := 5) rfl rfl (by decide) rfl (fun ls hl => ?_)
                refine lv_goto (tgt := 51) hx hb dX6_night_90 (by decide) ?_
                exact ih rr_45 (aa_9 + (1 : Int32)) _ _ _ hP hD hS (lv_sub hl [2, 3, 4, 5, 1, 0] rfl) h
        refine lp_51 _ (fun xx_10 H locs ls hP hD hS hl h => ?_) ni (0 : Int32) (0 : Int32) _ _ _ hP hD hS (lv_sub hl [3, 4, 6, 7, 1, 0] rfl) h
        refine lv_iload hx hb dX6_night_93 (lv_at hl 4 rfl) ?_
        refine lv_if_ne (tgt := 105) hx hb dX6_night_95 (by decide) (fun hc_43 => ?_) (fun hc_43 => ?_)
        · have h := h.1 hc_43
          refine lv_iconst (v := (0 : Int32)) hx hb dX6_night_105 (by decide) ?_
          refine lv_istore (lv' := [(7, .int (0 : Int32)), (0, .ref (ab 0)), (1, .int a_1), (3, .int a_3), (4, .int a_4), (6, .int xx_10)]) hx hb dX6_night_106 hl (by decide) rfl (fun ls hl => ?_)
          obtain ⟨ni, h⟩ := h
          have lp_108 : ∀ (kk : (Nat → Int32) → (Nat → Int32) → Prop), (∀ (xx_19 : Nat → Int32) (xx_20 : Nat → Int32) (H : Heap) (locs : List Loc) (ls : Array Slot), va_P (dC, dI) vwCl (wm_u cyI cyJ ab cc_2 n_things n_kindOf n_digitOf n_follows n_ifOf n_thenOf n_listOf xx_19 n_heardOf n_readAt n_readThings n_readFollows n_readKind n_readDigit n_readIf n_readThen n_readings n_readingIn n_readingHour n_readingOf xx_20 n_sheetSize n_sheetLane n_sheet n_hands n_traceNow) H → va_D A (wm_u cyI cyJ ab cc_2 n_things n_kindOf n_digitOf n_follows n_ifOf n_thenOf n_listOf xx_19 n_heardOf n_readAt n_readThings n_readFollows n_readKind n_readDigit n_readIf n_readThen n_readings n_readingIn n_readingHour n_readingOf xx_20 n_sheetSize n_sheetLane n_sheet n_hands n_traceNow) → va_S A s.heap H locs → lv_has ls 9 [(0, .ref (ab 0)), (4, .int a_4)] → kk xx_19 xx_20 → W p l e (xq_R 5 122) s m args below meth c H locs 0 0 Q (F0 m 156 ls [])) → ∀ (ni : Nat) (aa_16 : Int32) (cc_17 : Nat → Int32) (cc_18 : Nat → Int32) (H : Heap) (locs : List Loc) (ls : Array Slot), va_P (dC, dI) vwCl (wm_u cyI cyJ ab cc_2 n_things n_kindOf n_digitOf n_follows n_ifOf n_thenOf n_listOf cc_17 n_heardOf n_readAt n_readThings n_readFollows n_readKind n_readDigit n_readIf n_readThen n_readings n_readingIn n_readingHour n_readingOf cc_18 n_sheetSize n_sheetLane n_sheet n_hands n_traceNow) H → va_D A (wm_u cyI cyJ ab cc_2 n_things n_kindOf n_digitOf n_follows n_ifOf n_thenOf n_listOf cc_17 n_heardOf n_readAt n_readThings n_readFollows n_readKind n_readDigit n_readIf n_readThen n_readings n_readingIn n_readingHour n_readingOf cc_18 n_sheetSize n_sheetLane n_sheet n_hands n_traceNow) → va_S A s.heap H locs → lv_has ls 9 [(0, .ref (ab 0)), (1, .int a_1), (3, .int a_3), (4, .int a_4), (7, .int aa_16)] → w_X6_night_L108 a_1 a_3 a_4 cc_2 n_things n_kindOf n_follows n_ifOf n_thenOf n_listOf n_sheetSize n_sheetLane n_sheet post kk ni aa_16 cc_17 cc_18 → W p l e (xq_R 5 122) s m args below meth c H locs 0 0 Q (F0 m 108 ls []) := by
            intro kk kx ni
            induction ni with
            | zero => intros; exact False.elim (by assumption)
            | succ ni ih =>
              intro aa_16 cc_17 cc_18 H locs ls hP hD hS hl h
              rw [w_X6_night_L108] at h
              refine lv_iload hx hb dX6_night_108 (lv_at hl 4 rfl) ?_
              refine lv_iload hx hb dX6_night_110 (lv_at hl 3 rfl) ?_
              refine lv_icmp_ge (tgt := 156) hx hb dX6_night_112 (by decide) (fun hc_39 => ?_) (fun hc_39 => ?_)
              · have h := h.1 hc_39
                exact kx cc_17 cc_18 _ _ _ hP hD hS (lv_sub hl [0, 3] rfl) h
              · have h := h.2 hc_39
                refine lv_aload_n hx hb dX6_night_115 rfl (lv_at hl 0 rfl) ?_
                refine va_get (D := (dC, dI)) (ci := 6) (v := .ref (ab 15)) (C := RX6) (T := TX6) (N := 27) hx hb hts hi_X6 hown hK hP 0 rfl rfl 21 (by decide) fl_52 (fun _ h9 => h9) rfl dX6_night_116 ?_
                refine lv_iload hx hb dX6_night_119 (lv_at hl 4 rfl) ?_
                refine lv_aload_n hx hb dX6_night_121 rfl (lv_at hl 0 rfl) ?_
                refine va_get (D := (dC, dI)) (ci := 6) (v := .ref (ab 6)) (C := RX6) (T := TX6) (N := 27) hx hb hts hi_X6 hown hK hP 0 rfl rfl 8 (by decide) fl_25 (fun _ h9 => h9) rfl dX6_night_122 ?_
                refine lv_iload hx hb dX6_night_125 (lv_at hl 4 rfl) ?_
                obtain ⟨hv_35, h⟩ := h
                refine va_iald hx hb hK hP 6 0 rfl rfl hv_35 dX6_night_127 ?_
                obtain ⟨hv_36, h⟩ := h
                refine va_iast hx hb hK hP hD hS 15 0 rfl rfl hv_36 dX6_night_128 (fun H locs hP hD hS => ?_)
                have hP : va_P (dC, dI) vwCl (wm_u cyI cyJ ab cc_2 n_things n_kindOf n_digitOf n_follows n_ifOf n_thenOf n_listOf cc_17 n_heardOf n_readAt n_readThings n_readFollows n_readKind n_readDigit n_readIf n_readThen n_readings n_readingIn n_readingHour n_readingOf (upd cc_18 aa_16.toNatClampNeg (cc_17 aa_16.toNatClampNeg)) n_sheetSize n_sheetLane n_sheet n_hands n_traceNow) H := hP
                have hD : va_D A (wm_u cyI cyJ ab cc_2 n_things n_kindOf n_digitOf n_follows n_ifOf n_thenOf n_listOf cc_17 n_heardOf n_readAt n_readThings n_readFollows n_readKind n_readDigit n_readIf n_readThen n_readings n_readingIn n_readingHour n_readingOf (upd cc_18 aa_16.toNatClampNeg (cc_17 aa_16.toNatClampNeg)) n_sheetSize n_sheetLane n_sheet n_hands n_traceNow) := hD
                refine lv_aload_n hx hb dX6_night_129 rfl (lv_at hl 0 rfl) ?_
                refine va_get (D := (dC, dI)) (ci := 6) (v := .ref (ab 6)) (C := RX6) (T := TX6) (N := 27) hx hb hts hi_X6 hown hK hP 0 rfl rfl 8 (by decide) fl_25 (fun _ h9 => h9) rfl dX6_night_130 ?_
                refine lv_iload hx hb dX6_night_133 (lv_at hl 4 rfl) ?_
                refine lv_aload_n hx hb dX6_night_135 rfl (lv_at hl 0 rfl) ?_
                refine va_get (D := (dC, dI)) (ci := 6) (v := .ref (ab 18)) (C := RX6) (T := TX6) (N := 27) hx hb hts hi_X6 hown hK hP 0 rfl rfl 24 (by decide) fl_61 (fun _ h9 => h9) rfl dX6_night_136 ?_
                refine lv_bipush (v := (60 : Int32)) hx hb dX6_night_139 (by decide) ?_
                refine lv_iload_n hx hb dX6_night_141 rfl (lv_at hl 1 rfl) ?_
                refine lv_imul hx hb dX6_night_142 ?_
                refine lv_iload_n hx hb dX6_night_143 rfl (lv_at hl 2 rfl) ?_
                refine lv_iadd hx hb dX6_night_144 ?_
                refine lv_iload hx hb dX6_night_145 (lv_at hl 4 rfl) ?_
                refine lv_iadd hx hb dX6_night_147 ?_
                obtain ⟨hv_37, h⟩ := h
                refine va_iald hx hb hK hP 18 0 rfl rfl hv_37 dX6_night_148 ?_
                obtain ⟨hv_38, h⟩ := h
                refine va_iast hx hb hK hP hD hS 6 0 rfl rfl hv_38 dX6_night_149 (fun H locs hP hD hS => ?_)
                have hP : va_P (dC, dI) vwCl (wm_u cyI cyJ ab cc_2 n_things n_kindOf n_digitOf n_follows n_ifOf n_thenOf n_listOf (upd cc_17 aa_16.toNatClampNeg (n_sheet ((((60 : Int32) * a_1) + a_3) + aa_16).toNatClampNeg)) n_heardOf n_readAt n_readThings n_readFollows n_readKind n_readDigit n_readIf n_readThen n_readings n_readingIn n_readingHour n_readingOf (upd cc_18 aa_16.toNatClampNeg (cc_17 aa_16.toNatClampNeg)) n_sheetSize n_sheetLane n_sheet n_hands n_traceNow) H := hP
                have hD : va_D A (wm_u cyI cyJ ab cc_2 n_things n_kindOf n_digitOf n_follows n_ifOf n_thenOf n_listOf (upd cc_17 aa_16.toNatClampNeg (n_sheet ((((60 : Int32) * a_1) + a_3) + aa_16).toNatClampNeg)) n_heardOf n_readAt n_readThings n_readFollows n_readKind n_readDigit n_readIf n_readThen n_readings n_readingIn n_readingHour n_readingOf (upd cc_18 aa_16.toNatClampNeg (cc_17 aa_16.toNatClampNeg)) n_sheetSize n_sheetLane n_sheet n_hands n_traceNow) := hD
                refine lv_iinc (v := (aa_16 + (1 : Int32))) (lv' := [(7, .int (aa_16 + (1 : Int32))), (0, .ref (ab 0)), (1, .int a_1), (3, .int a_3), (4, .int a_4)]) hx hb dX6_night_150 hl (k := 4) rfl rfl (by decide) rfl (fun ls hl => ?_)
                refine lv_goto (tgt := 108) hx hb dX6_night_153 (by decide) ?_
                exact ih (aa_16 + (1 : Int32)) (upd cc_17 aa_16.toNatClampNeg (n_sheet ((((60 : Int32) * a_1) + a_3) + aa_16).toNatClampNeg)) (upd cc_18 aa_16.toNatClampNeg (cc_17 aa_16.toNatClampNeg)) _ _ _ hP hD hS (lv_sub hl [1, 2, 3, 4, 0] rfl) h
          refine lp_108 _ (fun xx_19 xx_20 H locs ls hP hD hS hl h => ?_) ni (0 : Int32) n_breathOf n_breathWas _ _ _ hP hD hS (lv_sub hl [1, 2, 3, 4, 0] rfl) h
          refine lv_aload_n hx hb dX6_night_156 rfl (lv_at hl 0 rfl) ?_
          refine lv_iload hx hb dX6_night_157 (lv_at hl 1 rfl) ?_
          refine xq_ci (va_runV (As := [.int a_4]) (rest := []) ⟨hx, hb, hml, hown, hts⟩ (m_X6_partsBy l dC dI cyI cyJ ab H.size h) (cwV 1 hts gX6_night_X6_partsBy rfl rfl rfl (by decide +kernel) ⟨Nat.le_of_ble_eq_true rfl, Nat.le_of_ble_eq_true rfl⟩) (xq_preV hK hP hD hN (ci := 6) (q0 := 0) rfl rfl) rfl rfl hl.1 rfl (lv_room (Nat.le_of_ble_eq_true rfl)) dX6_night_159 ⟨Nat.le_refl _, Nat.le_refl _⟩) hD hS hA (fun rr_21 uu H locs h hP hD hS => ?_)
          have hP : va_P (dC, dI) vwCl (wm_u cyI cyJ ab cc_2 n_things n_kindOf n_digitOf n_follows n_ifOf n_thenOf n_listOf xx_19 n_heardOf n_readAt n_readThings n_readFollows n_readKind n_readDigit n_readIf n_readThen n_readings n_readingIn n_readingHour n_readingOf xx_20 n_sheetSize n_sheetLane n_sheet n_hands n_traceNow) H := hP
          have hD : va_D A (wm_u cyI cyJ ab cc_2 n_things n_kindOf n_digitOf n_follows n_ifOf n_thenOf n_listOf xx_19 n_heardOf n_readAt n_readThings n_readFollows n_readKind n_readDigit n_readIf n_readThen n_readings n_readingIn n_readingHour n_readingOf xx_20 n_sheetSize n_sheetLane n_sheet n_hands n_traceNow) := hD
          refine lv_istore (lv' := [(7, .int rr_21), (0, .ref (ab 0)), (4, .int a_4)]) hx hb dX6_night_162 hl (by decide) rfl (fun ls hl => ?_)
          refine lv_iconst (v := (0 : Int32)) hx hb dX6_night_164 (by decide) ?_
          refine lv_istore (lv' := [(8, .int (0 : Int32)), (7, .int rr_21), (0, .ref (ab 0)), (4, .int a_4)]) hx hb dX6_night_165 hl (by decide) rfl (fun ls hl => ?_)
          obtain ⟨ni, h⟩ := h
          have lp_167 : ∀ (kk : (Nat → Int32) → Prop), (∀ (xx_27 : Nat → Int32) (H : Heap) (locs : List Loc) (ls : Array Slot), va_P (dC, dI) vwCl (wm_u cyI cyJ ab cc_2 n_things n_kindOf n_digitOf n_follows n_ifOf n_thenOf n_listOf xx_27 n_heardOf n_readAt n_readThings n_readFollows n_readKind n_readDigit n_readIf n_readThen n_readings n_readingIn n_readingHour n_readingOf xx_20 n_sheetSize n_sheetLane n_sheet n_hands n_traceNow) H → va_D A (wm_u cyI cyJ ab cc_2 n_things n_kindOf n_digitOf n_follows n_ifOf n_thenOf n_listOf xx_27 n_heardOf n_readAt n_readThings n_readFollows n_readKind n_readDigit n_readIf n_readThen n_readings n_readingIn n_readingHour n_readingOf xx_20 n_sheetSize n_sheetLane n_sheet n_hands n_traceNow) → va_S A s.heap H locs → lv_has ls 9 [(0, .ref (ab 0)), (7, .int rr_21)] → kk xx_27 → W p l e (xq_R 5 122) s m args below meth c H locs 0 0 Q (F0 m 194 ls [])) → ∀ (ni : Nat) (aa_25 : Int32) (cc_26 : Nat → Int32) (H : Heap) (locs : List Loc) (ls : Array Slot), va_P (dC, dI) vwCl (wm_u cyI cyJ ab cc_2 n_things n_kindOf n_digitOf n_follows n_ifOf n_thenOf n_listOf cc_26 n_heardOf n_readAt n_readThings n_readFollows n_readKind n_readDigit n_readIf n_readThen n_readings n_readingIn n_readingHour n_readingOf xx_20 n_sheetSize n_sheetLane n_sheet n_hands n_traceNow) H → va_D A (wm_u cyI cyJ ab cc_2 n_things n_kindOf n_digitOf n_follows n_ifOf n_thenOf n_listOf cc_26 n_heardOf n_readAt n_readThings n_readFollows n_readKind n_readDigit n_readIf n_readThen n_readings n_readingIn n_readingHour n_readingOf xx_20 n_sheetSize n_sheetLane n_sheet n_hands n_traceNow) → va_S A s.heap H locs → lv_has ls 9 [(0, .ref (ab 0)), (4, .int a_4), (7, .int rr_21), (8, .int aa_25)] → w_X6_night_L167 a_4 rr_21 cc_2 n_things n_kindOf n_follows n_ifOf n_thenOf n_listOf xx_20 n_sheetSize n_sheetLane n_sheet post kk ni aa_25 cc_26 → W p l e (xq_R 5 122) s m args below meth c H locs 0 0 Q (F0 m 167 ls []) := by
            intro kk kx ni
            induction ni with
            | zero => intros; exact False.elim (by assumption)
            | succ ni ih =>
              intro aa_25 cc_26 H locs ls hP hD hS hl h
              rw [w_X6_night_L167] at h
              refine lv_iload hx hb dX6_night_167 (lv_at hl 3 rfl) ?_
              refine lv_iload hx hb dX6_night_169 (lv_at hl 1 rfl) ?_
              refine lv_icmp_ge (tgt := 194) hx hb dX6_night_171 (by decide) (fun hc_33 => ?_) (fun hc_33 => ?_)
              · have h := h.1 hc_33
                exact kx cc_26 _ _ _ hP hD hS (lv_sub hl [0, 2] rfl) h
              · have h := h.2 hc_33
                refine lv_aload_n hx hb dX6_night_174 rfl (lv_at hl 0 rfl) ?_
                refine va_get (D := (dC, dI)) (ci := 6) (v := .ref (ab 6)) (C := RX6) (T := TX6) (N := 27) hx hb hts hi_X6 hown hK hP 0 rfl rfl 8 (by decide) fl_25 (fun _ h9 => h9) rfl dX6_night_175 ?_
                refine lv_iload hx hb dX6_night_178 (lv_at hl 3 rfl) ?_
                refine lv_aload_n hx hb dX6_night_180 rfl (lv_at hl 0 rfl) ?_
                refine va_get (D := (dC, dI)) (ci := 6) (v := .ref (ab 15)) (C := RX6) (T := TX6) (N := 27) hx hb hts hi_X6 hown hK hP 0 rfl rfl 21 (by decide) fl_52 (fun _ h9 => h9) rfl dX6_night_181 ?_
                refine lv_iload hx hb dX6_night_184 (lv_at hl 3 rfl) ?_
                obtain ⟨hv_31, h⟩ := h
                refine va_iald hx hb hK hP 15 0 rfl rfl hv_31 dX6_night_186 ?_
                obtain ⟨hv_32, h⟩ := h
                refine va_iast hx hb hK hP hD hS 6 0 rfl rfl hv_32 dX6_night_187 (fun H locs hP hD hS => ?_)
                have hP : va_P (dC, dI) vwCl (wm_u cyI cyJ ab cc_2 n_things n_kindOf n_digitOf n_follows n_ifOf n_thenOf n_listOf (upd cc_26 aa_25.toNatClampNeg (xx_20 aa_25.toNatClampNeg)) n_heardOf n_readAt n_readThings n_readFollows n_readKind n_readDigit n_readIf n_readThen n_readings n_readingIn n_readingHour n_readingOf xx_20 n_sheetSize n_sheetLane n_sheet n_hands n_traceNow) H := hP
                have hD : va_D A (wm_u cyI cyJ ab cc_2 n_things n_kindOf n_digitOf n_follows n_ifOf n_thenOf n_listOf (upd cc_26 aa_25.toNatClampNeg (xx_20 aa_25.toNatClampNeg)) n_heardOf n_readAt n_readThings n_readFollows n_readKind n_readDigit n_readIf n_readThen n_readings n_readingIn n_readingHour n_readingOf xx_20 n_sheetSize n_sheetLane n_sheet n_hands n_traceNow) := hD
                refine lv_iinc (v := (aa_25 + (1 : Int32))) (lv' := [(8, .int (aa_25 + (1 : Int32))), (0, .ref (ab 0)), (4, .int a_4), (7, .int rr_21)]) hx hb dX6_night_188 hl (k := 3) rfl rfl (by decide) rfl (fun ls hl => ?_)
                refine lv_goto (tgt := 167) hx hb dX6_night_191 (by decide) ?_
                exact ih (aa_25 + (1 : Int32)) (upd cc_26 aa_25.toNatClampNeg (xx_20 aa_25.toNatClampNeg)) _ _ _ hP hD hS (lv_sub hl [1, 2, 3, 0] rfl) h
          refine lp_167 _ (fun xx_27 H locs ls hP hD hS hl h => ?_) ni (0 : Int32) xx_19 _ _ _ hP hD hS (lv_sub hl [2, 3, 1, 0] rfl) h
          refine lv_aload_n hx hb dX6_night_194 rfl (lv_at hl 0 rfl) ?_
          refine lv_iload hx hb dX6_night_195 (lv_at hl 1 rfl) ?_
          refine xq_ci (va_runV (As := [.int rr_21]) (rest := []) ⟨hx, hb, hml, hown, hts⟩ (m_X6_refused l dC dI cyI cyJ ab H.size h) (cwV 1 hts gX6_night_X6_refused rfl rfl rfl (by decide +kernel) ⟨Nat.le_of_ble_eq_true rfl, Nat.le_of_ble_eq_true rfl⟩) (xq_preV hK hP hD hN (ci := 6) (q0 := 0) rfl rfl) rfl rfl hl.1 rfl (lv_room (Nat.le_of_ble_eq_true rfl)) dX6_night_197 ⟨Nat.le_refl _, Nat.le_refl _⟩) hD hS hA (fun rr_28 uu H locs h hP hD hS => ?_)
          obtain ⟨cc_29, rfl⟩ : ∃ z, z = uu := ⟨_, rfl⟩
          have hP : va_P (dC, dI) vwCl (wm_u cyI cyJ ab cc_29 n_things n_kindOf n_digitOf n_follows n_ifOf n_thenOf n_listOf xx_27 n_heardOf n_readAt n_readThings n_readFollows n_readKind n_readDigit n_readIf n_readThen n_readings n_readingIn n_readingHour n_readingOf xx_20 n_sheetSize n_sheetLane n_sheet n_hands n_traceNow) H := hP
          have hD : va_D A (wm_u cyI cyJ ab cc_29 n_things n_kindOf n_digitOf n_follows n_ifOf n_thenOf n_listOf xx_27 n_heardOf n_readAt n_readThings n_readFollows n_readKind n_readDigit n_readIf n_readThen n_readings n_readingIn n_readingHour n_readingOf xx_20 n_sheetSize n_sheetLane n_sheet n_hands n_traceNow) := hD
          exact xq_ri hQ hx hb hr hP hK hD hS (cc_29, xx_27, xx_20) rfl h dX6_night_200 hlocks
        · have h := h.2 hc_43
          refine lv_aload_n hx hb dX6_night_98 rfl (lv_at hl 0 rfl) ?_
          refine lv_bipush (v := (-2 : Int32)) hx hb dX6_night_99 (by decide) ?_
          refine xq_ci (va_runV (As := [.int (-2 : Int32)]) (rest := []) ⟨hx, hb, hml, hown, hts⟩ (m_X6_refused l dC dI cyI cyJ ab H.size h) (cwV 1 hts gX6_night_X6_refused rfl rfl rfl (by decide +kernel) ⟨Nat.le_of_ble_eq_true rfl, Nat.le_of_ble_eq_true rfl⟩) (xq_preV hK hP hD hN (ci := 6) (q0 := 0) rfl rfl) rfl rfl hl.1 rfl (lv_room (Nat.le_of_ble_eq_true rfl)) dX6_night_101 ⟨Nat.le_refl _, Nat.le_refl _⟩) hD hS hA (fun rr_40 uu H locs h hP hD hS => ?_)
          obtain ⟨cc_41, rfl⟩ : ∃ z, z = uu := ⟨_, rfl⟩
          have hP : va_P (dC, dI) vwCl (wm_u cyI cyJ ab cc_41 n_things n_kindOf n_digitOf n_follows n_ifOf n_thenOf n_listOf n_breathOf n_heardOf n_readAt n_readThings n_readFollows n_readKind n_readDigit n_readIf n_readThen n_readings n_readingIn n_readingHour n_readingOf n_breathWas n_sheetSize n_sheetLane n_sheet n_hands n_traceNow) H := hP
          have hD : va_D A (wm_u cyI cyJ ab cc_41 n_things n_kindOf n_digitOf n_follows n_ifOf n_thenOf n_listOf n_breathOf n_heardOf n_readAt n_readThings n_readFollows n_readKind n_readDigit n_readIf n_readThen n_readings n_readingIn n_readingHour n_readingOf n_breathWas n_sheetSize n_sheetLane n_sheet n_hands n_traceNow) := hD
          exact xq_ri hQ hx hb hr hP hK hD hS (cc_41, n_breathOf, n_breathWas) rfl h dX6_night_104 hlocks
      · have h := h.2 hc_82
        refine lv_iconst (v := (1 : Int32)) hx hb dX6_night_41 (by decide) ?_
        refine lv_goto (tgt := 46) hx hb dX6_night_42 (by decide) ?_
        refine lv_istore (lv' := [(6, .int (1 : Int32)), (5, .int rr_1), (0, .ref (ab 0)), (1, .int a_1), (2, .int a_2), (3, .int a_3), (4, .int a_4)]) hx hb dX6_night_46 hl (by decide) rfl (fun ls hl => ?_)
        refine lv_iconst (v := (0 : Int32)) hx hb dX6_night_48 (by decide) ?_
        refine lv_istore (lv' := [(7, .int (0 : Int32)), (6, .int (1 : Int32)), (5, .int rr_1), (0, .ref (ab 0)), (1, .int a_1), (2, .int a_2), (3, .int a_3), (4, .int a_4)]) hx hb dX6_night_49 hl (by decide) rfl (fun ls hl => ?_)
        obtain ⟨ni, h⟩ := h
        have lp_51 : ∀ (kk : Int32 → Prop), (∀ (xx_51 : Int32) (H : Heap) (locs : List Loc) (ls : Array Slot), va_P (dC, dI) vwCl (wm_u cyI cyJ ab cc_2 n_things n_kindOf n_digitOf n_follows n_ifOf n_thenOf n_listOf n_breathOf n_heardOf n_readAt n_readThings n_readFollows n_readKind n_readDigit n_readIf n_readThen n_readings n_readingIn n_readingHour n_readingOf n_breathWas n_sheetSize n_sheetLane n_sheet n_hands n_traceNow) H → va_D A (wm_u cyI cyJ ab cc_2 n_things n_kindOf n_digitOf n_follows n_ifOf n_thenOf n_listOf n_breathOf n_heardOf n_readAt n_readThings n_readFollows n_readKind n_readDigit n_readIf n_readThen n_readings n_readingIn n_readingHour n_readingOf n_breathWas n_sheetSize n_sheetLane n_sheet n_hands n_traceNow) → va_S A s.heap H locs → lv_has ls 9 [(0, .ref (ab 0)), (1, .int a_1), (3, .int a_3), (4, .int a_4), (6, .int xx_51)] → kk xx_51 → W p l e (xq_R 5 122) s m args below meth c H locs 0 0 Q (F0 m 93 ls [])) → ∀ (ni : Nat) (aa_49 : Int32) (aa_50 : Int32) (H : Heap) (locs : List Loc) (ls : Array Slot), va_P (dC, dI) vwCl (wm_u cyI cyJ ab cc_2 n_things n_kindOf n_digitOf n_follows n_ifOf n_thenOf n_listOf n_breathOf n_heardOf n_readAt n_readThings n_readFollows n_readKind n_readDigit n_readIf n_readThen n_readings n_readingIn n_readingHour n_readingOf n_breathWas n_sheetSize n_sheetLane n_sheet n_hands n_traceNow) H → va_D A (wm_u cyI cyJ ab cc_2 n_things n_kindOf n_digitOf n_follows n_ifOf n_thenOf n_listOf n_breathOf n_heardOf n_readAt n_readThings n_readFollows n_readKind n_readDigit n_readIf n_readThen n_readings n_readingIn n_readingHour n_readingOf n_breathWas n_sheetSize n_sheetLane n_sheet n_hands n_traceNow) → va_S A s.heap H locs → lv_has ls 9 [(0, .ref (ab 0)), (1, .int a_1), (3, .int a_3), (4, .int a_4), (6, .int aa_49), (7, .int aa_50)] → w_X6_night_L51 a_1 a_3 a_4 cc_2 n_things n_kindOf n_follows n_ifOf n_thenOf n_listOf n_breathOf n_breathWas n_sheetSize n_sheetLane n_sheet post kk ni aa_49 aa_50 → W p l e (xq_R 5 122) s m args below meth c H locs 0 0 Q (F0 m 51 ls []) := by
          intro kk kx ni
          induction ni with
          | zero => intros; exact False.elim (by assumption)
          | succ ni ih =>
            intro aa_49 aa_50 H locs ls hP hD hS hl h
            rw [w_X6_night_L51] at h
            refine lv_iload hx hb dX6_night_51 (lv_at hl 5 rfl) ?_
            refine lv_iload hx hb dX6_night_53 (lv_at hl 3 rfl) ?_
            refine lv_icmp_ge (tgt := 93) hx hb dX6_night_55 (by decide) (fun hc_81 => ?_) (fun hc_81 => ?_)
            · have h := h.1 hc_81
              exact kx aa_49 _ _ _ hP hD hS (lv_sub hl [0, 1, 2, 3, 4] rfl) h
            · have h := h.2 hc_81
              refine lv_iload hx hb dX6_night_58 (lv_at hl 4 rfl) ?_
              refine lv_if_eq (tgt := 93) hx hb dX6_night_60 (by decide) (fun hc_80 => ?_) (fun hc_80 => ?_)
              · have h := h.1 hc_80
                exact kx aa_49 _ _ _ hP hD hS (lv_sub hl [0, 1, 2, 3, 4] rfl) h
              · have h := h.2 hc_80
                refine lv_aload_n hx hb dX6_night_63 rfl (lv_at hl 0 rfl) ?_
                refine va_get (D := (dC, dI)) (ci := 6) (v := .ref (ab 18)) (C := RX6) (T := TX6) (N := 27) hx hb hts hi_X6 hown hK hP 0 rfl rfl 24 (by decide) fl_61 (fun _ h9 => h9) rfl dX6_night_64 ?_
                refine lv_bipush (v := (60 : Int32)) hx hb dX6_night_67 (by decide) ?_
                refine lv_iload_n hx hb dX6_night_69 rfl (lv_at hl 1 rfl) ?_
                refine lv_imul hx hb dX6_night_70 ?_
                refine lv_iload_n hx hb dX6_night_71 rfl (lv_at hl 2 rfl) ?_
                refine lv_iadd hx hb dX6_night_72 ?_
                refine lv_iload hx hb dX6_night_73 (lv_at hl 5 rfl) ?_
                refine lv_iadd hx hb dX6_night_75 ?_
                obtain ⟨hv_77, h⟩ := h
                refine va_iald hx hb hK hP 18 0 rfl rfl hv_77 dX6_night_76 ?_
                refine lv_i2l (v := (Int32.toInt64 (n_sheet ((((60 : Int32) * a_1) + a_3) + aa_50).toNatClampNeg))) hx hb dX6_night_77 rfl ?_
                refine lv_lconst (v := (0 : Int64)) hx hb dX6_night_78 (by decide) ?_
                refine lv_ldc2 (v := (18 : Int64)) hx hb hown (hts (.constantLong RX6 162 (18)) (by decide +kernel)) dX6_night_79 ?_
                refine xq_ci (va_runS (As := [.long (Int32.toInt64 (n_sheet ((((60 : Int32) * a_1) + a_3) + aa_50).toNatClampNeg)), .long (0 : Int64), .long (18 : Int64)]) (rest := []) ⟨hx, hb, hml, hown, hts⟩ (m_X6_in l dC dI cyI cyJ (wm_u cyI cyJ ab cc_2 n_things n_kindOf n_digitOf n_follows n_ifOf n_thenOf n_listOf n_breathOf n_heardOf n_readAt n_readThings n_readFollows n_readKind n_readDigit n_readIf n_readThen n_readings n_readingIn n_readingHour n_readingOf n_breathWas n_sheetSize n_sheetLane n_sheet n_hands n_traceNow) H.size h) (va_cwS 3 hts gX6_night_X6_in rfl rfl rfl (by decide +kernel) ⟨Nat.le_of_ble_eq_true rfl, Nat.le_of_ble_eq_true rfl⟩) (xq_preS hK hP hD hN) rfl rfl hl.1 rfl (lv_room (Nat.le_of_ble_eq_true rfl)) dX6_night_82 ⟨Nat.le_refl _, Nat.le_refl _⟩) hD hS hA (fun rr_78 uu H locs h hP hD hS => ?_)
                have hP : va_P (dC, dI) vwCl (wm_u cyI cyJ ab cc_2 n_things n_kindOf n_digitOf n_follows n_ifOf n_thenOf n_listOf n_breathOf n_heardOf n_readAt n_readThings n_readFollows n_readKind n_readDigit n_readIf n_readThen n_readings n_readingIn n_readingHour n_readingOf n_breathWas n_sheetSize n_sheetLane n_sheet n_hands n_traceNow) H := hP
                have hD : va_D A (wm_u cyI cyJ ab cc_2 n_things n_kindOf n_digitOf n_follows n_ifOf n_thenOf n_listOf n_breathOf n_heardOf n_readAt n_readThings n_readFollows n_readKind n_readDigit n_readIf n_readThen n_readings n_readingIn n_readingHour n_readingOf n_breathWas n_sheetSize n_sheetLane n_sheet n_hands n_traceNow) := hD
                refine lv_istore (lv' := [(6, .int rr_78), (0, .ref (ab 0)), (1, .int a_1), (3, .int a_3), (4, .int a_4), (7, .int aa_50)]) hx hb dX6_night_85 hl (by decide) rfl (fun ls hl => ?_)
                refine lv_iinc (v := (aa_50 + (1 : Int32))) (lv' := [(7, .int (aa_50 + (1 : Int32))), (6, .int rr_78), (0, .ref (ab 0)), (1, .int a_1), (3, .int a_3), (4, .int a_4)]) hx hb dX6_night_87 hl (k := 5) rfl rfl (by decide) rfl (fun ls hl => ?_)
                refine lv_goto (tgt := 51) hx hb dX6_night_90 (by decide) ?_
                exact ih rr_78 (aa_50 + (1 : Int32)) _ _ _ hP hD hS (lv_sub hl [2, 3, 4, 5, 1, 0] rfl) h
        refine lp_51 _ (fun xx_51 H locs ls hP hD hS hl h => ?_) ni (1 : Int32) (0 : Int32) _ _ _ hP hD hS (lv_sub hl [3, 4, 6, 7, 1, 0] rfl) h
        refine lv_iload hx hb dX6_night_93 (lv_at hl 4 rfl) ?_
        refine lv_if_ne (tgt := 105) hx hb dX6_night_95 (by decide) (fun hc_76 => ?_) (fun hc_76 => ?_)
        · have h := h.1 hc_76
          refine lv_iconst (v := (0 : Int32)) hx hb dX6_night_105 (by decide) ?_
          refine lv_istore (lv' := [(7, .int (0 : Int32)), (0, .ref (ab 0)), (1, .int a_1), (3, .int a_3), (4, .int a_4), (6, .int xx_51)]) hx hb dX6_night_106 hl (by decide) rfl (fun ls hl => ?_)
          obtain ⟨ni, h⟩ := h
          have lp_108 : ∀ (kk : (Nat → Int32) → (Nat → Int32) → Prop), (∀ (xx_55 : Nat → Int32) (xx_56 : Nat → Int32) (H : Heap) (locs : List Loc) (ls : Array Slot), va_P (dC, dI) vwCl (wm_u cyI cyJ ab cc_2 n_things n_kindOf n_digitOf n_follows n_ifOf n_thenOf n_listOf xx_55 n_heardOf n_readAt n_readThings n_readFollows n_readKind n_readDigit n_readIf n_readThen n_readings n_readingIn n_readingHour n_readingOf xx_56 n_sheetSize n_sheetLane n_sheet n_hands n_traceNow) H → va_D A (wm_u cyI cyJ ab cc_2 n_things n_kindOf n_digitOf n_follows n_ifOf n_thenOf n_listOf xx_55 n_heardOf n_readAt n_readThings n_readFollows n_readKind n_readDigit n_readIf n_readThen n_readings n_readingIn n_readingHour n_readingOf xx_56 n_sheetSize n_sheetLane n_sheet n_hands n_traceNow) → va_S A s.heap H locs → lv_has ls 9 [(0, .ref (ab 0)), (4, .int a_4)] → kk xx_55 xx_56 → W p l e (xq_R 5 122) s m args below meth c H locs 0 0 Q (F0 m 156 ls [])) → ∀ (ni : Nat) (aa_52 : Int32) (cc_53 : Nat → Int32) (cc_54 : Nat → Int32) (H : Heap) (locs : List Loc) (ls : Array Slot), va_P (dC, dI) vwCl (wm_u cyI cyJ ab cc_2 n_things n_kindOf n_digitOf n_follows n_ifOf n_thenOf n_listOf cc_53 n_heardOf n_readAt n_readThings n_readFollows n_readKind n_readDigit n_readIf n_readThen n_readings n_readingIn n_readingHour n_readingOf cc_54 n_sheetSize n_sheetLane n_sheet n_hands n_traceNow) H → va_D A (wm_u cyI cyJ ab cc_2 n_things n_kindOf n_digitOf n_follows n_ifOf n_thenOf n_listOf cc_53 n_heardOf n_readAt n_readThings n_readFollows n_readKind n_readDigit n_readIf n_readThen n_readings n_readingIn n_readingHour n_readingOf cc_54 n_sheetSize n_sheetLane n_sheet n_hands n_traceNow) → va_S A s.heap H locs → lv_has ls 9 [(0, .ref (ab 0)), (1, .int a_1), (3, .int a_3), (4, .int a_4), (7, .int aa_52)] → w_X6_night_L108 a_1 a_3 a_4 cc_2 n_things n_kindOf n_follows n_ifOf n_thenOf n_listOf n_sheetSize n_sheetLane n_sheet post kk ni aa_52 cc_53 cc_54 → W p l e (xq_R 5 122) s m args below meth c H locs 0 0 Q (F0 m 108 ls []) := by
            intro kk kx ni
            induction ni with
            | zero => intros; exact False.elim (by assumption)
            | succ ni ih =>
              intro aa_52 cc_53 cc_54 H locs ls hP hD hS hl h
              rw [w_X6_night_L108] at h
              refine lv_iload hx hb dX6_night_108 (lv_at hl 4 rfl) ?_
              refine lv_iload hx hb dX6_night_110 (lv_at hl 3 rfl) ?_
              refine lv_icmp_ge (tgt := 156) hx hb dX6_night_112 (by decide) (fun hc_72 => ?_) (fun hc_72 => ?_)
              · have h := h.1 hc_72
                exact kx cc_53 cc_54 _ _ _ hP hD hS (lv_sub hl [0, 3] rfl) h
              · have h := h.2 hc_72
                refine lv_aload_n hx hb dX6_night_115 rfl (lv_at hl 0 rfl) ?_
                refine va_get (D := (dC, dI)) (ci := 6) (v := .ref (ab 15)) (C := RX6) (T := TX6) (N := 27) hx hb hts hi_X6 hown hK hP 0 rfl rfl 21 (by decide) fl_52 (fun _ h9 => h9) rfl dX6_night_116 ?_
                refine lv_iload hx hb dX6_night_119 (lv_at hl 4 rfl) ?_
                refine lv_aload_n hx hb dX6_night_121 rfl (lv_at hl 0 rfl) ?_
                refine va_get (D := (dC, dI)) (ci := 6) (v := .ref (ab 6)) (C := RX6) (T := TX6) (N := 27) hx hb hts hi_X6 hown hK hP 0 rfl rfl 8 (by decide) fl_25 (fun _ h9 => h9) rfl dX6_night_122 ?_
                refine lv_iload hx hb dX6_night_125 (lv_at hl 4 rfl) ?_
                obtain ⟨hv_68, h⟩ := h
                refine va_iald hx hb hK hP 6 0 rfl rfl hv_68 dX6_night_127 ?_
                obtain ⟨hv_69, h⟩ := h
                refine va_iast hx hb hK hP hD hS 15 0 rfl rfl hv_69 dX6_night_128 (fun H locs hP hD hS => ?_)
                have hP : va_P (dC, dI) vwCl (wm_u cyI cyJ ab cc_2 n_things n_kindOf n_digitOf n_follows n_ifOf n_thenOf n_listOf cc_53 n_heardOf n_readAt n_readThings n_readFollows n_readKind n_readDigit n_readIf n_readThen n_readings n_readingIn n_readingHour n_readingOf (upd cc_54 aa_52.toNatClampNeg (cc_53 aa_52.toNatClampNeg)) n_sheetSize n_sheetLane n_sheet n_hands n_traceNow) H := hP
                have hD : va_D A (wm_u cyI cyJ ab cc_2 n_things n_kindOf n_digitOf n_follows n_ifOf n_thenOf n_listOf cc_53 n_heardOf n_readAt n_readThings n_readFollows n_readKind n_readDigit n_readIf n_readThen n_readings n_readingIn n_readingHour n_readingOf (upd cc_54 aa_52.toNatClampNeg (cc_53 aa_52.toNatClampNeg)) n_sheetSize n_sheetLane n_sheet n_hands n_traceNow) := hD
                refine lv_aload_n hx hb dX6_night_129 rfl (lv_at hl 0 rfl) ?_
                refine va_get (D := (dC, dI)) (ci := 6) (v := .ref (ab 6)) (C := RX6) (T := TX6) (N := 27) hx hb hts hi_X6 hown hK hP 0 rfl rfl 8 (by decide) fl_25 (fun _ h9 => h9) rfl dX6_night_130 ?_
                refine lv_iload hx hb dX6_night_133 (lv_at hl 4 rfl) ?_
                refine lv_aload_n hx hb dX6_night_135 rfl (lv_at hl 0 rfl) ?_
                refine va_get (D := (dC, dI)) (ci := 6) (v := .ref (ab 18)) (C := RX6) (T := TX6) (N := 27) hx hb hts hi_X6 hown hK hP 0 rfl rfl 24 (by decide) fl_61 (fun _ h9 => h9) rfl dX6_night_136 ?_
                refine lv_bipush (v := (60 : Int32)) hx hb dX6_night_139 (by decide) ?_
                refine lv_iload_n hx hb dX6_night_141 rfl (lv_at hl 1 rfl) ?_
                refine lv_imul hx hb dX6_night_142 ?_
                refine lv_iload_n hx hb dX6_night_143 rfl (lv_at hl 2 rfl) ?_
                refine lv_iadd hx hb dX6_night_144 ?_
                refine lv_iload hx hb dX6_night_145 (lv_at hl 4 rfl) ?_
                refine lv_iadd hx hb dX6_night_147 ?_
                obtain ⟨hv_70, h⟩ := h
                refine va_iald hx hb hK hP 18 0 rfl rfl hv_70 dX6_night_148 ?_
                obtain ⟨hv_71, h⟩ := h
                refine va_iast hx hb hK hP hD hS 6 0 rfl rfl hv_71 dX6_night_149 (fun H locs hP hD hS => ?_)
                have hP : va_P (dC, dI) vwCl (wm_u cyI cyJ ab cc_2 n_things n_kindOf n_digitOf n_follows n_ifOf n_thenOf n_listOf (upd cc_53 aa_52.toNatClampNeg (n_sheet ((((60 : Int32) * a_1) + a_3) + aa_52).toNatClampNeg)) n_heardOf n_readAt n_readThings n_readFollows n_readKind n_readDigit n_readIf n_readThen n_readings n_readingIn n_readingHour n_readingOf (upd cc_54 aa_52.toNatClampNeg (cc_53 aa_52.toNatClampNeg)) n_sheetSize n_sheetLane n_sheet n_hands n_traceNow) H := hP
                have hD : va_D A (wm_u cyI cyJ ab cc_2 n_things n_kindOf n_digitOf n_follows n_ifOf n_thenOf n_listOf (upd cc_53 aa_52.toNatClampNeg (n_sheet ((((60 : Int32) * a_1) + a_3) + aa_52).toNatClampNeg)) n_heardOf n_readAt n_readThings n_readFollows n_readKind n_readDigit n_readIf n_readThen n_readings n_readingIn n_readingHour n_readingOf (upd cc_54 aa_52.toNatClampNeg (cc_53 aa_52.toNatClampNeg)) n_sheetSize n_sheetLane n_sheet n_hands n_traceNow) := hD
                refine lv_iinc (v := (aa_52 + (1 : Int32))) (lv' := [(7, .int (aa_52 + (1 : Int32))), (0, .ref (ab 0)), (1, .int a_1), (3, .int a_3), (4, .int a_4)]) hx hb dX6_night_150 hl (k := 4) rfl rfl (by decide) rfl (fun ls hl => ?_)
                refine lv_goto (tgt := 108) hx hb dX6_night_153 (by decide) ?_
                exact ih (aa_52 + (1 : Int32)) (upd cc_53 aa_52.toNatClampNeg (n_sheet ((((60 : Int32) * a_1) + a_3) + aa_52).toNatClampNeg)) (upd cc_54 aa_52.toNatClampNeg (cc_53 aa_52.toNatClampNeg)) _ _ _ hP hD hS (lv_sub hl [1, 2, 3, 4, 0] rfl) h
          refine lp_108 _ (fun xx_55 xx_56 H locs ls hP hD hS hl h => ?_) ni (0 : Int32) n_breathOf n_breathWas _ _ _ hP hD hS (lv_sub hl [1, 2, 3, 4, 0] rfl) h
          refine lv_aload_n hx hb dX6_night_156 rfl (lv_at hl 0 rfl) ?_
          refine lv_iload hx hb dX6_night_157 (lv_at hl 1 rfl) ?_
          refine xq_ci (va_runV (As := [.int a_4]) (rest := []) ⟨hx, hb, hml, hown, hts⟩ (m_X6_partsBy l dC dI cyI cyJ ab H.size h) (cwV 1 hts gX6_night_X6_partsBy rfl rfl rfl (by decide +kernel) ⟨Nat.le_of_ble_eq_true rfl, Nat.le_of_ble_eq_true rfl⟩) (xq_preV hK hP hD hN (ci := 6) (q0 := 0) rfl rfl) rfl rfl hl.1 rfl (lv_room (Nat.le_of_ble_eq_true rfl)) dX6_night_159 ⟨Nat.le_refl _, Nat.le_refl _⟩) hD hS hA (fun rr_57 uu H locs h hP hD hS => ?_)
          have hP : va_P (dC, dI) vwCl (wm_u cyI cyJ ab cc_2 n_things n_kindOf n_digitOf n_follows n_ifOf n_thenOf n_listOf xx_55 n_heardOf n_readAt n_readThings n_readFollows n_readKind n_readDigit n_readIf n_readThen n_readings n_readingIn n_readingHour n_readingOf xx_56 n_sheetSize n_sheetLane n_sheet n_hands n_traceNow) H := hP
          have hD : va_D A (wm_u cyI cyJ ab cc_2 n_things n_kindOf n_digitOf n_follows n_ifOf n_thenOf n_listOf xx_55 n_heardOf n_readAt n_readThings n_readFollows n_readKind n_readDigit n_readIf n_readThen n_readings n_readingIn n_readingHour n_readingOf xx_56 n_sheetSize n_sheetLane n_sheet n_hands n_traceNow) := hD
          refine lv_istore (lv' := [(7, .int rr_57), (0, .ref (ab 0)), (4, .int a_4)]) hx hb dX6_night_162 hl (by decide) rfl (fun ls hl => ?_)
          refine lv_iconst (v := (0 : Int32)) hx hb dX6_night_164 (by decide) ?_
          refine lv_istore (lv' := [(8, .int (0 : Int32)), (7, .int rr_57), (0, .ref (ab 0)), (4, .int a_4)]) hx hb dX6_night_165 hl (by decide) rfl (fun ls hl => ?_)
          obtain ⟨ni, h⟩ := h
          have lp_167 : ∀ (kk : (Nat → Int32) → Prop), (∀ (xx_60 : Nat → Int32) (H : Heap) (locs : List Loc) (ls : Array Slot), va_P (dC, dI) vwCl (wm_u cyI cyJ ab cc_2 n_things n_kindOf n_digitOf n_follows n_ifOf n_thenOf n_listOf xx_60 n_heardOf n_readAt n_readThings n_readFollows n_readKind n_readDigit n_readIf n_readThen n_readings n_readingIn n_readingHour n_readingOf xx_56 n_sheetSize n_sheetLane n_sheet n_hands n_traceNow) H → va_D A (wm_u cyI cyJ ab cc_2 n_things n_kindOf n_digitOf n_follows n_ifOf n_thenOf n_listOf xx_60 n_heardOf n_readAt n_readThings n_readFollows n_readKind n_readDigit n_readIf n_readThen n_readings n_readingIn n_readingHour n_readingOf xx_56 n_sheetSize n_sheetLane n_sheet n_hands n_traceNow) → va_S A s.heap H locs → lv_has ls 9 [(0, .ref (ab 0)), (7, .int rr_57)] → kk xx_60 → W p l e (xq_R 5 122) s m args below meth c H locs 0 0 Q (F0 m 194 ls [])) → ∀ (ni : Nat) (aa_58 : Int32) (cc_59 : Nat → Int32) (H : Heap) (locs : List Loc) (ls : Array Slot), va_P (dC, dI) vwCl (wm_u cyI cyJ ab cc_2 n_things n_kindOf n_digitOf n_follows n_ifOf n_thenOf n_listOf cc_59 n_heardOf n_readAt n_readThings n_readFollows n_readKind n_readDigit n_readIf n_readThen n_readings n_readingIn n_readingHour n_readingOf xx_56 n_sheetSize n_sheetLane n_sheet n_hands n_traceNow) H → va_D A (wm_u cyI cyJ ab cc_2 n_things n_kindOf n_digitOf n_follows n_ifOf n_thenOf n_listOf cc_59 n_heardOf n_readAt n_readThings n_readFollows n_readKind n_readDigit n_readIf n_readThen n_readings n_readingIn n_readingHour n_readingOf xx_56 n_sheetSize n_sheetLane n_sheet n_hands n_traceNow) → va_S A s.heap H locs → lv_has ls 9 [(0, .ref (ab 0)), (4, .int a_4), (7, .int rr_57), (8, .int aa_58)] → w_X6_night_L167 a_4 rr_57 cc_2 n_things n_kindOf n_follows n_ifOf n_thenOf n_listOf xx_56 n_sheetSize n_sheetLane n_sheet post kk ni aa_58 cc_59 → W p l e (xq_R 5 122) s m args below meth c H locs 0 0 Q (F0 m 167 ls []) := by
            intro kk kx ni
            induction ni with
            | zero => intros; exact False.elim (by assumption)
            | succ ni ih =>
              intro aa_58 cc_59 H locs ls hP hD hS hl h
              rw [w_X6_night_L167] at h
              refine lv_iload hx hb dX6_night_167 (lv_at hl 3 rfl) ?_
              refine lv_iload hx hb dX6_night_169 (lv_at hl 1 rfl) ?_
              refine lv_icmp_ge (tgt := 194) hx hb dX6_night_171 (by decide) (fun hc_66 => ?_) (fun hc_66 => ?_)
              · have h := h.1 hc_66
                exact kx cc_59 _ _ _ hP hD hS (lv_sub hl [0, 2] rfl) h
              · have h := h.2 hc_66
                refine lv_aload_n hx hb dX6_night_174 rfl (lv_at hl 0 rfl) ?_
                refine va_get (D := (dC, dI)) (ci := 6) (v := .ref (ab 6)) (C := RX6) (T := TX6) (N := 27) hx hb hts hi_X6 hown hK hP 0 rfl rfl 8 (by decide) fl_25 (fun _ h9 => h9) rfl dX6_night_175 ?_
                refine lv_iload hx hb dX6_night_178 (lv_at hl 3 rfl) ?_
                refine lv_aload_n hx hb dX6_night_180 rfl (lv_at hl 0 rfl) ?_
                refine va_get (D := (dC, dI)) (ci := 6) (v := .ref (ab 15)) (C := RX6) (T := TX6) (N := 27) hx hb hts hi_X6 hown hK hP 0 rfl rfl 21 (by decide) fl_52 (fun _ h9 => h9) rfl dX6_night_181 ?_
                refine lv_iload hx hb dX6_night_184 (lv_at hl 3 rfl) ?_
                obtain ⟨hv_64, h⟩ := h
                refine va_iald hx hb hK hP 15 0 rfl rfl hv_64 dX6_night_186 ?_
                obtain ⟨hv_65, h⟩ := h
                refine va_iast hx hb hK hP hD hS 6 0 rfl rfl hv_65 dX6_night_187 (fun H locs hP hD hS => ?_)
                have hP : va_P (dC, dI) vwCl (wm_u cyI cyJ ab cc_2 n_things n_kindOf n_digitOf n_follows n_ifOf n_thenOf n_listOf (upd cc_59 aa_58.toNatClampNeg (xx_56 aa_58.toNatClampNeg)) n_heardOf n_readAt n_readThings n_readFollows n_readKind n_readDigit n_readIf n_readThen n_readings n_readingIn n_readingHour n_readingOf xx_56 n_sheetSize n_sheetLane n_sheet n_hands n_traceNow) H := hP
                have hD : va_D A (wm_u cyI cyJ ab cc_2 n_things n_kindOf n_digitOf n_follows n_ifOf n_thenOf n_listOf (upd cc_59 aa_58.toNatClampNeg (xx_56 aa_58.toNatClampNeg)) n_heardOf n_readAt n_readThings n_readFollows n_readKind n_readDigit n_readIf n_readThen n_readings n_readingIn n_readingHour n_readingOf xx_56 n_sheetSize n_sheetLane n_sheet n_hands n_traceNow) := hD
                refine lv_iinc (v := (aa_58 + (1 : Int32))) (lv' := [(8, .int (aa_58 + (1 : Int32))), (0, .ref (ab 0)), (4, .int a_4), (7, .int rr_57)]) hx hb dX6_night_188 hl (k := 3) rfl rfl (by decide) rfl (fun ls hl => ?_)
                refine lv_goto (tgt := 167) hx hb dX6_night_191 (by decide) ?_
                exact ih (aa_58 + (1 : Int32)) (upd cc_59 aa_58.toNatClampNeg (xx_56 aa_58.toNatClampNeg)) _ _ _ hP hD hS (lv_sub hl [1, 2, 3, 0] rfl) h
          refine lp_167 _ (fun xx_60 H locs ls hP hD hS hl h => ?_) ni (0 : Int32) xx_55 _ _ _ hP hD hS (lv_sub hl [2, 3, 1, 0] rfl) h
          refine lv_aload_n hx hb dX6_night_194 rfl (lv_at hl 0 rfl) ?_
          refine lv_iload hx hb dX6_night_195 (lv_at hl 1 rfl) ?_
          refine xq_ci (va_runV (As := [.int rr_57]) (rest := []) ⟨hx, hb, hml, hown, hts⟩ (m_X6_refused l dC dI cyI cyJ ab H.size h) (cwV 1 hts gX6_night_X6_refused rfl rfl rfl (by decide +kernel) ⟨Nat.le_of_ble_eq_true rfl, Nat.le_of_ble_eq_true rfl⟩) (xq_preV hK hP hD hN (ci := 6) (q0 := 0) rfl rfl) rfl rfl hl.1 rfl (lv_room (Nat.le_of_ble_eq_true rfl)) dX6_night_197 ⟨Nat.le_refl _, Nat.le_refl _⟩) hD hS hA (fun rr_61 uu H locs h hP hD hS => ?_)
          obtain ⟨cc_62, rfl⟩ : ∃ z, z = uu := ⟨_, rfl⟩
          have hP : va_P (dC, dI) vwCl (wm_u cyI cyJ ab cc_62 n_things n_kindOf n_digitOf n_follows n_ifOf n_thenOf n_listOf xx_60 n_heardOf n_readAt n_readThings n_readFollows n_readKind n_readDigit n_readIf n_readThen n_readings n_readingIn n_readingHour n_readingOf xx_56 n_sheetSize n_sheetLane n_sheet n_hands n_traceNow) H := hP
          have hD : va_D A (wm_u cyI cyJ ab cc_62 n_things n_kindOf n_digitOf n_follows n_ifOf n_thenOf n_listOf xx_60 n_heardOf n_readAt n_readThings n_readFollows n_readKind n_readDigit n_readIf n_readThen n_readings n_readingIn n_readingHour n_readingOf xx_56 n_sheetSize n_sheetLane n_sheet n_hands n_traceNow) := hD
          exact xq_ri hQ hx hb hr hP hK hD hS (cc_62, xx_60, xx_56) rfl h dX6_night_200 hlocks
        · have h := h.2 hc_76
          refine lv_aload_n hx hb dX6_night_98 rfl (lv_at hl 0 rfl) ?_
          refine lv_bipush (v := (-2 : Int32)) hx hb dX6_night_99 (by decide) ?_
          refine xq_ci (va_runV (As := [.int (-2 : Int32)]) (rest := []) ⟨hx, hb, hml, hown, hts⟩ (m_X6_refused l dC dI cyI cyJ ab H.size h) (cwV 1 hts gX6_night_X6_refused rfl rfl rfl (by decide +kernel) ⟨Nat.le_of_ble_eq_true rfl, Nat.le_of_ble_eq_true rfl⟩) (xq_preV hK hP hD hN (ci := 6) (q0 := 0) rfl rfl) rfl rfl hl.1 rfl (lv_room (Nat.le_of_ble_eq_true rfl)) dX6_night_101 ⟨Nat.le_refl _, Nat.le_refl _⟩) hD hS hA (fun rr_73 uu H locs h hP hD hS => ?_)
          obtain ⟨cc_74, rfl⟩ : ∃ z, z = uu := ⟨_, rfl⟩
          have hP : va_P (dC, dI) vwCl (wm_u cyI cyJ ab cc_74 n_things n_kindOf n_digitOf n_follows n_ifOf n_thenOf n_listOf n_breathOf n_heardOf n_readAt n_readThings n_readFollows n_readKind n_readDigit n_readIf n_readThen n_readings n_readingIn n_readingHour n_readingOf n_breathWas n_sheetSize n_sheetLane n_sheet n_hands n_traceNow) H := hP
          have hD : va_D A (wm_u cyI cyJ ab cc_74 n_things n_kindOf n_digitOf n_follows n_ifOf n_thenOf n_listOf n_breathOf n_heardOf n_readAt n_readThings n_readFollows n_readKind n_readDigit n_readIf n_readThen n_readings n_readingIn n_readingHour n_readingOf n_breathWas n_sheetSize n_sheetLane n_sheet n_hands n_traceNow) := hD
          exact xq_ri hQ hx hb hr hP hK hD hS (cc_74, n_breathOf, n_breathWas) rfl h dX6_night_104 hlocks
    · have h := h.2 hc_86
      refine lv_aload_n hx hb dX6_night_27 rfl (lv_at hl 1 rfl) ?_
      refine lv_bipush (v := (-3 : Int32)) hx hb dX6_night_28 (by decide) ?_
      refine xq_ci (va_runV (As := [.int (-3 : Int32)]) (rest := []) ⟨hx, hb, hml, hown, hts⟩ (m_X6_refused l dC dI cyI cyJ ab H.size h) (cwV 1 hts gX6_night_X6_refused rfl rfl rfl (by decide +kernel) ⟨Nat.le_of_ble_eq_true rfl, Nat.le_of_ble_eq_true rfl⟩) (xq_preV hK hP hD hN (ci := 6) (q0 := 0) rfl rfl) rfl rfl hl.1 rfl (lv_room (Nat.le_of_ble_eq_true rfl)) dX6_night_30 ⟨Nat.le_refl _, Nat.le_refl _⟩) hD hS hA (fun rr_83 uu H locs h hP hD hS => ?_)
      obtain ⟨cc_84, rfl⟩ : ∃ z, z = uu := ⟨_, rfl⟩
      have hP : va_P (dC, dI) vwCl (wm_u cyI cyJ ab cc_84 n_things n_kindOf n_digitOf n_follows n_ifOf n_thenOf n_listOf n_breathOf n_heardOf n_readAt n_readThings n_readFollows n_readKind n_readDigit n_readIf n_readThen n_readings n_readingIn n_readingHour n_readingOf n_breathWas n_sheetSize n_sheetLane n_sheet n_hands n_traceNow) H := hP
      have hD : va_D A (wm_u cyI cyJ ab cc_84 n_things n_kindOf n_digitOf n_follows n_ifOf n_thenOf n_listOf n_breathOf n_heardOf n_readAt n_readThings n_readFollows n_readKind n_readDigit n_readIf n_readThen n_readings n_readingIn n_readingHour n_readingOf n_breathWas n_sheetSize n_sheetLane n_sheet n_hands n_traceNow) := hD
      exact xq_ri hQ hx hb hr hP hK hD hS (cc_84, n_breathOf, n_breathWas) rfl h dX6_night_33 hlocks
  · have h := h.2 hc_87
    refine lv_iload hx hb dX6_night_17 (lv_at hl 0 rfl) ?_
    exact xq_ri hQ hx hb hr hP hK hD hS (cc_2, n_breathOf, n_breathWas) rfl h dX6_night_19 hlocks
def w_X6_ofThing (n_things : Int32) (n_kindOf : Nat → Int32) (n_digitOf : Nat → Int32) (a_1 : Int32) (a_2 : Int32) (post : Int32 → Prop) : Prop := w_X6_noThing n_things a_1 (fun (rr_1 : Int32) => (rr_1 = 0 → ((¬ a_2 = 0 → ((¬ a_2 = (1 : Int32) → ((¬ a_2 = (2 : Int32) → (post (-2 : Int32))) ∧ (a_2 = (2 : Int32) → ((vp_in a_1 6) ∧ (post ((n_kindOf a_1.toNatClampNeg) + (1 : Int32))))))) ∧ (a_2 = (1 : Int32) → ((vp_in a_1 6) ∧ (post (n_digitOf a_1.toNatClampNeg)))))) ∧ (a_2 = 0 → ((vp_in a_1 6) ∧ (post (n_kindOf a_1.toNatClampNeg)))))) ∧ (¬ rr_1 = 0 → (post (-1 : Int32))))
set_option maxHeartbeats 4000000 in
set_option maxRecDepth 100000 in
theorem m_X6_ofThing (l : Launch) (dC : Nat → ClassId) (dI : Nat → Nat → Nat) (cyI cyJ : ClassId) (ab : Nat → Nat) (sz : Nat) {n_fault : Int32} {n_things : Int32} {n_kindOf : Nat → Int32} {n_digitOf : Nat → Int32} {n_follows : Int32} {n_ifOf : Nat → Int32} {n_thenOf : Nat → Int32} {n_listOf : Nat → Int32} {n_breathOf : Nat → Int32} {n_heardOf : Nat → Int32} {n_readAt : Int32} {n_readThings : Int32} {n_readFollows : Int32} {n_readKind : Nat → Int32} {n_readDigit : Nat → Int32} {n_readIf : Nat → Int32} {n_readThen : Nat → Int32} {n_readings : Int32} {n_readingIn : Nat → Int32} {n_readingHour : Nat → Int32} {n_readingOf : Nat → Int32} {n_breathWas : Nat → Int32} {n_sheetSize : Nat → Int32} {n_sheetLane : Nat → Int32} {n_sheet : Nat → Int32} {n_hands : Nat → Int32} {n_traceNow : Int32} {a_1 : Int32} {a_2 : Int32} {post : Int32 → Prop} (h : w_X6_ofThing n_things n_kindOf n_digitOf a_1 a_2 post) : Met l yX6_ofThing wsX6_ofThing (xq_R 2 46) (va_Pc [.ref (ab 0), .int a_1, .int a_2] (xq_P (dC, dI) [(cyI, .int), (cyJ, .long)] (wm_u cyI cyJ ab n_fault n_things n_kindOf n_digitOf n_follows n_ifOf n_thenOf n_listOf n_breathOf n_heardOf n_readAt n_readThings n_readFollows n_readKind n_readDigit n_readIf n_readThen n_readings n_readingIn n_readingHour n_readingOf n_breathWas n_sheetSize n_sheetLane n_sheet n_hands n_traceNow) sz)) (va_Qi (fun (rr : Int32) (uu : Unit) => post rr ) (fun (uu : Unit) => xq_B (dC, dI) [(cyI, .int), (cyJ, .long)] (va_A (wm_u cyI cyJ ab n_fault n_things n_kindOf n_digitOf n_follows n_ifOf n_thenOf n_listOf n_breathOf n_heardOf n_readAt n_readThings n_readFollows n_readKind n_readDigit n_readIf n_readThen n_readings n_readingIn n_readingHour n_readingOf n_breathWas n_sheetSize n_sheetLane n_sheet n_hands n_traceNow) sz) (wm_u cyI cyJ ab n_fault n_things n_kindOf n_digitOf n_follows n_ifOf n_thenOf n_listOf n_breathOf n_heardOf n_readAt n_readThings n_readFollows n_readKind n_readDigit n_readIf n_readThen n_readings n_readingIn n_readingHour n_readingOf n_breathWas n_sheetSize n_sheetLane n_sheet n_hands n_traceNow)) (va_A (wm_u cyI cyJ ab n_fault n_things n_kindOf n_digitOf n_follows n_ifOf n_thenOf n_listOf n_breathOf n_heardOf n_readAt n_readThings n_readFollows n_readKind n_readDigit n_readIf n_readThen n_readings n_readingIn n_readingHour n_readingOf n_breathWas n_sheetSize n_sheetLane n_sheet n_hands n_traceNow) sz)) 0 0 (va_A (wm_u cyI cyJ ab n_fault n_things n_kindOf n_digitOf n_follows n_ifOf n_thenOf n_listOf n_breathOf n_heardOf n_readAt n_readThings n_readFollows n_readKind n_readDigit n_readIf n_readThen n_readings n_readingIn n_readingHour n_readingOf n_breathWas n_sheetSize n_sheetLane n_sheet n_hands n_traceNow) sz) := by
  refine xq_M (cc := cX6_ofThing) (maxL := 3) (ret := (some .int)) (QA := fun A => va_Qi (fun (rr : Int32) (uu : Unit) => post rr ) (fun (uu : Unit) => xq_B (dC, dI) [(cyI, .int), (cyJ, .long)] A (wm_u cyI cyJ ab n_fault n_things n_kindOf n_digitOf n_follows n_ifOf n_thenOf n_listOf n_breathOf n_heardOf n_readAt n_readThings n_readFollows n_readKind n_readDigit n_readIf n_readThen n_readings n_readingIn n_readingHour n_readingOf n_breathWas n_sheetSize n_sheetLane n_sheet n_hands n_traceNow)) A) (by decide) rfl (Nat.le_of_ble_eq_true rfl) ?_
  intro p e s m args below meth c A ls Q hQ hx hb hr hml hts hown hlocks hsz hP hK hD hA hS hN hl
  subst hsz
  have hl : lv_has ls 3 [(0, .ref (ab 0)), (1, .int a_1), (2, .int a_2)] := hl
  have hi_X6 : ∀ w ∈ wsX60, w ∈ wsX6_ofThing := fun _ h => List.mem_cons_of_mem _ (List.mem_append_right _ h)
  have fl_7 := hts (.fieldLink RX6 7 "UnsaidCallsModel" "kindOf" "[I") (by decide +kernel)
  have fl_13 := hts (.fieldLink RX6 13 "UnsaidCallsModel" "digitOf" "[I") (by decide +kernel)
  unfold w_X6_ofThing at h
  refine lv_aload_n hx hb dX6_ofThing_0 rfl (lv_at hl 0 rfl) ?_
  refine lv_iload_n hx hb dX6_ofThing_1 rfl (lv_at hl 1 rfl) ?_
  refine xq_ci (va_runV (As := [.int a_1]) (rest := []) ⟨hx, hb, hml, hown, hts⟩ (m_X6_noThing l dC dI cyI cyJ ab s.heap.size h) (cwV 1 hts gX6_ofThing_X6_noThing rfl rfl rfl (by decide +kernel) ⟨Nat.le_of_ble_eq_true rfl, Nat.le_of_ble_eq_true rfl⟩) (xq_preV hK hP hD hN (ci := 6) (q0 := 0) rfl rfl) rfl rfl hl.1 rfl (lv_room (Nat.le_of_ble_eq_true rfl)) dX6_ofThing_2 ⟨Nat.le_refl _, Nat.le_refl _⟩) hD hS hA (fun rr_1 uu H locs h hP hD hS => ?_)
  have hP : va_P (dC, dI) vwCl (wm_u cyI cyJ ab n_fault n_things n_kindOf n_digitOf n_follows n_ifOf n_thenOf n_listOf n_breathOf n_heardOf n_readAt n_readThings n_readFollows n_readKind n_readDigit n_readIf n_readThen n_readings n_readingIn n_readingHour n_readingOf n_breathWas n_sheetSize n_sheetLane n_sheet n_hands n_traceNow) H := hP
  have hD : va_D A (wm_u cyI cyJ ab n_fault n_things n_kindOf n_digitOf n_follows n_ifOf n_thenOf n_listOf n_breathOf n_heardOf n_readAt n_readThings n_readFollows n_readKind n_readDigit n_readIf n_readThen n_readings n_readingIn n_readingHour n_readingOf n_breathWas n_sheetSize n_sheetLane n_sheet n_hands n_traceNow) := hD
  refine lv_if_eq (tgt := 10) hx hb dX6_ofThing_5 (by decide) (fun hc_8 => ?_) (fun hc_8 => ?_)
  · have h := h.1 hc_8
    refine lv_iload_n hx hb dX6_ofThing_10 rfl (lv_at hl 2 rfl) ?_
    refine lv_if_ne (tgt := 23) hx hb dX6_ofThing_11 (by decide) (fun hc_7 => ?_) (fun hc_7 => ?_)
    · have h := h.1 hc_7
      refine lv_iload_n hx hb dX6_ofThing_23 rfl (lv_at hl 2 rfl) ?_
      refine lv_iconst (v := (1 : Int32)) hx hb dX6_ofThing_24 (by decide) ?_
      refine lv_icmp_ne (tgt := 37) hx hb dX6_ofThing_25 (by decide) (fun hc_5 => ?_) (fun hc_5 => ?_)
      · have h := h.1 hc_5
        refine lv_iload_n hx hb dX6_ofThing_37 rfl (lv_at hl 2 rfl) ?_
        refine lv_iconst (v := (2 : Int32)) hx hb dX6_ofThing_38 (by decide) ?_
        refine lv_icmp_ne (tgt := 53) hx hb dX6_ofThing_39 (by decide) (fun hc_3 => ?_) (fun hc_3 => ?_)
        · have h := h.1 hc_3
          refine lv_bipush (v := (-2 : Int32)) hx hb dX6_ofThing_53 (by decide) ?_
          exact xq_ri hQ hx hb hr hP hK hD hS () rfl h dX6_ofThing_55 hlocks
        · have h := h.2 hc_3
          refine lv_aload_n hx hb dX6_ofThing_42 rfl (lv_at hl 0 rfl) ?_
          refine va_get (D := (dC, dI)) (ci := 6) (v := .ref (ab 1)) (C := RX6) (T := TX6) (N := 27) hx hb hts hi_X6 hown hK hP 0 rfl rfl 2 (by decide) fl_7 (fun _ h9 => h9) rfl dX6_ofThing_43 ?_
          refine lv_iload_n hx hb dX6_ofThing_46 rfl (lv_at hl 1 rfl) ?_
          obtain ⟨hv_2, h⟩ := h
          refine va_iald hx hb hK hP 1 0 rfl rfl hv_2 dX6_ofThing_47 ?_
          refine lv_iconst (v := (1 : Int32)) hx hb dX6_ofThing_48 (by decide) ?_
          refine lv_iadd hx hb dX6_ofThing_49 ?_
          refine lv_goto (tgt := 55) hx hb dX6_ofThing_50 (by decide) ?_
          exact xq_ri hQ hx hb hr hP hK hD hS () rfl h dX6_ofThing_55 hlocks
      · have h := h.2 hc_5
        refine lv_aload_n hx hb dX6_ofThing_28 rfl (lv_at hl 0 rfl) ?_
        refine va_get (D := (dC, dI)) (ci := 6) (v := .ref (ab 2)) (C := RX6) (T := TX6) (N := 27) hx hb hts hi_X6 hown hK hP 0 rfl rfl 3 (by decide) fl_13 (fun _ h9 => h9) rfl dX6_ofThing_29 ?_
        refine lv_iload_n hx hb dX6_ofThing_32 rfl (lv_at hl 1 rfl) ?_
        obtain ⟨hv_4, h⟩ := h
        refine va_iald hx hb hK hP 2 0 rfl rfl hv_4 dX6_ofThing_33 ?_
        refine lv_goto (tgt := 55) hx hb dX6_ofThing_34 (by decide) ?_
        exact xq_ri hQ hx hb hr hP hK hD hS () rfl h dX6_ofThing_55 hlocks
    · have h := h.2 hc_7
      refine lv_aload_n hx hb dX6_ofThing_14 rfl (lv_at hl 0 rfl) ?_
      refine va_get (D := (dC, dI)) (ci := 6) (v := .ref (ab 1)) (C := RX6) (T := TX6) (N := 27) hx hb hts hi_X6 hown hK hP 0 rfl rfl 2 (by decide) fl_7 (fun _ h9 => h9) rfl dX6_ofThing_15 ?_
      refine lv_iload_n hx hb dX6_ofThing_18 rfl (lv_at hl 1 rfl) ?_
      obtain ⟨hv_6, h⟩ := h
      refine va_iald hx hb hK hP 1 0 rfl rfl hv_6 dX6_ofThing_19 ?_
      refine lv_goto (tgt := 55) hx hb dX6_ofThing_20 (by decide) ?_
      exact xq_ri hQ hx hb hr hP hK hD hS () rfl h dX6_ofThing_55 hlocks
  · have h := h.2 hc_8
    refine lv_iconst (v := (-1 : Int32)) hx hb dX6_ofThing_8 (by decide) ?_
    exact xq_ri hQ hx hb hr hP hK hD hS () rfl h dX6_ofThing_9 hlocks
def w_X6_parts (n_things : Int32) (n_kindOf : Nat → Int32) (n_follows : Int32) (n_ifOf : Nat → Int32) (n_thenOf : Nat → Int32) (n_listOf : Nat → Int32) (n_breathOf : Nat → Int32) (a_1 : Int32) (post : Int32 → Prop) : Prop := w_X6_in (Int32.toInt64 a_1) (0 : Int64) (6 : Int64) (fun (rr_1 : Int32) => (¬ rr_1 = 0 → ((¬ n_things = 0 → (w_X6_partsBy n_things n_kindOf n_follows n_ifOf n_thenOf n_listOf n_breathOf a_1 (fun (rr_2 : Int32) => post rr_2))) ∧ (n_things = 0 → (post (-3 : Int32))))) ∧ (rr_1 = 0 → (post (-2 : Int32))))
set_option maxHeartbeats 4000000 in
set_option maxRecDepth 100000 in
theorem m_X6_parts (l : Launch) (dC : Nat → ClassId) (dI : Nat → Nat → Nat) (cyI cyJ : ClassId) (ab : Nat → Nat) (sz : Nat) {n_fault : Int32} {n_things : Int32} {n_kindOf : Nat → Int32} {n_digitOf : Nat → Int32} {n_follows : Int32} {n_ifOf : Nat → Int32} {n_thenOf : Nat → Int32} {n_listOf : Nat → Int32} {n_breathOf : Nat → Int32} {n_heardOf : Nat → Int32} {n_readAt : Int32} {n_readThings : Int32} {n_readFollows : Int32} {n_readKind : Nat → Int32} {n_readDigit : Nat → Int32} {n_readIf : Nat → Int32} {n_readThen : Nat → Int32} {n_readings : Int32} {n_readingIn : Nat → Int32} {n_readingHour : Nat → Int32} {n_readingOf : Nat → Int32} {n_breathWas : Nat → Int32} {n_sheetSize : Nat → Int32} {n_sheetLane : Nat → Int32} {n_sheet : Nat → Int32} {n_hands : Nat → Int32} {n_traceNow : Int32} {a_1 : Int32} {post : Int32 → Prop} (h : w_X6_parts n_things n_kindOf n_follows n_ifOf n_thenOf n_listOf n_breathOf a_1 post) : Met l yX6_parts wsX6_parts (xq_R 5 122) (va_Pc [.ref (ab 0), .int a_1] (xq_P (dC, dI) [(cyI, .int), (cyJ, .long)] (wm_u cyI cyJ ab n_fault n_things n_kindOf n_digitOf n_follows n_ifOf n_thenOf n_listOf n_breathOf n_heardOf n_readAt n_readThings n_readFollows n_readKind n_readDigit n_readIf n_readThen n_readings n_readingIn n_readingHour n_readingOf n_breathWas n_sheetSize n_sheetLane n_sheet n_hands n_traceNow) sz)) (va_Qi (fun (rr : Int32) (uu : Unit) => post rr ) (fun (uu : Unit) => xq_B (dC, dI) [(cyI, .int), (cyJ, .long)] (va_A (wm_u cyI cyJ ab n_fault n_things n_kindOf n_digitOf n_follows n_ifOf n_thenOf n_listOf n_breathOf n_heardOf n_readAt n_readThings n_readFollows n_readKind n_readDigit n_readIf n_readThen n_readings n_readingIn n_readingHour n_readingOf n_breathWas n_sheetSize n_sheetLane n_sheet n_hands n_traceNow) sz) (wm_u cyI cyJ ab n_fault n_things n_kindOf n_digitOf n_follows n_ifOf n_thenOf n_listOf n_breathOf n_heardOf n_readAt n_readThings n_readFollows n_readKind n_readDigit n_readIf n_readThen n_readings n_readingIn n_readingHour n_readingOf n_breathWas n_sheetSize n_sheetLane n_sheet n_hands n_traceNow)) (va_A (wm_u cyI cyJ ab n_fault n_things n_kindOf n_digitOf n_follows n_ifOf n_thenOf n_listOf n_breathOf n_heardOf n_readAt n_readThings n_readFollows n_readKind n_readDigit n_readIf n_readThen n_readings n_readingIn n_readingHour n_readingOf n_breathWas n_sheetSize n_sheetLane n_sheet n_hands n_traceNow) sz)) 0 0 (va_A (wm_u cyI cyJ ab n_fault n_things n_kindOf n_digitOf n_follows n_ifOf n_thenOf n_listOf n_breathOf n_heardOf n_readAt n_readThings n_readFollows n_readKind n_readDigit n_readIf n_readThen n_readings n_readingIn n_readingHour n_readingOf n_breathWas n_sheetSize n_sheetLane n_sheet n_hands n_traceNow) sz) := by
  refine xq_M (cc := cX6_parts) (maxL := 2) (ret := (some .int)) (QA := fun A => va_Qi (fun (rr : Int32) (uu : Unit) => post rr ) (fun (uu : Unit) => xq_B (dC, dI) [(cyI, .int), (cyJ, .long)] A (wm_u cyI cyJ ab n_fault n_things n_kindOf n_digitOf n_follows n_ifOf n_thenOf n_listOf n_breathOf n_heardOf n_readAt n_readThings n_readFollows n_readKind n_readDigit n_readIf n_readThen n_readings n_readingIn n_readingHour n_readingOf n_breathWas n_sheetSize n_sheetLane n_sheet n_hands n_traceNow)) A) (by decide) rfl (Nat.le_of_ble_eq_true rfl) ?_
  intro p e s m args below meth c A ls Q hQ hx hb hr hml hts hown hlocks hsz hP hK hD hA hS hN hl
  subst hsz
  have hl : lv_has ls 2 [(0, .ref (ab 0)), (1, .int a_1)] := hl
  have hi_X6 : ∀ w ∈ wsX60, w ∈ wsX6_parts := fun _ h => List.mem_cons_of_mem _ (List.mem_append_right _ h)
  have fl_98 := hts (.fieldLink RX6 98 "UnsaidCallsModel" "things" "I") (by decide +kernel)
  unfold w_X6_parts at h
  refine lv_iload_n hx hb dX6_parts_0 rfl (lv_at hl 1 rfl) ?_
  refine lv_i2l (v := (Int32.toInt64 a_1)) hx hb dX6_parts_1 rfl ?_
  refine lv_lconst (v := (0 : Int64)) hx hb dX6_parts_2 (by decide) ?_
  refine lv_ldc2 (v := (6 : Int64)) hx hb hown (hts (.constantLong RX6 182 (6)) (by decide +kernel)) dX6_parts_3 ?_
  refine xq_ci (va_runS (As := [.long (Int32.toInt64 a_1), .long (0 : Int64), .long (6 : Int64)]) (rest := []) ⟨hx, hb, hml, hown, hts⟩ (m_X6_in l dC dI cyI cyJ (wm_u cyI cyJ ab n_fault n_things n_kindOf n_digitOf n_follows n_ifOf n_thenOf n_listOf n_breathOf n_heardOf n_readAt n_readThings n_readFollows n_readKind n_readDigit n_readIf n_readThen n_readings n_readingIn n_readingHour n_readingOf n_breathWas n_sheetSize n_sheetLane n_sheet n_hands n_traceNow) s.heap.size h) (va_cwS 3 hts gX6_parts_X6_in rfl rfl rfl (by decide +kernel) ⟨Nat.le_of_ble_eq_true rfl, Nat.le_of_ble_eq_true rfl⟩) (xq_preS hK hP hD hN) rfl rfl hl.1 rfl (lv_room (Nat.le_of_ble_eq_true rfl)) dX6_parts_6 ⟨Nat.le_refl _, Nat.le_refl _⟩) hD hS hA (fun rr_1 uu H locs h hP hD hS => ?_)
  have hP : va_P (dC, dI) vwCl (wm_u cyI cyJ ab n_fault n_things n_kindOf n_digitOf n_follows n_ifOf n_thenOf n_listOf n_breathOf n_heardOf n_readAt n_readThings n_readFollows n_readKind n_readDigit n_readIf n_readThen n_readings n_readingIn n_readingHour n_readingOf n_breathWas n_sheetSize n_sheetLane n_sheet n_hands n_traceNow) H := hP
  have hD : va_D A (wm_u cyI cyJ ab n_fault n_things n_kindOf n_digitOf n_follows n_ifOf n_thenOf n_listOf n_breathOf n_heardOf n_readAt n_readThings n_readFollows n_readKind n_readDigit n_readIf n_readThen n_readings n_readingIn n_readingHour n_readingOf n_breathWas n_sheetSize n_sheetLane n_sheet n_hands n_traceNow) := hD
  refine lv_if_ne (tgt := 15) hx hb dX6_parts_9 (by decide) (fun hc_5 => ?_) (fun hc_5 => ?_)
  · have h := h.1 hc_5
    refine lv_aload_n hx hb dX6_parts_15 rfl (lv_at hl 0 rfl) ?_
    refine va_get (D := (dC, dI)) (ci := 6) (v := .int n_things) (C := RX6) (T := TX6) (N := 27) hx hb hts hi_X6 hown hK hP 0 rfl rfl 1 (by decide) fl_98 (fun _ h9 => h9) rfl dX6_parts_16 ?_
    refine lv_if_ne (tgt := 27) hx hb dX6_parts_19 (by decide) (fun hc_4 => ?_) (fun hc_4 => ?_)
    · have h := h.1 hc_4
      refine lv_aload_n hx hb dX6_parts_27 rfl (lv_at hl 0 rfl) ?_
      refine lv_iload_n hx hb dX6_parts_28 rfl (lv_at hl 1 rfl) ?_
      refine xq_ci (va_runV (As := [.int a_1]) (rest := []) ⟨hx, hb, hml, hown, hts⟩ (m_X6_partsBy l dC dI cyI cyJ ab H.size h) (cwV 1 hts gX6_parts_X6_partsBy rfl rfl rfl (by decide +kernel) ⟨Nat.le_of_ble_eq_true rfl, Nat.le_of_ble_eq_true rfl⟩) (xq_preV hK hP hD hN (ci := 6) (q0 := 0) rfl rfl) rfl rfl hl.1 rfl (lv_room (Nat.le_of_ble_eq_true rfl)) dX6_parts_29 ⟨Nat.le_refl _, Nat.le_refl _⟩) hD hS hA (fun rr_2 uu H locs h hP hD hS => ?_)
      have hP : va_P (dC, dI) vwCl (wm_u cyI cyJ ab n_fault n_things n_kindOf n_digitOf n_follows n_ifOf n_thenOf n_listOf n_breathOf n_heardOf n_readAt n_readThings n_readFollows n_readKind n_readDigit n_readIf n_readThen n_readings n_readingIn n_readingHour n_readingOf n_breathWas n_sheetSize n_sheetLane n_sheet n_hands n_traceNow) H := hP
      have hD : va_D A (wm_u cyI cyJ ab n_fault n_things n_kindOf n_digitOf n_follows n_ifOf n_thenOf n_listOf n_breathOf n_heardOf n_readAt n_readThings n_readFollows n_readKind n_readDigit n_readIf n_readThen n_readings n_readingIn n_readingHour n_readingOf n_breathWas n_sheetSize n_sheetLane n_sheet n_hands n_traceNow) := hD
      exact xq_ri hQ hx hb hr hP hK hD hS () rfl h dX6_parts_32 hlocks
    · have h := h.2 hc_4
      refine lv_bipush (v := (-3 : Int32)) hx hb dX6_parts_22 (by decide) ?_
      refine lv_goto (tgt := 32) hx hb dX6_parts_24 (by decide) ?_
      exact xq_ri hQ hx hb hr hP hK hD hS () rfl h dX6_parts_32 hlocks
  · have h := h.2 hc_5
    refine lv_bipush (v := (-2 : Int32)) hx hb dX6_parts_12 (by decide) ?_
    exact xq_ri hQ hx hb hr hP hK hD hS () rfl h dX6_parts_14 hlocks
def w_X6_put (n_fault : Int32) (n_sheetSize : Nat → Int32) (n_sheetLane : Nat → Int32) (n_sheet : Nat → Int32) (a_1 : Int32) (a_2 : Int32) (a_3 : Int32) (post : Int32 → Int32 → (Nat → Int32) → Prop) : Prop := w_X6_noSheet a_1 (fun (rr_1 : Int32) => (rr_1 = 0 → (w_X6_noCell n_sheetSize a_1 a_2 (fun (rr_2 : Int32) => (rr_2 ≤ 0 → ((vp_in a_1 4) ∧ (xq_j1 (fun (kj_5 : Int32 → Prop) => (¬ (n_sheetLane a_1.toNatClampNeg) = 0 → ((vp_in a_1 4) ∧ ((¬ (n_sheetLane a_1.toNatClampNeg) = (1 : Int32) → (kj_5 a_3)) ∧ ((n_sheetLane a_1.toNatClampNeg) = (1 : Int32) → (kj_5 (Int16.toInt32 (Int32.toInt16 a_3))))))) ∧ ((n_sheetLane a_1.toNatClampNeg) = 0 → (kj_5 (Int8.toInt32 (Int32.toInt8 a_3))))) (fun (jj_4 : Int32) => (vp_in (((60 : Int32) * a_1) + a_2) 240) ∧ (w_X6_refused n_fault (1 : Int32) (fun (rr_10 : Int32) (cc_11 : Int32) => post rr_10 cc_11 (upd n_sheet (((60 : Int32) * a_1) + a_2).toNatClampNeg jj_4))))))) ∧ (¬ rr_2 ≤ 0 → (w_X6_noCell n_sheetSize a_1 a_2 (fun (rr_13 : Int32) => w_X6_failed n_fault rr_13 (fun (rr_14 : Int32) (cc_15 : Int32) => post rr_14 cc_15 n_sheet))))))) ∧ (¬ rr_1 = 0 → (w_X6_refused n_fault (-1 : Int32) (fun (rr_20 : Int32) (cc_21 : Int32) => post rr_20 cc_21 n_sheet))))
set_option maxHeartbeats 4000000 in
set_option maxRecDepth 100000 in
theorem m_X6_put (l : Launch) (dC : Nat → ClassId) (dI : Nat → Nat → Nat) (cyI cyJ : ClassId) (ab : Nat → Nat) (sz : Nat) {n_fault : Int32} {n_things : Int32} {n_kindOf : Nat → Int32} {n_digitOf : Nat → Int32} {n_follows : Int32} {n_ifOf : Nat → Int32} {n_thenOf : Nat → Int32} {n_listOf : Nat → Int32} {n_breathOf : Nat → Int32} {n_heardOf : Nat → Int32} {n_readAt : Int32} {n_readThings : Int32} {n_readFollows : Int32} {n_readKind : Nat → Int32} {n_readDigit : Nat → Int32} {n_readIf : Nat → Int32} {n_readThen : Nat → Int32} {n_readings : Int32} {n_readingIn : Nat → Int32} {n_readingHour : Nat → Int32} {n_readingOf : Nat → Int32} {n_breathWas : Nat → Int32} {n_sheetSize : Nat → Int32} {n_sheetLane : Nat → Int32} {n_sheet : Nat → Int32} {n_hands : Nat → Int32} {n_traceNow : Int32} {a_1 : Int32} {a_2 : Int32} {a_3 : Int32} {post : Int32 → Int32 → (Nat → Int32) → Prop} (h : w_X6_put n_fault n_sheetSize n_sheetLane n_sheet a_1 a_2 a_3 post) : Met l yX6_put wsX6_put (xq_R 2 47) (va_Pc [.ref (ab 0), .int a_1, .int a_2, .int a_3] (xq_P (dC, dI) [(cyI, .int), (cyJ, .long)] (wm_u cyI cyJ ab n_fault n_things n_kindOf n_digitOf n_follows n_ifOf n_thenOf n_listOf n_breathOf n_heardOf n_readAt n_readThings n_readFollows n_readKind n_readDigit n_readIf n_readThen n_readings n_readingIn n_readingHour n_readingOf n_breathWas n_sheetSize n_sheetLane n_sheet n_hands n_traceNow) sz)) (va_Qi (fun (rr : Int32) (uu : Int32 × (Nat → Int32)) => post rr uu.1 uu.2) (fun (uu : Int32 × (Nat → Int32)) => xq_B (dC, dI) [(cyI, .int), (cyJ, .long)] (va_A (wm_u cyI cyJ ab n_fault n_things n_kindOf n_digitOf n_follows n_ifOf n_thenOf n_listOf n_breathOf n_heardOf n_readAt n_readThings n_readFollows n_readKind n_readDigit n_readIf n_readThen n_readings n_readingIn n_readingHour n_readingOf n_breathWas n_sheetSize n_sheetLane n_sheet n_hands n_traceNow) sz) (wm_u cyI cyJ ab uu.1 n_things n_kindOf n_digitOf n_follows n_ifOf n_thenOf n_listOf n_breathOf n_heardOf n_readAt n_readThings n_readFollows n_readKind n_readDigit n_readIf n_readThen n_readings n_readingIn n_readingHour n_readingOf n_breathWas n_sheetSize n_sheetLane uu.2 n_hands n_traceNow)) (va_A (wm_u cyI cyJ ab n_fault n_things n_kindOf n_digitOf n_follows n_ifOf n_thenOf n_listOf n_breathOf n_heardOf n_readAt n_readThings n_readFollows n_readKind n_readDigit n_readIf n_readThen n_readings n_readingIn n_readingHour n_readingOf n_breathWas n_sheetSize n_sheetLane n_sheet n_hands n_traceNow) sz)) 0 0 (va_A (wm_u cyI cyJ ab n_fault n_things n_kindOf n_digitOf n_follows n_ifOf n_thenOf n_listOf n_breathOf n_heardOf n_readAt n_readThings n_readFollows n_readKind n_readDigit n_readIf n_readThen n_readings n_readingIn n_readingHour n_readingOf n_breathWas n_sheetSize n_sheetLane n_sheet n_hands n_traceNow) sz) := by
  refine xq_M (cc := cX6_put) (maxL := 4) (ret := (some .int)) (QA := fun A => va_Qi (fun (rr : Int32) (uu : Int32 × (Nat → Int32)) => post rr uu.1 uu.2) (fun (uu : Int32 × (Nat → Int32)) => xq_B (dC, dI) [(cyI, .int), (cyJ, .long)] A (wm_u cyI cyJ ab uu.1 n_things n_kindOf n_digitOf n_follows n_ifOf n_thenOf n_listOf n_breathOf n_heardOf n_readAt n_readThings n_readFollows n_readKind n_readDigit n_readIf n_readThen n_readings n_readingIn n_readingHour n_readingOf n_breathWas n_sheetSize n_sheetLane uu.2 n_hands n_traceNow)) A) (by decide) rfl (Nat.le_of_ble_eq_true rfl) ?_
  intro p e s m args below meth c A ls Q hQ hx hb hr hml hts hown hlocks hsz hP hK hD hA hS hN hl
  subst hsz
  have hl : lv_has ls 4 [(0, .ref (ab 0)), (1, .int a_1), (2, .int a_2), (3, .int a_3)] := hl
  have hi_X6 : ∀ w ∈ wsX60, w ∈ wsX6_put := fun _ h => List.mem_cons_of_mem _ (List.mem_append_right _ h)
  have fl_58 := hts (.fieldLink RX6 58 "UnsaidCallsModel" "sheetLane" "[I") (by decide +kernel)
  have fl_61 := hts (.fieldLink RX6 61 "UnsaidCallsModel" "sheet" "[I") (by decide +kernel)
  unfold w_X6_put at h
  refine lv_iload_n hx hb dX6_put_0 rfl (lv_at hl 1 rfl) ?_
  refine xq_ci (va_runS (As := [.int a_1]) (rest := []) ⟨hx, hb, hml, hown, hts⟩ (m_X6_noSheet l dC dI cyI cyJ (wm_u cyI cyJ ab n_fault n_things n_kindOf n_digitOf n_follows n_ifOf n_thenOf n_listOf n_breathOf n_heardOf n_readAt n_readThings n_readFollows n_readKind n_readDigit n_readIf n_readThen n_readings n_readingIn n_readingHour n_readingOf n_breathWas n_sheetSize n_sheetLane n_sheet n_hands n_traceNow) s.heap.size h) (va_cwS 1 hts gX6_put_X6_noSheet rfl rfl rfl (by decide +kernel) ⟨Nat.le_of_ble_eq_true rfl, Nat.le_of_ble_eq_true rfl⟩) (xq_preS hK hP hD hN) rfl rfl hl.1 rfl (lv_room (Nat.le_of_ble_eq_true rfl)) dX6_put_1 ⟨Nat.le_refl _, Nat.le_refl _⟩) hD hS hA (fun rr_1 uu H locs h hP hD hS => ?_)
  have hP : va_P (dC, dI) vwCl (wm_u cyI cyJ ab n_fault n_things n_kindOf n_digitOf n_follows n_ifOf n_thenOf n_listOf n_breathOf n_heardOf n_readAt n_readThings n_readFollows n_readKind n_readDigit n_readIf n_readThen n_readings n_readingIn n_readingHour n_readingOf n_breathWas n_sheetSize n_sheetLane n_sheet n_hands n_traceNow) H := hP
  have hD : va_D A (wm_u cyI cyJ ab n_fault n_things n_kindOf n_digitOf n_follows n_ifOf n_thenOf n_listOf n_breathOf n_heardOf n_readAt n_readThings n_readFollows n_readKind n_readDigit n_readIf n_readThen n_readings n_readingIn n_readingHour n_readingOf n_breathWas n_sheetSize n_sheetLane n_sheet n_hands n_traceNow) := hD
  refine lv_if_eq (tgt := 13) hx hb dX6_put_4 (by decide) (fun hc_23 => ?_) (fun hc_23 => ?_)
  · have h := h.1 hc_23
    refine lv_aload_n hx hb dX6_put_13 rfl (lv_at hl 0 rfl) ?_
    refine lv_iload_n hx hb dX6_put_14 rfl (lv_at hl 1 rfl) ?_
    refine lv_iload_n hx hb dX6_put_15 rfl (lv_at hl 2 rfl) ?_
    refine xq_ci (va_runV (As := [.int a_1, .int a_2]) (rest := []) ⟨hx, hb, hml, hown, hts⟩ (m_X6_noCell l dC dI cyI cyJ ab H.size h) (cwV 2 hts gX6_put_X6_noCell rfl rfl rfl (by decide +kernel) ⟨Nat.le_of_ble_eq_true rfl, Nat.le_of_ble_eq_true rfl⟩) (xq_preV hK hP hD hN (ci := 6) (q0 := 0) rfl rfl) rfl rfl hl.1 rfl (lv_room (Nat.le_of_ble_eq_true rfl)) dX6_put_16 ⟨Nat.le_refl _, Nat.le_refl _⟩) hD hS hA (fun rr_2 uu H locs h hP hD hS => ?_)
    have hP : va_P (dC, dI) vwCl (wm_u cyI cyJ ab n_fault n_things n_kindOf n_digitOf n_follows n_ifOf n_thenOf n_listOf n_breathOf n_heardOf n_readAt n_readThings n_readFollows n_readKind n_readDigit n_readIf n_readThen n_readings n_readingIn n_readingHour n_readingOf n_breathWas n_sheetSize n_sheetLane n_sheet n_hands n_traceNow) H := hP
    have hD : va_D A (wm_u cyI cyJ ab n_fault n_things n_kindOf n_digitOf n_follows n_ifOf n_thenOf n_listOf n_breathOf n_heardOf n_readAt n_readThings n_readFollows n_readKind n_readDigit n_readIf n_readThen n_readings n_readingIn n_readingHour n_readingOf n_breathWas n_sheetSize n_sheetLane n_sheet n_hands n_traceNow) := hD
    refine lv_if_le (tgt := 33) hx hb dX6_put_19 (by decide) (fun hc_18 => ?_) (fun hc_18 => ?_)
    · have h := h.1 hc_18
      refine lv_aload_n hx hb dX6_put_33 rfl (lv_at hl 0 rfl) ?_
      refine va_get (D := (dC, dI)) (ci := 6) (v := .ref (ab 18)) (C := RX6) (T := TX6) (N := 27) hx hb hts hi_X6 hown hK hP 0 rfl rfl 24 (by decide) fl_61 (fun _ h9 => h9) rfl dX6_put_34 ?_
      refine lv_bipush (v := (60 : Int32)) hx hb dX6_put_37 (by decide) ?_
      refine lv_iload_n hx hb dX6_put_39 rfl (lv_at hl 1 rfl) ?_
      refine lv_imul hx hb dX6_put_40 ?_
      refine lv_iload_n hx hb dX6_put_41 rfl (lv_at hl 2 rfl) ?_
      refine lv_iadd hx hb dX6_put_42 ?_
      refine lv_aload_n hx hb dX6_put_43 rfl (lv_at hl 0 rfl) ?_
      refine va_get (D := (dC, dI)) (ci := 6) (v := .ref (ab 17)) (C := RX6) (T := TX6) (N := 27) hx hb hts hi_X6 hown hK hP 0 rfl rfl 23 (by decide) fl_58 (fun _ h9 => h9) rfl dX6_put_44 ?_
      refine lv_iload_n hx hb dX6_put_47 rfl (lv_at hl 1 rfl) ?_
      obtain ⟨hv_3, h⟩ := h
      refine va_iald hx hb hK hP 17 0 rfl rfl hv_3 dX6_put_48 ?_
      refine xq_j1_go (X := fun (jj_4 : Int32) => ∀ (H : Heap) (locs : List Loc) (ls : Array Slot), va_P (dC, dI) vwCl (wm_u cyI cyJ ab n_fault n_things n_kindOf n_digitOf n_follows n_ifOf n_thenOf n_listOf n_breathOf n_heardOf n_readAt n_readThings n_readFollows n_readKind n_readDigit n_readIf n_readThen n_readings n_readingIn n_readingHour n_readingOf n_breathWas n_sheetSize n_sheetLane n_sheet n_hands n_traceNow) H → va_D A (wm_u cyI cyJ ab n_fault n_things n_kindOf n_digitOf n_follows n_ifOf n_thenOf n_listOf n_breathOf n_heardOf n_readAt n_readThings n_readFollows n_readKind n_readDigit n_readIf n_readThen n_readings n_readingIn n_readingHour n_readingOf n_breathWas n_sheetSize n_sheetLane n_sheet n_hands n_traceNow) → va_S A s.heap H locs → lv_has ls 4 [(0, .ref (ab 0))] → W p l e (xq_R 2 47) s m args below meth c H locs 0 0 Q (F0 m 73 ls [.int jj_4, .int (((60 : Int32) * a_1) + a_2), .ref (ab 18)])) h (fun jj_4 h H locs ls hP hD hS hl => ?_) (fun kj_5 h => ?_)
      · obtain ⟨hv_9, h⟩ := h
        refine va_iast hx hb hK hP hD hS 18 0 rfl rfl hv_9 dX6_put_73 (fun H locs hP hD hS => ?_)
        have hP : va_P (dC, dI) vwCl (wm_u cyI cyJ ab n_fault n_things n_kindOf n_digitOf n_follows n_ifOf n_thenOf n_listOf n_breathOf n_heardOf n_readAt n_readThings n_readFollows n_readKind n_readDigit n_readIf n_readThen n_readings n_readingIn n_readingHour n_readingOf n_breathWas n_sheetSize n_sheetLane (upd n_sheet (((60 : Int32) * a_1) + a_2).toNatClampNeg jj_4) n_hands n_traceNow) H := hP
        have hD : va_D A (wm_u cyI cyJ ab n_fault n_things n_kindOf n_digitOf n_follows n_ifOf n_thenOf n_listOf n_breathOf n_heardOf n_readAt n_readThings n_readFollows n_readKind n_readDigit n_readIf n_readThen n_readings n_readingIn n_readingHour n_readingOf n_breathWas n_sheetSize n_sheetLane (upd n_sheet (((60 : Int32) * a_1) + a_2).toNatClampNeg jj_4) n_hands n_traceNow) := hD
        refine lv_aload_n hx hb dX6_put_74 rfl (lv_at hl 0 rfl) ?_
        refine lv_iconst (v := (1 : Int32)) hx hb dX6_put_75 (by decide) ?_
        refine xq_ci (va_runV (As := [.int (1 : Int32)]) (rest := []) ⟨hx, hb, hml, hown, hts⟩ (m_X6_refused l dC dI cyI cyJ ab H.size h) (cwV 1 hts gX6_put_X6_refused rfl rfl rfl (by decide +kernel) ⟨Nat.le_of_ble_eq_true rfl, Nat.le_of_ble_eq_true rfl⟩) (xq_preV hK hP hD hN (ci := 6) (q0 := 0) rfl rfl) rfl rfl hl.1 rfl (lv_room (Nat.le_of_ble_eq_true rfl)) dX6_put_76 ⟨Nat.le_refl _, Nat.le_refl _⟩) hD hS hA (fun rr_10 uu H locs h hP hD hS => ?_)
        obtain ⟨cc_11, rfl⟩ : ∃ z, z = uu := ⟨_, rfl⟩
        have hP : va_P (dC, dI) vwCl (wm_u cyI cyJ ab cc_11 n_things n_kindOf n_digitOf n_follows n_ifOf n_thenOf n_listOf n_breathOf n_heardOf n_readAt n_readThings n_readFollows n_readKind n_readDigit n_readIf n_readThen n_readings n_readingIn n_readingHour n_readingOf n_breathWas n_sheetSize n_sheetLane (upd n_sheet (((60 : Int32) * a_1) + a_2).toNatClampNeg jj_4) n_hands n_traceNow) H := hP
        have hD : va_D A (wm_u cyI cyJ ab cc_11 n_things n_kindOf n_digitOf n_follows n_ifOf n_thenOf n_listOf n_breathOf n_heardOf n_readAt n_readThings n_readFollows n_readKind n_readDigit n_readIf n_readThen n_readings n_readingIn n_readingHour n_readingOf n_breathWas n_sheetSize n_sheetLane (upd n_sheet (((60 : Int32) * a_1) + a_2).toNatClampNeg jj_4) n_hands n_traceNow) := hD
        exact xq_ri hQ hx hb hr hP hK hD hS (cc_11, (upd n_sheet (((60 : Int32) * a_1) + a_2).toNatClampNeg jj_4)) rfl h dX6_put_79 hlocks
      · refine lv_if_ne (tgt := 57) hx hb dX6_put_49 (by decide) (fun hc_8 => ?_) (fun hc_8 => ?_)
        · have h := h.1 hc_8
          refine lv_aload_n hx hb dX6_put_57 rfl (lv_at hl 0 rfl) ?_
          refine va_get (D := (dC, dI)) (ci := 6) (v := .ref (ab 17)) (C := RX6) (T := TX6) (N := 27) hx hb hts hi_X6 hown hK hP 0 rfl rfl 23 (by decide) fl_58 (fun _ h9 => h9) rfl dX6_put_58 ?_
          refine lv_iload_n hx hb dX6_put_61 rfl (lv_at hl 1 rfl) ?_
          obtain ⟨hv_6, h⟩ := h
          refine va_iald hx hb hK hP 17 0 rfl rfl hv_6 dX6_put_62 ?_
          refine lv_iconst (v := (1 : Int32)) hx hb dX6_put_63 (by decide) ?_
          refine lv_icmp_ne (tgt := 72) hx hb dX6_put_64 (by decide) (fun hc_7 => ?_) (fun hc_7 => ?_)
          · have h := h.1 hc_7
            refine lv_iload_n hx hb dX6_put_72 rfl (lv_at hl 3 rfl) ?_
            exact kj_5 a_3 h _ _ _ hP hD hS (lv_sub hl [0] rfl)
          · have h := h.2 hc_7
            refine lv_iload_n hx hb dX6_put_67 rfl (lv_at hl 3 rfl) ?_
            refine lv_i2s (v := (Int16.toInt32 (Int32.toInt16 a_3))) hx hb dX6_put_68 rfl ?_
            refine lv_goto (tgt := 73) hx hb dX6_put_69 (by decide) ?_
            exact kj_5 (Int16.toInt32 (Int32.toInt16 a_3)) h _ _ _ hP hD hS (lv_sub hl [0] rfl)
        · have h := h.2 hc_8
          refine lv_iload_n hx hb dX6_put_52 rfl (lv_at hl 3 rfl) ?_
          refine lv_i2b (v := (Int8.toInt32 (Int32.toInt8 a_3))) hx hb dX6_put_53 rfl ?_
          refine lv_goto (tgt := 73) hx hb dX6_put_54 (by decide) ?_
          exact kj_5 (Int8.toInt32 (Int32.toInt8 a_3)) h _ _ _ hP hD hS (lv_sub hl [0] rfl)
    · have h := h.2 hc_18
      refine lv_aload_n hx hb dX6_put_22 rfl (lv_at hl 0 rfl) ?_
      refine lv_aload_n hx hb dX6_put_23 rfl (lv_at hl 0 rfl) ?_
      refine lv_iload_n hx hb dX6_put_24 rfl (lv_at hl 1 rfl) ?_
      refine lv_iload_n hx hb dX6_put_25 rfl (lv_at hl 2 rfl) ?_
      refine xq_ci (va_runV (As := [.int a_1, .int a_2]) (rest := [.ref (ab 0)]) ⟨hx, hb, hml, hown, hts⟩ (m_X6_noCell l dC dI cyI cyJ ab H.size h) (cwV 2 hts gX6_put_X6_noCell rfl rfl rfl (by decide +kernel) ⟨Nat.le_of_ble_eq_true rfl, Nat.le_of_ble_eq_true rfl⟩) (xq_preV hK hP hD hN (ci := 6) (q0 := 0) rfl rfl) rfl rfl hl.1 rfl (lv_room (Nat.le_of_ble_eq_true rfl)) dX6_put_26 ⟨Nat.le_refl _, Nat.le_refl _⟩) hD hS hA (fun rr_13 uu H locs h hP hD hS => ?_)
      have hP : va_P (dC, dI) vwCl (wm_u cyI cyJ ab n_fault n_things n_kindOf n_digitOf n_follows n_ifOf n_thenOf n_listOf n_breathOf n_heardOf n_readAt n_readThings n_readFollows n_readKind n_readDigit n_readIf n_readThen n_readings n_readingIn n_readingHour n_readingOf n_breathWas n_sheetSize n_sheetLane n_sheet n_hands n_traceNow) H := hP
      have hD : va_D A (wm_u cyI cyJ ab n_fault n_things n_kindOf n_digitOf n_follows n_ifOf n_thenOf n_listOf n_breathOf n_heardOf n_readAt n_readThings n_readFollows n_readKind n_readDigit n_readIf n_readThen n_readings n_readingIn n_readingHour n_readingOf n_breathWas n_sheetSize n_sheetLane n_sheet n_hands n_traceNow) := hD
      refine xq_ci (va_runV (As := [.int rr_13]) (rest := []) ⟨hx, hb, hml, hown, hts⟩ (m_X6_failed l dC dI cyI cyJ ab H.size h) (cwV 1 hts gX6_put_X6_failed rfl rfl rfl (by decide +kernel) ⟨Nat.le_of_ble_eq_true rfl, Nat.le_of_ble_eq_true rfl⟩) (xq_preV hK hP hD hN (ci := 6) (q0 := 0) rfl rfl) rfl rfl hl.1 rfl (lv_room (Nat.le_of_ble_eq_true rfl)) dX6_put_29 ⟨Nat.le_refl _, Nat.le_refl _⟩) hD hS hA (fun rr_14 uu H locs h hP hD hS => ?_)
      obtain ⟨cc_15, rfl⟩ : ∃ z, z = uu := ⟨_, rfl⟩
      have hP : va_P (dC, dI) vwCl (wm_u cyI cyJ ab cc_15 n_things n_kindOf n_digitOf n_follows n_ifOf n_thenOf n_listOf n_breathOf n_heardOf n_readAt n_readThings n_readFollows n_readKind n_readDigit n_readIf n_readThen n_readings n_readingIn n_readingHour n_readingOf n_breathWas n_sheetSize n_sheetLane n_sheet n_hands n_traceNow) H := hP
      have hD : va_D A (wm_u cyI cyJ ab cc_15 n_things n_kindOf n_digitOf n_follows n_ifOf n_thenOf n_listOf n_breathOf n_heardOf n_readAt n_readThings n_readFollows n_readKind n_readDigit n_readIf n_readThen n_readings n_readingIn n_readingHour n_readingOf n_breathWas n_sheetSize n_sheetLane n_sheet n_hands n_traceNow) := hD
      exact xq_ri hQ hx hb hr hP hK hD hS (cc_15, n_sheet) rfl h dX6_put_32 hlocks
  · have h := h.2 hc_23
    refine lv_aload_n hx hb dX6_put_7 rfl (lv_at hl 0 rfl) ?_
    refine lv_iconst (v := (-1 : Int32)) hx hb dX6_put_8 (by decide) ?_
    refine xq_ci (va_runV (As := [.int (-1 : Int32)]) (rest := []) ⟨hx, hb, hml, hown, hts⟩ (m_X6_refused l dC dI cyI cyJ ab H.size h) (cwV 1 hts gX6_put_X6_refused rfl rfl rfl (by decide +kernel) ⟨Nat.le_of_ble_eq_true rfl, Nat.le_of_ble_eq_true rfl⟩) (xq_preV hK hP hD hN (ci := 6) (q0 := 0) rfl rfl) rfl rfl hl.1 rfl (lv_room (Nat.le_of_ble_eq_true rfl)) dX6_put_9 ⟨Nat.le_refl _, Nat.le_refl _⟩) hD hS hA (fun rr_20 uu H locs h hP hD hS => ?_)
    obtain ⟨cc_21, rfl⟩ : ∃ z, z = uu := ⟨_, rfl⟩
    have hP : va_P (dC, dI) vwCl (wm_u cyI cyJ ab cc_21 n_things n_kindOf n_digitOf n_follows n_ifOf n_thenOf n_listOf n_breathOf n_heardOf n_readAt n_readThings n_readFollows n_readKind n_readDigit n_readIf n_readThen n_readings n_readingIn n_readingHour n_readingOf n_breathWas n_sheetSize n_sheetLane n_sheet n_hands n_traceNow) H := hP
    have hD : va_D A (wm_u cyI cyJ ab cc_21 n_things n_kindOf n_digitOf n_follows n_ifOf n_thenOf n_listOf n_breathOf n_heardOf n_readAt n_readThings n_readFollows n_readKind n_readDigit n_readIf n_readThen n_readings n_readingIn n_readingHour n_readingOf n_breathWas n_sheetSize n_sheetLane n_sheet n_hands n_traceNow) := hD
    exact xq_ri hQ hx hb hr hP hK hD hS (cc_21, n_sheet) rfl h dX6_put_12 hlocks
def w_X6_reading (n_things : Int32) (n_follows : Int32) (n_ifOf : Nat → Int32) (n_thenOf : Nat → Int32) (n_readings : Int32) (n_readingIn : Nat → Int32) (n_readingHour : Nat → Int32) (n_readingOf : Nat → Int32) (a_1 : Int32) (a_2 : Int32) (a_3 : Int32) (post : Int32 → Int32 → (Nat → Int32) → (Nat → Int32) → (Nat → Int32) → Prop) : Prop := w_X6_isCase n_things n_follows n_ifOf n_thenOf a_1 (fun (rr_1 : Int32) => (rr_1 = 0 → (post (-1 : Int32) n_readings n_readingIn n_readingHour n_readingOf)) ∧ (¬ rr_1 = 0 → (w_X6_noHour a_2 (fun (rr_2 : Int32) => (rr_2 = 0 → (w_X6_isOfThings n_things a_3 (fun (rr_3 : Int32) => (¬ rr_3 = 0 → ((¬ n_readings = (8 : Int32) → ((vp_in n_readings 8) ∧ ((vp_in n_readings 8) ∧ ((vp_in n_readings 8) ∧ (post ((n_readings + (1 : Int32)) - (1 : Int32)) (n_readings + (1 : Int32)) (upd n_readingIn n_readings.toNatClampNeg a_1) (upd n_readingHour n_readings.toNatClampNeg a_2) (upd n_readingOf n_readings.toNatClampNeg a_3)))))) ∧ (n_readings = (8 : Int32) → (post (-4 : Int32) n_readings n_readingIn n_readingHour n_readingOf)))) ∧ (rr_3 = 0 → (post (-2 : Int32) n_readings n_readingIn n_readingHour n_readingOf))))) ∧ (¬ rr_2 = 0 → (post (-1 : Int32) n_readings n_readingIn n_readingHour n_readingOf))))))
set_option maxHeartbeats 4000000 in
set_option maxRecDepth 100000 in
theorem m_X6_reading (l : Launch) (dC : Nat → ClassId) (dI : Nat → Nat → Nat) (cyI cyJ : ClassId) (ab : Nat → Nat) (sz : Nat) {n_fault : Int32} {n_things : Int32} {n_kindOf : Nat → Int32} {n_digitOf : Nat → Int32} {n_follows : Int32} {n_ifOf : Nat → Int32} {n_thenOf : Nat → Int32} {n_listOf : Nat → Int32} {n_breathOf : Nat → Int32} {n_heardOf : Nat → Int32} {n_readAt : Int32} {n_readThings : Int32} {n_readFollows : Int32} {n_readKind : Nat → Int32} {n_readDigit : Nat → Int32} {n_readIf : Nat → Int32} {n_readThen : Nat → Int32} {n_readings : Int32} {n_readingIn : Nat → Int32} {n_readingHour : Nat → Int32} {n_readingOf : Nat → Int32} {n_breathWas : Nat → Int32} {n_sheetSize : Nat → Int32} {n_sheetLane : Nat → Int32} {n_sheet : Nat → Int32} {n_hands : Nat → Int32} {n_traceNow : Int32} {a_1 : Int32} {a_2 : Int32} {a_3 : Int32} {post : Int32 → Int32 → (Nat → Int32) → (Nat → Int32) → (Nat → Int32) → Prop} (h : w_X6_reading n_things n_follows n_ifOf n_thenOf n_readings n_readingIn n_readingHour n_readingOf a_1 a_2 a_3 post) : Met l yX6_reading wsX6_reading (xq_R 3 69) (va_Pc [.ref (ab 0), .int a_1, .int a_2, .int a_3] (xq_P (dC, dI) [(cyI, .int), (cyJ, .long)] (wm_u cyI cyJ ab n_fault n_things n_kindOf n_digitOf n_follows n_ifOf n_thenOf n_listOf n_breathOf n_heardOf n_readAt n_readThings n_readFollows n_readKind n_readDigit n_readIf n_readThen n_readings n_readingIn n_readingHour n_readingOf n_breathWas n_sheetSize n_sheetLane n_sheet n_hands n_traceNow) sz)) (va_Qi (fun (rr : Int32) (uu : Int32 × (Nat → Int32) × (Nat → Int32) × (Nat → Int32)) => post rr uu.1 uu.2.1 uu.2.2.1 uu.2.2.2) (fun (uu : Int32 × (Nat → Int32) × (Nat → Int32) × (Nat → Int32)) => xq_B (dC, dI) [(cyI, .int), (cyJ, .long)] (va_A (wm_u cyI cyJ ab n_fault n_things n_kindOf n_digitOf n_follows n_ifOf n_thenOf n_listOf n_breathOf n_heardOf n_readAt n_readThings n_readFollows n_readKind n_readDigit n_readIf n_readThen n_readings n_readingIn n_readingHour n_readingOf n_breathWas n_sheetSize n_sheetLane n_sheet n_hands n_traceNow) sz) (wm_u cyI cyJ ab n_fault n_things n_kindOf n_digitOf n_follows n_ifOf n_thenOf n_listOf n_breathOf n_heardOf n_readAt n_readThings n_readFollows n_readKind n_readDigit n_readIf n_readThen uu.1 uu.2.1 uu.2.2.1 uu.2.2.2 n_breathWas n_sheetSize n_sheetLane n_sheet n_hands n_traceNow)) (va_A (wm_u cyI cyJ ab n_fault n_things n_kindOf n_digitOf n_follows n_ifOf n_thenOf n_listOf n_breathOf n_heardOf n_readAt n_readThings n_readFollows n_readKind n_readDigit n_readIf n_readThen n_readings n_readingIn n_readingHour n_readingOf n_breathWas n_sheetSize n_sheetLane n_sheet n_hands n_traceNow) sz)) 0 0 (va_A (wm_u cyI cyJ ab n_fault n_things n_kindOf n_digitOf n_follows n_ifOf n_thenOf n_listOf n_breathOf n_heardOf n_readAt n_readThings n_readFollows n_readKind n_readDigit n_readIf n_readThen n_readings n_readingIn n_readingHour n_readingOf n_breathWas n_sheetSize n_sheetLane n_sheet n_hands n_traceNow) sz) := by
  refine xq_M (cc := cX6_reading) (maxL := 4) (ret := (some .int)) (QA := fun A => va_Qi (fun (rr : Int32) (uu : Int32 × (Nat → Int32) × (Nat → Int32) × (Nat → Int32)) => post rr uu.1 uu.2.1 uu.2.2.1 uu.2.2.2) (fun (uu : Int32 × (Nat → Int32) × (Nat → Int32) × (Nat → Int32)) => xq_B (dC, dI) [(cyI, .int), (cyJ, .long)] A (wm_u cyI cyJ ab n_fault n_things n_kindOf n_digitOf n_follows n_ifOf n_thenOf n_listOf n_breathOf n_heardOf n_readAt n_readThings n_readFollows n_readKind n_readDigit n_readIf n_readThen uu.1 uu.2.1 uu.2.2.1 uu.2.2.2 n_breathWas n_sheetSize n_sheetLane n_sheet n_hands n_traceNow)) A) (by decide) rfl (Nat.le_of_ble_eq_true rfl) ?_
  intro p e s m args below meth c A ls Q hQ hx hb hr hml hts hown hlocks hsz hP hK hD hA hS hN hl
  subst hsz
  have hl : lv_has ls 4 [(0, .ref (ab 0)), (1, .int a_1), (2, .int a_2), (3, .int a_3)] := hl
  have hi_X6 : ∀ w ∈ wsX60, w ∈ wsX6_reading := fun _ h => List.mem_cons_of_mem _ (List.mem_append_right _ h)
  have fl_43 := hts (.fieldLink RX6 43 "UnsaidCallsModel" "readingIn" "[I") (by decide +kernel)
  have fl_46 := hts (.fieldLink RX6 46 "UnsaidCallsModel" "readingHour" "[I") (by decide +kernel)
  have fl_49 := hts (.fieldLink RX6 49 "UnsaidCallsModel" "readingOf" "[I") (by decide +kernel)
  have fl_141 := hts (.fieldLink RX6 141 "UnsaidCallsModel" "readings" "I") (by decide +kernel)
  unfold w_X6_reading at h
  refine lv_aload_n hx hb dX6_reading_0 rfl (lv_at hl 0 rfl) ?_
  refine lv_iload_n hx hb dX6_reading_1 rfl (lv_at hl 1 rfl) ?_
  refine xq_ci (va_runV (As := [.int a_1]) (rest := []) ⟨hx, hb, hml, hown, hts⟩ (m_X6_isCase l dC dI cyI cyJ ab s.heap.size h) (cwV 1 hts gX6_reading_X6_isCase rfl rfl rfl (by decide +kernel) ⟨Nat.le_of_ble_eq_true rfl, Nat.le_of_ble_eq_true rfl⟩) (xq_preV hK hP hD hN (ci := 6) (q0 := 0) rfl rfl) rfl rfl hl.1 rfl (lv_room (Nat.le_of_ble_eq_true rfl)) dX6_reading_2 ⟨Nat.le_refl _, Nat.le_refl _⟩) hD hS hA (fun rr_1 uu H locs h hP hD hS => ?_)
  have hP : va_P (dC, dI) vwCl (wm_u cyI cyJ ab n_fault n_things n_kindOf n_digitOf n_follows n_ifOf n_thenOf n_listOf n_breathOf n_heardOf n_readAt n_readThings n_readFollows n_readKind n_readDigit n_readIf n_readThen n_readings n_readingIn n_readingHour n_readingOf n_breathWas n_sheetSize n_sheetLane n_sheet n_hands n_traceNow) H := hP
  have hD : va_D A (wm_u cyI cyJ ab n_fault n_things n_kindOf n_digitOf n_follows n_ifOf n_thenOf n_listOf n_breathOf n_heardOf n_readAt n_readThings n_readFollows n_readKind n_readDigit n_readIf n_readThen n_readings n_readingIn n_readingHour n_readingOf n_breathWas n_sheetSize n_sheetLane n_sheet n_hands n_traceNow) := hD
  refine lv_if_eq (tgt := 15) hx hb dX6_reading_5 (by decide) (fun hc_12 => ?_) (fun hc_12 => ?_)
  · have h := h.1 hc_12
    refine lv_iconst (v := (-1 : Int32)) hx hb dX6_reading_15 (by decide) ?_
    exact xq_ri hQ hx hb hr hP hK hD hS (n_readings, n_readingIn, n_readingHour, n_readingOf) rfl h dX6_reading_16 hlocks
  · have h := h.2 hc_12
    refine lv_iload_n hx hb dX6_reading_8 rfl (lv_at hl 2 rfl) ?_
    refine xq_ci (va_runS (As := [.int a_2]) (rest := []) ⟨hx, hb, hml, hown, hts⟩ (m_X6_noHour l dC dI cyI cyJ (wm_u cyI cyJ ab n_fault n_things n_kindOf n_digitOf n_follows n_ifOf n_thenOf n_listOf n_breathOf n_heardOf n_readAt n_readThings n_readFollows n_readKind n_readDigit n_readIf n_readThen n_readings n_readingIn n_readingHour n_readingOf n_breathWas n_sheetSize n_sheetLane n_sheet n_hands n_traceNow) H.size h) (va_cwS 1 hts gX6_reading_X6_noHour rfl rfl rfl (by decide +kernel) ⟨Nat.le_of_ble_eq_true rfl, Nat.le_of_ble_eq_true rfl⟩) (xq_preS hK hP hD hN) rfl rfl hl.1 rfl (lv_room (Nat.le_of_ble_eq_true rfl)) dX6_reading_9 ⟨Nat.le_refl _, Nat.le_refl _⟩) hD hS hA (fun rr_2 uu H locs h hP hD hS => ?_)
    have hP : va_P (dC, dI) vwCl (wm_u cyI cyJ ab n_fault n_things n_kindOf n_digitOf n_follows n_ifOf n_thenOf n_listOf n_breathOf n_heardOf n_readAt n_readThings n_readFollows n_readKind n_readDigit n_readIf n_readThen n_readings n_readingIn n_readingHour n_readingOf n_breathWas n_sheetSize n_sheetLane n_sheet n_hands n_traceNow) H := hP
    have hD : va_D A (wm_u cyI cyJ ab n_fault n_things n_kindOf n_digitOf n_follows n_ifOf n_thenOf n_listOf n_breathOf n_heardOf n_readAt n_readThings n_readFollows n_readKind n_readDigit n_readIf n_readThen n_readings n_readingIn n_readingHour n_readingOf n_breathWas n_sheetSize n_sheetLane n_sheet n_hands n_traceNow) := hD
    refine lv_if_eq (tgt := 17) hx hb dX6_reading_12 (by decide) (fun hc_10 => ?_) (fun hc_10 => ?_)
    · have h := h.1 hc_10
      refine lv_aload_n hx hb dX6_reading_17 rfl (lv_at hl 0 rfl) ?_
      refine lv_iload_n hx hb dX6_reading_18 rfl (lv_at hl 3 rfl) ?_
      refine xq_ci (va_runV (As := [.int a_3]) (rest := []) ⟨hx, hb, hml, hown, hts⟩ (m_X6_isOfThings l dC dI cyI cyJ ab H.size h) (cwV 1 hts gX6_reading_X6_isOfThings rfl rfl rfl (by decide +kernel) ⟨Nat.le_of_ble_eq_true rfl, Nat.le_of_ble_eq_true rfl⟩) (xq_preV hK hP hD hN (ci := 6) (q0 := 0) rfl rfl) rfl rfl hl.1 rfl (lv_room (Nat.le_of_ble_eq_true rfl)) dX6_reading_19 ⟨Nat.le_refl _, Nat.le_refl _⟩) hD hS hA (fun rr_3 uu H locs h hP hD hS => ?_)
      have hP : va_P (dC, dI) vwCl (wm_u cyI cyJ ab n_fault n_things n_kindOf n_digitOf n_follows n_ifOf n_thenOf n_listOf n_breathOf n_heardOf n_readAt n_readThings n_readFollows n_readKind n_readDigit n_readIf n_readThen n_readings n_readingIn n_readingHour n_readingOf n_breathWas n_sheetSize n_sheetLane n_sheet n_hands n_traceNow) H := hP
      have hD : va_D A (wm_u cyI cyJ ab n_fault n_things n_kindOf n_digitOf n_follows n_ifOf n_thenOf n_listOf n_breathOf n_heardOf n_readAt n_readThings n_readFollows n_readKind n_readDigit n_readIf n_readThen n_readings n_readingIn n_readingHour n_readingOf n_breathWas n_sheetSize n_sheetLane n_sheet n_hands n_traceNow) := hD
      refine lv_if_ne (tgt := 28) hx hb dX6_reading_22 (by decide) (fun hc_8 => ?_) (fun hc_8 => ?_)
      · have h := h.1 hc_8
        refine lv_aload_n hx hb dX6_reading_28 rfl (lv_at hl 0 rfl) ?_
        refine va_get (D := (dC, dI)) (ci := 6) (v := .int n_readings) (C := RX6) (T := TX6) (N := 27) hx hb hts hi_X6 hown hK hP 0 rfl rfl 17 (by decide) fl_141 (fun _ h9 => h9) rfl dX6_reading_29 ?_
        refine lv_bipush (v := (8 : Int32)) hx hb dX6_reading_32 (by decide) ?_
        refine lv_icmp_ne (tgt := 40) hx hb dX6_reading_34 (by decide) (fun hc_7 => ?_) (fun hc_7 => ?_)
        · have h := h.1 hc_7
          refine lv_aload_n hx hb dX6_reading_40 rfl (lv_at hl 0 rfl) ?_
          refine va_get (D := (dC, dI)) (ci := 6) (v := .ref (ab 12)) (C := RX6) (T := TX6) (N := 27) hx hb hts hi_X6 hown hK hP 0 rfl rfl 18 (by decide) fl_43 (fun _ h9 => h9) rfl dX6_reading_41 ?_
          refine lv_aload_n hx hb dX6_reading_44 rfl (lv_at hl 0 rfl) ?_
          refine va_get (D := (dC, dI)) (ci := 6) (v := .int n_readings) (C := RX6) (T := TX6) (N := 27) hx hb hts hi_X6 hown hK hP 0 rfl rfl 17 (by decide) fl_141 (fun _ h9 => h9) rfl dX6_reading_45 ?_
          refine lv_iload_n hx hb dX6_reading_48 rfl (lv_at hl 1 rfl) ?_
          obtain ⟨hv_4, h⟩ := h
          refine va_iast hx hb hK hP hD hS 12 0 rfl rfl hv_4 dX6_reading_49 (fun H locs hP hD hS => ?_)
          have hP : va_P (dC, dI) vwCl (wm_u cyI cyJ ab n_fault n_things n_kindOf n_digitOf n_follows n_ifOf n_thenOf n_listOf n_breathOf n_heardOf n_readAt n_readThings n_readFollows n_readKind n_readDigit n_readIf n_readThen n_readings (upd n_readingIn n_readings.toNatClampNeg a_1) n_readingHour n_readingOf n_breathWas n_sheetSize n_sheetLane n_sheet n_hands n_traceNow) H := hP
          have hD : va_D A (wm_u cyI cyJ ab n_fault n_things n_kindOf n_digitOf n_follows n_ifOf n_thenOf n_listOf n_breathOf n_heardOf n_readAt n_readThings n_readFollows n_readKind n_readDigit n_readIf n_readThen n_readings (upd n_readingIn n_readings.toNatClampNeg a_1) n_readingHour n_readingOf n_breathWas n_sheetSize n_sheetLane n_sheet n_hands n_traceNow) := hD
          refine lv_aload_n hx hb dX6_reading_50 rfl (lv_at hl 0 rfl) ?_
          refine va_get (D := (dC, dI)) (ci := 6) (v := .ref (ab 13)) (C := RX6) (T := TX6) (N := 27) hx hb hts hi_X6 hown hK hP 0 rfl rfl 19 (by decide) fl_46 (fun _ h9 => h9) rfl dX6_reading_51 ?_
          refine lv_aload_n hx hb dX6_reading_54 rfl (lv_at hl 0 rfl) ?_
          refine va_get (D := (dC, dI)) (ci := 6) (v := .int n_readings) (C := RX6) (T := TX6) (N := 27) hx hb hts hi_X6 hown hK hP 0 rfl rfl 17 (by decide) fl_141 (fun _ h9 => h9) rfl dX6_reading_55 ?_
          refine lv_iload_n hx hb dX6_reading_58 rfl (lv_at hl 2 rfl) ?_
          obtain ⟨hv_5, h⟩ := h
          refine va_iast hx hb hK hP hD hS 13 0 rfl rfl hv_5 dX6_reading_59 (fun H locs hP hD hS => ?_)
          have hP : va_P (dC, dI) vwCl (wm_u cyI cyJ ab n_fault n_things n_kindOf n_digitOf n_follows n_ifOf n_thenOf n_listOf n_breathOf n_heardOf n_readAt n_readThings n_readFollows n_readKind n_readDigit n_readIf n_readThen n_readings (upd n_readingIn n_readings.toNatClampNeg a_1) (upd n_readingHour n_readings.toNatClampNeg a_2) n_readingOf n_breathWas n_sheetSize n_sheetLane n_sheet n_hands n_traceNow) H := hP
          have hD : va_D A (wm_u cyI cyJ ab n_fault n_things n_kindOf n_digitOf n_follows n_ifOf n_thenOf n_listOf n_breathOf n_heardOf n_readAt n_readThings n_readFollows n_readKind n_readDigit n_readIf n_readThen n_readings (upd n_readingIn n_readings.toNatClampNeg a_1) (upd n_readingHour n_readings.toNatClampNeg a_2) n_readingOf n_breathWas n_sheetSize n_sheetLane n_sheet n_hands n_traceNow) := hD
          refine lv_aload_n hx hb dX6_reading_60 rfl (lv_at hl 0 rfl) ?_
          refine va_get (D := (dC, dI)) (ci := 6) (v := .ref (ab 14)) (C := RX6) (T := TX6) (N := 27) hx hb hts hi_X6 hown hK hP 0 rfl rfl 20 (by decide) fl_49 (fun _ h9 => h9) rfl dX6_reading_61 ?_
          refine lv_aload_n hx hb dX6_reading_64 rfl (lv_at hl 0 rfl) ?_
          refine va_get (D := (dC, dI)) (ci := 6) (v := .int n_readings) (C := RX6) (T := TX6) (N := 27) hx hb hts hi_X6 hown hK hP 0 rfl rfl 17 (by decide) fl_141 (fun _ h9 => h9) rfl dX6_reading_65 ?_
          refine lv_iload_n hx hb dX6_reading_68 rfl (lv_at hl 3 rfl) ?_
          obtain ⟨hv_6, h⟩ := h
          refine va_iast hx hb hK hP hD hS 14 0 rfl rfl hv_6 dX6_reading_69 (fun H locs hP hD hS => ?_)
          have hP : va_P (dC, dI) vwCl (wm_u cyI cyJ ab n_fault n_things n_kindOf n_digitOf n_follows n_ifOf n_thenOf n_listOf n_breathOf n_heardOf n_readAt n_readThings n_readFollows n_readKind n_readDigit n_readIf n_readThen n_readings (upd n_readingIn n_readings.toNatClampNeg a_1) (upd n_readingHour n_readings.toNatClampNeg a_2) (upd n_readingOf n_readings.toNatClampNeg a_3) n_breathWas n_sheetSize n_sheetLane n_sheet n_hands n_traceNow) H := hP
          have hD : va_D A (wm_u cyI cyJ ab n_fault n_things n_kindOf n_digitOf n_follows n_ifOf n_thenOf n_listOf n_breathOf n_heardOf n_readAt n_readThings n_readFollows n_readKind n_readDigit n_readIf n_readThen n_readings (upd n_readingIn n_readings.toNatClampNeg a_1) (upd n_readingHour n_readings.toNatClampNeg a_2) (upd n_readingOf n_readings.toNatClampNeg a_3) n_breathWas n_sheetSize n_sheetLane n_sheet n_hands n_traceNow) := hD
          refine lv_aload_n hx hb dX6_reading_70 rfl (lv_at hl 0 rfl) ?_
          refine lv_dup hx hb dX6_reading_71 rfl ?_
          refine va_get (D := (dC, dI)) (ci := 6) (v := .int n_readings) (C := RX6) (T := TX6) (N := 27) hx hb hts hi_X6 hown hK hP 0 rfl rfl 17 (by decide) fl_141 (fun _ h9 => h9) rfl dX6_reading_72 ?_
          refine lv_iconst (v := (1 : Int32)) hx hb dX6_reading_75 (by decide) ?_
          refine lv_iadd hx hb dX6_reading_76 ?_
          refine va_put (D := (dC, dI)) (ci := 6) (v := .int (n_readings + (1 : Int32))) (ty := .int) (C := RX6) (T := TX6) (N := 27) hx hb hts hi_X6 tyX6 tyX6_ok nmX6 hown hK hP hD hS 0 rfl rfl 17 (by decide) fl_141 (fun _ h9 => h9) rfl (by decide +kernel) rfl rfl (Nat.le_of_ble_eq_true rfl) dX6_reading_77 (fun H locs hP hD hS => ?_)
          have hP : va_P (dC, dI) vwCl (wm_u cyI cyJ ab n_fault n_things n_kindOf n_digitOf n_follows n_ifOf n_thenOf n_listOf n_breathOf n_heardOf n_readAt n_readThings n_readFollows n_readKind n_readDigit n_readIf n_readThen (n_readings + (1 : Int32)) (upd n_readingIn n_readings.toNatClampNeg a_1) (upd n_readingHour n_readings.toNatClampNeg a_2) (upd n_readingOf n_readings.toNatClampNeg a_3) n_breathWas n_sheetSize n_sheetLane n_sheet n_hands n_traceNow) H := hP
          have hD : va_D A (wm_u cyI cyJ ab n_fault n_things n_kindOf n_digitOf n_follows n_ifOf n_thenOf n_listOf n_breathOf n_heardOf n_readAt n_readThings n_readFollows n_readKind n_readDigit n_readIf n_readThen (n_readings + (1 : Int32)) (upd n_readingIn n_readings.toNatClampNeg a_1) (upd n_readingHour n_readings.toNatClampNeg a_2) (upd n_readingOf n_readings.toNatClampNeg a_3) n_breathWas n_sheetSize n_sheetLane n_sheet n_hands n_traceNow) := hD
          refine lv_aload_n hx hb dX6_reading_80 rfl (lv_at hl 0 rfl) ?_
          refine va_get (D := (dC, dI)) (ci := 6) (v := .int (n_readings + (1 : Int32))) (C := RX6) (T := TX6) (N := 27) hx hb hts hi_X6 hown hK hP 0 rfl rfl 17 (by decide) fl_141 (fun _ h9 => h9) rfl dX6_reading_81 ?_
          refine lv_iconst (v := (1 : Int32)) hx hb dX6_reading_84 (by decide) ?_
          refine lv_isub hx hb dX6_reading_85 ?_
          exact xq_ri hQ hx hb hr hP hK hD hS ((n_readings + (1 : Int32)), (upd n_readingIn n_readings.toNatClampNeg a_1), (upd n_readingHour n_readings.toNatClampNeg a_2), (upd n_readingOf n_readings.toNatClampNeg a_3)) rfl h dX6_reading_86 hlocks
        · have h := h.2 hc_7
          refine lv_bipush (v := (-4 : Int32)) hx hb dX6_reading_37 (by decide) ?_
          exact xq_ri hQ hx hb hr hP hK hD hS (n_readings, n_readingIn, n_readingHour, n_readingOf) rfl h dX6_reading_39 hlocks
      · have h := h.2 hc_8
        refine lv_bipush (v := (-2 : Int32)) hx hb dX6_reading_25 (by decide) ?_
        exact xq_ri hQ hx hb hr hP hK hD hS (n_readings, n_readingIn, n_readingHour, n_readingOf) rfl h dX6_reading_27 hlocks
    · have h := h.2 hc_10
      refine lv_iconst (v := (-1 : Int32)) hx hb dX6_reading_15 (by decide) ?_
      exact xq_ri hQ hx hb hr hP hK hD hS (n_readings, n_readingIn, n_readingHour, n_readingOf) rfl h dX6_reading_16 hlocks
def w_X6_readsFollow (n_readAt : Int32) (n_readThings : Int32) (n_readFollows : Int32) (n_readIf : Nat → Int32) (n_readThen : Nat → Int32) (n_sheet : Nat → Int32) (a_1 : Int32) (a_2 : Int32) (post : Int32 → Int32 → Int32 → (Nat → Int32) → (Nat → Int32) → Prop) : Prop := (n_readFollows = (4 : Int32) → (post (0 : Int32) n_readAt n_readFollows n_readIf n_readThen)) ∧ (¬ n_readFollows = (4 : Int32) → (w_X6_codeAt n_readAt n_sheet a_1 a_2 (fun (rr_1 : Int32) => (rr_1 = (59 : Int32) → (w_X6_figure (n_readAt + (1 : Int32)) n_sheet a_1 a_2 (0 : Int32) (n_readThings - (1 : Int32)) (fun (rr_2 : Int32) (cc_3 : Int32) => (rr_2 < 0 → (post (0 : Int32) cc_3 n_readFollows n_readIf n_readThen)) ∧ (¬ rr_2 < 0 → (w_X6_codeAt cc_3 n_sheet a_1 a_2 (fun (rr_4 : Int32) => (¬ rr_4 = ((48 : Int32) + rr_2) → (w_X6_figure cc_3 n_sheet a_1 a_2 (0 : Int32) (n_readThings - (1 : Int32)) (fun (rr_5 : Int32) (cc_6 : Int32) => (0 ≤ rr_5 → ((vp_in n_readFollows 4) ∧ ((vp_in n_readFollows 4) ∧ (post (1 : Int32) cc_6 (n_readFollows + (1 : Int32)) (upd n_readIf n_readFollows.toNatClampNeg rr_2) (upd n_readThen n_readFollows.toNatClampNeg rr_5))))) ∧ (¬ 0 ≤ rr_5 → (post (0 : Int32) cc_6 n_readFollows n_readIf n_readThen))))) ∧ (rr_4 = ((48 : Int32) + rr_2) → (post (0 : Int32) cc_3 n_readFollows n_readIf n_readThen)))))))) ∧ (¬ rr_1 = (59 : Int32) → (post (0 : Int32) n_readAt n_readFollows n_readIf n_readThen)))))
set_option maxHeartbeats 4000000 in
set_option maxRecDepth 100000 in
theorem m_X6_readsFollow (l : Launch) (dC : Nat → ClassId) (dI : Nat → Nat → Nat) (cyI cyJ : ClassId) (ab : Nat → Nat) (sz : Nat) {n_fault : Int32} {n_things : Int32} {n_kindOf : Nat → Int32} {n_digitOf : Nat → Int32} {n_follows : Int32} {n_ifOf : Nat → Int32} {n_thenOf : Nat → Int32} {n_listOf : Nat → Int32} {n_breathOf : Nat → Int32} {n_heardOf : Nat → Int32} {n_readAt : Int32} {n_readThings : Int32} {n_readFollows : Int32} {n_readKind : Nat → Int32} {n_readDigit : Nat → Int32} {n_readIf : Nat → Int32} {n_readThen : Nat → Int32} {n_readings : Int32} {n_readingIn : Nat → Int32} {n_readingHour : Nat → Int32} {n_readingOf : Nat → Int32} {n_breathWas : Nat → Int32} {n_sheetSize : Nat → Int32} {n_sheetLane : Nat → Int32} {n_sheet : Nat → Int32} {n_hands : Nat → Int32} {n_traceNow : Int32} {a_1 : Int32} {a_2 : Int32} {post : Int32 → Int32 → Int32 → (Nat → Int32) → (Nat → Int32) → Prop} (h : w_X6_readsFollow n_readAt n_readThings n_readFollows n_readIf n_readThen n_sheet a_1 a_2 post) : Met l yX6_readsFollow wsX6_readsFollow (xq_R 2 51) (va_Pc [.ref (ab 0), .int a_1, .int a_2] (xq_P (dC, dI) [(cyI, .int), (cyJ, .long)] (wm_u cyI cyJ ab n_fault n_things n_kindOf n_digitOf n_follows n_ifOf n_thenOf n_listOf n_breathOf n_heardOf n_readAt n_readThings n_readFollows n_readKind n_readDigit n_readIf n_readThen n_readings n_readingIn n_readingHour n_readingOf n_breathWas n_sheetSize n_sheetLane n_sheet n_hands n_traceNow) sz)) (va_Qi (fun (rr : Int32) (uu : Int32 × Int32 × (Nat → Int32) × (Nat → Int32)) => post rr uu.1 uu.2.1 uu.2.2.1 uu.2.2.2) (fun (uu : Int32 × Int32 × (Nat → Int32) × (Nat → Int32)) => xq_B (dC, dI) [(cyI, .int), (cyJ, .long)] (va_A (wm_u cyI cyJ ab n_fault n_things n_kindOf n_digitOf n_follows n_ifOf n_thenOf n_listOf n_breathOf n_heardOf n_readAt n_readThings n_readFollows n_readKind n_readDigit n_readIf n_readThen n_readings n_readingIn n_readingHour n_readingOf n_breathWas n_sheetSize n_sheetLane n_sheet n_hands n_traceNow) sz) (wm_u cyI cyJ ab n_fault n_things n_kindOf n_digitOf n_follows n_ifOf n_thenOf n_listOf n_breathOf n_heardOf uu.1 n_readThings uu.2.1 n_readKind n_readDigit uu.2.2.1 uu.2.2.2 n_readings n_readingIn n_readingHour n_readingOf n_breathWas n_sheetSize n_sheetLane n_sheet n_hands n_traceNow)) (va_A (wm_u cyI cyJ ab n_fault n_things n_kindOf n_digitOf n_follows n_ifOf n_thenOf n_listOf n_breathOf n_heardOf n_readAt n_readThings n_readFollows n_readKind n_readDigit n_readIf n_readThen n_readings n_readingIn n_readingHour n_readingOf n_breathWas n_sheetSize n_sheetLane n_sheet n_hands n_traceNow) sz)) 0 0 (va_A (wm_u cyI cyJ ab n_fault n_things n_kindOf n_digitOf n_follows n_ifOf n_thenOf n_listOf n_breathOf n_heardOf n_readAt n_readThings n_readFollows n_readKind n_readDigit n_readIf n_readThen n_readings n_readingIn n_readingHour n_readingOf n_breathWas n_sheetSize n_sheetLane n_sheet n_hands n_traceNow) sz) := by
  refine xq_M (cc := cX6_readsFollow) (maxL := 5) (ret := (some .boolean)) (QA := fun A => va_Qi (fun (rr : Int32) (uu : Int32 × Int32 × (Nat → Int32) × (Nat → Int32)) => post rr uu.1 uu.2.1 uu.2.2.1 uu.2.2.2) (fun (uu : Int32 × Int32 × (Nat → Int32) × (Nat → Int32)) => xq_B (dC, dI) [(cyI, .int), (cyJ, .long)] A (wm_u cyI cyJ ab n_fault n_things n_kindOf n_digitOf n_follows n_ifOf n_thenOf n_listOf n_breathOf n_heardOf uu.1 n_readThings uu.2.1 n_readKind n_readDigit uu.2.2.1 uu.2.2.2 n_readings n_readingIn n_readingHour n_readingOf n_breathWas n_sheetSize n_sheetLane n_sheet n_hands n_traceNow)) A) (by decide) rfl (Nat.le_of_ble_eq_true rfl) ?_
  intro p e s m args below meth c A ls Q hQ hx hb hr hml hts hown hlocks hsz hP hK hD hA hS hN hl
  subst hsz
  have hl : lv_has ls 5 [(0, .ref (ab 0)), (1, .int a_1), (2, .int a_2)] := hl
  have hi_X6 : ∀ w ∈ wsX60, w ∈ wsX6_readsFollow := fun _ h => List.mem_cons_of_mem _ (List.mem_append_right _ h)
  have fl_37 := hts (.fieldLink RX6 37 "UnsaidCallsModel" "readIf" "[I") (by decide +kernel)
  have fl_40 := hts (.fieldLink RX6 40 "UnsaidCallsModel" "readThen" "[I") (by decide +kernel)
  have fl_107 := hts (.fieldLink RX6 107 "UnsaidCallsModel" "readAt" "I") (by decide +kernel)
  have fl_114 := hts (.fieldLink RX6 114 "UnsaidCallsModel" "readThings" "I") (by decide +kernel)
  have fl_121 := hts (.fieldLink RX6 121 "UnsaidCallsModel" "readFollows" "I") (by decide +kernel)
  unfold w_X6_readsFollow at h
  refine lv_aload_n hx hb dX6_readsFollow_0 rfl (lv_at hl 0 rfl) ?_
  refine va_get (D := (dC, dI)) (ci := 6) (v := .int n_readFollows) (C := RX6) (T := TX6) (N := 27) hx hb hts hi_X6 hown hK hP 0 rfl rfl 12 (by decide) fl_121 (fun _ h9 => h9) rfl dX6_readsFollow_1 ?_
  refine lv_iconst (v := (4 : Int32)) hx hb dX6_readsFollow_4 (by decide) ?_
  refine lv_icmp_eq (tgt := 19) hx hb dX6_readsFollow_5 (by decide) (fun hc_17 => ?_) (fun hc_17 => ?_)
  · have h := h.1 hc_17
    refine lv_iconst (v := (0 : Int32)) hx hb dX6_readsFollow_19 (by decide) ?_
    exact xq_rz hQ hx hb hr (by decide) hP hK hD hS (n_readAt, n_readFollows, n_readIf, n_readThen) rfl h dX6_readsFollow_20 hlocks
  · have h := h.2 hc_17
    refine lv_aload_n hx hb dX6_readsFollow_8 rfl (lv_at hl 0 rfl) ?_
    refine lv_iload_n hx hb dX6_readsFollow_9 rfl (lv_at hl 1 rfl) ?_
    refine lv_iload_n hx hb dX6_readsFollow_10 rfl (lv_at hl 2 rfl) ?_
    refine xq_ci (va_runV (As := [.int a_1, .int a_2]) (rest := []) ⟨hx, hb, hml, hown, hts⟩ (m_X6_codeAt l dC dI cyI cyJ ab s.heap.size h) (cwV 2 hts gX6_readsFollow_X6_codeAt rfl rfl rfl (by decide +kernel) ⟨Nat.le_of_ble_eq_true rfl, Nat.le_of_ble_eq_true rfl⟩) (xq_preV hK hP hD hN (ci := 6) (q0 := 0) rfl rfl) rfl rfl hl.1 rfl (lv_room (Nat.le_of_ble_eq_true rfl)) dX6_readsFollow_11 ⟨Nat.le_refl _, Nat.le_refl _⟩) hD hS hA (fun rr_1 uu H locs h hP hD hS => ?_)
    have hP : va_P (dC, dI) vwCl (wm_u cyI cyJ ab n_fault n_things n_kindOf n_digitOf n_follows n_ifOf n_thenOf n_listOf n_breathOf n_heardOf n_readAt n_readThings n_readFollows n_readKind n_readDigit n_readIf n_readThen n_readings n_readingIn n_readingHour n_readingOf n_breathWas n_sheetSize n_sheetLane n_sheet n_hands n_traceNow) H := hP
    have hD : va_D A (wm_u cyI cyJ ab n_fault n_things n_kindOf n_digitOf n_follows n_ifOf n_thenOf n_listOf n_breathOf n_heardOf n_readAt n_readThings n_readFollows n_readKind n_readDigit n_readIf n_readThen n_readings n_readingIn n_readingHour n_readingOf n_breathWas n_sheetSize n_sheetLane n_sheet n_hands n_traceNow) := hD
    refine lv_bipush (v := (59 : Int32)) hx hb dX6_readsFollow_14 (by decide) ?_
    refine lv_icmp_eq (tgt := 21) hx hb dX6_readsFollow_16 (by decide) (fun hc_15 => ?_) (fun hc_15 => ?_)
    · have h := h.1 hc_15
      refine lv_aload_n hx hb dX6_readsFollow_21 rfl (lv_at hl 0 rfl) ?_
      refine lv_dup hx hb dX6_readsFollow_22 rfl ?_
      refine va_get (D := (dC, dI)) (ci := 6) (v := .int n_readAt) (C := RX6) (T := TX6) (N := 27) hx hb hts hi_X6 hown hK hP 0 rfl rfl 10 (by decide) fl_107 (fun _ h9 => h9) rfl dX6_readsFollow_23 ?_
      refine lv_iconst (v := (1 : Int32)) hx hb dX6_readsFollow_26 (by decide) ?_
      refine lv_iadd hx hb dX6_readsFollow_27 ?_
      refine va_put (D := (dC, dI)) (ci := 6) (v := .int (n_readAt + (1 : Int32))) (ty := .int) (C := RX6) (T := TX6) (N := 27) hx hb hts hi_X6 tyX6 tyX6_ok nmX6 hown hK hP hD hS 0 rfl rfl 10 (by decide) fl_107 (fun _ h9 => h9) rfl (by decide +kernel) rfl rfl (Nat.le_of_ble_eq_true rfl) dX6_readsFollow_28 (fun H locs hP hD hS => ?_)
      have hP : va_P (dC, dI) vwCl (wm_u cyI cyJ ab n_fault n_things n_kindOf n_digitOf n_follows n_ifOf n_thenOf n_listOf n_breathOf n_heardOf (n_readAt + (1 : Int32)) n_readThings n_readFollows n_readKind n_readDigit n_readIf n_readThen n_readings n_readingIn n_readingHour n_readingOf n_breathWas n_sheetSize n_sheetLane n_sheet n_hands n_traceNow) H := hP
      have hD : va_D A (wm_u cyI cyJ ab n_fault n_things n_kindOf n_digitOf n_follows n_ifOf n_thenOf n_listOf n_breathOf n_heardOf (n_readAt + (1 : Int32)) n_readThings n_readFollows n_readKind n_readDigit n_readIf n_readThen n_readings n_readingIn n_readingHour n_readingOf n_breathWas n_sheetSize n_sheetLane n_sheet n_hands n_traceNow) := hD
      refine lv_aload_n hx hb dX6_readsFollow_31 rfl (lv_at hl 0 rfl) ?_
      refine lv_iload_n hx hb dX6_readsFollow_32 rfl (lv_at hl 1 rfl) ?_
      refine lv_iload_n hx hb dX6_readsFollow_33 rfl (lv_at hl 2 rfl) ?_
      refine lv_iconst (v := (0 : Int32)) hx hb dX6_readsFollow_34 (by decide) ?_
      refine lv_aload_n hx hb dX6_readsFollow_35 rfl (lv_at hl 0 rfl) ?_
      refine va_get (D := (dC, dI)) (ci := 6) (v := .int n_readThings) (C := RX6) (T := TX6) (N := 27) hx hb hts hi_X6 hown hK hP 0 rfl rfl 11 (by decide) fl_114 (fun _ h9 => h9) rfl dX6_readsFollow_36 ?_
      refine lv_iconst (v := (1 : Int32)) hx hb dX6_readsFollow_39 (by decide) ?_
      refine lv_isub hx hb dX6_readsFollow_40 ?_
      refine xq_ci (va_runV (As := [.int a_1, .int a_2, .int (0 : Int32), .int (n_readThings - (1 : Int32))]) (rest := []) ⟨hx, hb, hml, hown, hts⟩ (m_X6_figure l dC dI cyI cyJ ab H.size h) (cwV 4 hts gX6_readsFollow_X6_figure rfl rfl rfl (by decide +kernel) ⟨Nat.le_of_ble_eq_true rfl, Nat.le_of_ble_eq_true rfl⟩) (xq_preV hK hP hD hN (ci := 6) (q0 := 0) rfl rfl) rfl rfl hl.1 rfl (lv_room (Nat.le_of_ble_eq_true rfl)) dX6_readsFollow_41 ⟨Nat.le_refl _, Nat.le_refl _⟩) hD hS hA (fun rr_2 uu H locs h hP hD hS => ?_)
      obtain ⟨cc_3, rfl⟩ : ∃ z, z = uu := ⟨_, rfl⟩
      have hP : va_P (dC, dI) vwCl (wm_u cyI cyJ ab n_fault n_things n_kindOf n_digitOf n_follows n_ifOf n_thenOf n_listOf n_breathOf n_heardOf cc_3 n_readThings n_readFollows n_readKind n_readDigit n_readIf n_readThen n_readings n_readingIn n_readingHour n_readingOf n_breathWas n_sheetSize n_sheetLane n_sheet n_hands n_traceNow) H := hP
      have hD : va_D A (wm_u cyI cyJ ab n_fault n_things n_kindOf n_digitOf n_follows n_ifOf n_thenOf n_listOf n_breathOf n_heardOf cc_3 n_readThings n_readFollows n_readKind n_readDigit n_readIf n_readThen n_readings n_readingIn n_readingHour n_readingOf n_breathWas n_sheetSize n_sheetLane n_sheet n_hands n_traceNow) := hD
      refine lv_istore_n (lv' := [(3, .int rr_2), (0, .ref (ab 0)), (1, .int a_1), (2, .int a_2)]) hx hb dX6_readsFollow_44 rfl hl (by decide) rfl (fun ls hl => ?_)
      refine lv_iload_n hx hb dX6_readsFollow_45 rfl (lv_at hl 0 rfl) ?_
      refine lv_if_lt (tgt := 62) hx hb dX6_readsFollow_46 (by decide) (fun hc_13 => ?_) (fun hc_13 => ?_)
      · have h := h.1 hc_13
        refine lv_iconst (v := (0 : Int32)) hx hb dX6_readsFollow_62 (by decide) ?_
        exact xq_rz hQ hx hb hr (by decide) hP hK hD hS (cc_3, n_readFollows, n_readIf, n_readThen) rfl h dX6_readsFollow_63 hlocks
      · have h := h.2 hc_13
        refine lv_aload_n hx hb dX6_readsFollow_49 rfl (lv_at hl 1 rfl) ?_
        refine lv_iload_n hx hb dX6_readsFollow_50 rfl (lv_at hl 2 rfl) ?_
        refine lv_iload_n hx hb dX6_readsFollow_51 rfl (lv_at hl 3 rfl) ?_
        refine xq_ci (va_runV (As := [.int a_1, .int a_2]) (rest := []) ⟨hx, hb, hml, hown, hts⟩ (m_X6_codeAt l dC dI cyI cyJ ab H.size h) (cwV 2 hts gX6_readsFollow_X6_codeAt rfl rfl rfl (by decide +kernel) ⟨Nat.le_of_ble_eq_true rfl, Nat.le_of_ble_eq_true rfl⟩) (xq_preV hK hP hD hN (ci := 6) (q0 := 0) rfl rfl) rfl rfl hl.1 rfl (lv_room (Nat.le_of_ble_eq_true rfl)) dX6_readsFollow_52 ⟨Nat.le_refl _, Nat.le_refl _⟩) hD hS hA (fun rr_4 uu H locs h hP hD hS => ?_)
        have hP : va_P (dC, dI) vwCl (wm_u cyI cyJ ab n_fault n_things n_kindOf n_digitOf n_follows n_ifOf n_thenOf n_listOf n_breathOf n_heardOf cc_3 n_readThings n_readFollows n_readKind n_readDigit n_readIf n_readThen n_readings n_readingIn n_readingHour n_readingOf n_breathWas n_sheetSize n_sheetLane n_sheet n_hands n_traceNow) H := hP
        have hD : va_D A (wm_u cyI cyJ ab n_fault n_things n_kindOf n_digitOf n_follows n_ifOf n_thenOf n_listOf n_breathOf n_heardOf cc_3 n_readThings n_readFollows n_readKind n_readDigit n_readIf n_readThen n_readings n_readingIn n_readingHour n_readingOf n_breathWas n_sheetSize n_sheetLane n_sheet n_hands n_traceNow) := hD
        refine lv_bipush (v := (48 : Int32)) hx hb dX6_readsFollow_55 (by decide) ?_
        refine lv_iload_n hx hb dX6_readsFollow_57 rfl (lv_at hl 0 rfl) ?_
        refine lv_iadd hx hb dX6_readsFollow_58 ?_
        refine lv_icmp_ne (tgt := 64) hx hb dX6_readsFollow_59 (by decide) (fun hc_11 => ?_) (fun hc_11 => ?_)
        · have h := h.1 hc_11
          refine lv_aload_n hx hb dX6_readsFollow_64 rfl (lv_at hl 1 rfl) ?_
          refine lv_iload_n hx hb dX6_readsFollow_65 rfl (lv_at hl 2 rfl) ?_
          refine lv_iload_n hx hb dX6_readsFollow_66 rfl (lv_at hl 3 rfl) ?_
          refine lv_iconst (v := (0 : Int32)) hx hb dX6_readsFollow_67 (by decide) ?_
          refine lv_aload_n hx hb dX6_readsFollow_68 rfl (lv_at hl 1 rfl) ?_
          refine va_get (D := (dC, dI)) (ci := 6) (v := .int n_readThings) (C := RX6) (T := TX6) (N := 27) hx hb hts hi_X6 hown hK hP 0 rfl rfl 11 (by decide) fl_114 (fun _ h9 => h9) rfl dX6_readsFollow_69 ?_
          refine lv_iconst (v := (1 : Int32)) hx hb dX6_readsFollow_72 (by decide) ?_
          refine lv_isub hx hb dX6_readsFollow_73 ?_
          refine xq_ci (va_runV (As := [.int a_1, .int a_2, .int (0 : Int32), .int (n_readThings - (1 : Int32))]) (rest := []) ⟨hx, hb, hml, hown, hts⟩ (m_X6_figure l dC dI cyI cyJ ab H.size h) (cwV 4 hts gX6_readsFollow_X6_figure rfl rfl rfl (by decide +kernel) ⟨Nat.le_of_ble_eq_true rfl, Nat.le_of_ble_eq_true rfl⟩) (xq_preV hK hP hD hN (ci := 6) (q0 := 0) rfl rfl) rfl rfl hl.1 rfl (lv_room (Nat.le_of_ble_eq_true rfl)) dX6_readsFollow_74 ⟨Nat.le_refl _, Nat.le_refl _⟩) hD hS hA (fun rr_5 uu H locs h hP hD hS => ?_)
          obtain ⟨cc_6, rfl⟩ : ∃ z, z = uu := ⟨_, rfl⟩
          have hP : va_P (dC, dI) vwCl (wm_u cyI cyJ ab n_fault n_things n_kindOf n_digitOf n_follows n_ifOf n_thenOf n_listOf n_breathOf n_heardOf cc_6 n_readThings n_readFollows n_readKind n_readDigit n_readIf n_readThen n_readings n_readingIn n_readingHour n_readingOf n_breathWas n_sheetSize n_sheetLane n_sheet n_hands n_traceNow) H := hP
          have hD : va_D A (wm_u cyI cyJ ab n_fault n_things n_kindOf n_digitOf n_follows n_ifOf n_thenOf n_listOf n_breathOf n_heardOf cc_6 n_readThings n_readFollows n_readKind n_readDigit n_readIf n_readThen n_readings n_readingIn n_readingHour n_readingOf n_breathWas n_sheetSize n_sheetLane n_sheet n_hands n_traceNow) := hD
          refine lv_istore (lv' := [(4, .int rr_5), (3, .int rr_2), (0, .ref (ab 0)), (1, .int a_1), (2, .int a_2)]) hx hb dX6_readsFollow_77 hl (by decide) rfl (fun ls hl => ?_)
          refine lv_iload hx hb dX6_readsFollow_79 (lv_at hl 0 rfl) ?_
          refine lv_if_ge (tgt := 86) hx hb dX6_readsFollow_81 (by decide) (fun hc_9 => ?_) (fun hc_9 => ?_)
          · have h := h.1 hc_9
            refine lv_aload_n hx hb dX6_readsFollow_86 rfl (lv_at hl 2 rfl) ?_
            refine va_get (D := (dC, dI)) (ci := 6) (v := .ref (ab 10)) (C := RX6) (T := TX6) (N := 27) hx hb hts hi_X6 hown hK hP 0 rfl rfl 15 (by decide) fl_37 (fun _ h9 => h9) rfl dX6_readsFollow_87 ?_
            refine lv_aload_n hx hb dX6_readsFollow_90 rfl (lv_at hl 2 rfl) ?_
            refine va_get (D := (dC, dI)) (ci := 6) (v := .int n_readFollows) (C := RX6) (T := TX6) (N := 27) hx hb hts hi_X6 hown hK hP 0 rfl rfl 12 (by decide) fl_121 (fun _ h9 => h9) rfl dX6_readsFollow_91 ?_
            refine lv_iload_n hx hb dX6_readsFollow_94 rfl (lv_at hl 1 rfl) ?_
            obtain ⟨hv_7, h⟩ := h
            refine va_iast hx hb hK hP hD hS 10 0 rfl rfl hv_7 dX6_readsFollow_95 (fun H locs hP hD hS => ?_)
            have hP : va_P (dC, dI) vwCl (wm_u cyI cyJ ab n_fault n_things n_kindOf n_digitOf n_follows n_ifOf n_thenOf n_listOf n_breathOf n_heardOf cc_6 n_readThings n_readFollows n_readKind n_readDigit (upd n_readIf n_readFollows.toNatClampNeg rr_2) n_readThen n_readings n_readingIn n_readingHour n_readingOf n_breathWas n_sheetSize n_sheetLane n_sheet n_hands n_traceNow) H := hP
            have hD : va_D A (wm_u cyI cyJ ab n_fault n_things n_kindOf n_digitOf n_follows n_ifOf n_thenOf n_listOf n_breathOf n_heardOf cc_6 n_readThings n_readFollows n_readKind n_readDigit (upd n_readIf n_readFollows.toNatClampNeg rr_2) n_readThen n_readings n_readingIn n_readingHour n_readingOf n_breathWas n_sheetSize n_sheetLane n_sheet n_hands n_traceNow) := hD
            refine lv_aload_n hx hb dX6_readsFollow_96 rfl (lv_at hl 2 rfl) ?_
            refine va_get (D := (dC, dI)) (ci := 6) (v := .ref (ab 11)) (C := RX6) (T := TX6) (N := 27) hx hb hts hi_X6 hown hK hP 0 rfl rfl 16 (by decide) fl_40 (fun _ h9 => h9) rfl dX6_readsFollow_97 ?_
            refine lv_aload_n hx hb dX6_readsFollow_100 rfl (lv_at hl 2 rfl) ?_
            refine va_get (D := (dC, dI)) (ci := 6) (v := .int n_readFollows) (C := RX6) (T := TX6) (N := 27) hx hb hts hi_X6 hown hK hP 0 rfl rfl 12 (by decide) fl_121 (fun _ h9 => h9) rfl dX6_readsFollow_101 ?_
            refine lv_iload hx hb dX6_readsFollow_104 (lv_at hl 0 rfl) ?_
            obtain ⟨hv_8, h⟩ := h
            refine va_iast hx hb hK hP hD hS 11 0 rfl rfl hv_8 dX6_readsFollow_106 (fun H locs hP hD hS => ?_)
            have hP : va_P (dC, dI) vwCl (wm_u cyI cyJ ab n_fault n_things n_kindOf n_digitOf n_follows n_ifOf n_thenOf n_listOf n_breathOf n_heardOf cc_6 n_readThings n_readFollows n_readKind n_readDigit (upd n_readIf n_readFollows.toNatClampNeg rr_2) (upd n_readThen n_readFollows.toNatClampNeg rr_5) n_readings n_readingIn n_readingHour n_readingOf n_breathWas n_sheetSize n_sheetLane n_sheet n_hands n_traceNow) H := hP
            have hD : va_D A (wm_u cyI cyJ ab n_fault n_things n_kindOf n_digitOf n_follows n_ifOf n_thenOf n_listOf n_breathOf n_heardOf cc_6 n_readThings n_readFollows n_readKind n_readDigit (upd n_readIf n_readFollows.toNatClampNeg rr_2) (upd n_readThen n_readFollows.toNatClampNeg rr_5) n_readings n_readingIn n_readingHour n_readingOf n_breathWas n_sheetSize n_sheetLane n_sheet n_hands n_traceNow) := hD
            refine lv_aload_n hx hb dX6_readsFollow_107 rfl (lv_at hl 2 rfl) ?_
            refine lv_dup hx hb dX6_readsFollow_108 rfl ?_
            refine va_get (D := (dC, dI)) (ci := 6) (v := .int n_readFollows) (C := RX6) (T := TX6) (N := 27) hx hb hts hi_X6 hown hK hP 0 rfl rfl 12 (by decide) fl_121 (fun _ h9 => h9) rfl dX6_readsFollow_109 ?_
            refine lv_iconst (v := (1 : Int32)) hx hb dX6_readsFollow_112 (by decide) ?_
            refine lv_iadd hx hb dX6_readsFollow_113 ?_
            refine va_put (D := (dC, dI)) (ci := 6) (v := .int (n_readFollows + (1 : Int32))) (ty := .int) (C := RX6) (T := TX6) (N := 27) hx hb hts hi_X6 tyX6 tyX6_ok nmX6 hown hK hP hD hS 0 rfl rfl 12 (by decide) fl_121 (fun _ h9 => h9) rfl (by decide +kernel) rfl rfl (Nat.le_of_ble_eq_true rfl) dX6_readsFollow_114 (fun H locs hP hD hS => ?_)
            have hP : va_P (dC, dI) vwCl (wm_u cyI cyJ ab n_fault n_things n_kindOf n_digitOf n_follows n_ifOf n_thenOf n_listOf n_breathOf n_heardOf cc_6 n_readThings (n_readFollows + (1 : Int32)) n_readKind n_readDigit (upd n_readIf n_readFollows.toNatClampNeg rr_2) (upd n_readThen n_readFollows.toNatClampNeg rr_5) n_readings n_readingIn n_readingHour n_readingOf n_breathWas n_sheetSize n_sheetLane n_sheet n_hands n_traceNow) H := hP
            have hD : va_D A (wm_u cyI cyJ ab n_fault n_things n_kindOf n_digitOf n_follows n_ifOf n_thenOf n_listOf n_breathOf n_heardOf cc_6 n_readThings (n_readFollows + (1 : Int32)) n_readKind n_readDigit (upd n_readIf n_readFollows.toNatClampNeg rr_2) (upd n_readThen n_readFollows.toNatClampNeg rr_5) n_readings n_readingIn n_readingHour n_readingOf n_breathWas n_sheetSize n_sheetLane n_sheet n_hands n_traceNow) := hD
            refine lv_iconst (v := (1 : Int32)) hx hb dX6_readsFollow_117 (by decide) ?_
            exact xq_rz hQ hx hb hr (by decide) hP hK hD hS (cc_6, (n_readFollows + (1 : Int32)), (upd n_readIf n_readFollows.toNatClampNeg rr_2), (upd n_readThen n_readFollows.toNatClampNeg rr_5)) rfl h dX6_readsFollow_118 hlocks
          · have h := h.2 hc_9
            refine lv_iconst (v := (0 : Int32)) hx hb dX6_readsFollow_84 (by decide) ?_
            exact xq_rz hQ hx hb hr (by decide) hP hK hD hS (cc_6, n_readFollows, n_readIf, n_readThen) rfl h dX6_readsFollow_85 hlocks
        · have h := h.2 hc_11
          refine lv_iconst (v := (0 : Int32)) hx hb dX6_readsFollow_62 (by decide) ?_
          exact xq_rz hQ hx hb hr (by decide) hP hK hD hS (cc_3, n_readFollows, n_readIf, n_readThen) rfl h dX6_readsFollow_63 hlocks
    · have h := h.2 hc_15
      refine lv_iconst (v := (0 : Int32)) hx hb dX6_readsFollow_19 (by decide) ?_
      exact xq_rz hQ hx hb hr (by decide) hP hK hD hS (n_readAt, n_readFollows, n_readIf, n_readThen) rfl h dX6_readsFollow_20 hlocks
def w_X6_readsThing (n_readAt : Int32) (n_readThings : Int32) (n_readKind : Nat → Int32) (n_readDigit : Nat → Int32) (n_sheet : Nat → Int32) (a_1 : Int32) (a_2 : Int32) (post : Int32 → Int32 → Int32 → (Nat → Int32) → (Nat → Int32) → Prop) : Prop := w_X6_codeAt n_readAt n_sheet a_1 a_2 (fun (rr_1 : Int32) => (n_readThings = (6 : Int32) → (post (0 : Int32) n_readAt n_readThings n_readKind n_readDigit)) ∧ (¬ n_readThings = (6 : Int32) → (xq_j0 (fun (kj_2 : Prop) => (rr_1 = (116 : Int32) → (kj_2)) ∧ (¬ rr_1 = (116 : Int32) → ((rr_1 = (108 : Int32) → (kj_2)) ∧ (¬ rr_1 = (108 : Int32) → ((rr_1 = (100 : Int32) → (kj_2)) ∧ (¬ rr_1 = (100 : Int32) → (post (0 : Int32) n_readAt n_readThings n_readKind n_readDigit))))))) (w_X6_figure (n_readAt + (1 : Int32)) n_sheet a_1 a_2 (1 : Int32) (9 : Int32) (fun (rr_6 : Int32) (cc_7 : Int32) => (0 ≤ rr_6 → (xq_j1 (fun (kj_9 : Int32 → Prop) => (¬ rr_1 = (116 : Int32) → ((¬ rr_1 = (108 : Int32) → (kj_9 (2 : Int32))) ∧ (rr_1 = (108 : Int32) → (kj_9 (1 : Int32))))) ∧ (rr_1 = (116 : Int32) → (kj_9 (0 : Int32)))) (fun (jj_8 : Int32) => (vp_in n_readThings 6) ∧ ((vp_in n_readThings 6) ∧ (post (1 : Int32) cc_7 (n_readThings + (1 : Int32)) (upd n_readKind n_readThings.toNatClampNeg jj_8) (upd n_readDigit n_readThings.toNatClampNeg rr_6)))))) ∧ (¬ 0 ≤ rr_6 → (post (0 : Int32) cc_7 n_readThings n_readKind n_readDigit)))))))
set_option maxHeartbeats 4000000 in
set_option maxRecDepth 100000 in
theorem m_X6_readsThing (l : Launch) (dC : Nat → ClassId) (dI : Nat → Nat → Nat) (cyI cyJ : ClassId) (ab : Nat → Nat) (sz : Nat) {n_fault : Int32} {n_things : Int32} {n_kindOf : Nat → Int32} {n_digitOf : Nat → Int32} {n_follows : Int32} {n_ifOf : Nat → Int32} {n_thenOf : Nat → Int32} {n_listOf : Nat → Int32} {n_breathOf : Nat → Int32} {n_heardOf : Nat → Int32} {n_readAt : Int32} {n_readThings : Int32} {n_readFollows : Int32} {n_readKind : Nat → Int32} {n_readDigit : Nat → Int32} {n_readIf : Nat → Int32} {n_readThen : Nat → Int32} {n_readings : Int32} {n_readingIn : Nat → Int32} {n_readingHour : Nat → Int32} {n_readingOf : Nat → Int32} {n_breathWas : Nat → Int32} {n_sheetSize : Nat → Int32} {n_sheetLane : Nat → Int32} {n_sheet : Nat → Int32} {n_hands : Nat → Int32} {n_traceNow : Int32} {a_1 : Int32} {a_2 : Int32} {post : Int32 → Int32 → Int32 → (Nat → Int32) → (Nat → Int32) → Prop} (h : w_X6_readsThing n_readAt n_readThings n_readKind n_readDigit n_sheet a_1 a_2 post) : Met l yX6_readsThing wsX6_readsThing (xq_R 2 51) (va_Pc [.ref (ab 0), .int a_1, .int a_2] (xq_P (dC, dI) [(cyI, .int), (cyJ, .long)] (wm_u cyI cyJ ab n_fault n_things n_kindOf n_digitOf n_follows n_ifOf n_thenOf n_listOf n_breathOf n_heardOf n_readAt n_readThings n_readFollows n_readKind n_readDigit n_readIf n_readThen n_readings n_readingIn n_readingHour n_readingOf n_breathWas n_sheetSize n_sheetLane n_sheet n_hands n_traceNow) sz)) (va_Qi (fun (rr : Int32) (uu : Int32 × Int32 × (Nat → Int32) × (Nat → Int32)) => post rr uu.1 uu.2.1 uu.2.2.1 uu.2.2.2) (fun (uu : Int32 × Int32 × (Nat → Int32) × (Nat → Int32)) => xq_B (dC, dI) [(cyI, .int), (cyJ, .long)] (va_A (wm_u cyI cyJ ab n_fault n_things n_kindOf n_digitOf n_follows n_ifOf n_thenOf n_listOf n_breathOf n_heardOf n_readAt n_readThings n_readFollows n_readKind n_readDigit n_readIf n_readThen n_readings n_readingIn n_readingHour n_readingOf n_breathWas n_sheetSize n_sheetLane n_sheet n_hands n_traceNow) sz) (wm_u cyI cyJ ab n_fault n_things n_kindOf n_digitOf n_follows n_ifOf n_thenOf n_listOf n_breathOf n_heardOf uu.1 uu.2.1 n_readFollows uu.2.2.1 uu.2.2.2 n_readIf n_readThen n_readings n_readingIn n_readingHour n_readingOf n_breathWas n_sheetSize n_sheetLane n_sheet n_hands n_traceNow)) (va_A (wm_u cyI cyJ ab n_fault n_things n_kindOf n_digitOf n_follows n_ifOf n_thenOf n_listOf n_breathOf n_heardOf n_readAt n_readThings n_readFollows n_readKind n_readDigit n_readIf n_readThen n_readings n_readingIn n_readingHour n_readingOf n_breathWas n_sheetSize n_sheetLane n_sheet n_hands n_traceNow) sz)) 0 0 (va_A (wm_u cyI cyJ ab n_fault n_things n_kindOf n_digitOf n_follows n_ifOf n_thenOf n_listOf n_breathOf n_heardOf n_readAt n_readThings n_readFollows n_readKind n_readDigit n_readIf n_readThen n_readings n_readingIn n_readingHour n_readingOf n_breathWas n_sheetSize n_sheetLane n_sheet n_hands n_traceNow) sz) := by
  refine xq_M (cc := cX6_readsThing) (maxL := 5) (ret := (some .boolean)) (QA := fun A => va_Qi (fun (rr : Int32) (uu : Int32 × Int32 × (Nat → Int32) × (Nat → Int32)) => post rr uu.1 uu.2.1 uu.2.2.1 uu.2.2.2) (fun (uu : Int32 × Int32 × (Nat → Int32) × (Nat → Int32)) => xq_B (dC, dI) [(cyI, .int), (cyJ, .long)] A (wm_u cyI cyJ ab n_fault n_things n_kindOf n_digitOf n_follows n_ifOf n_thenOf n_listOf n_breathOf n_heardOf uu.1 uu.2.1 n_readFollows uu.2.2.1 uu.2.2.2 n_readIf n_readThen n_readings n_readingIn n_readingHour n_readingOf n_breathWas n_sheetSize n_sheetLane n_sheet n_hands n_traceNow)) A) (by decide) rfl (Nat.le_of_ble_eq_true rfl) ?_
  intro p e s m args below meth c A ls Q hQ hx hb hr hml hts hown hlocks hsz hP hK hD hA hS hN hl
  subst hsz
  have hl : lv_has ls 5 [(0, .ref (ab 0)), (1, .int a_1), (2, .int a_2)] := hl
  have hi_X6 : ∀ w ∈ wsX60, w ∈ wsX6_readsThing := fun _ h => List.mem_cons_of_mem _ (List.mem_append_right _ h)
  have fl_31 := hts (.fieldLink RX6 31 "UnsaidCallsModel" "readKind" "[I") (by decide +kernel)
  have fl_34 := hts (.fieldLink RX6 34 "UnsaidCallsModel" "readDigit" "[I") (by decide +kernel)
  have fl_107 := hts (.fieldLink RX6 107 "UnsaidCallsModel" "readAt" "I") (by decide +kernel)
  have fl_114 := hts (.fieldLink RX6 114 "UnsaidCallsModel" "readThings" "I") (by decide +kernel)
  unfold w_X6_readsThing at h
  refine lv_aload_n hx hb dX6_readsThing_0 rfl (lv_at hl 0 rfl) ?_
  refine lv_iload_n hx hb dX6_readsThing_1 rfl (lv_at hl 1 rfl) ?_
  refine lv_iload_n hx hb dX6_readsThing_2 rfl (lv_at hl 2 rfl) ?_
  refine xq_ci (va_runV (As := [.int a_1, .int a_2]) (rest := []) ⟨hx, hb, hml, hown, hts⟩ (m_X6_codeAt l dC dI cyI cyJ ab s.heap.size h) (cwV 2 hts gX6_readsThing_X6_codeAt rfl rfl rfl (by decide +kernel) ⟨Nat.le_of_ble_eq_true rfl, Nat.le_of_ble_eq_true rfl⟩) (xq_preV hK hP hD hN (ci := 6) (q0 := 0) rfl rfl) rfl rfl hl.1 rfl (lv_room (Nat.le_of_ble_eq_true rfl)) dX6_readsThing_3 ⟨Nat.le_refl _, Nat.le_refl _⟩) hD hS hA (fun rr_1 uu H locs h hP hD hS => ?_)
  have hP : va_P (dC, dI) vwCl (wm_u cyI cyJ ab n_fault n_things n_kindOf n_digitOf n_follows n_ifOf n_thenOf n_listOf n_breathOf n_heardOf n_readAt n_readThings n_readFollows n_readKind n_readDigit n_readIf n_readThen n_readings n_readingIn n_readingHour n_readingOf n_breathWas n_sheetSize n_sheetLane n_sheet n_hands n_traceNow) H := hP
  have hD : va_D A (wm_u cyI cyJ ab n_fault n_things n_kindOf n_digitOf n_follows n_ifOf n_thenOf n_listOf n_breathOf n_heardOf n_readAt n_readThings n_readFollows n_readKind n_readDigit n_readIf n_readThen n_readings n_readingIn n_readingHour n_readingOf n_breathWas n_sheetSize n_sheetLane n_sheet n_hands n_traceNow) := hD
  refine lv_istore_n (lv' := [(3, .int rr_1), (0, .ref (ab 0)), (1, .int a_1), (2, .int a_2)]) hx hb dX6_readsThing_6 rfl hl (by decide) rfl (fun ls hl => ?_)
  refine lv_aload_n hx hb dX6_readsThing_7 rfl (lv_at hl 1 rfl) ?_
  refine va_get (D := (dC, dI)) (ci := 6) (v := .int n_readThings) (C := RX6) (T := TX6) (N := 27) hx hb hts hi_X6 hown hK hP 0 rfl rfl 11 (by decide) fl_114 (fun _ h9 => h9) rfl dX6_readsThing_8 ?_
  refine lv_bipush (v := (6 : Int32)) hx hb dX6_readsThing_11 (by decide) ?_
  refine lv_icmp_eq (tgt := 34) hx hb dX6_readsThing_13 (by decide) (fun hc_16 => ?_) (fun hc_16 => ?_)
  · have h := h.1 hc_16
    refine lv_iconst (v := (0 : Int32)) hx hb dX6_readsThing_34 (by decide) ?_
    exact xq_rz hQ hx hb hr (by decide) hP hK hD hS (n_readAt, n_readThings, n_readKind, n_readDigit) rfl h dX6_readsThing_35 hlocks
  · have h := h.2 hc_16
    refine lv_iload_n hx hb dX6_readsThing_16 rfl (lv_at hl 0 rfl) ?_
    refine lv_bipush (v := (116 : Int32)) hx hb dX6_readsThing_17 (by decide) ?_
    refine xq_j0_go (X := ∀ (H : Heap) (locs : List Loc) (ls : Array Slot), va_P (dC, dI) vwCl (wm_u cyI cyJ ab n_fault n_things n_kindOf n_digitOf n_follows n_ifOf n_thenOf n_listOf n_breathOf n_heardOf n_readAt n_readThings n_readFollows n_readKind n_readDigit n_readIf n_readThen n_readings n_readingIn n_readingHour n_readingOf n_breathWas n_sheetSize n_sheetLane n_sheet n_hands n_traceNow) H → va_D A (wm_u cyI cyJ ab n_fault n_things n_kindOf n_digitOf n_follows n_ifOf n_thenOf n_listOf n_breathOf n_heardOf n_readAt n_readThings n_readFollows n_readKind n_readDigit n_readIf n_readThen n_readings n_readingIn n_readingHour n_readingOf n_breathWas n_sheetSize n_sheetLane n_sheet n_hands n_traceNow) → va_S A s.heap H locs → lv_has ls 5 [(0, .ref (ab 0)), (1, .int a_1), (2, .int a_2), (3, .int rr_1)] → W p l e (xq_R 2 51) s m args below meth c H locs 0 0 Q (F0 m 36 ls [])) h (fun  h H locs ls hP hD hS hl => ?_) (fun kj_2 h => ?_)
    · refine lv_aload_n hx hb dX6_readsThing_36 rfl (lv_at hl 0 rfl) ?_
      refine lv_dup hx hb dX6_readsThing_37 rfl ?_
      refine va_get (D := (dC, dI)) (ci := 6) (v := .int n_readAt) (C := RX6) (T := TX6) (N := 27) hx hb hts hi_X6 hown hK hP 0 rfl rfl 10 (by decide) fl_107 (fun _ h9 => h9) rfl dX6_readsThing_38 ?_
      refine lv_iconst (v := (1 : Int32)) hx hb dX6_readsThing_41 (by decide) ?_
      refine lv_iadd hx hb dX6_readsThing_42 ?_
      refine va_put (D := (dC, dI)) (ci := 6) (v := .int (n_readAt + (1 : Int32))) (ty := .int) (C := RX6) (T := TX6) (N := 27) hx hb hts hi_X6 tyX6 tyX6_ok nmX6 hown hK hP hD hS 0 rfl rfl 10 (by decide) fl_107 (fun _ h9 => h9) rfl (by decide +kernel) rfl rfl (Nat.le_of_ble_eq_true rfl) dX6_readsThing_43 (fun H locs hP hD hS => ?_)
      have hP : va_P (dC, dI) vwCl (wm_u cyI cyJ ab n_fault n_things n_kindOf n_digitOf n_follows n_ifOf n_thenOf n_listOf n_breathOf n_heardOf (n_readAt + (1 : Int32)) n_readThings n_readFollows n_readKind n_readDigit n_readIf n_readThen n_readings n_readingIn n_readingHour n_readingOf n_breathWas n_sheetSize n_sheetLane n_sheet n_hands n_traceNow) H := hP
      have hD : va_D A (wm_u cyI cyJ ab n_fault n_things n_kindOf n_digitOf n_follows n_ifOf n_thenOf n_listOf n_breathOf n_heardOf (n_readAt + (1 : Int32)) n_readThings n_readFollows n_readKind n_readDigit n_readIf n_readThen n_readings n_readingIn n_readingHour n_readingOf n_breathWas n_sheetSize n_sheetLane n_sheet n_hands n_traceNow) := hD
      refine lv_aload_n hx hb dX6_readsThing_46 rfl (lv_at hl 0 rfl) ?_
      refine lv_iload_n hx hb dX6_readsThing_47 rfl (lv_at hl 1 rfl) ?_
      refine lv_iload_n hx hb dX6_readsThing_48 rfl (lv_at hl 2 rfl) ?_
      refine lv_iconst (v := (1 : Int32)) hx hb dX6_readsThing_49 (by decide) ?_
      refine lv_bipush (v := (9 : Int32)) hx hb dX6_readsThing_50 (by decide) ?_
      refine xq_ci (va_runV (As := [.int a_1, .int a_2, .int (1 : Int32), .int (9 : Int32)]) (rest := []) ⟨hx, hb, hml, hown, hts⟩ (m_X6_figure l dC dI cyI cyJ ab H.size h) (cwV 4 hts gX6_readsThing_X6_figure rfl rfl rfl (by decide +kernel) ⟨Nat.le_of_ble_eq_true rfl, Nat.le_of_ble_eq_true rfl⟩) (xq_preV hK hP hD hN (ci := 6) (q0 := 0) rfl rfl) rfl rfl hl.1 rfl (lv_room (Nat.le_of_ble_eq_true rfl)) dX6_readsThing_52 ⟨Nat.le_refl _, Nat.le_refl _⟩) hD hS hA (fun rr_6 uu H locs h hP hD hS => ?_)
      obtain ⟨cc_7, rfl⟩ : ∃ z, z = uu := ⟨_, rfl⟩
      have hP : va_P (dC, dI) vwCl (wm_u cyI cyJ ab n_fault n_things n_kindOf n_digitOf n_follows n_ifOf n_thenOf n_listOf n_breathOf n_heardOf cc_7 n_readThings n_readFollows n_readKind n_readDigit n_readIf n_readThen n_readings n_readingIn n_readingHour n_readingOf n_breathWas n_sheetSize n_sheetLane n_sheet n_hands n_traceNow) H := hP
      have hD : va_D A (wm_u cyI cyJ ab n_fault n_things n_kindOf n_digitOf n_follows n_ifOf n_thenOf n_listOf n_breathOf n_heardOf cc_7 n_readThings n_readFollows n_readKind n_readDigit n_readIf n_readThen n_readings n_readingIn n_readingHour n_readingOf n_breathWas n_sheetSize n_sheetLane n_sheet n_hands n_traceNow) := hD
      refine lv_istore (lv' := [(4, .int rr_6), (0, .ref (ab 0)), (1, .int a_1), (2, .int a_2), (3, .int rr_1)]) hx hb dX6_readsThing_55 hl (by decide) rfl (fun ls hl => ?_)
      refine lv_iload hx hb dX6_readsThing_57 (lv_at hl 0 rfl) ?_
      refine lv_if_ge (tgt := 64) hx hb dX6_readsThing_59 (by decide) (fun hc_14 => ?_) (fun hc_14 => ?_)
      · have h := h.1 hc_14
        refine lv_aload_n hx hb dX6_readsThing_64 rfl (lv_at hl 1 rfl) ?_
        refine va_get (D := (dC, dI)) (ci := 6) (v := .ref (ab 8)) (C := RX6) (T := TX6) (N := 27) hx hb hts hi_X6 hown hK hP 0 rfl rfl 13 (by decide) fl_31 (fun _ h9 => h9) rfl dX6_readsThing_65 ?_
        refine lv_aload_n hx hb dX6_readsThing_68 rfl (lv_at hl 1 rfl) ?_
        refine va_get (D := (dC, dI)) (ci := 6) (v := .int n_readThings) (C := RX6) (T := TX6) (N := 27) hx hb hts hi_X6 hown hK hP 0 rfl rfl 11 (by decide) fl_114 (fun _ h9 => h9) rfl dX6_readsThing_69 ?_
        refine lv_iload_n hx hb dX6_readsThing_72 rfl (lv_at hl 4 rfl) ?_
        refine lv_bipush (v := (116 : Int32)) hx hb dX6_readsThing_73 (by decide) ?_
        refine xq_j1_go (X := fun (jj_8 : Int32) => ∀ (H : Heap) (locs : List Loc) (ls : Array Slot), va_P (dC, dI) vwCl (wm_u cyI cyJ ab n_fault n_things n_kindOf n_digitOf n_follows n_ifOf n_thenOf n_listOf n_breathOf n_heardOf cc_7 n_readThings n_readFollows n_readKind n_readDigit n_readIf n_readThen n_readings n_readingIn n_readingHour n_readingOf n_breathWas n_sheetSize n_sheetLane n_sheet n_hands n_traceNow) H → va_D A (wm_u cyI cyJ ab n_fault n_things n_kindOf n_digitOf n_follows n_ifOf n_thenOf n_listOf n_breathOf n_heardOf cc_7 n_readThings n_readFollows n_readKind n_readDigit n_readIf n_readThen n_readings n_readingIn n_readingHour n_readingOf n_breathWas n_sheetSize n_sheetLane n_sheet n_hands n_traceNow) → va_S A s.heap H locs → lv_has ls 5 [(0, .ref (ab 0)), (4, .int rr_6)] → W p l e (xq_R 2 51) s m args below meth c H locs 0 0 Q (F0 m 93 ls [.int jj_8, .int n_readThings, .ref (ab 8)])) h (fun jj_8 h H locs ls hP hD hS hl => ?_) (fun kj_9 h => ?_)
        · obtain ⟨hv_12, h⟩ := h
          refine va_iast hx hb hK hP hD hS 8 0 rfl rfl hv_12 dX6_readsThing_93 (fun H locs hP hD hS => ?_)
          have hP : va_P (dC, dI) vwCl (wm_u cyI cyJ ab n_fault n_things n_kindOf n_digitOf n_follows n_ifOf n_thenOf n_listOf n_breathOf n_heardOf cc_7 n_readThings n_readFollows (upd n_readKind n_readThings.toNatClampNeg jj_8) n_readDigit n_readIf n_readThen n_readings n_readingIn n_readingHour n_readingOf n_breathWas n_sheetSize n_sheetLane n_sheet n_hands n_traceNow) H := hP
          have hD : va_D A (wm_u cyI cyJ ab n_fault n_things n_kindOf n_digitOf n_follows n_ifOf n_thenOf n_listOf n_breathOf n_heardOf cc_7 n_readThings n_readFollows (upd n_readKind n_readThings.toNatClampNeg jj_8) n_readDigit n_readIf n_readThen n_readings n_readingIn n_readingHour n_readingOf n_breathWas n_sheetSize n_sheetLane n_sheet n_hands n_traceNow) := hD
          refine lv_aload_n hx hb dX6_readsThing_94 rfl (lv_at hl 0 rfl) ?_
          refine va_get (D := (dC, dI)) (ci := 6) (v := .ref (ab 9)) (C := RX6) (T := TX6) (N := 27) hx hb hts hi_X6 hown hK hP 0 rfl rfl 14 (by decide) fl_34 (fun _ h9 => h9) rfl dX6_readsThing_95 ?_
          refine lv_aload_n hx hb dX6_readsThing_98 rfl (lv_at hl 0 rfl) ?_
          refine va_get (D := (dC, dI)) (ci := 6) (v := .int n_readThings) (C := RX6) (T := TX6) (N := 27) hx hb hts hi_X6 hown hK hP 0 rfl rfl 11 (by decide) fl_114 (fun _ h9 => h9) rfl dX6_readsThing_99 ?_
          refine lv_iload hx hb dX6_readsThing_102 (lv_at hl 1 rfl) ?_
          obtain ⟨hv_13, h⟩ := h
          refine va_iast hx hb hK hP hD hS 9 0 rfl rfl hv_13 dX6_readsThing_104 (fun H locs hP hD hS => ?_)
          have hP : va_P (dC, dI) vwCl (wm_u cyI cyJ ab n_fault n_things n_kindOf n_digitOf n_follows n_ifOf n_thenOf n_listOf n_breathOf n_heardOf cc_7 n_readThings n_readFollows (upd n_readKind n_readThings.toNatClampNeg jj_8) (upd n_readDigit n_readThings.toNatClampNeg rr_6) n_readIf n_readThen n_readings n_readingIn n_readingHour n_readingOf n_breathWas n_sheetSize n_sheetLane n_sheet n_hands n_traceNow) H := hP
          have hD : va_D A (wm_u cyI cyJ ab n_fault n_things n_kindOf n_digitOf n_follows n_ifOf n_thenOf n_listOf n_breathOf n_heardOf cc_7 n_readThings n_readFollows (upd n_readKind n_readThings.toNatClampNeg jj_8) (upd n_readDigit n_readThings.toNatClampNeg rr_6) n_readIf n_readThen n_readings n_readingIn n_readingHour n_readingOf n_breathWas n_sheetSize n_sheetLane n_sheet n_hands n_traceNow) := hD
          refine lv_aload_n hx hb dX6_readsThing_105 rfl (lv_at hl 0 rfl) ?_
          refine lv_dup hx hb dX6_readsThing_106 rfl ?_
          refine va_get (D := (dC, dI)) (ci := 6) (v := .int n_readThings) (C := RX6) (T := TX6) (N := 27) hx hb hts hi_X6 hown hK hP 0 rfl rfl 11 (by decide) fl_114 (fun _ h9 => h9) rfl dX6_readsThing_107 ?_
          refine lv_iconst (v := (1 : Int32)) hx hb dX6_readsThing_110 (by decide) ?_
          refine lv_iadd hx hb dX6_readsThing_111 ?_
          refine va_put (D := (dC, dI)) (ci := 6) (v := .int (n_readThings + (1 : Int32))) (ty := .int) (C := RX6) (T := TX6) (N := 27) hx hb hts hi_X6 tyX6 tyX6_ok nmX6 hown hK hP hD hS 0 rfl rfl 11 (by decide) fl_114 (fun _ h9 => h9) rfl (by decide +kernel) rfl rfl (Nat.le_of_ble_eq_true rfl) dX6_readsThing_112 (fun H locs hP hD hS => ?_)
          have hP : va_P (dC, dI) vwCl (wm_u cyI cyJ ab n_fault n_things n_kindOf n_digitOf n_follows n_ifOf n_thenOf n_listOf n_breathOf n_heardOf cc_7 (n_readThings + (1 : Int32)) n_readFollows (upd n_readKind n_readThings.toNatClampNeg jj_8) (upd n_readDigit n_readThings.toNatClampNeg rr_6) n_readIf n_readThen n_readings n_readingIn n_readingHour n_readingOf n_breathWas n_sheetSize n_sheetLane n_sheet n_hands n_traceNow) H := hP
          have hD : va_D A (wm_u cyI cyJ ab n_fault n_things n_kindOf n_digitOf n_follows n_ifOf n_thenOf n_listOf n_breathOf n_heardOf cc_7 (n_readThings + (1 : Int32)) n_readFollows (upd n_readKind n_readThings.toNatClampNeg jj_8) (upd n_readDigit n_readThings.toNatClampNeg rr_6) n_readIf n_readThen n_readings n_readingIn n_readingHour n_readingOf n_breathWas n_sheetSize n_sheetLane n_sheet n_hands n_traceNow) := hD
          refine lv_iconst (v := (1 : Int32)) hx hb dX6_readsThing_115 (by decide) ?_
          exact xq_rz hQ hx hb hr (by decide) hP hK hD hS (cc_7, (n_readThings + (1 : Int32)), (upd n_readKind n_readThings.toNatClampNeg jj_8), (upd n_readDigit n_readThings.toNatClampNeg rr_6)) rfl h dX6_readsThing_116 hlocks
        · refine lv_icmp_ne (tgt := 82) hx hb dX6_readsThing_75 (by decide) (fun hc_11 => ?_) (fun hc_11 => ?_)
          · have h := h.1 hc_11
            refine lv_iload_n hx hb dX6_readsThing_82 rfl (lv_at hl 4 rfl) ?_
            refine lv_bipush (v := (108 : Int32)) hx hb dX6_readsThing_83 (by decide) ?_
            refine lv_icmp_ne (tgt := 92) hx hb dX6_readsThing_85 (by decide) (fun hc_10 => ?_) (fun hc_10 => ?_)
            · have h := h.1 hc_10
              refine lv_iconst (v := (2 : Int32)) hx hb dX6_readsThing_92 (by decide) ?_
              exact kj_9 (2 : Int32) h _ _ _ hP hD hS (lv_sub hl [1, 0] rfl)
            · have h := h.2 hc_10
              refine lv_iconst (v := (1 : Int32)) hx hb dX6_readsThing_88 (by decide) ?_
              refine lv_goto (tgt := 93) hx hb dX6_readsThing_89 (by decide) ?_
              exact kj_9 (1 : Int32) h _ _ _ hP hD hS (lv_sub hl [1, 0] rfl)
          · have h := h.2 hc_11
            refine lv_iconst (v := (0 : Int32)) hx hb dX6_readsThing_78 (by decide) ?_
            refine lv_goto (tgt := 93) hx hb dX6_readsThing_79 (by decide) ?_
            exact kj_9 (0 : Int32) h _ _ _ hP hD hS (lv_sub hl [1, 0] rfl)
      · have h := h.2 hc_14
        refine lv_iconst (v := (0 : Int32)) hx hb dX6_readsThing_62 (by decide) ?_
        exact xq_rz hQ hx hb hr (by decide) hP hK hD hS (cc_7, n_readThings, n_readKind, n_readDigit) rfl h dX6_readsThing_63 hlocks
    · refine lv_icmp_eq (tgt := 36) hx hb dX6_readsThing_19 (by decide) (fun hc_5 => ?_) (fun hc_5 => ?_)
      · have h := h.1 hc_5
        exact kj_2 h _ _ _ hP hD hS (lv_sub hl [1, 2, 3, 0] rfl)
      · have h := h.2 hc_5
        refine lv_iload_n hx hb dX6_readsThing_22 rfl (lv_at hl 0 rfl) ?_
        refine lv_bipush (v := (108 : Int32)) hx hb dX6_readsThing_23 (by decide) ?_
        refine lv_icmp_eq (tgt := 36) hx hb dX6_readsThing_25 (by decide) (fun hc_4 => ?_) (fun hc_4 => ?_)
        · have h := h.1 hc_4
          exact kj_2 h _ _ _ hP hD hS (lv_sub hl [1, 2, 3, 0] rfl)
        · have h := h.2 hc_4
          refine lv_iload_n hx hb dX6_readsThing_28 rfl (lv_at hl 0 rfl) ?_
          refine lv_bipush (v := (100 : Int32)) hx hb dX6_readsThing_29 (by decide) ?_
          refine lv_icmp_eq (tgt := 36) hx hb dX6_readsThing_31 (by decide) (fun hc_3 => ?_) (fun hc_3 => ?_)
          · have h := h.1 hc_3
            exact kj_2 h _ _ _ hP hD hS (lv_sub hl [1, 2, 3, 0] rfl)
          · have h := h.2 hc_3
            refine lv_iconst (v := (0 : Int32)) hx hb dX6_readsThing_34 (by decide) ?_
            exact xq_rz hQ hx hb hr (by decide) hP hK hD hS (n_readAt, n_readThings, n_readKind, n_readDigit) rfl h dX6_readsThing_35 hlocks
def w_X6_readsTown_L50 (a_1 : Int32) (a_2 : Int32) (n_readFollows : Int32) (n_readIf : Nat → Int32) (n_readThen : Nat → Int32) (n_sheet : Nat → Int32) (post : Int32 → Int32 → Int32 → Int32 → (Nat → Int32) → (Nat → Int32) → (Nat → Int32) → (Nat → Int32) → Prop) (kk : Int32 → Int32 → Int32 → (Nat → Int32) → (Nat → Int32) → Prop) : Nat → Int32 → Int32 → Int32 → (Nat → Int32) → (Nat → Int32) → Prop
  | 0, _, _, _, _, _ => False
  | f_50 + 1, a_3, n_readAt, n_readThings, n_readKind, n_readDigit => (a_3 = 0 → (kk a_3 n_readAt n_readThings n_readKind n_readDigit)) ∧ (¬ a_3 = 0 → (xq_j0 (fun (kj_8 : Prop) => (n_readThings < (2 : Int32) → (kj_8)) ∧ (¬ n_readThings < (2 : Int32) → ((a_2 ≤ n_readAt → (kk a_3 n_readAt n_readThings n_readKind n_readDigit)) ∧ (¬ a_2 ≤ n_readAt → (w_X6_codeAt n_readAt n_sheet a_1 a_2 (fun (rr_9 : Int32) => (rr_9 = (59 : Int32) → (kk a_3 n_readAt n_readThings n_readKind n_readDigit)) ∧ (¬ rr_9 = (59 : Int32) → (kj_8)))))))) (w_X6_readsThing n_readAt n_readThings n_readKind n_readDigit n_sheet a_1 a_2 (fun (rr_14 : Int32) (cc_15 : Int32) (cc_16 : Int32) (cc_17 : Nat → Int32) (cc_18 : Nat → Int32) => w_X6_readsTown_L50 a_1 a_2 n_readFollows n_readIf n_readThen n_sheet post kk f_50 rr_14 cc_15 cc_16 cc_17 cc_18))))
def w_X6_readsTown_L91 (a_1 : Int32) (a_2 : Int32) (n_readThings : Int32) (n_readKind : Nat → Int32) (n_readDigit : Nat → Int32) (n_sheet : Nat → Int32) (post : Int32 → Int32 → Int32 → Int32 → (Nat → Int32) → (Nat → Int32) → (Nat → Int32) → (Nat → Int32) → Prop) (kk : Int32 → Int32 → Int32 → (Nat → Int32) → (Nat → Int32) → Prop) : Nat → Int32 → Int32 → Int32 → (Nat → Int32) → (Nat → Int32) → Prop
  | 0, _, _, _, _, _ => False
  | f_91 + 1, a_3, n_readAt, n_readFollows, n_readIf, n_readThen => (a_3 = 0 → (kk a_3 n_readAt n_readFollows n_readIf n_readThen)) ∧ (¬ a_3 = 0 → ((a_2 ≤ n_readAt → (kk a_3 n_readAt n_readFollows n_readIf n_readThen)) ∧ (¬ a_2 ≤ n_readAt → (w_X6_readsFollow n_readAt n_readThings n_readFollows n_readIf n_readThen n_sheet a_1 a_2 (fun (rr_31 : Int32) (cc_32 : Int32) (cc_33 : Int32) (cc_34 : Nat → Int32) (cc_35 : Nat → Int32) => w_X6_readsTown_L91 a_1 a_2 n_readThings n_readKind n_readDigit n_sheet post kk f_91 rr_31 cc_32 cc_33 cc_34 cc_35)))))
def w_X6_readsTown (n_readAt : Int32) (n_readThings : Int32) (n_readFollows : Int32) (n_readKind : Nat → Int32) (n_readDigit : Nat → Int32) (n_readIf : Nat → Int32) (n_readThen : Nat → Int32) (n_sheet : Nat → Int32) (a_1 : Int32) (a_2 : Int32) (post : Int32 → Int32 → Int32 → Int32 → (Nat → Int32) → (Nat → Int32) → (Nat → Int32) → (Nat → Int32) → Prop) : Prop := w_X6_codeAt (0 : Int32) n_sheet a_1 a_2 (fun (rr_1 : Int32) => xq_j1 (fun (kj_3 : Int32 → Prop) => (¬ rr_1 = (119 : Int32) → (kj_3 (0 : Int32))) ∧ (rr_1 = (119 : Int32) → (kj_3 (1 : Int32)))) (fun (jj_2 : Int32) => xq_j1 (fun (kj_6 : Int32 → Prop) => (jj_2 = 0 → (kj_6 (0 : Int32))) ∧ (¬ jj_2 = 0 → (kj_6 (1 : Int32)))) (fun (jj_5 : Int32) => ∃ e_50, w_X6_readsTown_L50 a_1 a_2 (0 : Int32) n_readIf n_readThen n_sheet post (fun (xx_26 : Int32) (xx_27 : Int32) (xx_28 : Int32) (xx_29 : Nat → Int32) (xx_30 : Nat → Int32) => ∃ e_91, w_X6_readsTown_L91 a_1 a_2 xx_28 xx_29 xx_30 n_sheet post (fun (xx_44 : Int32) (xx_45 : Int32) (xx_46 : Int32) (xx_47 : Nat → Int32) (xx_48 : Nat → Int32) => xq_z xx_44 ∧ post xx_44 xx_45 xx_28 xx_46 xx_29 xx_30 xx_47 xx_48) e_91 xx_26 xx_27 (0 : Int32) n_readIf n_readThen) e_50 jj_2 ((0 : Int32) + jj_5) (0 : Int32) n_readKind n_readDigit)))
set_option maxHeartbeats 4000000 in
set_option maxRecDepth 100000 in
theorem m_X6_readsTown (l : Launch) (dC : Nat → ClassId) (dI : Nat → Nat → Nat) (cyI cyJ : ClassId) (ab : Nat → Nat) (sz : Nat) {n_fault : Int32} {n_things : Int32} {n_kindOf : Nat → Int32} {n_digitOf : Nat → Int32} {n_follows : Int32} {n_ifOf : Nat → Int32} {n_thenOf : Nat → Int32} {n_listOf : Nat → Int32} {n_breathOf : Nat → Int32} {n_heardOf : Nat → Int32} {n_readAt : Int32} {n_readThings : Int32} {n_readFollows : Int32} {n_readKind : Nat → Int32} {n_readDigit : Nat → Int32} {n_readIf : Nat → Int32} {n_readThen : Nat → Int32} {n_readings : Int32} {n_readingIn : Nat → Int32} {n_readingHour : Nat → Int32} {n_readingOf : Nat → Int32} {n_breathWas : Nat → Int32} {n_sheetSize : Nat → Int32} {n_sheetLane : Nat → Int32} {n_sheet : Nat → Int32} {n_hands : Nat → Int32} {n_traceNow : Int32} {a_1 : Int32} {a_2 : Int32} {post : Int32 → Int32 → Int32 → Int32 → (Nat → Int32) → (Nat → Int32) → (Nat → Int32) → (Nat → Int32) → Prop} (h : w_X6_readsTown n_readAt n_readThings n_readFollows n_readKind n_readDigit n_readIf n_readThen n_sheet a_1 a_2 post) : Met l yX6_readsTown wsX6_readsTown (xq_R 3 75) (va_Pc [.ref (ab 0), .int a_1, .int a_2] (xq_P (dC, dI) [(cyI, .int), (cyJ, .long)] (wm_u cyI cyJ ab n_fault n_things n_kindOf n_digitOf n_follows n_ifOf n_thenOf n_listOf n_breathOf n_heardOf n_readAt n_readThings n_readFollows n_readKind n_readDigit n_readIf n_readThen n_readings n_readingIn n_readingHour n_readingOf n_breathWas n_sheetSize n_sheetLane n_sheet n_hands n_traceNow) sz)) (va_Qi (fun (rr : Int32) (uu : Int32 × Int32 × Int32 × (Nat → Int32) × (Nat → Int32) × (Nat → Int32) × (Nat → Int32)) => post rr uu.1 uu.2.1 uu.2.2.1 uu.2.2.2.1 uu.2.2.2.2.1 uu.2.2.2.2.2.1 uu.2.2.2.2.2.2) (fun (uu : Int32 × Int32 × Int32 × (Nat → Int32) × (Nat → Int32) × (Nat → Int32) × (Nat → Int32)) => xq_B (dC, dI) [(cyI, .int), (cyJ, .long)] (va_A (wm_u cyI cyJ ab n_fault n_things n_kindOf n_digitOf n_follows n_ifOf n_thenOf n_listOf n_breathOf n_heardOf n_readAt n_readThings n_readFollows n_readKind n_readDigit n_readIf n_readThen n_readings n_readingIn n_readingHour n_readingOf n_breathWas n_sheetSize n_sheetLane n_sheet n_hands n_traceNow) sz) (wm_u cyI cyJ ab n_fault n_things n_kindOf n_digitOf n_follows n_ifOf n_thenOf n_listOf n_breathOf n_heardOf uu.1 uu.2.1 uu.2.2.1 uu.2.2.2.1 uu.2.2.2.2.1 uu.2.2.2.2.2.1 uu.2.2.2.2.2.2 n_readings n_readingIn n_readingHour n_readingOf n_breathWas n_sheetSize n_sheetLane n_sheet n_hands n_traceNow)) (va_A (wm_u cyI cyJ ab n_fault n_things n_kindOf n_digitOf n_follows n_ifOf n_thenOf n_listOf n_breathOf n_heardOf n_readAt n_readThings n_readFollows n_readKind n_readDigit n_readIf n_readThen n_readings n_readingIn n_readingHour n_readingOf n_breathWas n_sheetSize n_sheetLane n_sheet n_hands n_traceNow) sz)) 0 0 (va_A (wm_u cyI cyJ ab n_fault n_things n_kindOf n_digitOf n_follows n_ifOf n_thenOf n_listOf n_breathOf n_heardOf n_readAt n_readThings n_readFollows n_readKind n_readDigit n_readIf n_readThen n_readings n_readingIn n_readingHour n_readingOf n_breathWas n_sheetSize n_sheetLane n_sheet n_hands n_traceNow) sz) := by
  refine xq_M (cc := cX6_readsTown) (maxL := 4) (ret := (some .boolean)) (QA := fun A => va_Qi (fun (rr : Int32) (uu : Int32 × Int32 × Int32 × (Nat → Int32) × (Nat → Int32) × (Nat → Int32) × (Nat → Int32)) => post rr uu.1 uu.2.1 uu.2.2.1 uu.2.2.2.1 uu.2.2.2.2.1 uu.2.2.2.2.2.1 uu.2.2.2.2.2.2) (fun (uu : Int32 × Int32 × Int32 × (Nat → Int32) × (Nat → Int32) × (Nat → Int32) × (Nat → Int32)) => xq_B (dC, dI) [(cyI, .int), (cyJ, .long)] A (wm_u cyI cyJ ab n_fault n_things n_kindOf n_digitOf n_follows n_ifOf n_thenOf n_listOf n_breathOf n_heardOf uu.1 uu.2.1 uu.2.2.1 uu.2.2.2.1 uu.2.2.2.2.1 uu.2.2.2.2.2.1 uu.2.2.2.2.2.2 n_readings n_readingIn n_readingHour n_readingOf n_breathWas n_sheetSize n_sheetLane n_sheet n_hands n_traceNow)) A) (by decide) rfl (Nat.le_of_ble_eq_true rfl) ?_
  intro p e s m args below meth c A ls Q hQ hx hb hr hml hts hown hlocks hsz hP hK hD hA hS hN hl
  subst hsz
  have hl : lv_has ls 4 [(0, .ref (ab 0)), (1, .int a_1), (2, .int a_2)] := hl
  have hi_X6 : ∀ w ∈ wsX60, w ∈ wsX6_readsTown := fun _ h => List.mem_cons_of_mem _ (List.mem_append_right _ h)
  have fl_107 := hts (.fieldLink RX6 107 "UnsaidCallsModel" "readAt" "I") (by decide +kernel)
  have fl_114 := hts (.fieldLink RX6 114 "UnsaidCallsModel" "readThings" "I") (by decide +kernel)
  have fl_121 := hts (.fieldLink RX6 121 "UnsaidCallsModel" "readFollows" "I") (by decide +kernel)
  unfold w_X6_readsTown at h
  refine lv_aload_n hx hb dX6_readsTown_0 rfl (lv_at hl 0 rfl) ?_
  refine lv_iconst (v := (0 : Int32)) hx hb dX6_readsTown_1 (by decide) ?_
  refine va_put (D := (dC, dI)) (ci := 6) (v := .int (0 : Int32)) (ty := .int) (C := RX6) (T := TX6) (N := 27) hx hb hts hi_X6 tyX6 tyX6_ok nmX6 hown hK hP hD hS 0 rfl rfl 10 (by decide) fl_107 (fun _ h9 => h9) rfl (by decide +kernel) rfl rfl (Nat.le_of_ble_eq_true rfl) dX6_readsTown_2 (fun H locs hP hD hS => ?_)
  have hP : va_P (dC, dI) vwCl (wm_u cyI cyJ ab n_fault n_things n_kindOf n_digitOf n_follows n_ifOf n_thenOf n_listOf n_breathOf n_heardOf (0 : Int32) n_readThings n_readFollows n_readKind n_readDigit n_readIf n_readThen n_readings n_readingIn n_readingHour n_readingOf n_breathWas n_sheetSize n_sheetLane n_sheet n_hands n_traceNow) H := hP
  have hD : va_D A (wm_u cyI cyJ ab n_fault n_things n_kindOf n_digitOf n_follows n_ifOf n_thenOf n_listOf n_breathOf n_heardOf (0 : Int32) n_readThings n_readFollows n_readKind n_readDigit n_readIf n_readThen n_readings n_readingIn n_readingHour n_readingOf n_breathWas n_sheetSize n_sheetLane n_sheet n_hands n_traceNow) := hD
  refine lv_aload_n hx hb dX6_readsTown_5 rfl (lv_at hl 0 rfl) ?_
  refine lv_iconst (v := (0 : Int32)) hx hb dX6_readsTown_6 (by decide) ?_
  refine va_put (D := (dC, dI)) (ci := 6) (v := .int (0 : Int32)) (ty := .int) (C := RX6) (T := TX6) (N := 27) hx hb hts hi_X6 tyX6 tyX6_ok nmX6 hown hK hP hD hS 0 rfl rfl 11 (by decide) fl_114 (fun _ h9 => h9) rfl (by decide +kernel) rfl rfl (Nat.le_of_ble_eq_true rfl) dX6_readsTown_7 (fun H locs hP hD hS => ?_)
  have hP : va_P (dC, dI) vwCl (wm_u cyI cyJ ab n_fault n_things n_kindOf n_digitOf n_follows n_ifOf n_thenOf n_listOf n_breathOf n_heardOf (0 : Int32) (0 : Int32) n_readFollows n_readKind n_readDigit n_readIf n_readThen n_readings n_readingIn n_readingHour n_readingOf n_breathWas n_sheetSize n_sheetLane n_sheet n_hands n_traceNow) H := hP
  have hD : va_D A (wm_u cyI cyJ ab n_fault n_things n_kindOf n_digitOf n_follows n_ifOf n_thenOf n_listOf n_breathOf n_heardOf (0 : Int32) (0 : Int32) n_readFollows n_readKind n_readDigit n_readIf n_readThen n_readings n_readingIn n_readingHour n_readingOf n_breathWas n_sheetSize n_sheetLane n_sheet n_hands n_traceNow) := hD
  refine lv_aload_n hx hb dX6_readsTown_10 rfl (lv_at hl 0 rfl) ?_
  refine lv_iconst (v := (0 : Int32)) hx hb dX6_readsTown_11 (by decide) ?_
  refine va_put (D := (dC, dI)) (ci := 6) (v := .int (0 : Int32)) (ty := .int) (C := RX6) (T := TX6) (N := 27) hx hb hts hi_X6 tyX6 tyX6_ok nmX6 hown hK hP hD hS 0 rfl rfl 12 (by decide) fl_121 (fun _ h9 => h9) rfl (by decide +kernel) rfl rfl (Nat.le_of_ble_eq_true rfl) dX6_readsTown_12 (fun H locs hP hD hS => ?_)
  have hP : va_P (dC, dI) vwCl (wm_u cyI cyJ ab n_fault n_things n_kindOf n_digitOf n_follows n_ifOf n_thenOf n_listOf n_breathOf n_heardOf (0 : Int32) (0 : Int32) (0 : Int32) n_readKind n_readDigit n_readIf n_readThen n_readings n_readingIn n_readingHour n_readingOf n_breathWas n_sheetSize n_sheetLane n_sheet n_hands n_traceNow) H := hP
  have hD : va_D A (wm_u cyI cyJ ab n_fault n_things n_kindOf n_digitOf n_follows n_ifOf n_thenOf n_listOf n_breathOf n_heardOf (0 : Int32) (0 : Int32) (0 : Int32) n_readKind n_readDigit n_readIf n_readThen n_readings n_readingIn n_readingHour n_readingOf n_breathWas n_sheetSize n_sheetLane n_sheet n_hands n_traceNow) := hD
  refine lv_aload_n hx hb dX6_readsTown_15 rfl (lv_at hl 0 rfl) ?_
  refine lv_iload_n hx hb dX6_readsTown_16 rfl (lv_at hl 1 rfl) ?_
  refine lv_iload_n hx hb dX6_readsTown_17 rfl (lv_at hl 2 rfl) ?_
  refine xq_ci (va_runV (As := [.int a_1, .int a_2]) (rest := []) ⟨hx, hb, hml, hown, hts⟩ (m_X6_codeAt l dC dI cyI cyJ ab H.size h) (cwV 2 hts gX6_readsTown_X6_codeAt rfl rfl rfl (by decide +kernel) ⟨Nat.le_of_ble_eq_true rfl, Nat.le_of_ble_eq_true rfl⟩) (xq_preV hK hP hD hN (ci := 6) (q0 := 0) rfl rfl) rfl rfl hl.1 rfl (lv_room (Nat.le_of_ble_eq_true rfl)) dX6_readsTown_18 ⟨Nat.le_refl _, Nat.le_refl _⟩) hD hS hA (fun rr_1 uu H locs h hP hD hS => ?_)
  have hP : va_P (dC, dI) vwCl (wm_u cyI cyJ ab n_fault n_things n_kindOf n_digitOf n_follows n_ifOf n_thenOf n_listOf n_breathOf n_heardOf (0 : Int32) (0 : Int32) (0 : Int32) n_readKind n_readDigit n_readIf n_readThen n_readings n_readingIn n_readingHour n_readingOf n_breathWas n_sheetSize n_sheetLane n_sheet n_hands n_traceNow) H := hP
  have hD : va_D A (wm_u cyI cyJ ab n_fault n_things n_kindOf n_digitOf n_follows n_ifOf n_thenOf n_listOf n_breathOf n_heardOf (0 : Int32) (0 : Int32) (0 : Int32) n_readKind n_readDigit n_readIf n_readThen n_readings n_readingIn n_readingHour n_readingOf n_breathWas n_sheetSize n_sheetLane n_sheet n_hands n_traceNow) := hD
  refine lv_bipush (v := (119 : Int32)) hx hb dX6_readsTown_21 (by decide) ?_
  refine xq_j1_go (X := fun (jj_2 : Int32) => ∀ (H : Heap) (locs : List Loc) (ls : Array Slot), va_P (dC, dI) vwCl (wm_u cyI cyJ ab n_fault n_things n_kindOf n_digitOf n_follows n_ifOf n_thenOf n_listOf n_breathOf n_heardOf (0 : Int32) (0 : Int32) (0 : Int32) n_readKind n_readDigit n_readIf n_readThen n_readings n_readingIn n_readingHour n_readingOf n_breathWas n_sheetSize n_sheetLane n_sheet n_hands n_traceNow) H → va_D A (wm_u cyI cyJ ab n_fault n_things n_kindOf n_digitOf n_follows n_ifOf n_thenOf n_listOf n_breathOf n_heardOf (0 : Int32) (0 : Int32) (0 : Int32) n_readKind n_readDigit n_readIf n_readThen n_readings n_readingIn n_readingHour n_readingOf n_breathWas n_sheetSize n_sheetLane n_sheet n_hands n_traceNow) → va_S A s.heap H locs → lv_has ls 4 [(0, .ref (ab 0)), (1, .int a_1), (2, .int a_2)] → W p l e (xq_R 3 75) s m args below meth c H locs 0 0 Q (F0 m 31 ls [.int jj_2])) h (fun jj_2 h H locs ls hP hD hS hl => ?_) (fun kj_3 h => ?_)
  · refine lv_istore_n (lv' := [(3, .int jj_2), (0, .ref (ab 0)), (1, .int a_1), (2, .int a_2)]) hx hb dX6_readsTown_31 rfl hl (by decide) rfl (fun ls hl => ?_)
    refine lv_aload_n hx hb dX6_readsTown_32 rfl (lv_at hl 1 rfl) ?_
    refine lv_dup hx hb dX6_readsTown_33 rfl ?_
    refine va_get (D := (dC, dI)) (ci := 6) (v := .int (0 : Int32)) (C := RX6) (T := TX6) (N := 27) hx hb hts hi_X6 hown hK hP 0 rfl rfl 10 (by decide) fl_107 (fun _ h9 => h9) rfl dX6_readsTown_34 ?_
    refine lv_iload_n hx hb dX6_readsTown_37 rfl (lv_at hl 0 rfl) ?_
    refine xq_j1_go (X := fun (jj_5 : Int32) => ∀ (H : Heap) (locs : List Loc) (ls : Array Slot), va_P (dC, dI) vwCl (wm_u cyI cyJ ab n_fault n_things n_kindOf n_digitOf n_follows n_ifOf n_thenOf n_listOf n_breathOf n_heardOf (0 : Int32) (0 : Int32) (0 : Int32) n_readKind n_readDigit n_readIf n_readThen n_readings n_readingIn n_readingHour n_readingOf n_breathWas n_sheetSize n_sheetLane n_sheet n_hands n_traceNow) H → va_D A (wm_u cyI cyJ ab n_fault n_things n_kindOf n_digitOf n_follows n_ifOf n_thenOf n_listOf n_breathOf n_heardOf (0 : Int32) (0 : Int32) (0 : Int32) n_readKind n_readDigit n_readIf n_readThen n_readings n_readingIn n_readingHour n_readingOf n_breathWas n_sheetSize n_sheetLane n_sheet n_hands n_traceNow) → va_S A s.heap H locs → lv_has ls 4 [(0, .ref (ab 0)), (1, .int a_1), (2, .int a_2), (3, .int jj_2)] → W p l e (xq_R 3 75) s m args below meth c H locs 0 0 Q (F0 m 46 ls [.int jj_5, .int (0 : Int32), .ref (ab 0)])) h (fun jj_5 h H locs ls hP hD hS hl => ?_) (fun kj_6 h => ?_)
    · refine lv_iadd hx hb dX6_readsTown_46 ?_
      refine va_put (D := (dC, dI)) (ci := 6) (v := .int ((0 : Int32) + jj_5)) (ty := .int) (C := RX6) (T := TX6) (N := 27) hx hb hts hi_X6 tyX6 tyX6_ok nmX6 hown hK hP hD hS 0 rfl rfl 10 (by decide) fl_107 (fun _ h9 => h9) rfl (by decide +kernel) rfl rfl (Nat.le_of_ble_eq_true rfl) dX6_readsTown_47 (fun H locs hP hD hS => ?_)
      have hP : va_P (dC, dI) vwCl (wm_u cyI cyJ ab n_fault n_things n_kindOf n_digitOf n_follows n_ifOf n_thenOf n_listOf n_breathOf n_heardOf ((0 : Int32) + jj_5) (0 : Int32) (0 : Int32) n_readKind n_readDigit n_readIf n_readThen n_readings n_readingIn n_readingHour n_readingOf n_breathWas n_sheetSize n_sheetLane n_sheet n_hands n_traceNow) H := hP
      have hD : va_D A (wm_u cyI cyJ ab n_fault n_things n_kindOf n_digitOf n_follows n_ifOf n_thenOf n_listOf n_breathOf n_heardOf ((0 : Int32) + jj_5) (0 : Int32) (0 : Int32) n_readKind n_readDigit n_readIf n_readThen n_readings n_readingIn n_readingHour n_readingOf n_breathWas n_sheetSize n_sheetLane n_sheet n_hands n_traceNow) := hD
      obtain ⟨ni, h⟩ := h
      have lp_50 : ∀ (kk : Int32 → Int32 → Int32 → (Nat → Int32) → (Nat → Int32) → Prop), (∀ (xx_26 : Int32) (xx_27 : Int32) (xx_28 : Int32) (xx_29 : Nat → Int32) (xx_30 : Nat → Int32) (H : Heap) (locs : List Loc) (ls : Array Slot), va_P (dC, dI) vwCl (wm_u cyI cyJ ab n_fault n_things n_kindOf n_digitOf n_follows n_ifOf n_thenOf n_listOf n_breathOf n_heardOf xx_27 xx_28 (0 : Int32) xx_29 xx_30 n_readIf n_readThen n_readings n_readingIn n_readingHour n_readingOf n_breathWas n_sheetSize n_sheetLane n_sheet n_hands n_traceNow) H → va_D A (wm_u cyI cyJ ab n_fault n_things n_kindOf n_digitOf n_follows n_ifOf n_thenOf n_listOf n_breathOf n_heardOf xx_27 xx_28 (0 : Int32) xx_29 xx_30 n_readIf n_readThen n_readings n_readingIn n_readingHour n_readingOf n_breathWas n_sheetSize n_sheetLane n_sheet n_hands n_traceNow) → va_S A s.heap H locs → lv_has ls 4 [(0, .ref (ab 0)), (1, .int a_1), (2, .int a_2), (3, .int xx_26)] → kk xx_26 xx_27 xx_28 xx_29 xx_30 → W p l e (xq_R 3 75) s m args below meth c H locs 0 0 Q (F0 m 91 ls [])) → ∀ (ni : Nat) (aa_21 : Int32) (cc_22 : Int32) (cc_23 : Int32) (cc_24 : Nat → Int32) (cc_25 : Nat → Int32) (H : Heap) (locs : List Loc) (ls : Array Slot), va_P (dC, dI) vwCl (wm_u cyI cyJ ab n_fault n_things n_kindOf n_digitOf n_follows n_ifOf n_thenOf n_listOf n_breathOf n_heardOf cc_22 cc_23 (0 : Int32) cc_24 cc_25 n_readIf n_readThen n_readings n_readingIn n_readingHour n_readingOf n_breathWas n_sheetSize n_sheetLane n_sheet n_hands n_traceNow) H → va_D A (wm_u cyI cyJ ab n_fault n_things n_kindOf n_digitOf n_follows n_ifOf n_thenOf n_listOf n_breathOf n_heardOf cc_22 cc_23 (0 : Int32) cc_24 cc_25 n_readIf n_readThen n_readings n_readingIn n_readingHour n_readingOf n_breathWas n_sheetSize n_sheetLane n_sheet n_hands n_traceNow) → va_S A s.heap H locs → lv_has ls 4 [(0, .ref (ab 0)), (1, .int a_1), (2, .int a_2), (3, .int aa_21)] → w_X6_readsTown_L50 a_1 a_2 (0 : Int32) n_readIf n_readThen n_sheet post kk ni aa_21 cc_22 cc_23 cc_24 cc_25 → W p l e (xq_R 3 75) s m args below meth c H locs 0 0 Q (F0 m 50 ls []) := by
        intro kk kx ni
        induction ni with
        | zero => intros; exact False.elim (by assumption)
        | succ ni ih =>
          intro aa_21 cc_22 cc_23 cc_24 cc_25 H locs ls hP hD hS hl h
          rw [w_X6_readsTown_L50] at h
          refine lv_iload_n hx hb dX6_readsTown_50 rfl (lv_at hl 3 rfl) ?_
          refine lv_if_eq (tgt := 91) hx hb dX6_readsTown_51 (by decide) (fun hc_70 => ?_) (fun hc_70 => ?_)
          · have h := h.1 hc_70
            exact kx aa_21 cc_22 cc_23 cc_24 cc_25 _ _ _ hP hD hS (lv_sub hl [0, 1, 2, 3] rfl) h
          · have h := h.2 hc_70
            refine lv_aload_n hx hb dX6_readsTown_54 rfl (lv_at hl 0 rfl) ?_
            refine va_get (D := (dC, dI)) (ci := 6) (v := .int cc_23) (C := RX6) (T := TX6) (N := 27) hx hb hts hi_X6 hown hK hP 0 rfl rfl 11 (by decide) fl_114 (fun _ h9 => h9) rfl dX6_readsTown_55 ?_
            refine lv_iconst (v := (2 : Int32)) hx hb dX6_readsTown_58 (by decide) ?_
            refine xq_j0_go (X := ∀ (H : Heap) (locs : List Loc) (ls : Array Slot), va_P (dC, dI) vwCl (wm_u cyI cyJ ab n_fault n_things n_kindOf n_digitOf n_follows n_ifOf n_thenOf n_listOf n_breathOf n_heardOf cc_22 cc_23 (0 : Int32) cc_24 cc_25 n_readIf n_readThen n_readings n_readingIn n_readingHour n_readingOf n_breathWas n_sheetSize n_sheetLane n_sheet n_hands n_traceNow) H → va_D A (wm_u cyI cyJ ab n_fault n_things n_kindOf n_digitOf n_follows n_ifOf n_thenOf n_listOf n_breathOf n_heardOf cc_22 cc_23 (0 : Int32) cc_24 cc_25 n_readIf n_readThen n_readings n_readingIn n_readingHour n_readingOf n_breathWas n_sheetSize n_sheetLane n_sheet n_hands n_traceNow) → va_S A s.heap H locs → lv_has ls 4 [(0, .ref (ab 0)), (1, .int a_1), (2, .int a_2)] → W p l e (xq_R 3 75) s m args below meth c H locs 0 0 Q (F0 m 81 ls [])) h (fun  h H locs ls hP hD hS hl => ?_) (fun kj_58 h => ?_)
            · refine lv_aload_n hx hb dX6_readsTown_81 rfl (lv_at hl 0 rfl) ?_
              refine lv_iload_n hx hb dX6_readsTown_82 rfl (lv_at hl 1 rfl) ?_
              refine lv_iload_n hx hb dX6_readsTown_83 rfl (lv_at hl 2 rfl) ?_
              refine xq_ci (va_runV (As := [.int a_1, .int a_2]) (rest := []) ⟨hx, hb, hml, hown, hts⟩ (m_X6_readsThing l dC dI cyI cyJ ab H.size h) (cwV 2 hts gX6_readsTown_X6_readsThing rfl rfl rfl (by decide +kernel) ⟨Nat.le_of_ble_eq_true rfl, Nat.le_of_ble_eq_true rfl⟩) (xq_preV hK hP hD hN (ci := 6) (q0 := 0) rfl rfl) rfl rfl hl.1 rfl (lv_room (Nat.le_of_ble_eq_true rfl)) dX6_readsTown_84 ⟨Nat.le_refl _, Nat.le_refl _⟩) hD hS hA (fun rr_64 uu H locs h hP hD hS => ?_)
              obtain ⟨cc_65, cc_66, cc_67, cc_68⟩ := uu
              have hP : va_P (dC, dI) vwCl (wm_u cyI cyJ ab n_fault n_things n_kindOf n_digitOf n_follows n_ifOf n_thenOf n_listOf n_breathOf n_heardOf cc_65 cc_66 (0 : Int32) cc_67 cc_68 n_readIf n_readThen n_readings n_readingIn n_readingHour n_readingOf n_breathWas n_sheetSize n_sheetLane n_sheet n_hands n_traceNow) H := hP
              have hD : va_D A (wm_u cyI cyJ ab n_fault n_things n_kindOf n_digitOf n_follows n_ifOf n_thenOf n_listOf n_breathOf n_heardOf cc_65 cc_66 (0 : Int32) cc_67 cc_68 n_readIf n_readThen n_readings n_readingIn n_readingHour n_readingOf n_breathWas n_sheetSize n_sheetLane n_sheet n_hands n_traceNow) := hD
              refine lv_istore_n (lv' := [(3, .int rr_64), (0, .ref (ab 0)), (1, .int a_1), (2, .int a_2)]) hx hb dX6_readsTown_87 rfl hl (by decide) rfl (fun ls hl => ?_)
              refine lv_goto (tgt := 50) hx hb dX6_readsTown_88 (by decide) ?_
              exact ih rr_64 cc_65 cc_66 cc_67 cc_68 _ _ _ hP hD hS (lv_sub hl [1, 2, 3, 0] rfl) h
            · refine lv_icmp_lt (tgt := 81) hx hb dX6_readsTown_59 (by decide) (fun hc_63 => ?_) (fun hc_63 => ?_)
              · have h := h.1 hc_63
                exact kj_58 h _ _ _ hP hD hS (lv_sub hl [0, 1, 2] rfl)
              · have h := h.2 hc_63
                refine lv_aload_n hx hb dX6_readsTown_62 rfl (lv_at hl 0 rfl) ?_
                refine va_get (D := (dC, dI)) (ci := 6) (v := .int cc_22) (C := RX6) (T := TX6) (N := 27) hx hb hts hi_X6 hown hK hP 0 rfl rfl 10 (by decide) fl_107 (fun _ h9 => h9) rfl dX6_readsTown_63 ?_
                refine lv_iload_n hx hb dX6_readsTown_66 rfl (lv_at hl 2 rfl) ?_
                refine lv_icmp_ge (tgt := 91) hx hb dX6_readsTown_67 (by decide) (fun hc_62 => ?_) (fun hc_62 => ?_)
                · have h := h.1 hc_62
                  exact kx aa_21 cc_22 cc_23 cc_24 cc_25 _ _ _ hP hD hS (lv_sub hl [0, 1, 2, 3] rfl) h
                · have h := h.2 hc_62
                  refine lv_aload_n hx hb dX6_readsTown_70 rfl (lv_at hl 0 rfl) ?_
                  refine lv_iload_n hx hb dX6_readsTown_71 rfl (lv_at hl 1 rfl) ?_
                  refine lv_iload_n hx hb dX6_readsTown_72 rfl (lv_at hl 2 rfl) ?_
                  refine xq_ci (va_runV (As := [.int a_1, .int a_2]) (rest := []) ⟨hx, hb, hml, hown, hts⟩ (m_X6_codeAt l dC dI cyI cyJ ab H.size h) (cwV 2 hts gX6_readsTown_X6_codeAt rfl rfl rfl (by decide +kernel) ⟨Nat.le_of_ble_eq_true rfl, Nat.le_of_ble_eq_true rfl⟩) (xq_preV hK hP hD hN (ci := 6) (q0 := 0) rfl rfl) rfl rfl hl.1 rfl (lv_room (Nat.le_of_ble_eq_true rfl)) dX6_readsTown_73 ⟨Nat.le_refl _, Nat.le_refl _⟩) hD hS hA (fun rr_59 uu H locs h hP hD hS => ?_)
                  have hP : va_P (dC, dI) vwCl (wm_u cyI cyJ ab n_fault n_things n_kindOf n_digitOf n_follows n_ifOf n_thenOf n_listOf n_breathOf n_heardOf cc_22 cc_23 (0 : Int32) cc_24 cc_25 n_readIf n_readThen n_readings n_readingIn n_readingHour n_readingOf n_breathWas n_sheetSize n_sheetLane n_sheet n_hands n_traceNow) H := hP
                  have hD : va_D A (wm_u cyI cyJ ab n_fault n_things n_kindOf n_digitOf n_follows n_ifOf n_thenOf n_listOf n_breathOf n_heardOf cc_22 cc_23 (0 : Int32) cc_24 cc_25 n_readIf n_readThen n_readings n_readingIn n_readingHour n_readingOf n_breathWas n_sheetSize n_sheetLane n_sheet n_hands n_traceNow) := hD
                  refine lv_bipush (v := (59 : Int32)) hx hb dX6_readsTown_76 (by decide) ?_
                  refine lv_icmp_eq (tgt := 91) hx hb dX6_readsTown_78 (by decide) (fun hc_60 => ?_) (fun hc_60 => ?_)
                  · have h := h.1 hc_60
                    exact kx aa_21 cc_22 cc_23 cc_24 cc_25 _ _ _ hP hD hS (lv_sub hl [0, 1, 2, 3] rfl) h
                  · have h := h.2 hc_60
                    exact kj_58 h _ _ _ hP hD hS (lv_sub hl [0, 1, 2] rfl)
      refine lp_50 _ (fun xx_26 xx_27 xx_28 xx_29 xx_30 H locs ls hP hD hS hl h => ?_) ni jj_2 ((0 : Int32) + jj_5) (0 : Int32) n_readKind n_readDigit _ _ _ hP hD hS (lv_sub hl [0, 1, 2, 3] rfl) h
      obtain ⟨ni, h⟩ := h
      have lp_91 : ∀ (kk : Int32 → Int32 → Int32 → (Nat → Int32) → (Nat → Int32) → Prop), (∀ (xx_44 : Int32) (xx_45 : Int32) (xx_46 : Int32) (xx_47 : Nat → Int32) (xx_48 : Nat → Int32) (H : Heap) (locs : List Loc) (ls : Array Slot), va_P (dC, dI) vwCl (wm_u cyI cyJ ab n_fault n_things n_kindOf n_digitOf n_follows n_ifOf n_thenOf n_listOf n_breathOf n_heardOf xx_45 xx_28 xx_46 xx_29 xx_30 xx_47 xx_48 n_readings n_readingIn n_readingHour n_readingOf n_breathWas n_sheetSize n_sheetLane n_sheet n_hands n_traceNow) H → va_D A (wm_u cyI cyJ ab n_fault n_things n_kindOf n_digitOf n_follows n_ifOf n_thenOf n_listOf n_breathOf n_heardOf xx_45 xx_28 xx_46 xx_29 xx_30 xx_47 xx_48 n_readings n_readingIn n_readingHour n_readingOf n_breathWas n_sheetSize n_sheetLane n_sheet n_hands n_traceNow) → va_S A s.heap H locs → lv_has ls 4 [(3, .int xx_44)] → kk xx_44 xx_45 xx_46 xx_47 xx_48 → W p l e (xq_R 3 75) s m args below meth c H locs 0 0 Q (F0 m 113 ls [])) → ∀ (ni : Nat) (aa_39 : Int32) (cc_40 : Int32) (cc_41 : Int32) (cc_42 : Nat → Int32) (cc_43 : Nat → Int32) (H : Heap) (locs : List Loc) (ls : Array Slot), va_P (dC, dI) vwCl (wm_u cyI cyJ ab n_fault n_things n_kindOf n_digitOf n_follows n_ifOf n_thenOf n_listOf n_breathOf n_heardOf cc_40 xx_28 cc_41 xx_29 xx_30 cc_42 cc_43 n_readings n_readingIn n_readingHour n_readingOf n_breathWas n_sheetSize n_sheetLane n_sheet n_hands n_traceNow) H → va_D A (wm_u cyI cyJ ab n_fault n_things n_kindOf n_digitOf n_follows n_ifOf n_thenOf n_listOf n_breathOf n_heardOf cc_40 xx_28 cc_41 xx_29 xx_30 cc_42 cc_43 n_readings n_readingIn n_readingHour n_readingOf n_breathWas n_sheetSize n_sheetLane n_sheet n_hands n_traceNow) → va_S A s.heap H locs → lv_has ls 4 [(0, .ref (ab 0)), (1, .int a_1), (2, .int a_2), (3, .int aa_39)] → w_X6_readsTown_L91 a_1 a_2 xx_28 xx_29 xx_30 n_sheet post kk ni aa_39 cc_40 cc_41 cc_42 cc_43 → W p l e (xq_R 3 75) s m args below meth c H locs 0 0 Q (F0 m 91 ls []) := by
        intro kk kx ni
        induction ni with
        | zero => intros; exact False.elim (by assumption)
        | succ ni ih =>
          intro aa_39 cc_40 cc_41 cc_42 cc_43 H locs ls hP hD hS hl h
          rw [w_X6_readsTown_L91] at h
          refine lv_iload_n hx hb dX6_readsTown_91 rfl (lv_at hl 3 rfl) ?_
          refine lv_if_eq (tgt := 113) hx hb dX6_readsTown_92 (by decide) (fun hc_57 => ?_) (fun hc_57 => ?_)
          · have h := h.1 hc_57
            exact kx aa_39 cc_40 cc_41 cc_42 cc_43 _ _ _ hP hD hS (lv_sub hl [3] rfl) h
          · have h := h.2 hc_57
            refine lv_aload_n hx hb dX6_readsTown_95 rfl (lv_at hl 0 rfl) ?_
            refine va_get (D := (dC, dI)) (ci := 6) (v := .int cc_40) (C := RX6) (T := TX6) (N := 27) hx hb hts hi_X6 hown hK hP 0 rfl rfl 10 (by decide) fl_107 (fun _ h9 => h9) rfl dX6_readsTown_96 ?_
            refine lv_iload_n hx hb dX6_readsTown_99 rfl (lv_at hl 2 rfl) ?_
            refine lv_icmp_ge (tgt := 113) hx hb dX6_readsTown_100 (by decide) (fun hc_56 => ?_) (fun hc_56 => ?_)
            · have h := h.1 hc_56
              exact kx aa_39 cc_40 cc_41 cc_42 cc_43 _ _ _ hP hD hS (lv_sub hl [3] rfl) h
            · have h := h.2 hc_56
              refine lv_aload_n hx hb dX6_readsTown_103 rfl (lv_at hl 0 rfl) ?_
              refine lv_iload_n hx hb dX6_readsTown_104 rfl (lv_at hl 1 rfl) ?_
              refine lv_iload_n hx hb dX6_readsTown_105 rfl (lv_at hl 2 rfl) ?_
              refine xq_ci (va_runV (As := [.int a_1, .int a_2]) (rest := []) ⟨hx, hb, hml, hown, hts⟩ (m_X6_readsFollow l dC dI cyI cyJ ab H.size h) (cwV 2 hts gX6_readsTown_X6_readsFollow rfl rfl rfl (by decide +kernel) ⟨Nat.le_of_ble_eq_true rfl, Nat.le_of_ble_eq_true rfl⟩) (xq_preV hK hP hD hN (ci := 6) (q0 := 0) rfl rfl) rfl rfl hl.1 rfl (lv_room (Nat.le_of_ble_eq_true rfl)) dX6_readsTown_106 ⟨Nat.le_refl _, Nat.le_refl _⟩) hD hS hA (fun rr_50 uu H locs h hP hD hS => ?_)
              obtain ⟨cc_51, cc_52, cc_53, cc_54⟩ := uu
              have hP : va_P (dC, dI) vwCl (wm_u cyI cyJ ab n_fault n_things n_kindOf n_digitOf n_follows n_ifOf n_thenOf n_listOf n_breathOf n_heardOf cc_51 xx_28 cc_52 xx_29 xx_30 cc_53 cc_54 n_readings n_readingIn n_readingHour n_readingOf n_breathWas n_sheetSize n_sheetLane n_sheet n_hands n_traceNow) H := hP
              have hD : va_D A (wm_u cyI cyJ ab n_fault n_things n_kindOf n_digitOf n_follows n_ifOf n_thenOf n_listOf n_breathOf n_heardOf cc_51 xx_28 cc_52 xx_29 xx_30 cc_53 cc_54 n_readings n_readingIn n_readingHour n_readingOf n_breathWas n_sheetSize n_sheetLane n_sheet n_hands n_traceNow) := hD
              refine lv_istore_n (lv' := [(3, .int rr_50), (0, .ref (ab 0)), (1, .int a_1), (2, .int a_2)]) hx hb dX6_readsTown_109 rfl hl (by decide) rfl (fun ls hl => ?_)
              refine lv_goto (tgt := 91) hx hb dX6_readsTown_110 (by decide) ?_
              exact ih rr_50 cc_51 cc_52 cc_53 cc_54 _ _ _ hP hD hS (lv_sub hl [1, 2, 3, 0] rfl) h
      refine lp_91 _ (fun xx_44 xx_45 xx_46 xx_47 xx_48 H locs ls hP hD hS hl h => ?_) ni xx_26 xx_27 (0 : Int32) n_readIf n_readThen _ _ _ hP hD hS (lv_sub hl [0, 1, 2, 3] rfl) h
      refine lv_iload_n hx hb dX6_readsTown_113 rfl (lv_at hl 0 rfl) ?_
      obtain ⟨hv_49, h⟩ := h
      exact xq_rz hQ hx hb hr hv_49 hP hK hD hS (xx_45, xx_28, xx_46, xx_29, xx_30, xx_47, xx_48) rfl h dX6_readsTown_114 hlocks
    · refine lv_if_eq (tgt := 45) hx hb dX6_readsTown_38 (by decide) (fun hc_7 => ?_) (fun hc_7 => ?_)
      · have h := h.1 hc_7
        refine lv_iconst (v := (0 : Int32)) hx hb dX6_readsTown_45 (by decide) ?_
        exact kj_6 (0 : Int32) h _ _ _ hP hD hS (lv_sub hl [1, 2, 3, 0] rfl)
      · have h := h.2 hc_7
        refine lv_iconst (v := (1 : Int32)) hx hb dX6_readsTown_41 (by decide) ?_
        refine lv_goto (tgt := 46) hx hb dX6_readsTown_42 (by decide) ?_
        exact kj_6 (1 : Int32) h _ _ _ hP hD hS (lv_sub hl [1, 2, 3, 0] rfl)
  · refine lv_icmp_ne (tgt := 30) hx hb dX6_readsTown_23 (by decide) (fun hc_4 => ?_) (fun hc_4 => ?_)
    · have h := h.1 hc_4
      refine lv_iconst (v := (0 : Int32)) hx hb dX6_readsTown_30 (by decide) ?_
      exact kj_3 (0 : Int32) h _ _ _ hP hD hS (lv_sub hl [0, 1, 2] rfl)
    · have h := h.2 hc_4
      refine lv_iconst (v := (1 : Int32)) hx hb dX6_readsTown_26 (by decide) ?_
      refine lv_goto (tgt := 31) hx hb dX6_readsTown_27 (by decide) ?_
      exact kj_3 (1 : Int32) h _ _ _ hP hD hS (lv_sub hl [0, 1, 2] rfl)
def w_X6_rules_L29 (a_1 : Int32) (a_2 : Int32) (n_things : Int32) (n_kindOf : Nat → Int32) (n_breathOf : Nat → Int32) (n_readings : Int32) (n_readingIn : Nat → Int32) (n_readingHour : Nat → Int32) (n_readingOf : Nat → Int32) (post : Int32 → Prop) (kk : Int32 → Prop) : Nat → Int32 → Int32 → Prop
  | 0, _, _ => False
  | f_29 + 1, a_3, a_4 => w_X6_all n_things (fun (rr_2 : Int32) => (rr_2 < a_4 → (kk a_3)) ∧ (¬ rr_2 < a_4 → (w_X6_isRule n_things n_kindOf n_breathOf n_readings n_readingIn n_readingHour n_readingOf a_4 a_1 (fun (rr_3 : Int32) => (rr_3 = 0 → (w_X6_rules_L29 a_1 a_2 n_things n_kindOf n_breathOf n_readings n_readingIn n_readingHour n_readingOf post kk f_29 a_3 (a_4 + (1 : Int32)))) ∧ (¬ rr_3 = 0 → ((¬ a_3 = a_2 → (w_X6_rules_L29 a_1 a_2 n_things n_kindOf n_breathOf n_readings n_readingIn n_readingHour n_readingOf post kk f_29 (a_3 + (1 : Int32)) (a_4 + (1 : Int32)))) ∧ (a_3 = a_2 → (post a_4))))))))
def w_X6_rules (n_things : Int32) (n_kindOf : Nat → Int32) (n_breathOf : Nat → Int32) (n_readings : Int32) (n_readingIn : Nat → Int32) (n_readingHour : Nat → Int32) (n_readingOf : Nat → Int32) (a_1 : Int32) (a_2 : Int32) (post : Int32 → Prop) : Prop := w_X6_noHour a_1 (fun (rr_1 : Int32) => (¬ rr_1 = 0 → (post (-1 : Int32))) ∧ (rr_1 = 0 → (((-1 : Int32) ≤ a_2 → ((¬ n_things = 0 → (∃ e_29, w_X6_rules_L29 a_1 a_2 n_things n_kindOf n_breathOf n_readings n_readingIn n_readingHour n_readingOf post (fun (xx_11 : Int32) => (0 ≤ a_2 → (post (-9 : Int32))) ∧ (¬ 0 ≤ a_2 → (post xx_11))) e_29 (0 : Int32) (0 : Int32))) ∧ (n_things = 0 → (post (-3 : Int32))))) ∧ (¬ (-1 : Int32) ≤ a_2 → (post (-1 : Int32))))))
set_option maxHeartbeats 4000000 in
set_option maxRecDepth 100000 in
theorem m_X6_rules (l : Launch) (dC : Nat → ClassId) (dI : Nat → Nat → Nat) (cyI cyJ : ClassId) (ab : Nat → Nat) (sz : Nat) {n_fault : Int32} {n_things : Int32} {n_kindOf : Nat → Int32} {n_digitOf : Nat → Int32} {n_follows : Int32} {n_ifOf : Nat → Int32} {n_thenOf : Nat → Int32} {n_listOf : Nat → Int32} {n_breathOf : Nat → Int32} {n_heardOf : Nat → Int32} {n_readAt : Int32} {n_readThings : Int32} {n_readFollows : Int32} {n_readKind : Nat → Int32} {n_readDigit : Nat → Int32} {n_readIf : Nat → Int32} {n_readThen : Nat → Int32} {n_readings : Int32} {n_readingIn : Nat → Int32} {n_readingHour : Nat → Int32} {n_readingOf : Nat → Int32} {n_breathWas : Nat → Int32} {n_sheetSize : Nat → Int32} {n_sheetLane : Nat → Int32} {n_sheet : Nat → Int32} {n_hands : Nat → Int32} {n_traceNow : Int32} {a_1 : Int32} {a_2 : Int32} {post : Int32 → Prop} (h : w_X6_rules n_things n_kindOf n_breathOf n_readings n_readingIn n_readingHour n_readingOf a_1 a_2 post) : Met l yX6_rules wsX6_rules (xq_R 3 74) (va_Pc [.ref (ab 0), .int a_1, .int a_2] (xq_P (dC, dI) [(cyI, .int), (cyJ, .long)] (wm_u cyI cyJ ab n_fault n_things n_kindOf n_digitOf n_follows n_ifOf n_thenOf n_listOf n_breathOf n_heardOf n_readAt n_readThings n_readFollows n_readKind n_readDigit n_readIf n_readThen n_readings n_readingIn n_readingHour n_readingOf n_breathWas n_sheetSize n_sheetLane n_sheet n_hands n_traceNow) sz)) (va_Qi (fun (rr : Int32) (uu : Unit) => post rr ) (fun (uu : Unit) => xq_B (dC, dI) [(cyI, .int), (cyJ, .long)] (va_A (wm_u cyI cyJ ab n_fault n_things n_kindOf n_digitOf n_follows n_ifOf n_thenOf n_listOf n_breathOf n_heardOf n_readAt n_readThings n_readFollows n_readKind n_readDigit n_readIf n_readThen n_readings n_readingIn n_readingHour n_readingOf n_breathWas n_sheetSize n_sheetLane n_sheet n_hands n_traceNow) sz) (wm_u cyI cyJ ab n_fault n_things n_kindOf n_digitOf n_follows n_ifOf n_thenOf n_listOf n_breathOf n_heardOf n_readAt n_readThings n_readFollows n_readKind n_readDigit n_readIf n_readThen n_readings n_readingIn n_readingHour n_readingOf n_breathWas n_sheetSize n_sheetLane n_sheet n_hands n_traceNow)) (va_A (wm_u cyI cyJ ab n_fault n_things n_kindOf n_digitOf n_follows n_ifOf n_thenOf n_listOf n_breathOf n_heardOf n_readAt n_readThings n_readFollows n_readKind n_readDigit n_readIf n_readThen n_readings n_readingIn n_readingHour n_readingOf n_breathWas n_sheetSize n_sheetLane n_sheet n_hands n_traceNow) sz)) 0 0 (va_A (wm_u cyI cyJ ab n_fault n_things n_kindOf n_digitOf n_follows n_ifOf n_thenOf n_listOf n_breathOf n_heardOf n_readAt n_readThings n_readFollows n_readKind n_readDigit n_readIf n_readThen n_readings n_readingIn n_readingHour n_readingOf n_breathWas n_sheetSize n_sheetLane n_sheet n_hands n_traceNow) sz) := by
  refine xq_M (cc := cX6_rules) (maxL := 5) (ret := (some .int)) (QA := fun A => va_Qi (fun (rr : Int32) (uu : Unit) => post rr ) (fun (uu : Unit) => xq_B (dC, dI) [(cyI, .int), (cyJ, .long)] A (wm_u cyI cyJ ab n_fault n_things n_kindOf n_digitOf n_follows n_ifOf n_thenOf n_listOf n_breathOf n_heardOf n_readAt n_readThings n_readFollows n_readKind n_readDigit n_readIf n_readThen n_readings n_readingIn n_readingHour n_readingOf n_breathWas n_sheetSize n_sheetLane n_sheet n_hands n_traceNow)) A) (by decide) rfl (Nat.le_of_ble_eq_true rfl) ?_
  intro p e s m args below meth c A ls Q hQ hx hb hr hml hts hown hlocks hsz hP hK hD hA hS hN hl
  subst hsz
  have hl : lv_has ls 5 [(0, .ref (ab 0)), (1, .int a_1), (2, .int a_2)] := hl
  have hi_X6 : ∀ w ∈ wsX60, w ∈ wsX6_rules := fun _ h => List.mem_cons_of_mem _ (List.mem_append_right _ h)
  have fl_98 := hts (.fieldLink RX6 98 "UnsaidCallsModel" "things" "I") (by decide +kernel)
  unfold w_X6_rules at h
  refine lv_iload_n hx hb dX6_rules_0 rfl (lv_at hl 1 rfl) ?_
  refine xq_ci (va_runS (As := [.int a_1]) (rest := []) ⟨hx, hb, hml, hown, hts⟩ (m_X6_noHour l dC dI cyI cyJ (wm_u cyI cyJ ab n_fault n_things n_kindOf n_digitOf n_follows n_ifOf n_thenOf n_listOf n_breathOf n_heardOf n_readAt n_readThings n_readFollows n_readKind n_readDigit n_readIf n_readThen n_readings n_readingIn n_readingHour n_readingOf n_breathWas n_sheetSize n_sheetLane n_sheet n_hands n_traceNow) s.heap.size h) (va_cwS 1 hts gX6_rules_X6_noHour rfl rfl rfl (by decide +kernel) ⟨Nat.le_of_ble_eq_true rfl, Nat.le_of_ble_eq_true rfl⟩) (xq_preS hK hP hD hN) rfl rfl hl.1 rfl (lv_room (Nat.le_of_ble_eq_true rfl)) dX6_rules_1 ⟨Nat.le_refl _, Nat.le_refl _⟩) hD hS hA (fun rr_1 uu H locs h hP hD hS => ?_)
  have hP : va_P (dC, dI) vwCl (wm_u cyI cyJ ab n_fault n_things n_kindOf n_digitOf n_follows n_ifOf n_thenOf n_listOf n_breathOf n_heardOf n_readAt n_readThings n_readFollows n_readKind n_readDigit n_readIf n_readThen n_readings n_readingIn n_readingHour n_readingOf n_breathWas n_sheetSize n_sheetLane n_sheet n_hands n_traceNow) H := hP
  have hD : va_D A (wm_u cyI cyJ ab n_fault n_things n_kindOf n_digitOf n_follows n_ifOf n_thenOf n_listOf n_breathOf n_heardOf n_readAt n_readThings n_readFollows n_readKind n_readDigit n_readIf n_readThen n_readings n_readingIn n_readingHour n_readingOf n_breathWas n_sheetSize n_sheetLane n_sheet n_hands n_traceNow) := hD
  refine lv_if_ne (tgt := 12) hx hb dX6_rules_4 (by decide) (fun hc_22 => ?_) (fun hc_22 => ?_)
  · have h := h.1 hc_22
    refine lv_iconst (v := (-1 : Int32)) hx hb dX6_rules_12 (by decide) ?_
    exact xq_ri hQ hx hb hr hP hK hD hS () rfl h dX6_rules_13 hlocks
  · have h := h.2 hc_22
    refine lv_iload_n hx hb dX6_rules_7 rfl (lv_at hl 2 rfl) ?_
    refine lv_iconst (v := (-1 : Int32)) hx hb dX6_rules_8 (by decide) ?_
    refine lv_icmp_ge (tgt := 14) hx hb dX6_rules_9 (by decide) (fun hc_21 => ?_) (fun hc_21 => ?_)
    · have h := h.1 hc_21
      refine lv_aload_n hx hb dX6_rules_14 rfl (lv_at hl 0 rfl) ?_
      refine va_get (D := (dC, dI)) (ci := 6) (v := .int n_things) (C := RX6) (T := TX6) (N := 27) hx hb hts hi_X6 hown hK hP 0 rfl rfl 1 (by decide) fl_98 (fun _ h9 => h9) rfl dX6_rules_15 ?_
      refine lv_if_ne (tgt := 24) hx hb dX6_rules_18 (by decide) (fun hc_20 => ?_) (fun hc_20 => ?_)
      · have h := h.1 hc_20
        refine lv_iconst (v := (0 : Int32)) hx hb dX6_rules_24 (by decide) ?_
        refine lv_istore_n (lv' := [(3, .int (0 : Int32)), (0, .ref (ab 0)), (1, .int a_1), (2, .int a_2)]) hx hb dX6_rules_25 rfl hl (by decide) rfl (fun ls hl => ?_)
        refine lv_iconst (v := (0 : Int32)) hx hb dX6_rules_26 (by decide) ?_
        refine lv_istore (lv' := [(4, .int (0 : Int32)), (3, .int (0 : Int32)), (0, .ref (ab 0)), (1, .int a_1), (2, .int a_2)]) hx hb dX6_rules_27 hl (by decide) rfl (fun ls hl => ?_)
        obtain ⟨ni, h⟩ := h
        have lp_29 : ∀ (kk : Int32 → Prop), (∀ (xx_11 : Int32) (H : Heap) (locs : List Loc) (ls : Array Slot), va_P (dC, dI) vwCl (wm_u cyI cyJ ab n_fault n_things n_kindOf n_digitOf n_follows n_ifOf n_thenOf n_listOf n_breathOf n_heardOf n_readAt n_readThings n_readFollows n_readKind n_readDigit n_readIf n_readThen n_readings n_readingIn n_readingHour n_readingOf n_breathWas n_sheetSize n_sheetLane n_sheet n_hands n_traceNow) H → va_D A (wm_u cyI cyJ ab n_fault n_things n_kindOf n_digitOf n_follows n_ifOf n_thenOf n_listOf n_breathOf n_heardOf n_readAt n_readThings n_readFollows n_readKind n_readDigit n_readIf n_readThen n_readings n_readingIn n_readingHour n_readingOf n_breathWas n_sheetSize n_sheetLane n_sheet n_hands n_traceNow) → va_S A s.heap H locs → lv_has ls 5 [(2, .int a_2), (3, .int xx_11)] → kk xx_11 → W p l e (xq_R 3 74) s m args below meth c H locs 0 0 Q (F0 m 65 ls [])) → ∀ (ni : Nat) (aa_9 : Int32) (aa_10 : Int32) (H : Heap) (locs : List Loc) (ls : Array Slot), va_P (dC, dI) vwCl (wm_u cyI cyJ ab n_fault n_things n_kindOf n_digitOf n_follows n_ifOf n_thenOf n_listOf n_breathOf n_heardOf n_readAt n_readThings n_readFollows n_readKind n_readDigit n_readIf n_readThen n_readings n_readingIn n_readingHour n_readingOf n_breathWas n_sheetSize n_sheetLane n_sheet n_hands n_traceNow) H → va_D A (wm_u cyI cyJ ab n_fault n_things n_kindOf n_digitOf n_follows n_ifOf n_thenOf n_listOf n_breathOf n_heardOf n_readAt n_readThings n_readFollows n_readKind n_readDigit n_readIf n_readThen n_readings n_readingIn n_readingHour n_readingOf n_breathWas n_sheetSize n_sheetLane n_sheet n_hands n_traceNow) → va_S A s.heap H locs → lv_has ls 5 [(0, .ref (ab 0)), (1, .int a_1), (2, .int a_2), (3, .int aa_9), (4, .int aa_10)] → w_X6_rules_L29 a_1 a_2 n_things n_kindOf n_breathOf n_readings n_readingIn n_readingHour n_readingOf post kk ni aa_9 aa_10 → W p l e (xq_R 3 74) s m args below meth c H locs 0 0 Q (F0 m 29 ls []) := by
          intro kk kx ni
          induction ni with
          | zero => intros; exact False.elim (by assumption)
          | succ ni ih =>
            intro aa_9 aa_10 H locs ls hP hD hS hl h
            rw [w_X6_rules_L29] at h
            refine lv_iload hx hb dX6_rules_29 (lv_at hl 4 rfl) ?_
            refine lv_aload_n hx hb dX6_rules_31 rfl (lv_at hl 0 rfl) ?_
            refine xq_ci (va_runV (As := []) (rest := [.int aa_10]) ⟨hx, hb, hml, hown, hts⟩ (m_X6_all l dC dI cyI cyJ ab H.size h) (cwV 0 hts gX6_rules_X6_all rfl rfl rfl (by decide +kernel) ⟨Nat.le_of_ble_eq_true rfl, Nat.le_of_ble_eq_true rfl⟩) (xq_preV hK hP hD hN (ci := 6) (q0 := 0) rfl rfl) rfl rfl hl.1 rfl (lv_room (Nat.le_of_ble_eq_true rfl)) dX6_rules_32 ⟨Nat.le_refl _, Nat.le_refl _⟩) hD hS hA (fun rr_13 uu H locs h hP hD hS => ?_)
            have hP : va_P (dC, dI) vwCl (wm_u cyI cyJ ab n_fault n_things n_kindOf n_digitOf n_follows n_ifOf n_thenOf n_listOf n_breathOf n_heardOf n_readAt n_readThings n_readFollows n_readKind n_readDigit n_readIf n_readThen n_readings n_readingIn n_readingHour n_readingOf n_breathWas n_sheetSize n_sheetLane n_sheet n_hands n_traceNow) H := hP
            have hD : va_D A (wm_u cyI cyJ ab n_fault n_things n_kindOf n_digitOf n_follows n_ifOf n_thenOf n_listOf n_breathOf n_heardOf n_readAt n_readThings n_readFollows n_readKind n_readDigit n_readIf n_readThen n_readings n_readingIn n_readingHour n_readingOf n_breathWas n_sheetSize n_sheetLane n_sheet n_hands n_traceNow) := hD
            refine lv_icmp_gt (tgt := 65) hx hb dX6_rules_35 (by decide) (fun hc_18 => ?_) (fun hc_18 => ?_)
            · have h := h.1 hc_18
              exact kx aa_9 _ _ _ hP hD hS (lv_sub hl [2, 3] rfl) h
            · have h := h.2 hc_18
              refine lv_aload_n hx hb dX6_rules_38 rfl (lv_at hl 0 rfl) ?_
              refine lv_iload hx hb dX6_rules_39 (lv_at hl 4 rfl) ?_
              refine lv_iload_n hx hb dX6_rules_41 rfl (lv_at hl 1 rfl) ?_
              refine xq_ci (va_runV (As := [.int aa_10, .int a_1]) (rest := []) ⟨hx, hb, hml, hown, hts⟩ (m_X6_isRule l dC dI cyI cyJ ab H.size h) (cwV 2 hts gX6_rules_X6_isRule rfl rfl rfl (by decide +kernel) ⟨Nat.le_of_ble_eq_true rfl, Nat.le_of_ble_eq_true rfl⟩) (xq_preV hK hP hD hN (ci := 6) (q0 := 0) rfl rfl) rfl rfl hl.1 rfl (lv_room (Nat.le_of_ble_eq_true rfl)) dX6_rules_42 ⟨Nat.le_refl _, Nat.le_refl _⟩) hD hS hA (fun rr_14 uu H locs h hP hD hS => ?_)
              have hP : va_P (dC, dI) vwCl (wm_u cyI cyJ ab n_fault n_things n_kindOf n_digitOf n_follows n_ifOf n_thenOf n_listOf n_breathOf n_heardOf n_readAt n_readThings n_readFollows n_readKind n_readDigit n_readIf n_readThen n_readings n_readingIn n_readingHour n_readingOf n_breathWas n_sheetSize n_sheetLane n_sheet n_hands n_traceNow) H := hP
              have hD : va_D A (wm_u cyI cyJ ab n_fault n_things n_kindOf n_digitOf n_follows n_ifOf n_thenOf n_listOf n_breathOf n_heardOf n_readAt n_readThings n_readFollows n_readKind n_readDigit n_readIf n_readThen n_readings n_readingIn n_readingHour n_readingOf n_breathWas n_sheetSize n_sheetLane n_sheet n_hands n_traceNow) := hD
              refine lv_if_eq (tgt := 59) hx hb dX6_rules_45 (by decide) (fun hc_16 => ?_) (fun hc_16 => ?_)
              · have h := h.1 hc_16
                refine lv_iinc (v := (aa_10 + (1 : Int32))) (lv' := [(4, .int (aa_10 + (1 : Int32))), (0, .ref (ab 0)), (1, .int a_1), (2, .int a_2), (3, .int aa_9)]) hx hb dX6_rules_59 hl (k := 4) rfl rfl (by decide) rfl (fun ls hl => ?_)
                refine lv_goto (tgt := 29) hx hb dX6_rules_62 (by decide) ?_
                exact ih aa_9 (aa_10 + (1 : Int32)) _ _ _ hP hD hS (lv_sub hl [1, 2, 3, 4, 0] rfl) h
              · have h := h.2 hc_16
                refine lv_iload_n hx hb dX6_rules_48 rfl (lv_at hl 3 rfl) ?_
                refine lv_iload_n hx hb dX6_rules_49 rfl (lv_at hl 2 rfl) ?_
                refine lv_icmp_ne (tgt := 56) hx hb dX6_rules_50 (by decide) (fun hc_15 => ?_) (fun hc_15 => ?_)
                · have h := h.1 hc_15
                  refine lv_iinc (v := (aa_9 + (1 : Int32))) (lv' := [(3, .int (aa_9 + (1 : Int32))), (0, .ref (ab 0)), (1, .int a_1), (2, .int a_2), (4, .int aa_10)]) hx hb dX6_rules_56 hl (k := 3) rfl rfl (by decide) rfl (fun ls hl => ?_)
                  refine lv_iinc (v := (aa_10 + (1 : Int32))) (lv' := [(4, .int (aa_10 + (1 : Int32))), (3, .int (aa_9 + (1 : Int32))), (0, .ref (ab 0)), (1, .int a_1), (2, .int a_2)]) hx hb dX6_rules_59 hl (k := 4) rfl rfl (by decide) rfl (fun ls hl => ?_)
                  refine lv_goto (tgt := 29) hx hb dX6_rules_62 (by decide) ?_
                  exact ih (aa_9 + (1 : Int32)) (aa_10 + (1 : Int32)) _ _ _ hP hD hS (lv_sub hl [2, 3, 4, 1, 0] rfl) h
                · have h := h.2 hc_15
                  refine lv_iload hx hb dX6_rules_53 (lv_at hl 4 rfl) ?_
                  exact xq_ri hQ hx hb hr hP hK hD hS () rfl h dX6_rules_55 hlocks
        refine lp_29 _ (fun xx_11 H locs ls hP hD hS hl h => ?_) ni (0 : Int32) (0 : Int32) _ _ _ hP hD hS (lv_sub hl [2, 3, 4, 1, 0] rfl) h
        refine lv_iload_n hx hb dX6_rules_65 rfl (lv_at hl 0 rfl) ?_
        refine lv_if_ge (tgt := 73) hx hb dX6_rules_66 (by decide) (fun hc_12 => ?_) (fun hc_12 => ?_)
        · have h := h.1 hc_12
          refine lv_bipush (v := (-9 : Int32)) hx hb dX6_rules_73 (by decide) ?_
          exact xq_ri hQ hx hb hr hP hK hD hS () rfl h dX6_rules_75 hlocks
        · have h := h.2 hc_12
          refine lv_iload_n hx hb dX6_rules_69 rfl (lv_at hl 1 rfl) ?_
          refine lv_goto (tgt := 75) hx hb dX6_rules_70 (by decide) ?_
          exact xq_ri hQ hx hb hr hP hK hD hS () rfl h dX6_rules_75 hlocks
      · have h := h.2 hc_20
        refine lv_bipush (v := (-3 : Int32)) hx hb dX6_rules_21 (by decide) ?_
        exact xq_ri hQ hx hb hr hP hK hD hS () rfl h dX6_rules_23 hlocks
    · have h := h.2 hc_21
      refine lv_iconst (v := (-1 : Int32)) hx hb dX6_rules_12 (by decide) ?_
      exact xq_ri hQ hx hb hr hP hK hD hS () rfl h dX6_rules_13 hlocks
