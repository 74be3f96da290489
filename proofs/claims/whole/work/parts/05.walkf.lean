def w_X6_calledIn (n_things : Int32) (n_kindOf : Nat → Int32) (n_listOf : Nat → Int32) (n_breathOf : Nat → Int32) (a_1 : Int32) (a_2 : Int32) (post : Int32 → Prop) : Prop := (vp_in a_2 6) ∧ ((vp_in a_2 6) ∧ (w_X6_namedBy n_things n_kindOf a_1 (n_listOf a_2.toNatClampNeg) (n_breathOf a_2.toNatClampNeg) (fun (rr_3 : Int32) => post rr_3)))
set_option maxHeartbeats 4000000 in
set_option maxRecDepth 100000 in
theorem m_X6_calledIn (l : Launch) (dC : Nat → ClassId) (dI : Nat → Nat → Nat) (cyI cyJ : ClassId) (ab : Nat → Nat) (sz : Nat) {n_fault : Int32} {n_things : Int32} {n_kindOf : Nat → Int32} {n_digitOf : Nat → Int32} {n_follows : Int32} {n_ifOf : Nat → Int32} {n_thenOf : Nat → Int32} {n_listOf : Nat → Int32} {n_breathOf : Nat → Int32} {n_heardOf : Nat → Int32} {n_readAt : Int32} {n_readThings : Int32} {n_readFollows : Int32} {n_readKind : Nat → Int32} {n_readDigit : Nat → Int32} {n_readIf : Nat → Int32} {n_readThen : Nat → Int32} {n_readings : Int32} {n_readingIn : Nat → Int32} {n_readingHour : Nat → Int32} {n_readingOf : Nat → Int32} {n_breathWas : Nat → Int32} {n_sheetSize : Nat → Int32} {n_sheetLane : Nat → Int32} {n_sheet : Nat → Int32} {n_hands : Nat → Int32} {n_traceNow : Int32} {a_1 : Int32} {a_2 : Int32} {post : Int32 → Prop} (h : w_X6_calledIn n_things n_kindOf n_listOf n_breathOf a_1 a_2 post) : Met l yX6_calledIn wsX6_calledIn (xq_R 2 50) (va_Pc [.ref (ab 0), .int a_1, .int a_2] (xq_P (dC, dI) [(cyI, .int), (cyJ, .long)] (wm_u cyI cyJ ab n_fault n_things n_kindOf n_digitOf n_follows n_ifOf n_thenOf n_listOf n_breathOf n_heardOf n_readAt n_readThings n_readFollows n_readKind n_readDigit n_readIf n_readThen n_readings n_readingIn n_readingHour n_readingOf n_breathWas n_sheetSize n_sheetLane n_sheet n_hands n_traceNow) sz)) (va_Qi (fun (rr : Int32) (uu : Unit) => post rr ) (fun (uu : Unit) => xq_B (dC, dI) [(cyI, .int), (cyJ, .long)] (va_A (wm_u cyI cyJ ab n_fault n_things n_kindOf n_digitOf n_follows n_ifOf n_thenOf n_listOf n_breathOf n_heardOf n_readAt n_readThings n_readFollows n_readKind n_readDigit n_readIf n_readThen n_readings n_readingIn n_readingHour n_readingOf n_breathWas n_sheetSize n_sheetLane n_sheet n_hands n_traceNow) sz) (wm_u cyI cyJ ab n_fault n_things n_kindOf n_digitOf n_follows n_ifOf n_thenOf n_listOf n_breathOf n_heardOf n_readAt n_readThings n_readFollows n_readKind n_readDigit n_readIf n_readThen n_readings n_readingIn n_readingHour n_readingOf n_breathWas n_sheetSize n_sheetLane n_sheet n_hands n_traceNow)) (va_A (wm_u cyI cyJ ab n_fault n_things n_kindOf n_digitOf n_follows n_ifOf n_thenOf n_listOf n_breathOf n_heardOf n_readAt n_readThings n_readFollows n_readKind n_readDigit n_readIf n_readThen n_readings n_readingIn n_readingHour n_readingOf n_breathWas n_sheetSize n_sheetLane n_sheet n_hands n_traceNow) sz)) 0 0 (va_A (wm_u cyI cyJ ab n_fault n_things n_kindOf n_digitOf n_follows n_ifOf n_thenOf n_listOf n_breathOf n_heardOf n_readAt n_readThings n_readFollows n_readKind n_readDigit n_readIf n_readThen n_readings n_readingIn n_readingHour n_readingOf n_breathWas n_sheetSize n_sheetLane n_sheet n_hands n_traceNow) sz) := by
  refine xq_M (cc := cX6_calledIn) (maxL := 3) (ret := (some .int)) (QA := fun A => va_Qi (fun (rr : Int32) (uu : Unit) => post rr ) (fun (uu : Unit) => xq_B (dC, dI) [(cyI, .int), (cyJ, .long)] A (wm_u cyI cyJ ab n_fault n_things n_kindOf n_digitOf n_follows n_ifOf n_thenOf n_listOf n_breathOf n_heardOf n_readAt n_readThings n_readFollows n_readKind n_readDigit n_readIf n_readThen n_readings n_readingIn n_readingHour n_readingOf n_breathWas n_sheetSize n_sheetLane n_sheet n_hands n_traceNow)) A) (by decide) rfl (Nat.le_of_ble_eq_true rfl) ?_
  intro p e s m args below meth c A ls Q hQ hx hb hr hml hts hown hlocks hsz hP hK hD hA hS hN hl
  subst hsz
  have hl : lv_has ls 3 [(0, .ref (ab 0)), (1, .int a_1), (2, .int a_2)] := hl
  have hi_X6 : ∀ w ∈ wsX60, w ∈ wsX6_calledIn := fun _ h => List.mem_cons_of_mem _ (List.mem_append_right _ h)
  have fl_22 := hts (.fieldLink RX6 22 "UnsaidCallsModel" "listOf" "[I") (by decide +kernel)
  have fl_25 := hts (.fieldLink RX6 25 "UnsaidCallsModel" "breathOf" "[I") (by decide +kernel)
  unfold w_X6_calledIn at h
  refine lv_aload_n hx hb dX6_calledIn_0 rfl (lv_at hl 0 rfl) ?_
  refine lv_iload_n hx hb dX6_calledIn_1 rfl (lv_at hl 1 rfl) ?_
  refine lv_aload_n hx hb dX6_calledIn_2 rfl (lv_at hl 0 rfl) ?_
  refine va_get (D := (dC, dI)) (ci := 6) (v := .ref (ab 5)) (C := RX6) (T := TX6) (N := 27) hx hb hts hi_X6 hown hK hP 0 rfl rfl 7 (by decide) fl_22 (fun _ h9 => h9) rfl dX6_calledIn_3 ?_
  refine lv_iload_n hx hb dX6_calledIn_6 rfl (lv_at hl 2 rfl) ?_
  obtain ⟨hv_1, h⟩ := h
  refine va_iald hx hb hK hP 5 0 rfl rfl hv_1 dX6_calledIn_7 ?_
  refine lv_aload_n hx hb dX6_calledIn_8 rfl (lv_at hl 0 rfl) ?_
  refine va_get (D := (dC, dI)) (ci := 6) (v := .ref (ab 6)) (C := RX6) (T := TX6) (N := 27) hx hb hts hi_X6 hown hK hP 0 rfl rfl 8 (by decide) fl_25 (fun _ h9 => h9) rfl dX6_calledIn_9 ?_
  refine lv_iload_n hx hb dX6_calledIn_12 rfl (lv_at hl 2 rfl) ?_
  obtain ⟨hv_2, h⟩ := h
  refine va_iald hx hb hK hP 6 0 rfl rfl hv_2 dX6_calledIn_13 ?_
  refine xq_ci (va_runV (As := [.int a_1, .int (n_listOf a_2.toNatClampNeg), .int (n_breathOf a_2.toNatClampNeg)]) (rest := []) ⟨hx, hb, hml, hown, hts⟩ (m_X6_namedBy l dC dI cyI cyJ ab s.heap.size h) (cwV 3 hts gX6_calledIn_X6_namedBy rfl rfl rfl (by decide +kernel) ⟨Nat.le_of_ble_eq_true rfl, Nat.le_of_ble_eq_true rfl⟩) (xq_preV hK hP hD hN (ci := 6) (q0 := 0) rfl rfl) rfl rfl hl.1 rfl (lv_room (Nat.le_of_ble_eq_true rfl)) dX6_calledIn_14 ⟨Nat.le_refl _, Nat.le_refl _⟩) hD hS hA (fun rr_3 uu H locs h hP hD hS => ?_)
  have hP : va_P (dC, dI) vwCl (wm_u cyI cyJ ab n_fault n_things n_kindOf n_digitOf n_follows n_ifOf n_thenOf n_listOf n_breathOf n_heardOf n_readAt n_readThings n_readFollows n_readKind n_readDigit n_readIf n_readThen n_readings n_readingIn n_readingHour n_readingOf n_breathWas n_sheetSize n_sheetLane n_sheet n_hands n_traceNow) H := hP
  have hD : va_D A (wm_u cyI cyJ ab n_fault n_things n_kindOf n_digitOf n_follows n_ifOf n_thenOf n_listOf n_breathOf n_heardOf n_readAt n_readThings n_readFollows n_readKind n_readDigit n_readIf n_readThen n_readings n_readingIn n_readingHour n_readingOf n_breathWas n_sheetSize n_sheetLane n_sheet n_hands n_traceNow) := hD
  exact xq_ri hQ hx hb hr hP hK hD hS () rfl h dX6_calledIn_17 hlocks
def w_X6_areAlike_L6 (a_1 : Int32) (a_2 : Int32) (a_3 : Int32) (n_things : Int32) (n_kindOf : Nat → Int32) (n_listOf : Nat → Int32) (n_breathOf : Nat → Int32) (post : Int32 → Prop) (kk : Int32 → Prop) : Nat → Int32 → Int32 → Prop
  | 0, _, _ => False
  | f_6 + 1, a_4, a_5 => (a_3 ≤ a_5 → (kk a_4)) ∧ (¬ a_3 ≤ a_5 → ((a_4 = 0 → (kk a_4)) ∧ (¬ a_4 = 0 → (w_X6_calledIn n_things n_kindOf n_listOf n_breathOf a_1 a_5 (fun (rr_1 : Int32) => w_X6_calledIn n_things n_kindOf n_listOf n_breathOf a_2 a_5 (fun (rr_2 : Int32) => (¬ rr_1 = rr_2 → (w_X6_areAlike_L6 a_1 a_2 a_3 n_things n_kindOf n_listOf n_breathOf post kk f_6 (0 : Int32) (a_5 + (1 : Int32)))) ∧ (rr_1 = rr_2 → (w_X6_areAlike_L6 a_1 a_2 a_3 n_things n_kindOf n_listOf n_breathOf post kk f_6 (1 : Int32) (a_5 + (1 : Int32))))))))))
def w_X6_areAlike (n_things : Int32) (n_kindOf : Nat → Int32) (n_listOf : Nat → Int32) (n_breathOf : Nat → Int32) (a_1 : Int32) (a_2 : Int32) (a_3 : Int32) (post : Int32 → Prop) : Prop := ∃ e_6, w_X6_areAlike_L6 a_1 a_2 a_3 n_things n_kindOf n_listOf n_breathOf post (fun (xx_10 : Int32) => xq_z xx_10 ∧ post xx_10) e_6 (1 : Int32) (0 : Int32)
set_option maxHeartbeats 4000000 in
set_option maxRecDepth 100000 in
theorem m_X6_areAlike (l : Launch) (dC : Nat → ClassId) (dI : Nat → Nat → Nat) (cyI cyJ : ClassId) (ab : Nat → Nat) (sz : Nat) {n_fault : Int32} {n_things : Int32} {n_kindOf : Nat → Int32} {n_digitOf : Nat → Int32} {n_follows : Int32} {n_ifOf : Nat → Int32} {n_thenOf : Nat → Int32} {n_listOf : Nat → Int32} {n_breathOf : Nat → Int32} {n_heardOf : Nat → Int32} {n_readAt : Int32} {n_readThings : Int32} {n_readFollows : Int32} {n_readKind : Nat → Int32} {n_readDigit : Nat → Int32} {n_readIf : Nat → Int32} {n_readThen : Nat → Int32} {n_readings : Int32} {n_readingIn : Nat → Int32} {n_readingHour : Nat → Int32} {n_readingOf : Nat → Int32} {n_breathWas : Nat → Int32} {n_sheetSize : Nat → Int32} {n_sheetLane : Nat → Int32} {n_sheet : Nat → Int32} {n_hands : Nat → Int32} {n_traceNow : Int32} {a_1 : Int32} {a_2 : Int32} {a_3 : Int32} {post : Int32 → Prop} (h : w_X6_areAlike n_things n_kindOf n_listOf n_breathOf a_1 a_2 a_3 post) : Met l yX6_areAlike wsX6_areAlike (xq_R 3 72) (va_Pc [.ref (ab 0), .int a_1, .int a_2, .int a_3] (xq_P (dC, dI) [(cyI, .int), (cyJ, .long)] (wm_u cyI cyJ ab n_fault n_things n_kindOf n_digitOf n_follows n_ifOf n_thenOf n_listOf n_breathOf n_heardOf n_readAt n_readThings n_readFollows n_readKind n_readDigit n_readIf n_readThen n_readings n_readingIn n_readingHour n_readingOf n_breathWas n_sheetSize n_sheetLane n_sheet n_hands n_traceNow) sz)) (va_Qi (fun (rr : Int32) (uu : Unit) => post rr ) (fun (uu : Unit) => xq_B (dC, dI) [(cyI, .int), (cyJ, .long)] (va_A (wm_u cyI cyJ ab n_fault n_things n_kindOf n_digitOf n_follows n_ifOf n_thenOf n_listOf n_breathOf n_heardOf n_readAt n_readThings n_readFollows n_readKind n_readDigit n_readIf n_readThen n_readings n_readingIn n_readingHour n_readingOf n_breathWas n_sheetSize n_sheetLane n_sheet n_hands n_traceNow) sz) (wm_u cyI cyJ ab n_fault n_things n_kindOf n_digitOf n_follows n_ifOf n_thenOf n_listOf n_breathOf n_heardOf n_readAt n_readThings n_readFollows n_readKind n_readDigit n_readIf n_readThen n_readings n_readingIn n_readingHour n_readingOf n_breathWas n_sheetSize n_sheetLane n_sheet n_hands n_traceNow)) (va_A (wm_u cyI cyJ ab n_fault n_things n_kindOf n_digitOf n_follows n_ifOf n_thenOf n_listOf n_breathOf n_heardOf n_readAt n_readThings n_readFollows n_readKind n_readDigit n_readIf n_readThen n_readings n_readingIn n_readingHour n_readingOf n_breathWas n_sheetSize n_sheetLane n_sheet n_hands n_traceNow) sz)) 0 0 (va_A (wm_u cyI cyJ ab n_fault n_things n_kindOf n_digitOf n_follows n_ifOf n_thenOf n_listOf n_breathOf n_heardOf n_readAt n_readThings n_readFollows n_readKind n_readDigit n_readIf n_readThen n_readings n_readingIn n_readingHour n_readingOf n_breathWas n_sheetSize n_sheetLane n_sheet n_hands n_traceNow) sz) := by
  refine xq_M (cc := cX6_areAlike) (maxL := 6) (ret := (some .boolean)) (QA := fun A => va_Qi (fun (rr : Int32) (uu : Unit) => post rr ) (fun (uu : Unit) => xq_B (dC, dI) [(cyI, .int), (cyJ, .long)] A (wm_u cyI cyJ ab n_fault n_things n_kindOf n_digitOf n_follows n_ifOf n_thenOf n_listOf n_breathOf n_heardOf n_readAt n_readThings n_readFollows n_readKind n_readDigit n_readIf n_readThen n_readings n_readingIn n_readingHour n_readingOf n_breathWas n_sheetSize n_sheetLane n_sheet n_hands n_traceNow)) A) (by decide) rfl (Nat.le_of_ble_eq_true rfl) ?_
  intro p e s m args below meth c A ls Q hQ hx hb hr hml hts hown hlocks hsz hP hK hD hA hS hN hl
  subst hsz
  have hl : lv_has ls 6 [(0, .ref (ab 0)), (1, .int a_1), (2, .int a_2), (3, .int a_3)] := hl
  unfold w_X6_areAlike at h
  refine lv_iconst (v := (1 : Int32)) hx hb dX6_areAlike_0 (by decide) ?_
  refine lv_istore (lv' := [(4, .int (1 : Int32)), (0, .ref (ab 0)), (1, .int a_1), (2, .int a_2), (3, .int a_3)]) hx hb dX6_areAlike_1 hl (by decide) rfl (fun ls hl => ?_)
  refine lv_iconst (v := (0 : Int32)) hx hb dX6_areAlike_3 (by decide) ?_
  refine lv_istore (lv' := [(5, .int (0 : Int32)), (4, .int (1 : Int32)), (0, .ref (ab 0)), (1, .int a_1), (2, .int a_2), (3, .int a_3)]) hx hb dX6_areAlike_4 hl (by decide) rfl (fun ls hl => ?_)
  obtain ⟨ni, h⟩ := h
  have lp_6 : ∀ (kk : Int32 → Prop), (∀ (xx_10 : Int32) (H : Heap) (locs : List Loc) (ls : Array Slot), va_P (dC, dI) vwCl (wm_u cyI cyJ ab n_fault n_things n_kindOf n_digitOf n_follows n_ifOf n_thenOf n_listOf n_breathOf n_heardOf n_readAt n_readThings n_readFollows n_readKind n_readDigit n_readIf n_readThen n_readings n_readingIn n_readingHour n_readingOf n_breathWas n_sheetSize n_sheetLane n_sheet n_hands n_traceNow) H → va_D A (wm_u cyI cyJ ab n_fault n_things n_kindOf n_digitOf n_follows n_ifOf n_thenOf n_listOf n_breathOf n_heardOf n_readAt n_readThings n_readFollows n_readKind n_readDigit n_readIf n_readThen n_readings n_readingIn n_readingHour n_readingOf n_breathWas n_sheetSize n_sheetLane n_sheet n_hands n_traceNow) → va_S A s.heap H locs → lv_has ls 6 [(4, .int xx_10)] → kk xx_10 → W p l e (xq_R 3 72) s m args below meth c H locs 0 0 Q (F0 m 47 ls [])) → ∀ (ni : Nat) (aa_8 : Int32) (aa_9 : Int32) (H : Heap) (locs : List Loc) (ls : Array Slot), va_P (dC, dI) vwCl (wm_u cyI cyJ ab n_fault n_things n_kindOf n_digitOf n_follows n_ifOf n_thenOf n_listOf n_breathOf n_heardOf n_readAt n_readThings n_readFollows n_readKind n_readDigit n_readIf n_readThen n_readings n_readingIn n_readingHour n_readingOf n_breathWas n_sheetSize n_sheetLane n_sheet n_hands n_traceNow) H → va_D A (wm_u cyI cyJ ab n_fault n_things n_kindOf n_digitOf n_follows n_ifOf n_thenOf n_listOf n_breathOf n_heardOf n_readAt n_readThings n_readFollows n_readKind n_readDigit n_readIf n_readThen n_readings n_readingIn n_readingHour n_readingOf n_breathWas n_sheetSize n_sheetLane n_sheet n_hands n_traceNow) → va_S A s.heap H locs → lv_has ls 6 [(0, .ref (ab 0)), (1, .int a_1), (2, .int a_2), (3, .int a_3), (4, .int aa_8), (5, .int aa_9)] → w_X6_areAlike_L6 a_1 a_2 a_3 n_things n_kindOf n_listOf n_breathOf post kk ni aa_8 aa_9 → W p l e (xq_R 3 72) s m args below meth c H locs 0 0 Q (F0 m 6 ls []) := by
    intro kk kx ni
    induction ni with
    | zero => intros; exact False.elim (by assumption)
    | succ ni ih =>
      intro aa_8 aa_9 H locs ls hP hD hS hl h
      rw [w_X6_areAlike_L6] at h
      refine lv_iload hx hb dX6_areAlike_6 (lv_at hl 5 rfl) ?_
      refine lv_iload_n hx hb dX6_areAlike_8 rfl (lv_at hl 3 rfl) ?_
      refine lv_icmp_ge (tgt := 47) hx hb dX6_areAlike_9 (by decide) (fun hc_18 => ?_) (fun hc_18 => ?_)
      · have h := h.1 hc_18
        exact kx aa_8 _ _ _ hP hD hS (lv_sub hl [4] rfl) h
      · have h := h.2 hc_18
        refine lv_iload hx hb dX6_areAlike_12 (lv_at hl 4 rfl) ?_
        refine lv_if_eq (tgt := 47) hx hb dX6_areAlike_14 (by decide) (fun hc_17 => ?_) (fun hc_17 => ?_)
        · have h := h.1 hc_17
          exact kx aa_8 _ _ _ hP hD hS (lv_sub hl [4] rfl) h
        · have h := h.2 hc_17
          refine lv_aload_n hx hb dX6_areAlike_17 rfl (lv_at hl 0 rfl) ?_
          refine lv_iload_n hx hb dX6_areAlike_18 rfl (lv_at hl 1 rfl) ?_
          refine lv_iload hx hb dX6_areAlike_19 (lv_at hl 5 rfl) ?_
          refine xq_ci (va_runV (As := [.int a_1, .int aa_9]) (rest := []) ⟨hx, hb, hml, hown, hts⟩ (m_X6_calledIn l dC dI cyI cyJ ab H.size h) (cwV 2 hts gX6_areAlike_X6_calledIn rfl rfl rfl (by decide +kernel) ⟨Nat.le_of_ble_eq_true rfl, Nat.le_of_ble_eq_true rfl⟩) (xq_preV hK hP hD hN (ci := 6) (q0 := 0) rfl rfl) rfl rfl hl.1 rfl (lv_room (Nat.le_of_ble_eq_true rfl)) dX6_areAlike_21 ⟨Nat.le_refl _, Nat.le_refl _⟩) hD hS hA (fun rr_12 uu H locs h hP hD hS => ?_)
          have hP : va_P (dC, dI) vwCl (wm_u cyI cyJ ab n_fault n_things n_kindOf n_digitOf n_follows n_ifOf n_thenOf n_listOf n_breathOf n_heardOf n_readAt n_readThings n_readFollows n_readKind n_readDigit n_readIf n_readThen n_readings n_readingIn n_readingHour n_readingOf n_breathWas n_sheetSize n_sheetLane n_sheet n_hands n_traceNow) H := hP
          have hD : va_D A (wm_u cyI cyJ ab n_fault n_things n_kindOf n_digitOf n_follows n_ifOf n_thenOf n_listOf n_breathOf n_heardOf n_readAt n_readThings n_readFollows n_readKind n_readDigit n_readIf n_readThen n_readings n_readingIn n_readingHour n_readingOf n_breathWas n_sheetSize n_sheetLane n_sheet n_hands n_traceNow) := hD
          refine lv_aload_n hx hb dX6_areAlike_24 rfl (lv_at hl 0 rfl) ?_
          refine lv_iload_n hx hb dX6_areAlike_25 rfl (lv_at hl 2 rfl) ?_
          refine lv_iload hx hb dX6_areAlike_26 (lv_at hl 5 rfl) ?_
          refine xq_ci (va_runV (As := [.int a_2, .int aa_9]) (rest := [.int rr_12]) ⟨hx, hb, hml, hown, hts⟩ (m_X6_calledIn l dC dI cyI cyJ ab H.size h) (cwV 2 hts gX6_areAlike_X6_calledIn rfl rfl rfl (by decide +kernel) ⟨Nat.le_of_ble_eq_true rfl, Nat.le_of_ble_eq_true rfl⟩) (xq_preV hK hP hD hN (ci := 6) (q0 := 0) rfl rfl) rfl rfl hl.1 rfl (lv_room (Nat.le_of_ble_eq_true rfl)) dX6_areAlike_28 ⟨Nat.le_refl _, Nat.le_refl _⟩) hD hS hA (fun rr_13 uu H locs h hP hD hS => ?_)
          have hP : va_P (dC, dI) vwCl (wm_u cyI cyJ ab n_fault n_things n_kindOf n_digitOf n_follows n_ifOf n_thenOf n_listOf n_breathOf n_heardOf n_readAt n_readThings n_readFollows n_readKind n_readDigit n_readIf n_readThen n_readings n_readingIn n_readingHour n_readingOf n_breathWas n_sheetSize n_sheetLane n_sheet n_hands n_traceNow) H := hP
          have hD : va_D A (wm_u cyI cyJ ab n_fault n_things n_kindOf n_digitOf n_follows n_ifOf n_thenOf n_listOf n_breathOf n_heardOf n_readAt n_readThings n_readFollows n_readKind n_readDigit n_readIf n_readThen n_readings n_readingIn n_readingHour n_readingOf n_breathWas n_sheetSize n_sheetLane n_sheet n_hands n_traceNow) := hD
          refine lv_icmp_ne (tgt := 38) hx hb dX6_areAlike_31 (by decide) (fun hc_14 => ?_) (fun hc_14 => ?_)
          · have h := h.1 hc_14
            refine lv_iconst (v := (0 : Int32)) hx hb dX6_areAlike_38 (by decide) ?_
            refine lv_istore (lv' := [(4, .int (0 : Int32)), (0, .ref (ab 0)), (1, .int a_1), (2, .int a_2), (3, .int a_3), (5, .int aa_9)]) hx hb dX6_areAlike_39 hl (by decide) rfl (fun ls hl => ?_)
            refine lv_iinc (v := (aa_9 + (1 : Int32))) (lv' := [(5, .int (aa_9 + (1 : Int32))), (4, .int (0 : Int32)), (0, .ref (ab 0)), (1, .int a_1), (2, .int a_2), (3, .int a_3)]) hx hb dX6_areAlike_41 hl (k := 5) rfl rfl (by decide) rfl (fun ls hl => ?_)
            refine lv_goto (tgt := 6) hx hb dX6_areAlike_44 (by decide) ?_
            exact ih (0 : Int32) (aa_9 + (1 : Int32)) _ _ _ hP hD hS (lv_sub hl [2, 3, 4, 5, 1, 0] rfl) h
          · have h := h.2 hc_14
            refine lv_iconst (v := (1 : Int32)) hx hb dX6_areAlike_34 (by decide) ?_
            refine lv_goto (tgt := 39) hx hb dX6_areAlike_35 (by decide) ?_
            refine lv_istore (lv' := [(4, .int (1 : Int32)), (0, .ref (ab 0)), (1, .int a_1), (2, .int a_2), (3, .int a_3), (5, .int aa_9)]) hx hb dX6_areAlike_39 hl (by decide) rfl (fun ls hl => ?_)
            refine lv_iinc (v := (aa_9 + (1 : Int32))) (lv' := [(5, .int (aa_9 + (1 : Int32))), (4, .int (1 : Int32)), (0, .ref (ab 0)), (1, .int a_1), (2, .int a_2), (3, .int a_3)]) hx hb dX6_areAlike_41 hl (k := 5) rfl rfl (by decide) rfl (fun ls hl => ?_)
            refine lv_goto (tgt := 6) hx hb dX6_areAlike_44 (by decide) ?_
            exact ih (1 : Int32) (aa_9 + (1 : Int32)) _ _ _ hP hD hS (lv_sub hl [2, 3, 4, 5, 1, 0] rfl) h
  refine lp_6 _ (fun xx_10 H locs ls hP hD hS hl h => ?_) ni (1 : Int32) (0 : Int32) _ _ _ hP hD hS (lv_sub hl [2, 3, 4, 5, 1, 0] rfl) h
  refine lv_iload hx hb dX6_areAlike_47 (lv_at hl 0 rfl) ?_
  obtain ⟨hv_11, h⟩ := h
  exact xq_rz hQ hx hb hr hv_11 hP hK hD hS () rfl h dX6_areAlike_49 hlocks
def w_X6_failed (n_fault : Int32) (a_1 : Int32) (post : Int32 → Int32 → Prop) : Prop := post ((-10 : Int32) - a_1) a_1
set_option maxHeartbeats 4000000 in
set_option maxRecDepth 100000 in
theorem m_X6_failed (l : Launch) (dC : Nat → ClassId) (dI : Nat → Nat → Nat) (cyI cyJ : ClassId) (ab : Nat → Nat) (sz : Nat) {n_fault : Int32} {n_things : Int32} {n_kindOf : Nat → Int32} {n_digitOf : Nat → Int32} {n_follows : Int32} {n_ifOf : Nat → Int32} {n_thenOf : Nat → Int32} {n_listOf : Nat → Int32} {n_breathOf : Nat → Int32} {n_heardOf : Nat → Int32} {n_readAt : Int32} {n_readThings : Int32} {n_readFollows : Int32} {n_readKind : Nat → Int32} {n_readDigit : Nat → Int32} {n_readIf : Nat → Int32} {n_readThen : Nat → Int32} {n_readings : Int32} {n_readingIn : Nat → Int32} {n_readingHour : Nat → Int32} {n_readingOf : Nat → Int32} {n_breathWas : Nat → Int32} {n_sheetSize : Nat → Int32} {n_sheetLane : Nat → Int32} {n_sheet : Nat → Int32} {n_hands : Nat → Int32} {n_traceNow : Int32} {a_1 : Int32} {post : Int32 → Int32 → Prop} (h : w_X6_failed n_fault a_1 post) : Met l yX6_failed wsX6_failed (xq_R 0 0) (va_Pc [.ref (ab 0), .int a_1] (xq_P (dC, dI) [(cyI, .int), (cyJ, .long)] (wm_u cyI cyJ ab n_fault n_things n_kindOf n_digitOf n_follows n_ifOf n_thenOf n_listOf n_breathOf n_heardOf n_readAt n_readThings n_readFollows n_readKind n_readDigit n_readIf n_readThen n_readings n_readingIn n_readingHour n_readingOf n_breathWas n_sheetSize n_sheetLane n_sheet n_hands n_traceNow) sz)) (va_Qi (fun (rr : Int32) (uu : Int32) => post rr uu) (fun (uu : Int32) => xq_B (dC, dI) [(cyI, .int), (cyJ, .long)] (va_A (wm_u cyI cyJ ab n_fault n_things n_kindOf n_digitOf n_follows n_ifOf n_thenOf n_listOf n_breathOf n_heardOf n_readAt n_readThings n_readFollows n_readKind n_readDigit n_readIf n_readThen n_readings n_readingIn n_readingHour n_readingOf n_breathWas n_sheetSize n_sheetLane n_sheet n_hands n_traceNow) sz) (wm_u cyI cyJ ab uu n_things n_kindOf n_digitOf n_follows n_ifOf n_thenOf n_listOf n_breathOf n_heardOf n_readAt n_readThings n_readFollows n_readKind n_readDigit n_readIf n_readThen n_readings n_readingIn n_readingHour n_readingOf n_breathWas n_sheetSize n_sheetLane n_sheet n_hands n_traceNow)) (va_A (wm_u cyI cyJ ab n_fault n_things n_kindOf n_digitOf n_follows n_ifOf n_thenOf n_listOf n_breathOf n_heardOf n_readAt n_readThings n_readFollows n_readKind n_readDigit n_readIf n_readThen n_readings n_readingIn n_readingHour n_readingOf n_breathWas n_sheetSize n_sheetLane n_sheet n_hands n_traceNow) sz)) 0 0 (va_A (wm_u cyI cyJ ab n_fault n_things n_kindOf n_digitOf n_follows n_ifOf n_thenOf n_listOf n_breathOf n_heardOf n_readAt n_readThings n_readFollows n_readKind n_readDigit n_readIf n_readThen n_readings n_readingIn n_readingHour n_readingOf n_breathWas n_sheetSize n_sheetLane n_sheet n_hands n_traceNow) sz) := by
  refine xq_M (cc := cX6_failed) (maxL := 2) (ret := (some .int)) (QA := fun A => va_Qi (fun (rr : Int32) (uu : Int32) => post rr uu) (fun (uu : Int32) => xq_B (dC, dI) [(cyI, .int), (cyJ, .long)] A (wm_u cyI cyJ ab uu n_things n_kindOf n_digitOf n_follows n_ifOf n_thenOf n_listOf n_breathOf n_heardOf n_readAt n_readThings n_readFollows n_readKind n_readDigit n_readIf n_readThen n_readings n_readingIn n_readingHour n_readingOf n_breathWas n_sheetSize n_sheetLane n_sheet n_hands n_traceNow)) A) (by decide) rfl (Nat.le_of_ble_eq_true rfl) ?_
  intro p e s m args below meth c A ls Q hQ hx hb hr hml hts hown hlocks hsz hP hK hD hA hS hN hl
  subst hsz
  have hl : lv_has ls 2 [(0, .ref (ab 0)), (1, .int a_1)] := hl
  have hi_X6 : ∀ w ∈ wsX60, w ∈ wsX6_failed := fun _ h => List.mem_cons_of_mem _ (List.mem_append_right _ h)
  have fl_69 := hts (.fieldLink RX6 69 "UnsaidCallsModel" "fault" "I") (by decide +kernel)
  unfold w_X6_failed at h
  refine lv_aload_n hx hb dX6_failed_0 rfl (lv_at hl 0 rfl) ?_
  refine lv_iload_n hx hb dX6_failed_1 rfl (lv_at hl 1 rfl) ?_
  refine va_put (D := (dC, dI)) (ci := 6) (v := .int a_1) (ty := .int) (C := RX6) (T := TX6) (N := 27) hx hb hts hi_X6 tyX6 tyX6_ok nmX6 hown hK hP hD hS 0 rfl rfl 0 (by decide) fl_69 (fun _ h9 => h9) rfl (by decide +kernel) rfl rfl (Nat.le_of_ble_eq_true rfl) dX6_failed_2 (fun H locs hP hD hS => ?_)
  have hP : va_P (dC, dI) vwCl (wm_u cyI cyJ ab a_1 n_things n_kindOf n_digitOf n_follows n_ifOf n_thenOf n_listOf n_breathOf n_heardOf n_readAt n_readThings n_readFollows n_readKind n_readDigit n_readIf n_readThen n_readings n_readingIn n_readingHour n_readingOf n_breathWas n_sheetSize n_sheetLane n_sheet n_hands n_traceNow) H := hP
  have hD : va_D A (wm_u cyI cyJ ab a_1 n_things n_kindOf n_digitOf n_follows n_ifOf n_thenOf n_listOf n_breathOf n_heardOf n_readAt n_readThings n_readFollows n_readKind n_readDigit n_readIf n_readThen n_readings n_readingIn n_readingHour n_readingOf n_breathWas n_sheetSize n_sheetLane n_sheet n_hands n_traceNow) := hD
  refine lv_bipush (v := (-10 : Int32)) hx hb dX6_failed_5 (by decide) ?_
  refine lv_iload_n hx hb dX6_failed_7 rfl (lv_at hl 1 rfl) ?_
  refine lv_isub hx hb dX6_failed_8 ?_
  exact xq_ri hQ hx hb hr hP hK hD hS a_1 rfl h dX6_failed_9 hlocks
def w_X6_in (a_0 : Int64) (a_2 : Int64) (a_4 : Int64) (post : Int32 → Prop) : Prop := ((lg_cmp a_0 a_2) < 0 → (post (0 : Int32))) ∧ (¬ (lg_cmp a_0 a_2) < 0 → ((0 < (lg_cmp a_0 a_4) → (post (0 : Int32))) ∧ (¬ 0 < (lg_cmp a_0 a_4) → (post (1 : Int32)))))
set_option maxHeartbeats 4000000 in
set_option maxRecDepth 100000 in
theorem m_X6_in (l : Launch) (dC : Nat → ClassId) (dI : Nat → Nat → Nat) (cyI cyJ : ClassId) (ww : va_W) (sz : Nat) {a_0 : Int64} {a_2 : Int64} {a_4 : Int64} {post : Int32 → Prop} (h : w_X6_in a_0 a_2 a_4 post) : Met l yX6_in wsX6_in (xq_R 0 0) (va_Pc [.long a_0, .long a_2, .long a_4] (xq_P (dC, dI) [(cyI, .int), (cyJ, .long)] ww sz)) (va_Qi (fun (rr : Int32) (uu : Unit) => post rr ) (fun (uu : Unit) => xq_B (dC, dI) [(cyI, .int), (cyJ, .long)] (va_A ww sz) ww) (va_A ww sz)) 0 0 (va_A ww sz) := by
  refine xq_M (cc := cX6_in) (maxL := 6) (ret := (some .boolean)) (QA := fun A => va_Qi (fun (rr : Int32) (uu : Unit) => post rr ) (fun (uu : Unit) => xq_B (dC, dI) [(cyI, .int), (cyJ, .long)] A ww) A) (by decide) rfl (Nat.le_of_ble_eq_true rfl) ?_
  intro p e s m args below meth c A ls Q hQ hx hb hr hml hts hown hlocks hsz hP hK hD hA hS hN hl
  subst hsz
  have hl : lv_has ls 6 [(0, .long a_0), (2, .long a_2), (4, .long a_4)] := hl
  unfold w_X6_in at h
  refine lv_lload_n hx hb dX6_in_0 rfl (lv_at hl 0 rfl) ?_
  refine lv_lload_n hx hb dX6_in_1 rfl (lv_at hl 1 rfl) ?_
  refine W.lcmp hx hb dX6_in_2 ?_
  refine lv_if_lt (tgt := 17) hx hb dX6_in_3 (by decide) (fun hc_2 => ?_) (fun hc_2 => ?_)
  · have h := h.1 hc_2
    refine lv_iconst (v := (0 : Int32)) hx hb dX6_in_17 (by decide) ?_
    exact xq_rz hQ hx hb hr (by decide) hP hK hD hS () rfl h dX6_in_18 hlocks
  · have h := h.2 hc_2
    refine lv_lload_n hx hb dX6_in_6 rfl (lv_at hl 0 rfl) ?_
    refine lv_lload hx hb dX6_in_7 (lv_at hl 2 rfl) ?_
    refine W.lcmp hx hb dX6_in_9 ?_
    refine lv_if_gt (tgt := 17) hx hb dX6_in_10 (by decide) (fun hc_1 => ?_) (fun hc_1 => ?_)
    · have h := h.1 hc_1
      refine lv_iconst (v := (0 : Int32)) hx hb dX6_in_17 (by decide) ?_
      exact xq_rz hQ hx hb hr (by decide) hP hK hD hS () rfl h dX6_in_18 hlocks
    · have h := h.2 hc_1
      refine lv_iconst (v := (1 : Int32)) hx hb dX6_in_13 (by decide) ?_
      refine lv_goto (tgt := 18) hx hb dX6_in_14 (by decide) ?_
      exact xq_rz hQ hx hb hr (by decide) hP hK hD hS () rfl h dX6_in_18 hlocks
def w_X6_noThing (n_things : Int32) (a_1 : Int32) (post : Int32 → Prop) : Prop := w_X6_in (Int32.toInt64 a_1) (0 : Int64) ((Int32.toInt64 n_things) - (1 : Int64)) (fun (rr_1 : Int32) => (¬ rr_1 = 0 → (post (0 : Int32))) ∧ (rr_1 = 0 → (post (1 : Int32))))
set_option maxHeartbeats 4000000 in
set_option maxRecDepth 100000 in
theorem m_X6_noThing (l : Launch) (dC : Nat → ClassId) (dI : Nat → Nat → Nat) (cyI cyJ : ClassId) (ab : Nat → Nat) (sz : Nat) {n_fault : Int32} {n_things : Int32} {n_kindOf : Nat → Int32} {n_digitOf : Nat → Int32} {n_follows : Int32} {n_ifOf : Nat → Int32} {n_thenOf : Nat → Int32} {n_listOf : Nat → Int32} {n_breathOf : Nat → Int32} {n_heardOf : Nat → Int32} {n_readAt : Int32} {n_readThings : Int32} {n_readFollows : Int32} {n_readKind : Nat → Int32} {n_readDigit : Nat → Int32} {n_readIf : Nat → Int32} {n_readThen : Nat → Int32} {n_readings : Int32} {n_readingIn : Nat → Int32} {n_readingHour : Nat → Int32} {n_readingOf : Nat → Int32} {n_breathWas : Nat → Int32} {n_sheetSize : Nat → Int32} {n_sheetLane : Nat → Int32} {n_sheet : Nat → Int32} {n_hands : Nat → Int32} {n_traceNow : Int32} {a_1 : Int32} {post : Int32 → Prop} (h : w_X6_noThing n_things a_1 post) : Met l yX6_noThing wsX6_noThing (xq_R 1 25) (va_Pc [.ref (ab 0), .int a_1] (xq_P (dC, dI) [(cyI, .int), (cyJ, .long)] (wm_u cyI cyJ ab n_fault n_things n_kindOf n_digitOf n_follows n_ifOf n_thenOf n_listOf n_breathOf n_heardOf n_readAt n_readThings n_readFollows n_readKind n_readDigit n_readIf n_readThen n_readings n_readingIn n_readingHour n_readingOf n_breathWas n_sheetSize n_sheetLane n_sheet n_hands n_traceNow) sz)) (va_Qi (fun (rr : Int32) (uu : Unit) => post rr ) (fun (uu : Unit) => xq_B (dC, dI) [(cyI, .int), (cyJ, .long)] (va_A (wm_u cyI cyJ ab n_fault n_things n_kindOf n_digitOf n_follows n_ifOf n_thenOf n_listOf n_breathOf n_heardOf n_readAt n_readThings n_readFollows n_readKind n_readDigit n_readIf n_readThen n_readings n_readingIn n_readingHour n_readingOf n_breathWas n_sheetSize n_sheetLane n_sheet n_hands n_traceNow) sz) (wm_u cyI cyJ ab n_fault n_things n_kindOf n_digitOf n_follows n_ifOf n_thenOf n_listOf n_breathOf n_heardOf n_readAt n_readThings n_readFollows n_readKind n_readDigit n_readIf n_readThen n_readings n_readingIn n_readingHour n_readingOf n_breathWas n_sheetSize n_sheetLane n_sheet n_hands n_traceNow)) (va_A (wm_u cyI cyJ ab n_fault n_things n_kindOf n_digitOf n_follows n_ifOf n_thenOf n_listOf n_breathOf n_heardOf n_readAt n_readThings n_readFollows n_readKind n_readDigit n_readIf n_readThen n_readings n_readingIn n_readingHour n_readingOf n_breathWas n_sheetSize n_sheetLane n_sheet n_hands n_traceNow) sz)) 0 0 (va_A (wm_u cyI cyJ ab n_fault n_things n_kindOf n_digitOf n_follows n_ifOf n_thenOf n_listOf n_breathOf n_heardOf n_readAt n_readThings n_readFollows n_readKind n_readDigit n_readIf n_readThen n_readings n_readingIn n_readingHour n_readingOf n_breathWas n_sheetSize n_sheetLane n_sheet n_hands n_traceNow) sz) := by
  refine xq_M (cc := cX6_noThing) (maxL := 2) (ret := (some .boolean)) (QA := fun A => va_Qi (fun (rr : Int32) (uu : Unit) => post rr ) (fun (uu : Unit) => xq_B (dC, dI) [(cyI, .int), (cyJ, .long)] A (wm_u cyI cyJ ab n_fault n_things n_kindOf n_digitOf n_follows n_ifOf n_thenOf n_listOf n_breathOf n_heardOf n_readAt n_readThings n_readFollows n_readKind n_readDigit n_readIf n_readThen n_readings n_readingIn n_readingHour n_readingOf n_breathWas n_sheetSize n_sheetLane n_sheet n_hands n_traceNow)) A) (by decide) rfl (Nat.le_of_ble_eq_true rfl) ?_
  intro p e s m args below meth c A ls Q hQ hx hb hr hml hts hown hlocks hsz hP hK hD hA hS hN hl
  subst hsz
  have hl : lv_has ls 2 [(0, .ref (ab 0)), (1, .int a_1)] := hl
  have hi_X6 : ∀ w ∈ wsX60, w ∈ wsX6_noThing := fun _ h => List.mem_cons_of_mem _ (List.mem_append_right _ h)
  have fl_98 := hts (.fieldLink RX6 98 "UnsaidCallsModel" "things" "I") (by decide +kernel)
  unfold w_X6_noThing at h
  refine lv_iload_n hx hb dX6_noThing_0 rfl (lv_at hl 1 rfl) ?_
  refine lv_i2l (v := (Int32.toInt64 a_1)) hx hb dX6_noThing_1 rfl ?_
  refine lv_lconst (v := (0 : Int64)) hx hb dX6_noThing_2 (by decide) ?_
  refine lv_aload_n hx hb dX6_noThing_3 rfl (lv_at hl 0 rfl) ?_
  refine va_get (D := (dC, dI)) (ci := 6) (v := .int n_things) (C := RX6) (T := TX6) (N := 27) hx hb hts hi_X6 hown hK hP 0 rfl rfl 1 (by decide) fl_98 (fun _ h9 => h9) rfl dX6_noThing_4 ?_
  refine lv_i2l (v := (Int32.toInt64 n_things)) hx hb dX6_noThing_7 rfl ?_
  refine lv_lconst (v := (1 : Int64)) hx hb dX6_noThing_8 (by decide) ?_
  refine lv_lsub hx hb dX6_noThing_9 ?_
  refine xq_ci (va_runS (As := [.long (Int32.toInt64 a_1), .long (0 : Int64), .long ((Int32.toInt64 n_things) - (1 : Int64))]) (rest := []) ⟨hx, hb, hml, hown, hts⟩ (m_X6_in l dC dI cyI cyJ (wm_u cyI cyJ ab n_fault n_things n_kindOf n_digitOf n_follows n_ifOf n_thenOf n_listOf n_breathOf n_heardOf n_readAt n_readThings n_readFollows n_readKind n_readDigit n_readIf n_readThen n_readings n_readingIn n_readingHour n_readingOf n_breathWas n_sheetSize n_sheetLane n_sheet n_hands n_traceNow) s.heap.size h) (va_cwS 3 hts gX6_noThing_X6_in rfl rfl rfl (by decide +kernel) ⟨Nat.le_of_ble_eq_true rfl, Nat.le_of_ble_eq_true rfl⟩) (xq_preS hK hP hD hN) rfl rfl hl.1 rfl (lv_room (Nat.le_of_ble_eq_true rfl)) dX6_noThing_10 ⟨Nat.le_refl _, Nat.le_refl _⟩) hD hS hA (fun rr_1 uu H locs h hP hD hS => ?_)
  have hP : va_P (dC, dI) vwCl (wm_u cyI cyJ ab n_fault n_things n_kindOf n_digitOf n_follows n_ifOf n_thenOf n_listOf n_breathOf n_heardOf n_readAt n_readThings n_readFollows n_readKind n_readDigit n_readIf n_readThen n_readings n_readingIn n_readingHour n_readingOf n_breathWas n_sheetSize n_sheetLane n_sheet n_hands n_traceNow) H := hP
  have hD : va_D A (wm_u cyI cyJ ab n_fault n_things n_kindOf n_digitOf n_follows n_ifOf n_thenOf n_listOf n_breathOf n_heardOf n_readAt n_readThings n_readFollows n_readKind n_readDigit n_readIf n_readThen n_readings n_readingIn n_readingHour n_readingOf n_breathWas n_sheetSize n_sheetLane n_sheet n_hands n_traceNow) := hD
  refine lv_if_ne (tgt := 20) hx hb dX6_noThing_13 (by decide) (fun hc_2 => ?_) (fun hc_2 => ?_)
  · have h := h.1 hc_2
    refine lv_iconst (v := (0 : Int32)) hx hb dX6_noThing_20 (by decide) ?_
    exact xq_rz hQ hx hb hr (by decide) hP hK hD hS () rfl h dX6_noThing_21 hlocks
  · have h := h.2 hc_2
    refine lv_iconst (v := (1 : Int32)) hx hb dX6_noThing_16 (by decide) ?_
    refine lv_goto (tgt := 21) hx hb dX6_noThing_17 (by decide) ?_
    exact xq_rz hQ hx hb hr (by decide) hP hK hD hS () rfl h dX6_noThing_21 hlocks
def w_X6_refused (n_fault : Int32) (a_1 : Int32) (post : Int32 → Int32 → Prop) : Prop := post a_1 (0 : Int32)
set_option maxHeartbeats 4000000 in
set_option maxRecDepth 100000 in
theorem m_X6_refused (l : Launch) (dC : Nat → ClassId) (dI : Nat → Nat → Nat) (cyI cyJ : ClassId) (ab : Nat → Nat) (sz : Nat) {n_fault : Int32} {n_things : Int32} {n_kindOf : Nat → Int32} {n_digitOf : Nat → Int32} {n_follows : Int32} {n_ifOf : Nat → Int32} {n_thenOf : Nat → Int32} {n_listOf : Nat → Int32} {n_breathOf : Nat → Int32} {n_heardOf : Nat → Int32} {n_readAt : Int32} {n_readThings : Int32} {n_readFollows : Int32} {n_readKind : Nat → Int32} {n_readDigit : Nat → Int32} {n_readIf : Nat → Int32} {n_readThen : Nat → Int32} {n_readings : Int32} {n_readingIn : Nat → Int32} {n_readingHour : Nat → Int32} {n_readingOf : Nat → Int32} {n_breathWas : Nat → Int32} {n_sheetSize : Nat → Int32} {n_sheetLane : Nat → Int32} {n_sheet : Nat → Int32} {n_hands : Nat → Int32} {n_traceNow : Int32} {a_1 : Int32} {post : Int32 → Int32 → Prop} (h : w_X6_refused n_fault a_1 post) : Met l yX6_refused wsX6_refused (xq_R 0 0) (va_Pc [.ref (ab 0), .int a_1] (xq_P (dC, dI) [(cyI, .int), (cyJ, .long)] (wm_u cyI cyJ ab n_fault n_things n_kindOf n_digitOf n_follows n_ifOf n_thenOf n_listOf n_breathOf n_heardOf n_readAt n_readThings n_readFollows n_readKind n_readDigit n_readIf n_readThen n_readings n_readingIn n_readingHour n_readingOf n_breathWas n_sheetSize n_sheetLane n_sheet n_hands n_traceNow) sz)) (va_Qi (fun (rr : Int32) (uu : Int32) => post rr uu) (fun (uu : Int32) => xq_B (dC, dI) [(cyI, .int), (cyJ, .long)] (va_A (wm_u cyI cyJ ab n_fault n_things n_kindOf n_digitOf n_follows n_ifOf n_thenOf n_listOf n_breathOf n_heardOf n_readAt n_readThings n_readFollows n_readKind n_readDigit n_readIf n_readThen n_readings n_readingIn n_readingHour n_readingOf n_breathWas n_sheetSize n_sheetLane n_sheet n_hands n_traceNow) sz) (wm_u cyI cyJ ab uu n_things n_kindOf n_digitOf n_follows n_ifOf n_thenOf n_listOf n_breathOf n_heardOf n_readAt n_readThings n_readFollows n_readKind n_readDigit n_readIf n_readThen n_readings n_readingIn n_readingHour n_readingOf n_breathWas n_sheetSize n_sheetLane n_sheet n_hands n_traceNow)) (va_A (wm_u cyI cyJ ab n_fault n_things n_kindOf n_digitOf n_follows n_ifOf n_thenOf n_listOf n_breathOf n_heardOf n_readAt n_readThings n_readFollows n_readKind n_readDigit n_readIf n_readThen n_readings n_readingIn n_readingHour n_readingOf n_breathWas n_sheetSize n_sheetLane n_sheet n_hands n_traceNow) sz)) 0 0 (va_A (wm_u cyI cyJ ab n_fault n_things n_kindOf n_digitOf n_follows n_ifOf n_thenOf n_listOf n_breathOf n_heardOf n_readAt n_readThings n_readFollows n_readKind n_readDigit n_readIf n_readThen n_readings n_readingIn n_readingHour n_readingOf n_breathWas n_sheetSize n_sheetLane n_sheet n_hands n_traceNow) sz) := by
  refine xq_M (cc := cX6_refused) (maxL := 2) (ret := (some .int)) (QA := fun A => va_Qi (fun (rr : Int32) (uu : Int32) => post rr uu) (fun (uu : Int32) => xq_B (dC, dI) [(cyI, .int), (cyJ, .long)] A (wm_u cyI cyJ ab uu n_things n_kindOf n_digitOf n_follows n_ifOf n_thenOf n_listOf n_breathOf n_heardOf n_readAt n_readThings n_readFollows n_readKind n_readDigit n_readIf n_readThen n_readings n_readingIn n_readingHour n_readingOf n_breathWas n_sheetSize n_sheetLane n_sheet n_hands n_traceNow)) A) (by decide) rfl (Nat.le_of_ble_eq_true rfl) ?_
  intro p e s m args below meth c A ls Q hQ hx hb hr hml hts hown hlocks hsz hP hK hD hA hS hN hl
  subst hsz
  have hl : lv_has ls 2 [(0, .ref (ab 0)), (1, .int a_1)] := hl
  have hi_X6 : ∀ w ∈ wsX60, w ∈ wsX6_refused := fun _ h => List.mem_cons_of_mem _ (List.mem_append_right _ h)
  have fl_69 := hts (.fieldLink RX6 69 "UnsaidCallsModel" "fault" "I") (by decide +kernel)
  unfold w_X6_refused at h
  refine lv_aload_n hx hb dX6_refused_0 rfl (lv_at hl 0 rfl) ?_
  refine lv_iconst (v := (0 : Int32)) hx hb dX6_refused_1 (by decide) ?_
  refine va_put (D := (dC, dI)) (ci := 6) (v := .int (0 : Int32)) (ty := .int) (C := RX6) (T := TX6) (N := 27) hx hb hts hi_X6 tyX6 tyX6_ok nmX6 hown hK hP hD hS 0 rfl rfl 0 (by decide) fl_69 (fun _ h9 => h9) rfl (by decide +kernel) rfl rfl (Nat.le_of_ble_eq_true rfl) dX6_refused_2 (fun H locs hP hD hS => ?_)
  have hP : va_P (dC, dI) vwCl (wm_u cyI cyJ ab (0 : Int32) n_things n_kindOf n_digitOf n_follows n_ifOf n_thenOf n_listOf n_breathOf n_heardOf n_readAt n_readThings n_readFollows n_readKind n_readDigit n_readIf n_readThen n_readings n_readingIn n_readingHour n_readingOf n_breathWas n_sheetSize n_sheetLane n_sheet n_hands n_traceNow) H := hP
  have hD : va_D A (wm_u cyI cyJ ab (0 : Int32) n_things n_kindOf n_digitOf n_follows n_ifOf n_thenOf n_listOf n_breathOf n_heardOf n_readAt n_readThings n_readFollows n_readKind n_readDigit n_readIf n_readThen n_readings n_readingIn n_readingHour n_readingOf n_breathWas n_sheetSize n_sheetLane n_sheet n_hands n_traceNow) := hD
  refine lv_iload_n hx hb dX6_refused_5 rfl (lv_at hl 1 rfl) ?_
  exact xq_ri hQ hx hb hr hP hK hD hS (0 : Int32) rfl h dX6_refused_6 hlocks
def w_X6_as (n_fault : Int32) (n_things : Int32) (n_kindOf : Nat → Int32) (a_1 : Int32) (a_2 : Int32) (post : Int32 → Int32 → Prop) : Prop := w_X6_noThing n_things a_1 (fun (rr_1 : Int32) => (rr_1 = 0 → (w_X6_in (Int32.toInt64 a_2) (0 : Int64) (2 : Int64) (fun (rr_2 : Int32) => (¬ rr_2 = 0 → ((vp_in a_1 6) ∧ (((n_kindOf a_1.toNatClampNeg) < a_2 → (w_X6_failed n_fault (2 : Int32) (fun (rr_4 : Int32) (cc_5 : Int32) => post rr_4 cc_5))) ∧ (¬ (n_kindOf a_1.toNatClampNeg) < a_2 → (w_X6_refused n_fault (1 : Int32) (fun (rr_7 : Int32) (cc_8 : Int32) => post rr_7 cc_8)))))) ∧ (rr_2 = 0 → (w_X6_refused n_fault (-2 : Int32) (fun (rr_11 : Int32) (cc_12 : Int32) => post rr_11 cc_12)))))) ∧ (¬ rr_1 = 0 → (w_X6_refused n_fault (-1 : Int32) (fun (rr_16 : Int32) (cc_17 : Int32) => post rr_16 cc_17))))
set_option maxHeartbeats 4000000 in
set_option maxRecDepth 100000 in
theorem m_X6_as (l : Launch) (dC : Nat → ClassId) (dI : Nat → Nat → Nat) (cyI cyJ : ClassId) (ab : Nat → Nat) (sz : Nat) {n_fault : Int32} {n_things : Int32} {n_kindOf : Nat → Int32} {n_digitOf : Nat → Int32} {n_follows : Int32} {n_ifOf : Nat → Int32} {n_thenOf : Nat → Int32} {n_listOf : Nat → Int32} {n_breathOf : Nat → Int32} {n_heardOf : Nat → Int32} {n_readAt : Int32} {n_readThings : Int32} {n_readFollows : Int32} {n_readKind : Nat → Int32} {n_readDigit : Nat → Int32} {n_readIf : Nat → Int32} {n_readThen : Nat → Int32} {n_readings : Int32} {n_readingIn : Nat → Int32} {n_readingHour : Nat → Int32} {n_readingOf : Nat → Int32} {n_breathWas : Nat → Int32} {n_sheetSize : Nat → Int32} {n_sheetLane : Nat → Int32} {n_sheet : Nat → Int32} {n_hands : Nat → Int32} {n_traceNow : Int32} {a_1 : Int32} {a_2 : Int32} {post : Int32 → Int32 → Prop} (h : w_X6_as n_fault n_things n_kindOf a_1 a_2 post) : Met l yX6_as wsX6_as (xq_R 2 46) (va_Pc [.ref (ab 0), .int a_1, .int a_2] (xq_P (dC, dI) [(cyI, .int), (cyJ, .long)] (wm_u cyI cyJ ab n_fault n_things n_kindOf n_digitOf n_follows n_ifOf n_thenOf n_listOf n_breathOf n_heardOf n_readAt n_readThings n_readFollows n_readKind n_readDigit n_readIf n_readThen n_readings n_readingIn n_readingHour n_readingOf n_breathWas n_sheetSize n_sheetLane n_sheet n_hands n_traceNow) sz)) (va_Qi (fun (rr : Int32) (uu : Int32) => post rr uu) (fun (uu : Int32) => xq_B (dC, dI) [(cyI, .int), (cyJ, .long)] (va_A (wm_u cyI cyJ ab n_fault n_things n_kindOf n_digitOf n_follows n_ifOf n_thenOf n_listOf n_breathOf n_heardOf n_readAt n_readThings n_readFollows n_readKind n_readDigit n_readIf n_readThen n_readings n_readingIn n_readingHour n_readingOf n_breathWas n_sheetSize n_sheetLane n_sheet n_hands n_traceNow) sz) (wm_u cyI cyJ ab uu n_things n_kindOf n_digitOf n_follows n_ifOf n_thenOf n_listOf n_breathOf n_heardOf n_readAt n_readThings n_readFollows n_readKind n_readDigit n_readIf n_readThen n_readings n_readingIn n_readingHour n_readingOf n_breathWas n_sheetSize n_sheetLane n_sheet n_hands n_traceNow)) (va_A (wm_u cyI cyJ ab n_fault n_things n_kindOf n_digitOf n_follows n_ifOf n_thenOf n_listOf n_breathOf n_heardOf n_readAt n_readThings n_readFollows n_readKind n_readDigit n_readIf n_readThen n_readings n_readingIn n_readingHour n_readingOf n_breathWas n_sheetSize n_sheetLane n_sheet n_hands n_traceNow) sz)) 0 0 (va_A (wm_u cyI cyJ ab n_fault n_things n_kindOf n_digitOf n_follows n_ifOf n_thenOf n_listOf n_breathOf n_heardOf n_readAt n_readThings n_readFollows n_readKind n_readDigit n_readIf n_readThen n_readings n_readingIn n_readingHour n_readingOf n_breathWas n_sheetSize n_sheetLane n_sheet n_hands n_traceNow) sz) := by
  refine xq_M (cc := cX6_as) (maxL := 3) (ret := (some .int)) (QA := fun A => va_Qi (fun (rr : Int32) (uu : Int32) => post rr uu) (fun (uu : Int32) => xq_B (dC, dI) [(cyI, .int), (cyJ, .long)] A (wm_u cyI cyJ ab uu n_things n_kindOf n_digitOf n_follows n_ifOf n_thenOf n_listOf n_breathOf n_heardOf n_readAt n_readThings n_readFollows n_readKind n_readDigit n_readIf n_readThen n_readings n_readingIn n_readingHour n_readingOf n_breathWas n_sheetSize n_sheetLane n_sheet n_hands n_traceNow)) A) (by decide) rfl (Nat.le_of_ble_eq_true rfl) ?_
  intro p e s m args below meth c A ls Q hQ hx hb hr hml hts hown hlocks hsz hP hK hD hA hS hN hl
  subst hsz
  have hl : lv_has ls 3 [(0, .ref (ab 0)), (1, .int a_1), (2, .int a_2)] := hl
  have hi_X6 : ∀ w ∈ wsX60, w ∈ wsX6_as := fun _ h => List.mem_cons_of_mem _ (List.mem_append_right _ h)
  have fl_7 := hts (.fieldLink RX6 7 "UnsaidCallsModel" "kindOf" "[I") (by decide +kernel)
  unfold w_X6_as at h
  refine lv_aload_n hx hb dX6_as_0 rfl (lv_at hl 0 rfl) ?_
  refine lv_iload_n hx hb dX6_as_1 rfl (lv_at hl 1 rfl) ?_
  refine xq_ci (va_runV (As := [.int a_1]) (rest := []) ⟨hx, hb, hml, hown, hts⟩ (m_X6_noThing l dC dI cyI cyJ ab s.heap.size h) (cwV 1 hts gX6_as_X6_noThing rfl rfl rfl (by decide +kernel) ⟨Nat.le_of_ble_eq_true rfl, Nat.le_of_ble_eq_true rfl⟩) (xq_preV hK hP hD hN (ci := 6) (q0 := 0) rfl rfl) rfl rfl hl.1 rfl (lv_room (Nat.le_of_ble_eq_true rfl)) dX6_as_2 ⟨Nat.le_refl _, Nat.le_refl _⟩) hD hS hA (fun rr_1 uu H locs h hP hD hS => ?_)
  have hP : va_P (dC, dI) vwCl (wm_u cyI cyJ ab n_fault n_things n_kindOf n_digitOf n_follows n_ifOf n_thenOf n_listOf n_breathOf n_heardOf n_readAt n_readThings n_readFollows n_readKind n_readDigit n_readIf n_readThen n_readings n_readingIn n_readingHour n_readingOf n_breathWas n_sheetSize n_sheetLane n_sheet n_hands n_traceNow) H := hP
  have hD : va_D A (wm_u cyI cyJ ab n_fault n_things n_kindOf n_digitOf n_follows n_ifOf n_thenOf n_listOf n_breathOf n_heardOf n_readAt n_readThings n_readFollows n_readKind n_readDigit n_readIf n_readThen n_readings n_readingIn n_readingHour n_readingOf n_breathWas n_sheetSize n_sheetLane n_sheet n_hands n_traceNow) := hD
  refine lv_if_eq (tgt := 14) hx hb dX6_as_5 (by decide) (fun hc_19 => ?_) (fun hc_19 => ?_)
  · have h := h.1 hc_19
    refine lv_iload_n hx hb dX6_as_14 rfl (lv_at hl 2 rfl) ?_
    refine lv_i2l (v := (Int32.toInt64 a_2)) hx hb dX6_as_15 rfl ?_
    refine lv_lconst (v := (0 : Int64)) hx hb dX6_as_16 (by decide) ?_
    refine lv_ldc2 (v := (2 : Int64)) hx hb hown (hts (.constantLong RX6 85 (2)) (by decide +kernel)) dX6_as_17 ?_
    refine xq_ci (va_runS (As := [.long (Int32.toInt64 a_2), .long (0 : Int64), .long (2 : Int64)]) (rest := []) ⟨hx, hb, hml, hown, hts⟩ (m_X6_in l dC dI cyI cyJ (wm_u cyI cyJ ab n_fault n_things n_kindOf n_digitOf n_follows n_ifOf n_thenOf n_listOf n_breathOf n_heardOf n_readAt n_readThings n_readFollows n_readKind n_readDigit n_readIf n_readThen n_readings n_readingIn n_readingHour n_readingOf n_breathWas n_sheetSize n_sheetLane n_sheet n_hands n_traceNow) H.size h) (va_cwS 3 hts gX6_as_X6_in rfl rfl rfl (by decide +kernel) ⟨Nat.le_of_ble_eq_true rfl, Nat.le_of_ble_eq_true rfl⟩) (xq_preS hK hP hD hN) rfl rfl hl.1 rfl (lv_room (Nat.le_of_ble_eq_true rfl)) dX6_as_20 ⟨Nat.le_refl _, Nat.le_refl _⟩) hD hS hA (fun rr_2 uu H locs h hP hD hS => ?_)
    have hP : va_P (dC, dI) vwCl (wm_u cyI cyJ ab n_fault n_things n_kindOf n_digitOf n_follows n_ifOf n_thenOf n_listOf n_breathOf n_heardOf n_readAt n_readThings n_readFollows n_readKind n_readDigit n_readIf n_readThen n_readings n_readingIn n_readingHour n_readingOf n_breathWas n_sheetSize n_sheetLane n_sheet n_hands n_traceNow) H := hP
    have hD : va_D A (wm_u cyI cyJ ab n_fault n_things n_kindOf n_digitOf n_follows n_ifOf n_thenOf n_listOf n_breathOf n_heardOf n_readAt n_readThings n_readFollows n_readKind n_readDigit n_readIf n_readThen n_readings n_readingIn n_readingHour n_readingOf n_breathWas n_sheetSize n_sheetLane n_sheet n_hands n_traceNow) := hD
    refine lv_if_ne (tgt := 33) hx hb dX6_as_23 (by decide) (fun hc_14 => ?_) (fun hc_14 => ?_)
    · have h := h.1 hc_14
      refine lv_aload_n hx hb dX6_as_33 rfl (lv_at hl 0 rfl) ?_
      refine va_get (D := (dC, dI)) (ci := 6) (v := .ref (ab 1)) (C := RX6) (T := TX6) (N := 27) hx hb hts hi_X6 hown hK hP 0 rfl rfl 2 (by decide) fl_7 (fun _ h9 => h9) rfl dX6_as_34 ?_
      refine lv_iload_n hx hb dX6_as_37 rfl (lv_at hl 1 rfl) ?_
      obtain ⟨hv_3, h⟩ := h
      refine va_iald hx hb hK hP 1 0 rfl rfl hv_3 dX6_as_38 ?_
      refine lv_iload_n hx hb dX6_as_39 rfl (lv_at hl 2 rfl) ?_
      refine lv_icmp_lt (tgt := 51) hx hb dX6_as_40 (by decide) (fun hc_10 => ?_) (fun hc_10 => ?_)
      · have h := h.1 hc_10
        refine lv_aload_n hx hb dX6_as_51 rfl (lv_at hl 0 rfl) ?_
        refine lv_iconst (v := (2 : Int32)) hx hb dX6_as_52 (by decide) ?_
        refine xq_ci (va_runV (As := [.int (2 : Int32)]) (rest := []) ⟨hx, hb, hml, hown, hts⟩ (m_X6_failed l dC dI cyI cyJ ab H.size h) (cwV 1 hts gX6_as_X6_failed rfl rfl rfl (by decide +kernel) ⟨Nat.le_of_ble_eq_true rfl, Nat.le_of_ble_eq_true rfl⟩) (xq_preV hK hP hD hN (ci := 6) (q0 := 0) rfl rfl) rfl rfl hl.1 rfl (lv_room (Nat.le_of_ble_eq_true rfl)) dX6_as_53 ⟨Nat.le_refl _, Nat.le_refl _⟩) hD hS hA (fun rr_4 uu H locs h hP hD hS => ?_)
        obtain ⟨cc_5, rfl⟩ : ∃ z, z = uu := ⟨_, rfl⟩
        have hP : va_P (dC, dI) vwCl (wm_u cyI cyJ ab cc_5 n_things n_kindOf n_digitOf n_follows n_ifOf n_thenOf n_listOf n_breathOf n_heardOf n_readAt n_readThings n_readFollows n_readKind n_readDigit n_readIf n_readThen n_readings n_readingIn n_readingHour n_readingOf n_breathWas n_sheetSize n_sheetLane n_sheet n_hands n_traceNow) H := hP
        have hD : va_D A (wm_u cyI cyJ ab cc_5 n_things n_kindOf n_digitOf n_follows n_ifOf n_thenOf n_listOf n_breathOf n_heardOf n_readAt n_readThings n_readFollows n_readKind n_readDigit n_readIf n_readThen n_readings n_readingIn n_readingHour n_readingOf n_breathWas n_sheetSize n_sheetLane n_sheet n_hands n_traceNow) := hD
        exact xq_ri hQ hx hb hr hP hK hD hS cc_5 rfl h dX6_as_56 hlocks
      · have h := h.2 hc_10
        refine lv_aload_n hx hb dX6_as_43 rfl (lv_at hl 0 rfl) ?_
        refine lv_iconst (v := (1 : Int32)) hx hb dX6_as_44 (by decide) ?_
        refine xq_ci (va_runV (As := [.int (1 : Int32)]) (rest := []) ⟨hx, hb, hml, hown, hts⟩ (m_X6_refused l dC dI cyI cyJ ab H.size h) (cwV 1 hts gX6_as_X6_refused rfl rfl rfl (by decide +kernel) ⟨Nat.le_of_ble_eq_true rfl, Nat.le_of_ble_eq_true rfl⟩) (xq_preV hK hP hD hN (ci := 6) (q0 := 0) rfl rfl) rfl rfl hl.1 rfl (lv_room (Nat.le_of_ble_eq_true rfl)) dX6_as_45 ⟨Nat.le_refl _, Nat.le_refl _⟩) hD hS hA (fun rr_7 uu H locs h hP hD hS => ?_)
        obtain ⟨cc_8, rfl⟩ : ∃ z, z = uu := ⟨_, rfl⟩
        have hP : va_P (dC, dI) vwCl (wm_u cyI cyJ ab cc_8 n_things n_kindOf n_digitOf n_follows n_ifOf n_thenOf n_listOf n_breathOf n_heardOf n_readAt n_readThings n_readFollows n_readKind n_readDigit n_readIf n_readThen n_readings n_readingIn n_readingHour n_readingOf n_breathWas n_sheetSize n_sheetLane n_sheet n_hands n_traceNow) H := hP
        have hD : va_D A (wm_u cyI cyJ ab cc_8 n_things n_kindOf n_digitOf n_follows n_ifOf n_thenOf n_listOf n_breathOf n_heardOf n_readAt n_readThings n_readFollows n_readKind n_readDigit n_readIf n_readThen n_readings n_readingIn n_readingHour n_readingOf n_breathWas n_sheetSize n_sheetLane n_sheet n_hands n_traceNow) := hD
        refine lv_goto (tgt := 56) hx hb dX6_as_48 (by decide) ?_
        exact xq_ri hQ hx hb hr hP hK hD hS cc_8 rfl h dX6_as_56 hlocks
    · have h := h.2 hc_14
      refine lv_aload_n hx hb dX6_as_26 rfl (lv_at hl 0 rfl) ?_
      refine lv_bipush (v := (-2 : Int32)) hx hb dX6_as_27 (by decide) ?_
      refine xq_ci (va_runV (As := [.int (-2 : Int32)]) (rest := []) ⟨hx, hb, hml, hown, hts⟩ (m_X6_refused l dC dI cyI cyJ ab H.size h) (cwV 1 hts gX6_as_X6_refused rfl rfl rfl (by decide +kernel) ⟨Nat.le_of_ble_eq_true rfl, Nat.le_of_ble_eq_true rfl⟩) (xq_preV hK hP hD hN (ci := 6) (q0 := 0) rfl rfl) rfl rfl hl.1 rfl (lv_room (Nat.le_of_ble_eq_true rfl)) dX6_as_29 ⟨Nat.le_refl _, Nat.le_refl _⟩) hD hS hA (fun rr_11 uu H locs h hP hD hS => ?_)
      obtain ⟨cc_12, rfl⟩ : ∃ z, z = uu := ⟨_, rfl⟩
      have hP : va_P (dC, dI) vwCl (wm_u cyI cyJ ab cc_12 n_things n_kindOf n_digitOf n_follows n_ifOf n_thenOf n_listOf n_breathOf n_heardOf n_readAt n_readThings n_readFollows n_readKind n_readDigit n_readIf n_readThen n_readings n_readingIn n_readingHour n_readingOf n_breathWas n_sheetSize n_sheetLane n_sheet n_hands n_traceNow) H := hP
      have hD : va_D A (wm_u cyI cyJ ab cc_12 n_things n_kindOf n_digitOf n_follows n_ifOf n_thenOf n_listOf n_breathOf n_heardOf n_readAt n_readThings n_readFollows n_readKind n_readDigit n_readIf n_readThen n_readings n_readingIn n_readingHour n_readingOf n_breathWas n_sheetSize n_sheetLane n_sheet n_hands n_traceNow) := hD
      exact xq_ri hQ hx hb hr hP hK hD hS cc_12 rfl h dX6_as_32 hlocks
  · have h := h.2 hc_19
    refine lv_aload_n hx hb dX6_as_8 rfl (lv_at hl 0 rfl) ?_
    refine lv_iconst (v := (-1 : Int32)) hx hb dX6_as_9 (by decide) ?_
    refine xq_ci (va_runV (As := [.int (-1 : Int32)]) (rest := []) ⟨hx, hb, hml, hown, hts⟩ (m_X6_refused l dC dI cyI cyJ ab H.size h) (cwV 1 hts gX6_as_X6_refused rfl rfl rfl (by decide +kernel) ⟨Nat.le_of_ble_eq_true rfl, Nat.le_of_ble_eq_true rfl⟩) (xq_preV hK hP hD hN (ci := 6) (q0 := 0) rfl rfl) rfl rfl hl.1 rfl (lv_room (Nat.le_of_ble_eq_true rfl)) dX6_as_10 ⟨Nat.le_refl _, Nat.le_refl _⟩) hD hS hA (fun rr_16 uu H locs h hP hD hS => ?_)
    obtain ⟨cc_17, rfl⟩ : ∃ z, z = uu := ⟨_, rfl⟩
    have hP : va_P (dC, dI) vwCl (wm_u cyI cyJ ab cc_17 n_things n_kindOf n_digitOf n_follows n_ifOf n_thenOf n_listOf n_breathOf n_heardOf n_readAt n_readThings n_readFollows n_readKind n_readDigit n_readIf n_readThen n_readings n_readingIn n_readingHour n_readingOf n_breathWas n_sheetSize n_sheetLane n_sheet n_hands n_traceNow) H := hP
    have hD : va_D A (wm_u cyI cyJ ab cc_17 n_things n_kindOf n_digitOf n_follows n_ifOf n_thenOf n_listOf n_breathOf n_heardOf n_readAt n_readThings n_readFollows n_readKind n_readDigit n_readIf n_readThen n_readings n_readingIn n_readingHour n_readingOf n_breathWas n_sheetSize n_sheetLane n_sheet n_hands n_traceNow) := hD
    exact xq_ri hQ hx hb hr hP hK hD hS cc_17 rfl h dX6_as_13 hlocks
def w_X6_back (n_readings : Int32) (a_1 : Int32) (post : Int32 → Int32 → Prop) : Prop := w_X6_in (Int32.toInt64 a_1) (0 : Int64) (Int32.toInt64 n_readings) (fun (rr_1 : Int32) => (¬ rr_1 = 0 → (post (n_readings - a_1) (n_readings - a_1))) ∧ (rr_1 = 0 → (post (-2 : Int32) n_readings)))
set_option maxHeartbeats 4000000 in
set_option maxRecDepth 100000 in
theorem m_X6_back (l : Launch) (dC : Nat → ClassId) (dI : Nat → Nat → Nat) (cyI cyJ : ClassId) (ab : Nat → Nat) (sz : Nat) {n_fault : Int32} {n_things : Int32} {n_kindOf : Nat → Int32} {n_digitOf : Nat → Int32} {n_follows : Int32} {n_ifOf : Nat → Int32} {n_thenOf : Nat → Int32} {n_listOf : Nat → Int32} {n_breathOf : Nat → Int32} {n_heardOf : Nat → Int32} {n_readAt : Int32} {n_readThings : Int32} {n_readFollows : Int32} {n_readKind : Nat → Int32} {n_readDigit : Nat → Int32} {n_readIf : Nat → Int32} {n_readThen : Nat → Int32} {n_readings : Int32} {n_readingIn : Nat → Int32} {n_readingHour : Nat → Int32} {n_readingOf : Nat → Int32} {n_breathWas : Nat → Int32} {n_sheetSize : Nat → Int32} {n_sheetLane : Nat → Int32} {n_sheet : Nat → Int32} {n_hands : Nat → Int32} {n_traceNow : Int32} {a_1 : Int32} {post : Int32 → Int32 → Prop} (h : w_X6_back n_readings a_1 post) : Met l yX6_back wsX6_back (xq_R 1 25) (va_Pc [.ref (ab 0), .int a_1] (xq_P (dC, dI) [(cyI, .int), (cyJ, .long)] (wm_u cyI cyJ ab n_fault n_things n_kindOf n_digitOf n_follows n_ifOf n_thenOf n_listOf n_breathOf n_heardOf n_readAt n_readThings n_readFollows n_readKind n_readDigit n_readIf n_readThen n_readings n_readingIn n_readingHour n_readingOf n_breathWas n_sheetSize n_sheetLane n_sheet n_hands n_traceNow) sz)) (va_Qi (fun (rr : Int32) (uu : Int32) => post rr uu) (fun (uu : Int32) => xq_B (dC, dI) [(cyI, .int), (cyJ, .long)] (va_A (wm_u cyI cyJ ab n_fault n_things n_kindOf n_digitOf n_follows n_ifOf n_thenOf n_listOf n_breathOf n_heardOf n_readAt n_readThings n_readFollows n_readKind n_readDigit n_readIf n_readThen n_readings n_readingIn n_readingHour n_readingOf n_breathWas n_sheetSize n_sheetLane n_sheet n_hands n_traceNow) sz) (wm_u cyI cyJ ab n_fault n_things n_kindOf n_digitOf n_follows n_ifOf n_thenOf n_listOf n_breathOf n_heardOf n_readAt n_readThings n_readFollows n_readKind n_readDigit n_readIf n_readThen uu n_readingIn n_readingHour n_readingOf n_breathWas n_sheetSize n_sheetLane n_sheet n_hands n_traceNow)) (va_A (wm_u cyI cyJ ab n_fault n_things n_kindOf n_digitOf n_follows n_ifOf n_thenOf n_listOf n_breathOf n_heardOf n_readAt n_readThings n_readFollows n_readKind n_readDigit n_readIf n_readThen n_readings n_readingIn n_readingHour n_readingOf n_breathWas n_sheetSize n_sheetLane n_sheet n_hands n_traceNow) sz)) 0 0 (va_A (wm_u cyI cyJ ab n_fault n_things n_kindOf n_digitOf n_follows n_ifOf n_thenOf n_listOf n_breathOf n_heardOf n_readAt n_readThings n_readFollows n_readKind n_readDigit n_readIf n_readThen n_readings n_readingIn n_readingHour n_readingOf n_breathWas n_sheetSize n_sheetLane n_sheet n_hands n_traceNow) sz) := by
  refine xq_M (cc := cX6_back) (maxL := 2) (ret := (some .int)) (QA := fun A => va_Qi (fun (rr : Int32) (uu : Int32) => post rr uu) (fun (uu : Int32) => xq_B (dC, dI) [(cyI, .int), (cyJ, .long)] A (wm_u cyI cyJ ab n_fault n_things n_kindOf n_digitOf n_follows n_ifOf n_thenOf n_listOf n_breathOf n_heardOf n_readAt n_readThings n_readFollows n_readKind n_readDigit n_readIf n_readThen uu n_readingIn n_readingHour n_readingOf n_breathWas n_sheetSize n_sheetLane n_sheet n_hands n_traceNow)) A) (by decide) rfl (Nat.le_of_ble_eq_true rfl) ?_
  intro p e s m args below meth c A ls Q hQ hx hb hr hml hts hown hlocks hsz hP hK hD hA hS hN hl
  subst hsz
  have hl : lv_has ls 2 [(0, .ref (ab 0)), (1, .int a_1)] := hl
  have hi_X6 : ∀ w ∈ wsX60, w ∈ wsX6_back := fun _ h => List.mem_cons_of_mem _ (List.mem_append_right _ h)
  have fl_141 := hts (.fieldLink RX6 141 "UnsaidCallsModel" "readings" "I") (by decide +kernel)
  unfold w_X6_back at h
  refine lv_iload_n hx hb dX6_back_0 rfl (lv_at hl 1 rfl) ?_
  refine lv_i2l (v := (Int32.toInt64 a_1)) hx hb dX6_back_1 rfl ?_
  refine lv_lconst (v := (0 : Int64)) hx hb dX6_back_2 (by decide) ?_
  refine lv_aload_n hx hb dX6_back_3 rfl (lv_at hl 0 rfl) ?_
  refine va_get (D := (dC, dI)) (ci := 6) (v := .int n_readings) (C := RX6) (T := TX6) (N := 27) hx hb hts hi_X6 hown hK hP 0 rfl rfl 17 (by decide) fl_141 (fun _ h9 => h9) rfl dX6_back_4 ?_
  refine lv_i2l (v := (Int32.toInt64 n_readings)) hx hb dX6_back_7 rfl ?_
  refine xq_ci (va_runS (As := [.long (Int32.toInt64 a_1), .long (0 : Int64), .long (Int32.toInt64 n_readings)]) (rest := []) ⟨hx, hb, hml, hown, hts⟩ (m_X6_in l dC dI cyI cyJ (wm_u cyI cyJ ab n_fault n_things n_kindOf n_digitOf n_follows n_ifOf n_thenOf n_listOf n_breathOf n_heardOf n_readAt n_readThings n_readFollows n_readKind n_readDigit n_readIf n_readThen n_readings n_readingIn n_readingHour n_readingOf n_breathWas n_sheetSize n_sheetLane n_sheet n_hands n_traceNow) s.heap.size h) (va_cwS 3 hts gX6_back_X6_in rfl rfl rfl (by decide +kernel) ⟨Nat.le_of_ble_eq_true rfl, Nat.le_of_ble_eq_true rfl⟩) (xq_preS hK hP hD hN) rfl rfl hl.1 rfl (lv_room (Nat.le_of_ble_eq_true rfl)) dX6_back_8 ⟨Nat.le_refl _, Nat.le_refl _⟩) hD hS hA (fun rr_1 uu H locs h hP hD hS => ?_)
  have hP : va_P (dC, dI) vwCl (wm_u cyI cyJ ab n_fault n_things n_kindOf n_digitOf n_follows n_ifOf n_thenOf n_listOf n_breathOf n_heardOf n_readAt n_readThings n_readFollows n_readKind n_readDigit n_readIf n_readThen n_readings n_readingIn n_readingHour n_readingOf n_breathWas n_sheetSize n_sheetLane n_sheet n_hands n_traceNow) H := hP
  have hD : va_D A (wm_u cyI cyJ ab n_fault n_things n_kindOf n_digitOf n_follows n_ifOf n_thenOf n_listOf n_breathOf n_heardOf n_readAt n_readThings n_readFollows n_readKind n_readDigit n_readIf n_readThen n_readings n_readingIn n_readingHour n_readingOf n_breathWas n_sheetSize n_sheetLane n_sheet n_hands n_traceNow) := hD
  refine lv_if_ne (tgt := 17) hx hb dX6_back_11 (by decide) (fun hc_2 => ?_) (fun hc_2 => ?_)
  · have h := h.1 hc_2
    refine lv_aload_n hx hb dX6_back_17 rfl (lv_at hl 0 rfl) ?_
    refine lv_dup hx hb dX6_back_18 rfl ?_
    refine va_get (D := (dC, dI)) (ci := 6) (v := .int n_readings) (C := RX6) (T := TX6) (N := 27) hx hb hts hi_X6 hown hK hP 0 rfl rfl 17 (by decide) fl_141 (fun _ h9 => h9) rfl dX6_back_19 ?_
    refine lv_iload_n hx hb dX6_back_22 rfl (lv_at hl 1 rfl) ?_
    refine lv_isub hx hb dX6_back_23 ?_
    refine va_put (D := (dC, dI)) (ci := 6) (v := .int (n_readings - a_1)) (ty := .int) (C := RX6) (T := TX6) (N := 27) hx hb hts hi_X6 tyX6 tyX6_ok nmX6 hown hK hP hD hS 0 rfl rfl 17 (by decide) fl_141 (fun _ h9 => h9) rfl (by decide +kernel) rfl rfl (Nat.le_of_ble_eq_true rfl) dX6_back_24 (fun H locs hP hD hS => ?_)
    have hP : va_P (dC, dI) vwCl (wm_u cyI cyJ ab n_fault n_things n_kindOf n_digitOf n_follows n_ifOf n_thenOf n_listOf n_breathOf n_heardOf n_readAt n_readThings n_readFollows n_readKind n_readDigit n_readIf n_readThen (n_readings - a_1) n_readingIn n_readingHour n_readingOf n_breathWas n_sheetSize n_sheetLane n_sheet n_hands n_traceNow) H := hP
    have hD : va_D A (wm_u cyI cyJ ab n_fault n_things n_kindOf n_digitOf n_follows n_ifOf n_thenOf n_listOf n_breathOf n_heardOf n_readAt n_readThings n_readFollows n_readKind n_readDigit n_readIf n_readThen (n_readings - a_1) n_readingIn n_readingHour n_readingOf n_breathWas n_sheetSize n_sheetLane n_sheet n_hands n_traceNow) := hD
    refine lv_aload_n hx hb dX6_back_27 rfl (lv_at hl 0 rfl) ?_
    refine va_get (D := (dC, dI)) (ci := 6) (v := .int (n_readings - a_1)) (C := RX6) (T := TX6) (N := 27) hx hb hts hi_X6 hown hK hP 0 rfl rfl 17 (by decide) fl_141 (fun _ h9 => h9) rfl dX6_back_28 ?_
    exact xq_ri hQ hx hb hr hP hK hD hS (n_readings - a_1) rfl h dX6_back_31 hlocks
  · have h := h.2 hc_2
    refine lv_bipush (v := (-2 : Int32)) hx hb dX6_back_14 (by decide) ?_
    exact xq_ri hQ hx hb hr hP hK hD hS n_readings rfl h dX6_back_16 hlocks
def w_X6_isBeyond (a_0 : Int32) (a_1 : Int64) (a_3 : Int32) (post : Int32 → Prop) : Prop := (a_0 < 0 → (post (1 : Int32))) ∧ (¬ a_0 < 0 → (((lg_cmp a_1 (0 : Int64)) < 0 → (post (1 : Int32))) ∧ (¬ (lg_cmp a_1 (0 : Int64)) < 0 → (((lg_cmp ((Int32.toInt64 a_0) + a_1) (Int32.toInt64 a_3)) ≤ 0 → (post (0 : Int32))) ∧ (¬ (lg_cmp ((Int32.toInt64 a_0) + a_1) (Int32.toInt64 a_3)) ≤ 0 → (post (1 : Int32)))))))
set_option maxHeartbeats 4000000 in
set_option maxRecDepth 100000 in
theorem m_X6_isBeyond (l : Launch) (dC : Nat → ClassId) (dI : Nat → Nat → Nat) (cyI cyJ : ClassId) (ww : va_W) (sz : Nat) {a_0 : Int32} {a_1 : Int64} {a_3 : Int32} {post : Int32 → Prop} (h : w_X6_isBeyond a_0 a_1 a_3 post) : Met l yX6_isBeyond wsX6_isBeyond (xq_R 0 0) (va_Pc [.int a_0, .long a_1, .int a_3] (xq_P (dC, dI) [(cyI, .int), (cyJ, .long)] ww sz)) (va_Qi (fun (rr : Int32) (uu : Unit) => post rr ) (fun (uu : Unit) => xq_B (dC, dI) [(cyI, .int), (cyJ, .long)] (va_A ww sz) ww) (va_A ww sz)) 0 0 (va_A ww sz) := by
  refine xq_M (cc := cX6_isBeyond) (maxL := 4) (ret := (some .boolean)) (QA := fun A => va_Qi (fun (rr : Int32) (uu : Unit) => post rr ) (fun (uu : Unit) => xq_B (dC, dI) [(cyI, .int), (cyJ, .long)] A ww) A) (by decide) rfl (Nat.le_of_ble_eq_true rfl) ?_
  intro p e s m args below meth c A ls Q hQ hx hb hr hml hts hown hlocks hsz hP hK hD hA hS hN hl
  subst hsz
  have hl : lv_has ls 4 [(0, .int a_0), (1, .long a_1), (3, .int a_3)] := hl
  unfold w_X6_isBeyond at h
  refine lv_iload_n hx hb dX6_isBeyond_0 rfl (lv_at hl 0 rfl) ?_
  refine lv_if_lt (tgt := 20) hx hb dX6_isBeyond_1 (by decide) (fun hc_3 => ?_) (fun hc_3 => ?_)
  · have h := h.1 hc_3
    refine lv_iconst (v := (1 : Int32)) hx hb dX6_isBeyond_20 (by decide) ?_
    refine lv_goto (tgt := 25) hx hb dX6_isBeyond_21 (by decide) ?_
    exact xq_rz hQ hx hb hr (by decide) hP hK hD hS () rfl h dX6_isBeyond_25 hlocks
  · have h := h.2 hc_3
    refine lv_lload_n hx hb dX6_isBeyond_4 rfl (lv_at hl 1 rfl) ?_
    refine lv_lconst (v := (0 : Int64)) hx hb dX6_isBeyond_5 (by decide) ?_
    refine W.lcmp hx hb dX6_isBeyond_6 ?_
    refine lv_if_lt (tgt := 20) hx hb dX6_isBeyond_7 (by decide) (fun hc_2 => ?_) (fun hc_2 => ?_)
    · have h := h.1 hc_2
      refine lv_iconst (v := (1 : Int32)) hx hb dX6_isBeyond_20 (by decide) ?_
      refine lv_goto (tgt := 25) hx hb dX6_isBeyond_21 (by decide) ?_
      exact xq_rz hQ hx hb hr (by decide) hP hK hD hS () rfl h dX6_isBeyond_25 hlocks
    · have h := h.2 hc_2
      refine lv_iload_n hx hb dX6_isBeyond_10 rfl (lv_at hl 0 rfl) ?_
      refine lv_i2l (v := (Int32.toInt64 a_0)) hx hb dX6_isBeyond_11 rfl ?_
      refine lv_lload_n hx hb dX6_isBeyond_12 rfl (lv_at hl 1 rfl) ?_
      refine lv_ladd hx hb dX6_isBeyond_13 ?_
      refine lv_iload_n hx hb dX6_isBeyond_14 rfl (lv_at hl 2 rfl) ?_
      refine lv_i2l (v := (Int32.toInt64 a_3)) hx hb dX6_isBeyond_15 rfl ?_
      refine W.lcmp hx hb dX6_isBeyond_16 ?_
      refine lv_if_le (tgt := 24) hx hb dX6_isBeyond_17 (by decide) (fun hc_1 => ?_) (fun hc_1 => ?_)
      · have h := h.1 hc_1
        refine lv_iconst (v := (0 : Int32)) hx hb dX6_isBeyond_24 (by decide) ?_
        exact xq_rz hQ hx hb hr (by decide) hP hK hD hS () rfl h dX6_isBeyond_25 hlocks
      · have h := h.2 hc_1
        refine lv_iconst (v := (1 : Int32)) hx hb dX6_isBeyond_20 (by decide) ?_
        refine lv_goto (tgt := 25) hx hb dX6_isBeyond_21 (by decide) ?_
        exact xq_rz hQ hx hb hr (by decide) hP hK hD hS () rfl h dX6_isBeyond_25 hlocks
def w_X6_noSheet (a_0 : Int32) (post : Int32 → Prop) : Prop := w_X6_in (Int32.toInt64 a_0) (0 : Int64) (3 : Int64) (fun (rr_1 : Int32) => (¬ rr_1 = 0 → (post (0 : Int32))) ∧ (rr_1 = 0 → (post (1 : Int32))))
set_option maxHeartbeats 4000000 in
set_option maxRecDepth 100000 in
theorem m_X6_noSheet (l : Launch) (dC : Nat → ClassId) (dI : Nat → Nat → Nat) (cyI cyJ : ClassId) (ww : va_W) (sz : Nat) {a_0 : Int32} {post : Int32 → Prop} (h : w_X6_noSheet a_0 post) : Met l yX6_noSheet wsX6_noSheet (xq_R 1 25) (va_Pc [.int a_0] (xq_P (dC, dI) [(cyI, .int), (cyJ, .long)] ww sz)) (va_Qi (fun (rr : Int32) (uu : Unit) => post rr ) (fun (uu : Unit) => xq_B (dC, dI) [(cyI, .int), (cyJ, .long)] (va_A ww sz) ww) (va_A ww sz)) 0 0 (va_A ww sz) := by
  refine xq_M (cc := cX6_noSheet) (maxL := 1) (ret := (some .boolean)) (QA := fun A => va_Qi (fun (rr : Int32) (uu : Unit) => post rr ) (fun (uu : Unit) => xq_B (dC, dI) [(cyI, .int), (cyJ, .long)] A ww) A) (by decide) rfl (Nat.le_of_ble_eq_true rfl) ?_
  intro p e s m args below meth c A ls Q hQ hx hb hr hml hts hown hlocks hsz hP hK hD hA hS hN hl
  subst hsz
  have hl : lv_has ls 1 [(0, .int a_0)] := hl
  unfold w_X6_noSheet at h
  refine lv_iload_n hx hb dX6_noSheet_0 rfl (lv_at hl 0 rfl) ?_
  refine lv_i2l (v := (Int32.toInt64 a_0)) hx hb dX6_noSheet_1 rfl ?_
  refine lv_lconst (v := (0 : Int64)) hx hb dX6_noSheet_2 (by decide) ?_
  refine lv_ldc2 (v := (3 : Int64)) hx hb hown (hts (.constantLong RX6 203 (3)) (by decide +kernel)) dX6_noSheet_3 ?_
  refine xq_ci (va_runS (As := [.long (Int32.toInt64 a_0), .long (0 : Int64), .long (3 : Int64)]) (rest := []) ⟨hx, hb, hml, hown, hts⟩ (m_X6_in l dC dI cyI cyJ ww s.heap.size h) (va_cwS 3 hts gX6_noSheet_X6_in rfl rfl rfl (by decide +kernel) ⟨Nat.le_of_ble_eq_true rfl, Nat.le_of_ble_eq_true rfl⟩) (xq_preS hK hP hD hN) rfl rfl hl.1 rfl (lv_room (Nat.le_of_ble_eq_true rfl)) dX6_noSheet_6 ⟨Nat.le_refl _, Nat.le_refl _⟩) hD hS hA (fun rr_1 uu H locs h hP hD hS => ?_)
  have hP : va_P (dC, dI) vwCl ww H := hP
  have hD : va_D A ww := hD
  refine lv_if_ne (tgt := 16) hx hb dX6_noSheet_9 (by decide) (fun hc_2 => ?_) (fun hc_2 => ?_)
  · have h := h.1 hc_2
    refine lv_iconst (v := (0 : Int32)) hx hb dX6_noSheet_16 (by decide) ?_
    exact xq_rz hQ hx hb hr (by decide) hP hK hD hS () rfl h dX6_noSheet_17 hlocks
  · have h := h.2 hc_2
    refine lv_iconst (v := (1 : Int32)) hx hb dX6_noSheet_12 (by decide) ?_
    refine lv_goto (tgt := 17) hx hb dX6_noSheet_13 (by decide) ?_
    exact xq_rz hQ hx hb hr (by decide) hP hK hD hS () rfl h dX6_noSheet_17 hlocks
def w_X6_barred (n_fault : Int32) (n_sheetSize : Nat → Int32) (n_sheetLane : Nat → Int32) (a_1 : Int32) (a_2 : Int32) (a_3 : Int32) (a_4 : Int64) (post : Int32 → Int32 → Prop) : Prop := w_X6_noSheet a_1 (fun (rr_1 : Int32) => (rr_1 = 0 → (w_X6_in (Int32.toInt64 a_2) (0 : Int64) (2 : Int64) (fun (rr_2 : Int32) => (¬ rr_2 = 0 → ((vp_in a_1 4) ∧ (xq_j0 (fun (kj_4 : Prop) => ((n_sheetSize a_1.toNatClampNeg) < 0 → (kj_4)) ∧ (¬ (n_sheetSize a_1.toNatClampNeg) < 0 → ((vp_in a_1 4) ∧ (((n_sheetLane a_1.toNatClampNeg) = a_2 → (kj_4)) ∧ (¬ (n_sheetLane a_1.toNatClampNeg) = a_2 → (w_X6_failed n_fault (2 : Int32) (fun (rr_6 : Int32) (cc_7 : Int32) => post rr_6 cc_7))))))) ((vp_in a_1 4) ∧ ((0 ≤ (n_sheetSize a_1.toNatClampNeg) → ((0 ≤ (lg_cmp a_4 (0 : Int64)) → ((vp_in a_1 4) ∧ (w_X6_isBeyond a_3 a_4 (n_sheetSize a_1.toNatClampNeg) (fun (rr_13 : Int32) => (rr_13 = 0 → (post (0 : Int32) n_fault)) ∧ (¬ rr_13 = 0 → (w_X6_failed n_fault (3 : Int32) (fun (rr_14 : Int32) (cc_15 : Int32) => post rr_14 cc_15))))))) ∧ (¬ 0 ≤ (lg_cmp a_4 (0 : Int64)) → (w_X6_failed n_fault (4 : Int32) (fun (rr_19 : Int32) (cc_20 : Int32) => post rr_19 cc_20))))) ∧ (¬ 0 ≤ (n_sheetSize a_1.toNatClampNeg) → (w_X6_failed n_fault (1 : Int32) (fun (rr_23 : Int32) (cc_24 : Int32) => post rr_23 cc_24)))))))) ∧ (rr_2 = 0 → (w_X6_refused n_fault (-2 : Int32) (fun (rr_27 : Int32) (cc_28 : Int32) => post rr_27 cc_28)))))) ∧ (¬ rr_1 = 0 → (w_X6_refused n_fault (-1 : Int32) (fun (rr_32 : Int32) (cc_33 : Int32) => post rr_32 cc_33))))
set_option maxHeartbeats 4000000 in
set_option maxRecDepth 100000 in
theorem m_X6_barred (l : Launch) (dC : Nat → ClassId) (dI : Nat → Nat → Nat) (cyI cyJ : ClassId) (ab : Nat → Nat) (sz : Nat) {n_fault : Int32} {n_things : Int32} {n_kindOf : Nat → Int32} {n_digitOf : Nat → Int32} {n_follows : Int32} {n_ifOf : Nat → Int32} {n_thenOf : Nat → Int32} {n_listOf : Nat → Int32} {n_breathOf : Nat → Int32} {n_heardOf : Nat → Int32} {n_readAt : Int32} {n_readThings : Int32} {n_readFollows : Int32} {n_readKind : Nat → Int32} {n_readDigit : Nat → Int32} {n_readIf : Nat → Int32} {n_readThen : Nat → Int32} {n_readings : Int32} {n_readingIn : Nat → Int32} {n_readingHour : Nat → Int32} {n_readingOf : Nat → Int32} {n_breathWas : Nat → Int32} {n_sheetSize : Nat → Int32} {n_sheetLane : Nat → Int32} {n_sheet : Nat → Int32} {n_hands : Nat → Int32} {n_traceNow : Int32} {a_1 : Int32} {a_2 : Int32} {a_3 : Int32} {a_4 : Int64} {post : Int32 → Int32 → Prop} (h : w_X6_barred n_fault n_sheetSize n_sheetLane a_1 a_2 a_3 a_4 post) : Met l yX6_barred wsX6_barred (xq_R 2 45) (va_Pc [.ref (ab 0), .int a_1, .int a_2, .int a_3, .long a_4] (xq_P (dC, dI) [(cyI, .int), (cyJ, .long)] (wm_u cyI cyJ ab n_fault n_things n_kindOf n_digitOf n_follows n_ifOf n_thenOf n_listOf n_breathOf n_heardOf n_readAt n_readThings n_readFollows n_readKind n_readDigit n_readIf n_readThen n_readings n_readingIn n_readingHour n_readingOf n_breathWas n_sheetSize n_sheetLane n_sheet n_hands n_traceNow) sz)) (va_Qi (fun (rr : Int32) (uu : Int32) => post rr uu) (fun (uu : Int32) => xq_B (dC, dI) [(cyI, .int), (cyJ, .long)] (va_A (wm_u cyI cyJ ab n_fault n_things n_kindOf n_digitOf n_follows n_ifOf n_thenOf n_listOf n_breathOf n_heardOf n_readAt n_readThings n_readFollows n_readKind n_readDigit n_readIf n_readThen n_readings n_readingIn n_readingHour n_readingOf n_breathWas n_sheetSize n_sheetLane n_sheet n_hands n_traceNow) sz) (wm_u cyI cyJ ab uu n_things n_kindOf n_digitOf n_follows n_ifOf n_thenOf n_listOf n_breathOf n_heardOf n_readAt n_readThings n_readFollows n_readKind n_readDigit n_readIf n_readThen n_readings n_readingIn n_readingHour n_readingOf n_breathWas n_sheetSize n_sheetLane n_sheet n_hands n_traceNow)) (va_A (wm_u cyI cyJ ab n_fault n_things n_kindOf n_digitOf n_follows n_ifOf n_thenOf n_listOf n_breathOf n_heardOf n_readAt n_readThings n_readFollows n_readKind n_readDigit n_readIf n_readThen n_readings n_readingIn n_readingHour n_readingOf n_breathWas n_sheetSize n_sheetLane n_sheet n_hands n_traceNow) sz)) 0 0 (va_A (wm_u cyI cyJ ab n_fault n_things n_kindOf n_digitOf n_follows n_ifOf n_thenOf n_listOf n_breathOf n_heardOf n_readAt n_readThings n_readFollows n_readKind n_readDigit n_readIf n_readThen n_readings n_readingIn n_readingHour n_readingOf n_breathWas n_sheetSize n_sheetLane n_sheet n_hands n_traceNow) sz) := by
  refine xq_M (cc := cX6_barred) (maxL := 6) (ret := (some .int)) (QA := fun A => va_Qi (fun (rr : Int32) (uu : Int32) => post rr uu) (fun (uu : Int32) => xq_B (dC, dI) [(cyI, .int), (cyJ, .long)] A (wm_u cyI cyJ ab uu n_things n_kindOf n_digitOf n_follows n_ifOf n_thenOf n_listOf n_breathOf n_heardOf n_readAt n_readThings n_readFollows n_readKind n_readDigit n_readIf n_readThen n_readings n_readingIn n_readingHour n_readingOf n_breathWas n_sheetSize n_sheetLane n_sheet n_hands n_traceNow)) A) (by decide) rfl (Nat.le_of_ble_eq_true rfl) ?_
  intro p e s m args below meth c A ls Q hQ hx hb hr hml hts hown hlocks hsz hP hK hD hA hS hN hl
  subst hsz
  have hl : lv_has ls 6 [(0, .ref (ab 0)), (1, .int a_1), (2, .int a_2), (3, .int a_3), (4, .long a_4)] := hl
  have hi_X6 : ∀ w ∈ wsX60, w ∈ wsX6_barred := fun _ h => List.mem_cons_of_mem _ (List.mem_append_right _ h)
  have fl_55 := hts (.fieldLink RX6 55 "UnsaidCallsModel" "sheetSize" "[I") (by decide +kernel)
  have fl_58 := hts (.fieldLink RX6 58 "UnsaidCallsModel" "sheetLane" "[I") (by decide +kernel)
  unfold w_X6_barred at h
  refine lv_iload_n hx hb dX6_barred_0 rfl (lv_at hl 1 rfl) ?_
  refine xq_ci (va_runS (As := [.int a_1]) (rest := []) ⟨hx, hb, hml, hown, hts⟩ (m_X6_noSheet l dC dI cyI cyJ (wm_u cyI cyJ ab n_fault n_things n_kindOf n_digitOf n_follows n_ifOf n_thenOf n_listOf n_breathOf n_heardOf n_readAt n_readThings n_readFollows n_readKind n_readDigit n_readIf n_readThen n_readings n_readingIn n_readingHour n_readingOf n_breathWas n_sheetSize n_sheetLane n_sheet n_hands n_traceNow) s.heap.size h) (va_cwS 1 hts gX6_barred_X6_noSheet rfl rfl rfl (by decide +kernel) ⟨Nat.le_of_ble_eq_true rfl, Nat.le_of_ble_eq_true rfl⟩) (xq_preS hK hP hD hN) rfl rfl hl.1 rfl (lv_room (Nat.le_of_ble_eq_true rfl)) dX6_barred_1 ⟨Nat.le_refl _, Nat.le_refl _⟩) hD hS hA (fun rr_1 uu H locs h hP hD hS => ?_)
  have hP : va_P (dC, dI) vwCl (wm_u cyI cyJ ab n_fault n_things n_kindOf n_digitOf n_follows n_ifOf n_thenOf n_listOf n_breathOf n_heardOf n_readAt n_readThings n_readFollows n_readKind n_readDigit n_readIf n_readThen n_readings n_readingIn n_readingHour n_readingOf n_breathWas n_sheetSize n_sheetLane n_sheet n_hands n_traceNow) H := hP
  have hD : va_D A (wm_u cyI cyJ ab n_fault n_things n_kindOf n_digitOf n_follows n_ifOf n_thenOf n_listOf n_breathOf n_heardOf n_readAt n_readThings n_readFollows n_readKind n_readDigit n_readIf n_readThen n_readings n_readingIn n_readingHour n_readingOf n_breathWas n_sheetSize n_sheetLane n_sheet n_hands n_traceNow) := hD
  refine lv_if_eq (tgt := 13) hx hb dX6_barred_4 (by decide) (fun hc_35 => ?_) (fun hc_35 => ?_)
  · have h := h.1 hc_35
    refine lv_iload_n hx hb dX6_barred_13 rfl (lv_at hl 2 rfl) ?_
    refine lv_i2l (v := (Int32.toInt64 a_2)) hx hb dX6_barred_14 rfl ?_
    refine lv_lconst (v := (0 : Int64)) hx hb dX6_barred_15 (by decide) ?_
    refine lv_ldc2 (v := (2 : Int64)) hx hb hown (hts (.constantLong RX6 85 (2)) (by decide +kernel)) dX6_barred_16 ?_
    refine xq_ci (va_runS (As := [.long (Int32.toInt64 a_2), .long (0 : Int64), .long (2 : Int64)]) (rest := []) ⟨hx, hb, hml, hown, hts⟩ (m_X6_in l dC dI cyI cyJ (wm_u cyI cyJ ab n_fault n_things n_kindOf n_digitOf n_follows n_ifOf n_thenOf n_listOf n_breathOf n_heardOf n_readAt n_readThings n_readFollows n_readKind n_readDigit n_readIf n_readThen n_readings n_readingIn n_readingHour n_readingOf n_breathWas n_sheetSize n_sheetLane n_sheet n_hands n_traceNow) H.size h) (va_cwS 3 hts gX6_barred_X6_in rfl rfl rfl (by decide +kernel) ⟨Nat.le_of_ble_eq_true rfl, Nat.le_of_ble_eq_true rfl⟩) (xq_preS hK hP hD hN) rfl rfl hl.1 rfl (lv_room (Nat.le_of_ble_eq_true rfl)) dX6_barred_19 ⟨Nat.le_refl _, Nat.le_refl _⟩) hD hS hA (fun rr_2 uu H locs h hP hD hS => ?_)
    have hP : va_P (dC, dI) vwCl (wm_u cyI cyJ ab n_fault n_things n_kindOf n_digitOf n_follows n_ifOf n_thenOf n_listOf n_breathOf n_heardOf n_readAt n_readThings n_readFollows n_readKind n_readDigit n_readIf n_readThen n_readings n_readingIn n_readingHour n_readingOf n_breathWas n_sheetSize n_sheetLane n_sheet n_hands n_traceNow) H := hP
    have hD : va_D A (wm_u cyI cyJ ab n_fault n_things n_kindOf n_digitOf n_follows n_ifOf n_thenOf n_listOf n_breathOf n_heardOf n_readAt n_readThings n_readFollows n_readKind n_readDigit n_readIf n_readThen n_readings n_readingIn n_readingHour n_readingOf n_breathWas n_sheetSize n_sheetLane n_sheet n_hands n_traceNow) := hD
    refine lv_if_ne (tgt := 32) hx hb dX6_barred_22 (by decide) (fun hc_30 => ?_) (fun hc_30 => ?_)
    · have h := h.1 hc_30
      refine lv_aload_n hx hb dX6_barred_32 rfl (lv_at hl 0 rfl) ?_
      refine va_get (D := (dC, dI)) (ci := 6) (v := .ref (ab 16)) (C := RX6) (T := TX6) (N := 27) hx hb hts hi_X6 hown hK hP 0 rfl rfl 22 (by decide) fl_55 (fun _ h9 => h9) rfl dX6_barred_33 ?_
      refine lv_iload_n hx hb dX6_barred_36 rfl (lv_at hl 1 rfl) ?_
      obtain ⟨hv_3, h⟩ := h
      refine va_iald hx hb hK hP 16 0 rfl rfl hv_3 dX6_barred_37 ?_
      refine xq_j0_go (X := ∀ (H : Heap) (locs : List Loc) (ls : Array Slot), va_P (dC, dI) vwCl (wm_u cyI cyJ ab n_fault n_things n_kindOf n_digitOf n_follows n_ifOf n_thenOf n_listOf n_breathOf n_heardOf n_readAt n_readThings n_readFollows n_readKind n_readDigit n_readIf n_readThen n_readings n_readingIn n_readingHour n_readingOf n_breathWas n_sheetSize n_sheetLane n_sheet n_hands n_traceNow) H → va_D A (wm_u cyI cyJ ab n_fault n_things n_kindOf n_digitOf n_follows n_ifOf n_thenOf n_listOf n_breathOf n_heardOf n_readAt n_readThings n_readFollows n_readKind n_readDigit n_readIf n_readThen n_readings n_readingIn n_readingHour n_readingOf n_breathWas n_sheetSize n_sheetLane n_sheet n_hands n_traceNow) → va_S A s.heap H locs → lv_has ls 6 [(0, .ref (ab 0)), (1, .int a_1), (3, .int a_3), (4, .long a_4)] → W p l e (xq_R 2 45) s m args below meth c H locs 0 0 Q (F0 m 57 ls [])) h (fun  h H locs ls hP hD hS hl => ?_) (fun kj_4 h => ?_)
      · refine lv_aload_n hx hb dX6_barred_57 rfl (lv_at hl 0 rfl) ?_
        refine va_get (D := (dC, dI)) (ci := 6) (v := .ref (ab 16)) (C := RX6) (T := TX6) (N := 27) hx hb hts hi_X6 hown hK hP 0 rfl rfl 22 (by decide) fl_55 (fun _ h9 => h9) rfl dX6_barred_58 ?_
        refine lv_iload_n hx hb dX6_barred_61 rfl (lv_at hl 1 rfl) ?_
        obtain ⟨hv_11, h⟩ := h
        refine va_iald hx hb hK hP 16 0 rfl rfl hv_11 dX6_barred_62 ?_
        refine lv_if_ge (tgt := 72) hx hb dX6_barred_63 (by decide) (fun hc_26 => ?_) (fun hc_26 => ?_)
        · have h := h.1 hc_26
          refine lv_lload hx hb dX6_barred_72 (lv_at hl 3 rfl) ?_
          refine lv_lconst (v := (0 : Int64)) hx hb dX6_barred_74 (by decide) ?_
          refine W.lcmp hx hb dX6_barred_75 ?_
          refine lv_if_ge (tgt := 85) hx hb dX6_barred_76 (by decide) (fun hc_22 => ?_) (fun hc_22 => ?_)
          · have h := h.1 hc_22
            refine lv_iload_n hx hb dX6_barred_85 rfl (lv_at hl 2 rfl) ?_
            refine lv_lload hx hb dX6_barred_86 (lv_at hl 3 rfl) ?_
            refine lv_aload_n hx hb dX6_barred_88 rfl (lv_at hl 0 rfl) ?_
            refine va_get (D := (dC, dI)) (ci := 6) (v := .ref (ab 16)) (C := RX6) (T := TX6) (N := 27) hx hb hts hi_X6 hown hK hP 0 rfl rfl 22 (by decide) fl_55 (fun _ h9 => h9) rfl dX6_barred_89 ?_
            refine lv_iload_n hx hb dX6_barred_92 rfl (lv_at hl 1 rfl) ?_
            obtain ⟨hv_12, h⟩ := h
            refine va_iald hx hb hK hP 16 0 rfl rfl hv_12 dX6_barred_93 ?_
            refine xq_ci (va_runS (As := [.int a_3, .long a_4, .int (n_sheetSize a_1.toNatClampNeg)]) (rest := []) ⟨hx, hb, hml, hown, hts⟩ (m_X6_isBeyond l dC dI cyI cyJ (wm_u cyI cyJ ab n_fault n_things n_kindOf n_digitOf n_follows n_ifOf n_thenOf n_listOf n_breathOf n_heardOf n_readAt n_readThings n_readFollows n_readKind n_readDigit n_readIf n_readThen n_readings n_readingIn n_readingHour n_readingOf n_breathWas n_sheetSize n_sheetLane n_sheet n_hands n_traceNow) H.size h) (va_cwS 3 hts gX6_barred_X6_isBeyond rfl rfl rfl (by decide +kernel) ⟨Nat.le_of_ble_eq_true rfl, Nat.le_of_ble_eq_true rfl⟩) (xq_preS hK hP hD hN) rfl rfl hl.1 rfl (lv_room (Nat.le_of_ble_eq_true rfl)) dX6_barred_94 ⟨Nat.le_refl _, Nat.le_refl _⟩) hD hS hA (fun rr_13 uu H locs h hP hD hS => ?_)
            have hP : va_P (dC, dI) vwCl (wm_u cyI cyJ ab n_fault n_things n_kindOf n_digitOf n_follows n_ifOf n_thenOf n_listOf n_breathOf n_heardOf n_readAt n_readThings n_readFollows n_readKind n_readDigit n_readIf n_readThen n_readings n_readingIn n_readingHour n_readingOf n_breathWas n_sheetSize n_sheetLane n_sheet n_hands n_traceNow) H := hP
            have hD : va_D A (wm_u cyI cyJ ab n_fault n_things n_kindOf n_digitOf n_follows n_ifOf n_thenOf n_listOf n_breathOf n_heardOf n_readAt n_readThings n_readFollows n_readKind n_readDigit n_readIf n_readThen n_readings n_readingIn n_readingHour n_readingOf n_breathWas n_sheetSize n_sheetLane n_sheet n_hands n_traceNow) := hD
            refine lv_if_eq (tgt := 108) hx hb dX6_barred_97 (by decide) (fun hc_17 => ?_) (fun hc_17 => ?_)
            · have h := h.1 hc_17
              refine lv_iconst (v := (0 : Int32)) hx hb dX6_barred_108 (by decide) ?_
              exact xq_ri hQ hx hb hr hP hK hD hS n_fault rfl h dX6_barred_109 hlocks
            · have h := h.2 hc_17
              refine lv_aload_n hx hb dX6_barred_100 rfl (lv_at hl 0 rfl) ?_
              refine lv_iconst (v := (3 : Int32)) hx hb dX6_barred_101 (by decide) ?_
              refine xq_ci (va_runV (As := [.int (3 : Int32)]) (rest := []) ⟨hx, hb, hml, hown, hts⟩ (m_X6_failed l dC dI cyI cyJ ab H.size h) (cwV 1 hts gX6_barred_X6_failed rfl rfl rfl (by decide +kernel) ⟨Nat.le_of_ble_eq_true rfl, Nat.le_of_ble_eq_true rfl⟩) (xq_preV hK hP hD hN (ci := 6) (q0 := 0) rfl rfl) rfl rfl hl.1 rfl (lv_room (Nat.le_of_ble_eq_true rfl)) dX6_barred_102 ⟨Nat.le_refl _, Nat.le_refl _⟩) hD hS hA (fun rr_14 uu H locs h hP hD hS => ?_)
              obtain ⟨cc_15, rfl⟩ : ∃ z, z = uu := ⟨_, rfl⟩
              have hP : va_P (dC, dI) vwCl (wm_u cyI cyJ ab cc_15 n_things n_kindOf n_digitOf n_follows n_ifOf n_thenOf n_listOf n_breathOf n_heardOf n_readAt n_readThings n_readFollows n_readKind n_readDigit n_readIf n_readThen n_readings n_readingIn n_readingHour n_readingOf n_breathWas n_sheetSize n_sheetLane n_sheet n_hands n_traceNow) H := hP
              have hD : va_D A (wm_u cyI cyJ ab cc_15 n_things n_kindOf n_digitOf n_follows n_ifOf n_thenOf n_listOf n_breathOf n_heardOf n_readAt n_readThings n_readFollows n_readKind n_readDigit n_readIf n_readThen n_readings n_readingIn n_readingHour n_readingOf n_breathWas n_sheetSize n_sheetLane n_sheet n_hands n_traceNow) := hD
              refine lv_goto (tgt := 109) hx hb dX6_barred_105 (by decide) ?_
              exact xq_ri hQ hx hb hr hP hK hD hS cc_15 rfl h dX6_barred_109 hlocks
          · have h := h.2 hc_22
            refine lv_aload_n hx hb dX6_barred_79 rfl (lv_at hl 0 rfl) ?_
            refine lv_iconst (v := (4 : Int32)) hx hb dX6_barred_80 (by decide) ?_
            refine xq_ci (va_runV (As := [.int (4 : Int32)]) (rest := []) ⟨hx, hb, hml, hown, hts⟩ (m_X6_failed l dC dI cyI cyJ ab H.size h) (cwV 1 hts gX6_barred_X6_failed rfl rfl rfl (by decide +kernel) ⟨Nat.le_of_ble_eq_true rfl, Nat.le_of_ble_eq_true rfl⟩) (xq_preV hK hP hD hN (ci := 6) (q0 := 0) rfl rfl) rfl rfl hl.1 rfl (lv_room (Nat.le_of_ble_eq_true rfl)) dX6_barred_81 ⟨Nat.le_refl _, Nat.le_refl _⟩) hD hS hA (fun rr_19 uu H locs h hP hD hS => ?_)
            obtain ⟨cc_20, rfl⟩ : ∃ z, z = uu := ⟨_, rfl⟩
            have hP : va_P (dC, dI) vwCl (wm_u cyI cyJ ab cc_20 n_things n_kindOf n_digitOf n_follows n_ifOf n_thenOf n_listOf n_breathOf n_heardOf n_readAt n_readThings n_readFollows n_readKind n_readDigit n_readIf n_readThen n_readings n_readingIn n_readingHour n_readingOf n_breathWas n_sheetSize n_sheetLane n_sheet n_hands n_traceNow) H := hP
            have hD : va_D A (wm_u cyI cyJ ab cc_20 n_things n_kindOf n_digitOf n_follows n_ifOf n_thenOf n_listOf n_breathOf n_heardOf n_readAt n_readThings n_readFollows n_readKind n_readDigit n_readIf n_readThen n_readings n_readingIn n_readingHour n_readingOf n_breathWas n_sheetSize n_sheetLane n_sheet n_hands n_traceNow) := hD
            exact xq_ri hQ hx hb hr hP hK hD hS cc_20 rfl h dX6_barred_84 hlocks
        · have h := h.2 hc_26
          refine lv_aload_n hx hb dX6_barred_66 rfl (lv_at hl 0 rfl) ?_
          refine lv_iconst (v := (1 : Int32)) hx hb dX6_barred_67 (by decide) ?_
          refine xq_ci (va_runV (As := [.int (1 : Int32)]) (rest := []) ⟨hx, hb, hml, hown, hts⟩ (m_X6_failed l dC dI cyI cyJ ab H.size h) (cwV 1 hts gX6_barred_X6_failed rfl rfl rfl (by decide +kernel) ⟨Nat.le_of_ble_eq_true rfl, Nat.le_of_ble_eq_true rfl⟩) (xq_preV hK hP hD hN (ci := 6) (q0 := 0) rfl rfl) rfl rfl hl.1 rfl (lv_room (Nat.le_of_ble_eq_true rfl)) dX6_barred_68 ⟨Nat.le_refl _, Nat.le_refl _⟩) hD hS hA (fun rr_23 uu H locs h hP hD hS => ?_)
          obtain ⟨cc_24, rfl⟩ : ∃ z, z = uu := ⟨_, rfl⟩
          have hP : va_P (dC, dI) vwCl (wm_u cyI cyJ ab cc_24 n_things n_kindOf n_digitOf n_follows n_ifOf n_thenOf n_listOf n_breathOf n_heardOf n_readAt n_readThings n_readFollows n_readKind n_readDigit n_readIf n_readThen n_readings n_readingIn n_readingHour n_readingOf n_breathWas n_sheetSize n_sheetLane n_sheet n_hands n_traceNow) H := hP
          have hD : va_D A (wm_u cyI cyJ ab cc_24 n_things n_kindOf n_digitOf n_follows n_ifOf n_thenOf n_listOf n_breathOf n_heardOf n_readAt n_readThings n_readFollows n_readKind n_readDigit n_readIf n_readThen n_readings n_readingIn n_readingHour n_readingOf n_breathWas n_sheetSize n_sheetLane n_sheet n_hands n_traceNow) := hD
          exact xq_ri hQ hx hb hr hP hK hD hS cc_24 rfl h dX6_barred_71 hlocks
      · refine lv_if_lt (tgt := 57) hx hb dX6_barred_38 (by decide) (fun hc_10 => ?_) (fun hc_10 => ?_)
        · have h := h.1 hc_10
          exact kj_4 h _ _ _ hP hD hS (lv_sub hl [0, 1, 3, 4] rfl)
        · have h := h.2 hc_10
          refine lv_aload_n hx hb dX6_barred_41 rfl (lv_at hl 0 rfl) ?_
          refine va_get (D := (dC, dI)) (ci := 6) (v := .ref (ab 17)) (C := RX6) (T := TX6) (N := 27) hx hb hts hi_X6 hown hK hP 0 rfl rfl 23 (by decide) fl_58 (fun _ h9 => h9) rfl dX6_barred_42 ?_
          refine lv_iload_n hx hb dX6_barred_45 rfl (lv_at hl 1 rfl) ?_
          obtain ⟨hv_5, h⟩ := h
          refine va_iald hx hb hK hP 17 0 rfl rfl hv_5 dX6_barred_46 ?_
          refine lv_iload_n hx hb dX6_barred_47 rfl (lv_at hl 2 rfl) ?_
          refine lv_icmp_eq (tgt := 57) hx hb dX6_barred_48 (by decide) (fun hc_9 => ?_) (fun hc_9 => ?_)
          · have h := h.1 hc_9
            exact kj_4 h _ _ _ hP hD hS (lv_sub hl [0, 1, 3, 4] rfl)
          · have h := h.2 hc_9
            refine lv_aload_n hx hb dX6_barred_51 rfl (lv_at hl 0 rfl) ?_
            refine lv_iconst (v := (2 : Int32)) hx hb dX6_barred_52 (by decide) ?_
            refine xq_ci (va_runV (As := [.int (2 : Int32)]) (rest := []) ⟨hx, hb, hml, hown, hts⟩ (m_X6_failed l dC dI cyI cyJ ab H.size h) (cwV 1 hts gX6_barred_X6_failed rfl rfl rfl (by decide +kernel) ⟨Nat.le_of_ble_eq_true rfl, Nat.le_of_ble_eq_true rfl⟩) (xq_preV hK hP hD hN (ci := 6) (q0 := 0) rfl rfl) rfl rfl hl.1 rfl (lv_room (Nat.le_of_ble_eq_true rfl)) dX6_barred_53 ⟨Nat.le_refl _, Nat.le_refl _⟩) hD hS hA (fun rr_6 uu H locs h hP hD hS => ?_)
            obtain ⟨cc_7, rfl⟩ : ∃ z, z = uu := ⟨_, rfl⟩
            have hP : va_P (dC, dI) vwCl (wm_u cyI cyJ ab cc_7 n_things n_kindOf n_digitOf n_follows n_ifOf n_thenOf n_listOf n_breathOf n_heardOf n_readAt n_readThings n_readFollows n_readKind n_readDigit n_readIf n_readThen n_readings n_readingIn n_readingHour n_readingOf n_breathWas n_sheetSize n_sheetLane n_sheet n_hands n_traceNow) H := hP
            have hD : va_D A (wm_u cyI cyJ ab cc_7 n_things n_kindOf n_digitOf n_follows n_ifOf n_thenOf n_listOf n_breathOf n_heardOf n_readAt n_readThings n_readFollows n_readKind n_readDigit n_readIf n_readThen n_readings n_readingIn n_readingHour n_readingOf n_breathWas n_sheetSize n_sheetLane n_sheet n_hands n_traceNow) := hD
            exact xq_ri hQ hx hb hr hP hK hD hS cc_7 rfl h dX6_barred_56 hlocks
    · have h := h.2 hc_30
      refine lv_aload_n hx hb dX6_barred_25 rfl (lv_at hl 0 rfl) ?_
      refine lv_bipush (v := (-2 : Int32)) hx hb dX6_barred_26 (by decide) ?_
      refine xq_ci (va_runV (As := [.int (-2 : Int32)]) (rest := []) ⟨hx, hb, hml, hown, hts⟩ (m_X6_refused l dC dI cyI cyJ ab H.size h) (cwV 1 hts gX6_barred_X6_refused rfl rfl rfl (by decide +kernel) ⟨Nat.le_of_ble_eq_true rfl, Nat.le_of_ble_eq_true rfl⟩) (xq_preV hK hP hD hN (ci := 6) (q0 := 0) rfl rfl) rfl rfl hl.1 rfl (lv_room (Nat.le_of_ble_eq_true rfl)) dX6_barred_28 ⟨Nat.le_refl _, Nat.le_refl _⟩) hD hS hA (fun rr_27 uu H locs h hP hD hS => ?_)
      obtain ⟨cc_28, rfl⟩ : ∃ z, z = uu := ⟨_, rfl⟩
      have hP : va_P (dC, dI) vwCl (wm_u cyI cyJ ab cc_28 n_things n_kindOf n_digitOf n_follows n_ifOf n_thenOf n_listOf n_breathOf n_heardOf n_readAt n_readThings n_readFollows n_readKind n_readDigit n_readIf n_readThen n_readings n_readingIn n_readingHour n_readingOf n_breathWas n_sheetSize n_sheetLane n_sheet n_hands n_traceNow) H := hP
      have hD : va_D A (wm_u cyI cyJ ab cc_28 n_things n_kindOf n_digitOf n_follows n_ifOf n_thenOf n_listOf n_breathOf n_heardOf n_readAt n_readThings n_readFollows n_readKind n_readDigit n_readIf n_readThen n_readings n_readingIn n_readingHour n_readingOf n_breathWas n_sheetSize n_sheetLane n_sheet n_hands n_traceNow) := hD
      exact xq_ri hQ hx hb hr hP hK hD hS cc_28 rfl h dX6_barred_31 hlocks
  · have h := h.2 hc_35
    refine lv_aload_n hx hb dX6_barred_7 rfl (lv_at hl 0 rfl) ?_
    refine lv_iconst (v := (-1 : Int32)) hx hb dX6_barred_8 (by decide) ?_
    refine xq_ci (va_runV (As := [.int (-1 : Int32)]) (rest := []) ⟨hx, hb, hml, hown, hts⟩ (m_X6_refused l dC dI cyI cyJ ab H.size h) (cwV 1 hts gX6_barred_X6_refused rfl rfl rfl (by decide +kernel) ⟨Nat.le_of_ble_eq_true rfl, Nat.le_of_ble_eq_true rfl⟩) (xq_preV hK hP hD hN (ci := 6) (q0 := 0) rfl rfl) rfl rfl hl.1 rfl (lv_room (Nat.le_of_ble_eq_true rfl)) dX6_barred_9 ⟨Nat.le_refl _, Nat.le_refl _⟩) hD hS hA (fun rr_32 uu H locs h hP hD hS => ?_)
    obtain ⟨cc_33, rfl⟩ : ∃ z, z = uu := ⟨_, rfl⟩
    have hP : va_P (dC, dI) vwCl (wm_u cyI cyJ ab cc_33 n_things n_kindOf n_digitOf n_follows n_ifOf n_thenOf n_listOf n_breathOf n_heardOf n_readAt n_readThings n_readFollows n_readKind n_readDigit n_readIf n_readThen n_readings n_readingIn n_readingHour n_readingOf n_breathWas n_sheetSize n_sheetLane n_sheet n_hands n_traceNow) H := hP
    have hD : va_D A (wm_u cyI cyJ ab cc_33 n_things n_kindOf n_digitOf n_follows n_ifOf n_thenOf n_listOf n_breathOf n_heardOf n_readAt n_readThings n_readFollows n_readKind n_readDigit n_readIf n_readThen n_readings n_readingIn n_readingHour n_readingOf n_breathWas n_sheetSize n_sheetLane n_sheet n_hands n_traceNow) := hD
    exact xq_ri hQ hx hb hr hP hK hD hS cc_33 rfl h dX6_barred_12 hlocks
def w_X6_noHour (a_0 : Int32) (post : Int32 → Prop) : Prop := w_X6_in (Int32.toInt64 a_0) (0 : Int64) (5 : Int64) (fun (rr_1 : Int32) => (¬ rr_1 = 0 → (post (0 : Int32))) ∧ (rr_1 = 0 → (post (1 : Int32))))
set_option maxHeartbeats 4000000 in
set_option maxRecDepth 100000 in
theorem m_X6_noHour (l : Launch) (dC : Nat → ClassId) (dI : Nat → Nat → Nat) (cyI cyJ : ClassId) (ww : va_W) (sz : Nat) {a_0 : Int32} {post : Int32 → Prop} (h : w_X6_noHour a_0 post) : Met l yX6_noHour wsX6_noHour (xq_R 1 25) (va_Pc [.int a_0] (xq_P (dC, dI) [(cyI, .int), (cyJ, .long)] ww sz)) (va_Qi (fun (rr : Int32) (uu : Unit) => post rr ) (fun (uu : Unit) => xq_B (dC, dI) [(cyI, .int), (cyJ, .long)] (va_A ww sz) ww) (va_A ww sz)) 0 0 (va_A ww sz) := by
  refine xq_M (cc := cX6_noHour) (maxL := 1) (ret := (some .boolean)) (QA := fun A => va_Qi (fun (rr : Int32) (uu : Unit) => post rr ) (fun (uu : Unit) => xq_B (dC, dI) [(cyI, .int), (cyJ, .long)] A ww) A) (by decide) rfl (Nat.le_of_ble_eq_true rfl) ?_
  intro p e s m args below meth c A ls Q hQ hx hb hr hml hts hown hlocks hsz hP hK hD hA hS hN hl
  subst hsz
  have hl : lv_has ls 1 [(0, .int a_0)] := hl
  unfold w_X6_noHour at h
  refine lv_iload_n hx hb dX6_noHour_0 rfl (lv_at hl 0 rfl) ?_
  refine lv_i2l (v := (Int32.toInt64 a_0)) hx hb dX6_noHour_1 rfl ?_
  refine lv_lconst (v := (0 : Int64)) hx hb dX6_noHour_2 (by decide) ?_
  refine lv_ldc2 (v := (5 : Int64)) hx hb hown (hts (.constantLong RX6 101 (5)) (by decide +kernel)) dX6_noHour_3 ?_
  refine xq_ci (va_runS (As := [.long (Int32.toInt64 a_0), .long (0 : Int64), .long (5 : Int64)]) (rest := []) ⟨hx, hb, hml, hown, hts⟩ (m_X6_in l dC dI cyI cyJ ww s.heap.size h) (va_cwS 3 hts gX6_noHour_X6_in rfl rfl rfl (by decide +kernel) ⟨Nat.le_of_ble_eq_true rfl, Nat.le_of_ble_eq_true rfl⟩) (xq_preS hK hP hD hN) rfl rfl hl.1 rfl (lv_room (Nat.le_of_ble_eq_true rfl)) dX6_noHour_6 ⟨Nat.le_refl _, Nat.le_refl _⟩) hD hS hA (fun rr_1 uu H locs h hP hD hS => ?_)
  have hP : va_P (dC, dI) vwCl ww H := hP
  have hD : va_D A ww := hD
  refine lv_if_ne (tgt := 16) hx hb dX6_noHour_9 (by decide) (fun hc_2 => ?_) (fun hc_2 => ?_)
  · have h := h.1 hc_2
    refine lv_iconst (v := (0 : Int32)) hx hb dX6_noHour_16 (by decide) ?_
    exact xq_rz hQ hx hb hr (by decide) hP hK hD hS () rfl h dX6_noHour_17 hlocks
  · have h := h.2 hc_2
    refine lv_iconst (v := (1 : Int32)) hx hb dX6_noHour_12 (by decide) ?_
    refine lv_goto (tgt := 17) hx hb dX6_noHour_13 (by decide) ?_
    exact xq_rz hQ hx hb hr (by decide) hP hK hD hS () rfl h dX6_noHour_17 hlocks
def w_X6_isOfThings (n_things : Int32) (a_1 : Int32) (post : Int32 → Prop) : Prop := w_X6_all n_things (fun (rr_1 : Int32) => w_X6_in (Int32.toInt64 a_1) (0 : Int64) (Int32.toInt64 rr_1) (fun (rr_2 : Int32) => xq_z rr_2 ∧ post rr_2))
set_option maxHeartbeats 4000000 in
set_option maxRecDepth 100000 in
theorem m_X6_isOfThings (l : Launch) (dC : Nat → ClassId) (dI : Nat → Nat → Nat) (cyI cyJ : ClassId) (ab : Nat → Nat) (sz : Nat) {n_fault : Int32} {n_things : Int32} {n_kindOf : Nat → Int32} {n_digitOf : Nat → Int32} {n_follows : Int32} {n_ifOf : Nat → Int32} {n_thenOf : Nat → Int32} {n_listOf : Nat → Int32} {n_breathOf : Nat → Int32} {n_heardOf : Nat → Int32} {n_readAt : Int32} {n_readThings : Int32} {n_readFollows : Int32} {n_readKind : Nat → Int32} {n_readDigit : Nat → Int32} {n_readIf : Nat → Int32} {n_readThen : Nat → Int32} {n_readings : Int32} {n_readingIn : Nat → Int32} {n_readingHour : Nat → Int32} {n_readingOf : Nat → Int32} {n_breathWas : Nat → Int32} {n_sheetSize : Nat → Int32} {n_sheetLane : Nat → Int32} {n_sheet : Nat → Int32} {n_hands : Nat → Int32} {n_traceNow : Int32} {a_1 : Int32} {post : Int32 → Prop} (h : w_X6_isOfThings n_things a_1 post) : Met l yX6_isOfThings wsX6_isOfThings (xq_R 1 25) (va_Pc [.ref (ab 0), .int a_1] (xq_P (dC, dI) [(cyI, .int), (cyJ, .long)] (wm_u cyI cyJ ab n_fault n_things n_kindOf n_digitOf n_follows n_ifOf n_thenOf n_listOf n_breathOf n_heardOf n_readAt n_readThings n_readFollows n_readKind n_readDigit n_readIf n_readThen n_readings n_readingIn n_readingHour n_readingOf n_breathWas n_sheetSize n_sheetLane n_sheet n_hands n_traceNow) sz)) (va_Qi (fun (rr : Int32) (uu : Unit) => post rr ) (fun (uu : Unit) => xq_B (dC, dI) [(cyI, .int), (cyJ, .long)] (va_A (wm_u cyI cyJ ab n_fault n_things n_kindOf n_digitOf n_follows n_ifOf n_thenOf n_listOf n_breathOf n_heardOf n_readAt n_readThings n_readFollows n_readKind n_readDigit n_readIf n_readThen n_readings n_readingIn n_readingHour n_readingOf n_breathWas n_sheetSize n_sheetLane n_sheet n_hands n_traceNow) sz) (wm_u cyI cyJ ab n_fault n_things n_kindOf n_digitOf n_follows n_ifOf n_thenOf n_listOf n_breathOf n_heardOf n_readAt n_readThings n_readFollows n_readKind n_readDigit n_readIf n_readThen n_readings n_readingIn n_readingHour n_readingOf n_breathWas n_sheetSize n_sheetLane n_sheet n_hands n_traceNow)) (va_A (wm_u cyI cyJ ab n_fault n_things n_kindOf n_digitOf n_follows n_ifOf n_thenOf n_listOf n_breathOf n_heardOf n_readAt n_readThings n_readFollows n_readKind n_readDigit n_readIf n_readThen n_readings n_readingIn n_readingHour n_readingOf n_breathWas n_sheetSize n_sheetLane n_sheet n_hands n_traceNow) sz)) 0 0 (va_A (wm_u cyI cyJ ab n_fault n_things n_kindOf n_digitOf n_follows n_ifOf n_thenOf n_listOf n_breathOf n_heardOf n_readAt n_readThings n_readFollows n_readKind n_readDigit n_readIf n_readThen n_readings n_readingIn n_readingHour n_readingOf n_breathWas n_sheetSize n_sheetLane n_sheet n_hands n_traceNow) sz) := by
  refine xq_M (cc := cX6_isOfThings) (maxL := 2) (ret := (some .boolean)) (QA := fun A => va_Qi (fun (rr : Int32) (uu : Unit) => post rr ) (fun (uu : Unit) => xq_B (dC, dI) [(cyI, .int), (cyJ, .long)] A (wm_u cyI cyJ ab n_fault n_things n_kindOf n_digitOf n_follows n_ifOf n_thenOf n_listOf n_breathOf n_heardOf n_readAt n_readThings n_readFollows n_readKind n_readDigit n_readIf n_readThen n_readings n_readingIn n_readingHour n_readingOf n_breathWas n_sheetSize n_sheetLane n_sheet n_hands n_traceNow)) A) (by decide) rfl (Nat.le_of_ble_eq_true rfl) ?_
  intro p e s m args below meth c A ls Q hQ hx hb hr hml hts hown hlocks hsz hP hK hD hA hS hN hl
  subst hsz
  have hl : lv_has ls 2 [(0, .ref (ab 0)), (1, .int a_1)] := hl
  unfold w_X6_isOfThings at h
  refine lv_iload_n hx hb dX6_isOfThings_0 rfl (lv_at hl 1 rfl) ?_
  refine lv_i2l (v := (Int32.toInt64 a_1)) hx hb dX6_isOfThings_1 rfl ?_
  refine lv_lconst (v := (0 : Int64)) hx hb dX6_isOfThings_2 (by decide) ?_
  refine lv_aload_n hx hb dX6_isOfThings_3 rfl (lv_at hl 0 rfl) ?_
  refine xq_ci (va_runV (As := []) (rest := [.long (0 : Int64), .long (Int32.toInt64 a_1)]) ⟨hx, hb, hml, hown, hts⟩ (m_X6_all l dC dI cyI cyJ ab s.heap.size h) (cwV 0 hts gX6_isOfThings_X6_all rfl rfl rfl (by decide +kernel) ⟨Nat.le_of_ble_eq_true rfl, Nat.le_of_ble_eq_true rfl⟩) (xq_preV hK hP hD hN (ci := 6) (q0 := 0) rfl rfl) rfl rfl hl.1 rfl (lv_room (Nat.le_of_ble_eq_true rfl)) dX6_isOfThings_4 ⟨Nat.le_refl _, Nat.le_refl _⟩) hD hS hA (fun rr_1 uu H locs h hP hD hS => ?_)
  have hP : va_P (dC, dI) vwCl (wm_u cyI cyJ ab n_fault n_things n_kindOf n_digitOf n_follows n_ifOf n_thenOf n_listOf n_breathOf n_heardOf n_readAt n_readThings n_readFollows n_readKind n_readDigit n_readIf n_readThen n_readings n_readingIn n_readingHour n_readingOf n_breathWas n_sheetSize n_sheetLane n_sheet n_hands n_traceNow) H := hP
  have hD : va_D A (wm_u cyI cyJ ab n_fault n_things n_kindOf n_digitOf n_follows n_ifOf n_thenOf n_listOf n_breathOf n_heardOf n_readAt n_readThings n_readFollows n_readKind n_readDigit n_readIf n_readThen n_readings n_readingIn n_readingHour n_readingOf n_breathWas n_sheetSize n_sheetLane n_sheet n_hands n_traceNow) := hD
  refine lv_i2l (v := (Int32.toInt64 rr_1)) hx hb dX6_isOfThings_7 rfl ?_
  refine xq_ci (va_runS (As := [.long (Int32.toInt64 a_1), .long (0 : Int64), .long (Int32.toInt64 rr_1)]) (rest := []) ⟨hx, hb, hml, hown, hts⟩ (m_X6_in l dC dI cyI cyJ (wm_u cyI cyJ ab n_fault n_things n_kindOf n_digitOf n_follows n_ifOf n_thenOf n_listOf n_breathOf n_heardOf n_readAt n_readThings n_readFollows n_readKind n_readDigit n_readIf n_readThen n_readings n_readingIn n_readingHour n_readingOf n_breathWas n_sheetSize n_sheetLane n_sheet n_hands n_traceNow) H.size h) (va_cwS 3 hts gX6_isOfThings_X6_in rfl rfl rfl (by decide +kernel) ⟨Nat.le_of_ble_eq_true rfl, Nat.le_of_ble_eq_true rfl⟩) (xq_preS hK hP hD hN) rfl rfl hl.1 rfl (lv_room (Nat.le_of_ble_eq_true rfl)) dX6_isOfThings_8 ⟨Nat.le_refl _, Nat.le_refl _⟩) hD hS hA (fun rr_2 uu H locs h hP hD hS => ?_)
  have hP : va_P (dC, dI) vwCl (wm_u cyI cyJ ab n_fault n_things n_kindOf n_digitOf n_follows n_ifOf n_thenOf n_listOf n_breathOf n_heardOf n_readAt n_readThings n_readFollows n_readKind n_readDigit n_readIf n_readThen n_readings n_readingIn n_readingHour n_readingOf n_breathWas n_sheetSize n_sheetLane n_sheet n_hands n_traceNow) H := hP
  have hD : va_D A (wm_u cyI cyJ ab n_fault n_things n_kindOf n_digitOf n_follows n_ifOf n_thenOf n_listOf n_breathOf n_heardOf n_readAt n_readThings n_readFollows n_readKind n_readDigit n_readIf n_readThen n_readings n_readingIn n_readingHour n_readingOf n_breathWas n_sheetSize n_sheetLane n_sheet n_hands n_traceNow) := hD
  obtain ⟨hv_3, h⟩ := h
  exact xq_rz hQ hx hb hr hv_3 hP hK hD hS () rfl h dX6_isOfThings_11 hlocks
def w_X6_isCase_L23 (a_1 : Int32) (n_things : Int32) (n_follows : Int32) (n_ifOf : Nat → Int32) (n_thenOf : Nat → Int32) (post : Int32 → Prop) (kk : Int32 → Prop) : Nat → Int32 → Int32 → Prop
  | 0, _, _ => False
  | f_23 + 1, a_2, a_3 => (n_follows ≤ a_3 → (kk a_2)) ∧ (¬ n_follows ≤ a_3 → ((a_2 = 0 → (kk a_2)) ∧ (¬ a_2 = 0 → ((vp_in a_3 4) ∧ (w_X6_isIn a_1 (n_ifOf a_3.toNatClampNeg) (fun (rr_2 : Int32) => (rr_2 = 0 → (w_X6_isCase_L23 a_1 n_things n_follows n_ifOf n_thenOf post kk f_23 (1 : Int32) (a_3 + (1 : Int32)))) ∧ (¬ rr_2 = 0 → ((vp_in a_3 4) ∧ (w_X6_isIn a_1 (n_thenOf a_3.toNatClampNeg) (fun (rr_4 : Int32) => (rr_4 = 0 → (w_X6_isCase_L23 a_1 n_things n_follows n_ifOf n_thenOf post kk f_23 (0 : Int32) (a_3 + (1 : Int32)))) ∧ (¬ rr_4 = 0 → (w_X6_isCase_L23 a_1 n_things n_follows n_ifOf n_thenOf post kk f_23 (1 : Int32) (a_3 + (1 : Int32))))))))))))))
def w_X6_isCase (n_things : Int32) (n_follows : Int32) (n_ifOf : Nat → Int32) (n_thenOf : Nat → Int32) (a_1 : Int32) (post : Int32 → Prop) : Prop := (n_things ≤ 0 → (∃ e_23, w_X6_isCase_L23 a_1 n_things n_follows n_ifOf n_thenOf post (fun (xx_13 : Int32) => xq_z xx_13 ∧ post xx_13) e_23 (0 : Int32) (0 : Int32))) ∧ (¬ n_things ≤ 0 → (w_X6_isOfThings n_things a_1 (fun (rr_25 : Int32) => (rr_25 = 0 → (∃ e_23, w_X6_isCase_L23 a_1 n_things n_follows n_ifOf n_thenOf post (fun (xx_28 : Int32) => xq_z xx_28 ∧ post xx_28) e_23 (0 : Int32) (0 : Int32))) ∧ (¬ rr_25 = 0 → (∃ e_23, w_X6_isCase_L23 a_1 n_things n_follows n_ifOf n_thenOf post (fun (xx_42 : Int32) => xq_z xx_42 ∧ post xx_42) e_23 (1 : Int32) (0 : Int32))))))
set_option maxHeartbeats 4000000 in
set_option maxRecDepth 100000 in
theorem m_X6_isCase (l : Launch) (dC : Nat → ClassId) (dI : Nat → Nat → Nat) (cyI cyJ : ClassId) (ab : Nat → Nat) (sz : Nat) {n_fault : Int32} {n_things : Int32} {n_kindOf : Nat → Int32} {n_digitOf : Nat → Int32} {n_follows : Int32} {n_ifOf : Nat → Int32} {n_thenOf : Nat → Int32} {n_listOf : Nat → Int32} {n_breathOf : Nat → Int32} {n_heardOf : Nat → Int32} {n_readAt : Int32} {n_readThings : Int32} {n_readFollows : Int32} {n_readKind : Nat → Int32} {n_readDigit : Nat → Int32} {n_readIf : Nat → Int32} {n_readThen : Nat → Int32} {n_readings : Int32} {n_readingIn : Nat → Int32} {n_readingHour : Nat → Int32} {n_readingOf : Nat → Int32} {n_breathWas : Nat → Int32} {n_sheetSize : Nat → Int32} {n_sheetLane : Nat → Int32} {n_sheet : Nat → Int32} {n_hands : Nat → Int32} {n_traceNow : Int32} {a_1 : Int32} {post : Int32 → Prop} (h : w_X6_isCase n_things n_follows n_ifOf n_thenOf a_1 post) : Met l yX6_isCase wsX6_isCase (xq_R 2 46) (va_Pc [.ref (ab 0), .int a_1] (xq_P (dC, dI) [(cyI, .int), (cyJ, .long)] (wm_u cyI cyJ ab n_fault n_things n_kindOf n_digitOf n_follows n_ifOf n_thenOf n_listOf n_breathOf n_heardOf n_readAt n_readThings n_readFollows n_readKind n_readDigit n_readIf n_readThen n_readings n_readingIn n_readingHour n_readingOf n_breathWas n_sheetSize n_sheetLane n_sheet n_hands n_traceNow) sz)) (va_Qi (fun (rr : Int32) (uu : Unit) => post rr ) (fun (uu : Unit) => xq_B (dC, dI) [(cyI, .int), (cyJ, .long)] (va_A (wm_u cyI cyJ ab n_fault n_things n_kindOf n_digitOf n_follows n_ifOf n_thenOf n_listOf n_breathOf n_heardOf n_readAt n_readThings n_readFollows n_readKind n_readDigit n_readIf n_readThen n_readings n_readingIn n_readingHour n_readingOf n_breathWas n_sheetSize n_sheetLane n_sheet n_hands n_traceNow) sz) (wm_u cyI cyJ ab n_fault n_things n_kindOf n_digitOf n_follows n_ifOf n_thenOf n_listOf n_breathOf n_heardOf n_readAt n_readThings n_readFollows n_readKind n_readDigit n_readIf n_readThen n_readings n_readingIn n_readingHour n_readingOf n_breathWas n_sheetSize n_sheetLane n_sheet n_hands n_traceNow)) (va_A (wm_u cyI cyJ ab n_fault n_things n_kindOf n_digitOf n_follows n_ifOf n_thenOf n_listOf n_breathOf n_heardOf n_readAt n_readThings n_readFollows n_readKind n_readDigit n_readIf n_readThen n_readings n_readingIn n_readingHour n_readingOf n_breathWas n_sheetSize n_sheetLane n_sheet n_hands n_traceNow) sz)) 0 0 (va_A (wm_u cyI cyJ ab n_fault n_things n_kindOf n_digitOf n_follows n_ifOf n_thenOf n_listOf n_breathOf n_heardOf n_readAt n_readThings n_readFollows n_readKind n_readDigit n_readIf n_readThen n_readings n_readingIn n_readingHour n_readingOf n_breathWas n_sheetSize n_sheetLane n_sheet n_hands n_traceNow) sz) := by
  refine xq_M (cc := cX6_isCase) (maxL := 4) (ret := (some .boolean)) (QA := fun A => va_Qi (fun (rr : Int32) (uu : Unit) => post rr ) (fun (uu : Unit) => xq_B (dC, dI) [(cyI, .int), (cyJ, .long)] A (wm_u cyI cyJ ab n_fault n_things n_kindOf n_digitOf n_follows n_ifOf n_thenOf n_listOf n_breathOf n_heardOf n_readAt n_readThings n_readFollows n_readKind n_readDigit n_readIf n_readThen n_readings n_readingIn n_readingHour n_readingOf n_breathWas n_sheetSize n_sheetLane n_sheet n_hands n_traceNow)) A) (by decide) rfl (Nat.le_of_ble_eq_true rfl) ?_
  intro p e s m args below meth c A ls Q hQ hx hb hr hml hts hown hlocks hsz hP hK hD hA hS hN hl
  subst hsz
  have hl : lv_has ls 4 [(0, .ref (ab 0)), (1, .int a_1)] := hl
  have hi_X6 : ∀ w ∈ wsX60, w ∈ wsX6_isCase := fun _ h => List.mem_cons_of_mem _ (List.mem_append_right _ h)
  have fl_16 := hts (.fieldLink RX6 16 "UnsaidCallsModel" "ifOf" "[I") (by decide +kernel)
  have fl_19 := hts (.fieldLink RX6 19 "UnsaidCallsModel" "thenOf" "[I") (by decide +kernel)
  have fl_98 := hts (.fieldLink RX6 98 "UnsaidCallsModel" "things" "I") (by decide +kernel)
  have fl_138 := hts (.fieldLink RX6 138 "UnsaidCallsModel" "follows" "I") (by decide +kernel)
  unfold w_X6_isCase at h
  refine lv_aload_n hx hb dX6_isCase_0 rfl (lv_at hl 0 rfl) ?_
  refine va_get (D := (dC, dI)) (ci := 6) (v := .int n_things) (C := RX6) (T := TX6) (N := 27) hx hb hts hi_X6 hown hK hP 0 rfl rfl 1 (by decide) fl_98 (fun _ h9 => h9) rfl dX6_isCase_1 ?_
  refine lv_if_le (tgt := 19) hx hb dX6_isCase_4 (by decide) (fun hc_56 => ?_) (fun hc_56 => ?_)
  · have h := h.1 hc_56
    refine lv_iconst (v := (0 : Int32)) hx hb dX6_isCase_19 (by decide) ?_
    refine lv_istore_n (lv' := [(2, .int (0 : Int32)), (0, .ref (ab 0)), (1, .int a_1)]) hx hb dX6_isCase_20 rfl hl (by decide) rfl (fun ls hl => ?_)
    refine lv_iconst (v := (0 : Int32)) hx hb dX6_isCase_21 (by decide) ?_
    refine lv_istore_n (lv' := [(3, .int (0 : Int32)), (2, .int (0 : Int32)), (0, .ref (ab 0)), (1, .int a_1)]) hx hb dX6_isCase_22 rfl hl (by decide) rfl (fun ls hl => ?_)
    obtain ⟨ni, h⟩ := h
    have lp_23 : ∀ (kk : Int32 → Prop), (∀ (xx_13 : Int32) (H : Heap) (locs : List Loc) (ls : Array Slot), va_P (dC, dI) vwCl (wm_u cyI cyJ ab n_fault n_things n_kindOf n_digitOf n_follows n_ifOf n_thenOf n_listOf n_breathOf n_heardOf n_readAt n_readThings n_readFollows n_readKind n_readDigit n_readIf n_readThen n_readings n_readingIn n_readingHour n_readingOf n_breathWas n_sheetSize n_sheetLane n_sheet n_hands n_traceNow) H → va_D A (wm_u cyI cyJ ab n_fault n_things n_kindOf n_digitOf n_follows n_ifOf n_thenOf n_listOf n_breathOf n_heardOf n_readAt n_readThings n_readFollows n_readKind n_readDigit n_readIf n_readThen n_readings n_readingIn n_readingHour n_readingOf n_breathWas n_sheetSize n_sheetLane n_sheet n_hands n_traceNow) → va_S A s.heap H locs → lv_has ls 4 [(2, .int xx_13)] → kk xx_13 → W p l e (xq_R 2 46) s m args below meth c H locs 0 0 Q (F0 m 73 ls [])) → ∀ (ni : Nat) (aa_11 : Int32) (aa_12 : Int32) (H : Heap) (locs : List Loc) (ls : Array Slot), va_P (dC, dI) vwCl (wm_u cyI cyJ ab n_fault n_things n_kindOf n_digitOf n_follows n_ifOf n_thenOf n_listOf n_breathOf n_heardOf n_readAt n_readThings n_readFollows n_readKind n_readDigit n_readIf n_readThen n_readings n_readingIn n_readingHour n_readingOf n_breathWas n_sheetSize n_sheetLane n_sheet n_hands n_traceNow) H → va_D A (wm_u cyI cyJ ab n_fault n_things n_kindOf n_digitOf n_follows n_ifOf n_thenOf n_listOf n_breathOf n_heardOf n_readAt n_readThings n_readFollows n_readKind n_readDigit n_readIf n_readThen n_readings n_readingIn n_readingHour n_readingOf n_breathWas n_sheetSize n_sheetLane n_sheet n_hands n_traceNow) → va_S A s.heap H locs → lv_has ls 4 [(0, .ref (ab 0)), (1, .int a_1), (2, .int aa_11), (3, .int aa_12)] → w_X6_isCase_L23 a_1 n_things n_follows n_ifOf n_thenOf post kk ni aa_11 aa_12 → W p l e (xq_R 2 46) s m args below meth c H locs 0 0 Q (F0 m 23 ls []) := by
      intro kk kx ni
      induction ni with
      | zero => intros; exact False.elim (by assumption)
      | succ ni ih =>
        intro aa_11 aa_12 H locs ls hP hD hS hl h
        rw [w_X6_isCase_L23] at h
        refine lv_iload_n hx hb dX6_isCase_23 rfl (lv_at hl 3 rfl) ?_
        refine lv_aload_n hx hb dX6_isCase_24 rfl (lv_at hl 0 rfl) ?_
        refine va_get (D := (dC, dI)) (ci := 6) (v := .int n_follows) (C := RX6) (T := TX6) (N := 27) hx hb hts hi_X6 hown hK hP 0 rfl rfl 4 (by decide) fl_138 (fun _ h9 => h9) rfl dX6_isCase_25 ?_
        refine lv_icmp_ge (tgt := 73) hx hb dX6_isCase_28 (by decide) (fun hc_24 => ?_) (fun hc_24 => ?_)
        · have h := h.1 hc_24
          exact kx aa_11 _ _ _ hP hD hS (lv_sub hl [2] rfl) h
        · have h := h.2 hc_24
          refine lv_iload_n hx hb dX6_isCase_31 rfl (lv_at hl 2 rfl) ?_
          refine lv_if_eq (tgt := 73) hx hb dX6_isCase_32 (by decide) (fun hc_23 => ?_) (fun hc_23 => ?_)
          · have h := h.1 hc_23
            exact kx aa_11 _ _ _ hP hD hS (lv_sub hl [2] rfl) h
          · have h := h.2 hc_23
            refine lv_iload_n hx hb dX6_isCase_35 rfl (lv_at hl 1 rfl) ?_
            refine lv_aload_n hx hb dX6_isCase_36 rfl (lv_at hl 0 rfl) ?_
            refine va_get (D := (dC, dI)) (ci := 6) (v := .ref (ab 3)) (C := RX6) (T := TX6) (N := 27) hx hb hts hi_X6 hown hK hP 0 rfl rfl 5 (by decide) fl_16 (fun _ h9 => h9) rfl dX6_isCase_37 ?_
            refine lv_iload_n hx hb dX6_isCase_40 rfl (lv_at hl 3 rfl) ?_
            obtain ⟨hv_15, h⟩ := h
            refine va_iald hx hb hK hP 3 0 rfl rfl hv_15 dX6_isCase_41 ?_
            refine xq_ci (va_runS (As := [.int a_1, .int (n_ifOf aa_12.toNatClampNeg)]) (rest := []) ⟨hx, hb, hml, hown, hts⟩ (m_X6_isIn l dC dI cyI cyJ (wm_u cyI cyJ ab n_fault n_things n_kindOf n_digitOf n_follows n_ifOf n_thenOf n_listOf n_breathOf n_heardOf n_readAt n_readThings n_readFollows n_readKind n_readDigit n_readIf n_readThen n_readings n_readingIn n_readingHour n_readingOf n_breathWas n_sheetSize n_sheetLane n_sheet n_hands n_traceNow) H.size h) (va_cwS 2 hts gX6_isCase_X6_isIn rfl rfl rfl (by decide +kernel) ⟨Nat.le_of_ble_eq_true rfl, Nat.le_of_ble_eq_true rfl⟩) (xq_preS hK hP hD hN) rfl rfl hl.1 rfl (lv_room (Nat.le_of_ble_eq_true rfl)) dX6_isCase_42 ⟨Nat.le_refl _, Nat.le_refl _⟩) hD hS hA (fun rr_16 uu H locs h hP hD hS => ?_)
            have hP : va_P (dC, dI) vwCl (wm_u cyI cyJ ab n_fault n_things n_kindOf n_digitOf n_follows n_ifOf n_thenOf n_listOf n_breathOf n_heardOf n_readAt n_readThings n_readFollows n_readKind n_readDigit n_readIf n_readThen n_readings n_readingIn n_readingHour n_readingOf n_breathWas n_sheetSize n_sheetLane n_sheet n_hands n_traceNow) H := hP
            have hD : va_D A (wm_u cyI cyJ ab n_fault n_things n_kindOf n_digitOf n_follows n_ifOf n_thenOf n_listOf n_breathOf n_heardOf n_readAt n_readThings n_readFollows n_readKind n_readDigit n_readIf n_readThen n_readings n_readingIn n_readingHour n_readingOf n_breathWas n_sheetSize n_sheetLane n_sheet n_hands n_traceNow) := hD
            refine lv_if_eq (tgt := 61) hx hb dX6_isCase_45 (by decide) (fun hc_21 => ?_) (fun hc_21 => ?_)
            · have h := h.1 hc_21
              refine lv_iconst (v := (1 : Int32)) hx hb dX6_isCase_61 (by decide) ?_
              refine lv_goto (tgt := 66) hx hb dX6_isCase_62 (by decide) ?_
              refine lv_istore_n (lv' := [(2, .int (1 : Int32)), (0, .ref (ab 0)), (1, .int a_1), (3, .int aa_12)]) hx hb dX6_isCase_66 rfl hl (by decide) rfl (fun ls hl => ?_)
              refine lv_iinc (v := (aa_12 + (1 : Int32))) (lv' := [(3, .int (aa_12 + (1 : Int32))), (2, .int (1 : Int32)), (0, .ref (ab 0)), (1, .int a_1)]) hx hb dX6_isCase_67 hl (k := 3) rfl rfl (by decide) rfl (fun ls hl => ?_)
              refine lv_goto (tgt := 23) hx hb dX6_isCase_70 (by decide) ?_
              exact ih (1 : Int32) (aa_12 + (1 : Int32)) _ _ _ hP hD hS (lv_sub hl [2, 3, 1, 0] rfl) h
            · have h := h.2 hc_21
              refine lv_iload_n hx hb dX6_isCase_48 rfl (lv_at hl 1 rfl) ?_
              refine lv_aload_n hx hb dX6_isCase_49 rfl (lv_at hl 0 rfl) ?_
              refine va_get (D := (dC, dI)) (ci := 6) (v := .ref (ab 4)) (C := RX6) (T := TX6) (N := 27) hx hb hts hi_X6 hown hK hP 0 rfl rfl 6 (by decide) fl_19 (fun _ h9 => h9) rfl dX6_isCase_50 ?_
              refine lv_iload_n hx hb dX6_isCase_53 rfl (lv_at hl 3 rfl) ?_
              obtain ⟨hv_17, h⟩ := h
              refine va_iald hx hb hK hP 4 0 rfl rfl hv_17 dX6_isCase_54 ?_
              refine xq_ci (va_runS (As := [.int a_1, .int (n_thenOf aa_12.toNatClampNeg)]) (rest := []) ⟨hx, hb, hml, hown, hts⟩ (m_X6_isIn l dC dI cyI cyJ (wm_u cyI cyJ ab n_fault n_things n_kindOf n_digitOf n_follows n_ifOf n_thenOf n_listOf n_breathOf n_heardOf n_readAt n_readThings n_readFollows n_readKind n_readDigit n_readIf n_readThen n_readings n_readingIn n_readingHour n_readingOf n_breathWas n_sheetSize n_sheetLane n_sheet n_hands n_traceNow) H.size h) (va_cwS 2 hts gX6_isCase_X6_isIn rfl rfl rfl (by decide +kernel) ⟨Nat.le_of_ble_eq_true rfl, Nat.le_of_ble_eq_true rfl⟩) (xq_preS hK hP hD hN) rfl rfl hl.1 rfl (lv_room (Nat.le_of_ble_eq_true rfl)) dX6_isCase_55 ⟨Nat.le_refl _, Nat.le_refl _⟩) hD hS hA (fun rr_18 uu H locs h hP hD hS => ?_)
              have hP : va_P (dC, dI) vwCl (wm_u cyI cyJ ab n_fault n_things n_kindOf n_digitOf n_follows n_ifOf n_thenOf n_listOf n_breathOf n_heardOf n_readAt n_readThings n_readFollows n_readKind n_readDigit n_readIf n_readThen n_readings n_readingIn n_readingHour n_readingOf n_breathWas n_sheetSize n_sheetLane n_sheet n_hands n_traceNow) H := hP
              have hD : va_D A (wm_u cyI cyJ ab n_fault n_things n_kindOf n_digitOf n_follows n_ifOf n_thenOf n_listOf n_breathOf n_heardOf n_readAt n_readThings n_readFollows n_readKind n_readDigit n_readIf n_readThen n_readings n_readingIn n_readingHour n_readingOf n_breathWas n_sheetSize n_sheetLane n_sheet n_hands n_traceNow) := hD
              refine lv_if_eq (tgt := 65) hx hb dX6_isCase_58 (by decide) (fun hc_19 => ?_) (fun hc_19 => ?_)
              · have h := h.1 hc_19
                refine lv_iconst (v := (0 : Int32)) hx hb dX6_isCase_65 (by decide) ?_
                refine lv_istore_n (lv' := [(2, .int (0 : Int32)), (0, .ref (ab 0)), (1, .int a_1), (3, .int aa_12)]) hx hb dX6_isCase_66 rfl hl (by decide) rfl (fun ls hl => ?_)
                refine lv_iinc (v := (aa_12 + (1 : Int32))) (lv' := [(3, .int (aa_12 + (1 : Int32))), (2, .int (0 : Int32)), (0, .ref (ab 0)), (1, .int a_1)]) hx hb dX6_isCase_67 hl (k := 3) rfl rfl (by decide) rfl (fun ls hl => ?_)
                refine lv_goto (tgt := 23) hx hb dX6_isCase_70 (by decide) ?_
                exact ih (0 : Int32) (aa_12 + (1 : Int32)) _ _ _ hP hD hS (lv_sub hl [2, 3, 1, 0] rfl) h
              · have h := h.2 hc_19
                refine lv_iconst (v := (1 : Int32)) hx hb dX6_isCase_61 (by decide) ?_
                refine lv_goto (tgt := 66) hx hb dX6_isCase_62 (by decide) ?_
                refine lv_istore_n (lv' := [(2, .int (1 : Int32)), (0, .ref (ab 0)), (1, .int a_1), (3, .int aa_12)]) hx hb dX6_isCase_66 rfl hl (by decide) rfl (fun ls hl => ?_)
                refine lv_iinc (v := (aa_12 + (1 : Int32))) (lv' := [(3, .int (aa_12 + (1 : Int32))), (2, .int (1 : Int32)), (0, .ref (ab 0)), (1, .int a_1)]) hx hb dX6_isCase_67 hl (k := 3) rfl rfl (by decide) rfl (fun ls hl => ?_)
                refine lv_goto (tgt := 23) hx hb dX6_isCase_70 (by decide) ?_
                exact ih (1 : Int32) (aa_12 + (1 : Int32)) _ _ _ hP hD hS (lv_sub hl [2, 3, 1, 0] rfl) h
    refine lp_23 _ (fun xx_13 H locs ls hP hD hS hl h => ?_) ni (0 : Int32) (0 : Int32) _ _ _ hP hD hS (lv_sub hl [2, 3, 1, 0] rfl) h
    refine lv_iload_n hx hb dX6_isCase_73 rfl (lv_at hl 0 rfl) ?_
    obtain ⟨hv_14, h⟩ := h
    exact xq_rz hQ hx hb hr hv_14 hP hK hD hS () rfl h dX6_isCase_74 hlocks
  · have h := h.2 hc_56
    refine lv_aload_n hx hb dX6_isCase_7 rfl (lv_at hl 0 rfl) ?_
    refine lv_iload_n hx hb dX6_isCase_8 rfl (lv_at hl 1 rfl) ?_
    refine xq_ci (va_runV (As := [.int a_1]) (rest := []) ⟨hx, hb, hml, hown, hts⟩ (m_X6_isOfThings l dC dI cyI cyJ ab s.heap.size h) (cwV 1 hts gX6_isCase_X6_isOfThings rfl rfl rfl (by decide +kernel) ⟨Nat.le_of_ble_eq_true rfl, Nat.le_of_ble_eq_true rfl⟩) (xq_preV hK hP hD hN (ci := 6) (q0 := 0) rfl rfl) rfl rfl hl.1 rfl (lv_room (Nat.le_of_ble_eq_true rfl)) dX6_isCase_9 ⟨Nat.le_refl _, Nat.le_refl _⟩) hD hS hA (fun rr_25 uu H locs h hP hD hS => ?_)
    have hP : va_P (dC, dI) vwCl (wm_u cyI cyJ ab n_fault n_things n_kindOf n_digitOf n_follows n_ifOf n_thenOf n_listOf n_breathOf n_heardOf n_readAt n_readThings n_readFollows n_readKind n_readDigit n_readIf n_readThen n_readings n_readingIn n_readingHour n_readingOf n_breathWas n_sheetSize n_sheetLane n_sheet n_hands n_traceNow) H := hP
    have hD : va_D A (wm_u cyI cyJ ab n_fault n_things n_kindOf n_digitOf n_follows n_ifOf n_thenOf n_listOf n_breathOf n_heardOf n_readAt n_readThings n_readFollows n_readKind n_readDigit n_readIf n_readThen n_readings n_readingIn n_readingHour n_readingOf n_breathWas n_sheetSize n_sheetLane n_sheet n_hands n_traceNow) := hD
    refine lv_if_eq (tgt := 19) hx hb dX6_isCase_12 (by decide) (fun hc_54 => ?_) (fun hc_54 => ?_)
    · have h := h.1 hc_54
      refine lv_iconst (v := (0 : Int32)) hx hb dX6_isCase_19 (by decide) ?_
      refine lv_istore_n (lv' := [(2, .int (0 : Int32)), (0, .ref (ab 0)), (1, .int a_1)]) hx hb dX6_isCase_20 rfl hl (by decide) rfl (fun ls hl => ?_)
      refine lv_iconst (v := (0 : Int32)) hx hb dX6_isCase_21 (by decide) ?_
      refine lv_istore_n (lv' := [(3, .int (0 : Int32)), (2, .int (0 : Int32)), (0, .ref (ab 0)), (1, .int a_1)]) hx hb dX6_isCase_22 rfl hl (by decide) rfl (fun ls hl => ?_)
      obtain ⟨ni, h⟩ := h
      have lp_23 : ∀ (kk : Int32 → Prop), (∀ (xx_28 : Int32) (H : Heap) (locs : List Loc) (ls : Array Slot), va_P (dC, dI) vwCl (wm_u cyI cyJ ab n_fault n_things n_kindOf n_digitOf n_follows n_ifOf n_thenOf n_listOf n_breathOf n_heardOf n_readAt n_readThings n_readFollows n_readKind n_readDigit n_readIf n_readThen n_readings n_readingIn n_readingHour n_readingOf n_breathWas n_sheetSize n_sheetLane n_sheet n_hands n_traceNow) H → va_D A (wm_u cyI cyJ ab n_fault n_things n_kindOf n_digitOf n_follows n_ifOf n_thenOf n_listOf n_breathOf n_heardOf n_readAt n_readThings n_readFollows n_readKind n_readDigit n_readIf n_readThen n_readings n_readingIn n_readingHour n_readingOf n_breathWas n_sheetSize n_sheetLane n_sheet n_hands n_traceNow) → va_S A s.heap H locs → lv_has ls 4 [(2, .int xx_28)] → kk xx_28 → W p l e (xq_R 2 46) s m args below meth c H locs 0 0 Q (F0 m 73 ls [])) → ∀ (ni : Nat) (aa_26 : Int32) (aa_27 : Int32) (H : Heap) (locs : List Loc) (ls : Array Slot), va_P (dC, dI) vwCl (wm_u cyI cyJ ab n_fault n_things n_kindOf n_digitOf n_follows n_ifOf n_thenOf n_listOf n_breathOf n_heardOf n_readAt n_readThings n_readFollows n_readKind n_readDigit n_readIf n_readThen n_readings n_readingIn n_readingHour n_readingOf n_breathWas n_sheetSize n_sheetLane n_sheet n_hands n_traceNow) H → va_D A (wm_u cyI cyJ ab n_fault n_things n_kindOf n_digitOf n_follows n_ifOf n_thenOf n_listOf n_breathOf n_heardOf n_readAt n_readThings n_readFollows n_readKind n_readDigit n_readIf n_readThen n_readings n_readingIn n_readingHour n_readingOf n_breathWas n_sheetSize n_sheetLane n_sheet n_hands n_traceNow) → va_S A s.heap H locs → lv_has ls 4 [(0, .ref (ab 0)), (1, .int a_1), (2, .int aa_26), (3, .int aa_27)] → w_X6_isCase_L23 a_1 n_things n_follows n_ifOf n_thenOf post kk ni aa_26 aa_27 → W p l e (xq_R 2 46) s m args below meth c H locs 0 0 Q (F0 m 23 ls []) := by
        intro kk kx ni
        induction ni with
        | zero => intros; exact False.elim (by assumption)
        | succ ni ih =>
          intro aa_26 aa_27 H locs ls hP hD hS hl h
          rw [w_X6_isCase_L23] at h
          refine lv_iload_n hx hb dX6_isCase_23 rfl (lv_at hl 3 rfl) ?_
          refine lv_aload_n hx hb dX6_isCase_24 rfl (lv_at hl 0 rfl) ?_
          refine va_get (D := (dC, dI)) (ci := 6) (v := .int n_follows) (C := RX6) (T := TX6) (N := 27) hx hb hts hi_X6 hown hK hP 0 rfl rfl 4 (by decide) fl_138 (fun _ h9 => h9) rfl dX6_isCase_25 ?_
          refine lv_icmp_ge (tgt := 73) hx hb dX6_isCase_28 (by decide) (fun hc_39 => ?_) (fun hc_39 => ?_)
          · have h := h.1 hc_39
            exact kx aa_26 _ _ _ hP hD hS (lv_sub hl [2] rfl) h
          · have h := h.2 hc_39
            refine lv_iload_n hx hb dX6_isCase_31 rfl (lv_at hl 2 rfl) ?_
            refine lv_if_eq (tgt := 73) hx hb dX6_isCase_32 (by decide) (fun hc_38 => ?_) (fun hc_38 => ?_)
            · have h := h.1 hc_38
              exact kx aa_26 _ _ _ hP hD hS (lv_sub hl [2] rfl) h
            · have h := h.2 hc_38
              refine lv_iload_n hx hb dX6_isCase_35 rfl (lv_at hl 1 rfl) ?_
              refine lv_aload_n hx hb dX6_isCase_36 rfl (lv_at hl 0 rfl) ?_
              refine va_get (D := (dC, dI)) (ci := 6) (v := .ref (ab 3)) (C := RX6) (T := TX6) (N := 27) hx hb hts hi_X6 hown hK hP 0 rfl rfl 5 (by decide) fl_16 (fun _ h9 => h9) rfl dX6_isCase_37 ?_
              refine lv_iload_n hx hb dX6_isCase_40 rfl (lv_at hl 3 rfl) ?_
              obtain ⟨hv_30, h⟩ := h
              refine va_iald hx hb hK hP 3 0 rfl rfl hv_30 dX6_isCase_41 ?_
              refine xq_ci (va_runS (As := [.int a_1, .int (n_ifOf aa_27.toNatClampNeg)]) (rest := []) ⟨hx, hb, hml, hown, hts⟩ (m_X6_isIn l dC dI cyI cyJ (wm_u cyI cyJ ab n_fault n_things n_kindOf n_digitOf n_follows n_ifOf n_thenOf n_listOf n_breathOf n_heardOf n_readAt n_readThings n_readFollows n_readKind n_readDigit n_readIf n_readThen n_readings n_readingIn n_readingHour n_readingOf n_breathWas n_sheetSize n_sheetLane n_sheet n_hands n_traceNow) H.size h) (va_cwS 2 hts gX6_isCase_X6_isIn rfl rfl rfl (by decide +kernel) ⟨Nat.le_of_ble_eq_true rfl, Nat.le_of_ble_eq_true rfl⟩) (xq_preS hK hP hD hN) rfl rfl hl.1 rfl (lv_room (Nat.le_of_ble_eq_true rfl)) dX6_isCase_42 ⟨Nat.le_refl _, Nat.le_refl _⟩) hD hS hA (fun rr_31 uu H locs h hP hD hS => ?_)
              have hP : va_P (dC, dI) vwCl (wm_u cyI cyJ ab n_fault n_things n_kindOf n_digitOf n_follows n_ifOf n_thenOf n_listOf n_breathOf n_heardOf n_readAt n_readThings n_readFollows n_readKind n_readDigit n_readIf n_readThen n_readings n_readingIn n_readingHour n_readingOf n_breathWas n_sheetSize n_sheetLane n_sheet n_hands n_traceNow) H := hP
              have hD : va_D A (wm_u cyI cyJ ab n_fault n_things n_kindOf n_digitOf n_follows n_ifOf n_thenOf n_listOf n_breathOf n_heardOf n_readAt n_readThings n_readFollows n_readKind n_readDigit n_readIf n_readThen n_readings n_readingIn n_readingHour n_readingOf n_breathWas n_sheetSize n_sheetLane n_sheet n_hands n_traceNow) := hD
              refine lv_if_eq (tgt := 61) hx hb dX6_isCase_45 (by decide) (fun hc_36 => ?_) (fun hc_36 => ?_)
              · have h := h.1 hc_36
                refine lv_iconst (v := (1 : Int32)) hx hb dX6_isCase_61 (by decide) ?_
                refine lv_goto (tgt := 66) hx hb dX6_isCase_62 (by decide) ?_
                refine lv_istore_n (lv' := [(2, .int (1 : Int32)), (0, .ref (ab 0)), (1, .int a_1), (3, .int aa_27)]) hx hb dX6_isCase_66 rfl hl (by decide) rfl (fun ls hl => ?_)
                refine lv_iinc (v := (aa_27 + (1 : Int32))) (lv' := [(3, .int (aa_27 + (1 : Int32))), (2, .int (1 : Int32)), (0, .ref (ab 0)), (1, .int a_1)]) hx hb dX6_isCase_67 hl (k := 3) rfl rfl (by decide) rfl (fun ls hl => ?_)
                refine lv_goto (tgt := 23) hx hb dX6_isCase_70 (by decide) ?_
                exact ih (1 : Int32) (aa_27 + (1 : Int32)) _ _ _ hP hD hS (lv_sub hl [2, 3, 1, 0] rfl) h
              · have h := h.2 hc_36
                refine lv_iload_n hx hb dX6_isCase_48 rfl (lv_at hl 1 rfl) ?_
                refine lv_aload_n hx hb dX6_isCase_49 rfl (lv_at hl 0 rfl) ?_
                refine va_get (D := (dC, dI)) (ci := 6) (v := .ref (ab 4)) (C := RX6) (T := TX6) (N := 27) hx hb hts hi_X6 hown hK hP 0 rfl rfl 6 (by decide) fl_19 (fun _ h9 => h9) rfl dX6_isCase_50 ?_
                refine lv_iload_n hx hb dX6_isCase_53 rfl (lv_at hl 3 rfl) ?_
                obtain ⟨hv_32, h⟩ := h
                refine va_iald hx hb hK hP 4 0 rfl rfl hv_32 dX6_isCase_54 ?_
                refine xq_ci (va_runS (As := [.int a_1, .int (n_thenOf aa_27.toNatClampNeg)]) (rest := []) ⟨hx, hb, hml, hown, hts⟩ (m_X6_isIn l dC dI cyI cyJ (wm_u cyI cyJ ab n_fault n_things n_kindOf n_digitOf n_follows n_ifOf n_thenOf n_listOf n_breathOf n_heardOf n_readAt n_readThings n_readFollows n_readKind n_readDigit n_readIf n_readThen n_readings n_readingIn n_readingHour n_readingOf n_breathWas n_sheetSize n_sheetLane n_sheet n_hands n_traceNow) H.size h) (va_cwS 2 hts gX6_isCase_X6_isIn rfl rfl rfl (by decide +kernel) ⟨Nat.le_of_ble_eq_true rfl, Nat.le_of_ble_eq_true rfl⟩) (xq_preS hK hP hD hN) rfl rfl hl.1 rfl (lv_room (Nat.le_of_ble_eq_true rfl)) dX6_isCase_55 ⟨Nat.le_refl _, Nat.le_refl _⟩) hD hS hA (fun rr_33 uu H locs h hP hD hS => ?_)
                have hP : va_P (dC, dI) vwCl (wm_u cyI cyJ ab n_fault n_things n_kindOf n_digitOf n_follows n_ifOf n_thenOf n_listOf n_breathOf n_heardOf n_readAt n_readThings n_readFollows n_readKind n_readDigit n_readIf n_readThen n_readings n_readingIn n_readingHour n_readingOf n_breathWas n_sheetSize n_sheetLane n_sheet n_hands n_traceNow) H := hP
                have hD : va_D A (wm_u cyI cyJ ab n_fault n_things n_kindOf n_digitOf n_follows n_ifOf n_thenOf n_listOf n_breathOf n_heardOf n_readAt n_readThings n_readFollows n_readKind n_readDigit n_readIf n_readThen n_readings n_readingIn n_readingHour n_readingOf n_breathWas n_sheetSize n_sheetLane n_sheet n_hands n_traceNow) := hD
                refine lv_if_eq (tgt := 65) hx hb dX6_isCase_58 (by decide) (fun hc_34 => ?_) (fun hc_34 => ?_)
                · have h := h.1 hc_34
                  refine lv_iconst (v := (0 : Int32)) hx hb dX6_isCase_65 (by decide) ?_
                  refine lv_istore_n (lv' := [(2, .int (0 : Int32)), (0, .ref (ab 0)), (1, .int a_1), (3, .int aa_27)]) hx hb dX6_isCase_66 rfl hl (by decide) rfl (fun ls hl => ?_)
                  refine lv_iinc (v := (aa_27 + (1 : Int32))) (lv' := [(3, .int (aa_27 + (1 : Int32))), (2, .int (0 : Int32)), (0, .ref (ab 0)), (1, .int a_1)]) hx hb dX6_isCase_67 hl (k := 3) rfl rfl (by decide) rfl (fun ls hl => ?_)
                  refine lv_goto (tgt := 23) hx hb dX6_isCase_70 (by decide) ?_
                  exact ih (0 : Int32) (aa_27 + (1 : Int32)) _ _ _ hP hD hS (lv_sub hl [2, 3, 1, 0] rfl) h
                · have h := h.2 hc_34
                  refine lv_iconst (v := (1 : Int32)) hx hb dX6_isCase_61 (by decide) ?_
                  refine lv_goto (tgt := 66) hx hb dX6_isCase_62 (by decide) ?_
                  refine lv_istore_n (lv' := [(2, .int (1 : Int32)), (0, .ref (ab 0)), (1, .int a_1), (3, .int aa_27)]) hx hb dX6_isCase_66 rfl hl (by decide) rfl (fun ls hl => ?_)
                  refine lv_iinc (v := (aa_27 + (1 : Int32))) (lv' := [(3, .int (aa_27 + (1 : Int32))), (2, .int (1 : Int32)), (0, .ref (ab 0)), (1, .int a_1)]) hx hb dX6_isCase_67 hl (k := 3) rfl rfl (by decide) rfl (fun ls hl => ?_)
                  refine lv_goto (tgt := 23) hx hb dX6_isCase_70 (by decide) ?_
                  exact ih (1 : Int32) (aa_27 + (1 : Int32)) _ _ _ hP hD hS (lv_sub hl [2, 3, 1, 0] rfl) h
      refine lp_23 _ (fun xx_28 H locs ls hP hD hS hl h => ?_) ni (0 : Int32) (0 : Int32) _ _ _ hP hD hS (lv_sub hl [2, 3, 1, 0] rfl) h
      refine lv_iload_n hx hb dX6_isCase_73 rfl (lv_at hl 0 rfl) ?_
      obtain ⟨hv_29, h⟩ := h
      exact xq_rz hQ hx hb hr hv_29 hP hK hD hS () rfl h dX6_isCase_74 hlocks
    · have h := h.2 hc_54
      refine lv_iconst (v := (1 : Int32)) hx hb dX6_isCase_15 (by decide) ?_
      refine lv_goto (tgt := 20) hx hb dX6_isCase_16 (by decide) ?_
      refine lv_istore_n (lv' := [(2, .int (1 : Int32)), (0, .ref (ab 0)), (1, .int a_1)]) hx hb dX6_isCase_20 rfl hl (by decide) rfl (fun ls hl => ?_)
      refine lv_iconst (v := (0 : Int32)) hx hb dX6_isCase_21 (by decide) ?_
      refine lv_istore_n (lv' := [(3, .int (0 : Int32)), (2, .int (1 : Int32)), (0, .ref (ab 0)), (1, .int a_1)]) hx hb dX6_isCase_22 rfl hl (by decide) rfl (fun ls hl => ?_)
      obtain ⟨ni, h⟩ := h
      have lp_23 : ∀ (kk : Int32 → Prop), (∀ (xx_42 : Int32) (H : Heap) (locs : List Loc) (ls : Array Slot), va_P (dC, dI) vwCl (wm_u cyI cyJ ab n_fault n_things n_kindOf n_digitOf n_follows n_ifOf n_thenOf n_listOf n_breathOf n_heardOf n_readAt n_readThings n_readFollows n_readKind n_readDigit n_readIf n_readThen n_readings n_readingIn n_readingHour n_readingOf n_breathWas n_sheetSize n_sheetLane n_sheet n_hands n_traceNow) H → va_D A (wm_u cyI cyJ ab n_fault n_things n_kindOf n_digitOf n_follows n_ifOf n_thenOf n_listOf n_breathOf n_heardOf n_readAt n_readThings n_readFollows n_readKind n_readDigit n_readIf n_readThen n_readings n_readingIn n_readingHour n_readingOf n_breathWas n_sheetSize n_sheetLane n_sheet n_hands n_traceNow) → va_S A s.heap H locs → lv_has ls 4 [(2, .int xx_42)] → kk xx_42 → W p l e (xq_R 2 46) s m args below meth c H locs 0 0 Q (F0 m 73 ls [])) → ∀ (ni : Nat) (aa_40 : Int32) (aa_41 : Int32) (H : Heap) (locs : List Loc) (ls : Array Slot), va_P (dC, dI) vwCl (wm_u cyI cyJ ab n_fault n_things n_kindOf n_digitOf n_follows n_ifOf n_thenOf n_listOf n_breathOf n_heardOf n_readAt n_readThings n_readFollows n_readKind n_readDigit n_readIf n_readThen n_readings n_readingIn n_readingHour n_readingOf n_breathWas n_sheetSize n_sheetLane n_sheet n_hands n_traceNow) H → va_D A (wm_u cyI cyJ ab n_fault n_things n_kindOf n_digitOf n_follows n_ifOf n_thenOf n_listOf n_breathOf n_heardOf n_readAt n_readThings n_readFollows n_readKind n_readDigit n_readIf n_readThen n_readings n_readingIn n_readingHour n_readingOf n_breathWas n_sheetSize n_sheetLane n_sheet n_hands n_traceNow) → va_S A s.heap H locs → lv_has ls 4 [(0, .ref (ab 0)), (1, .int a_1), (2, .int aa_40), (3, .int aa_41)] → w_X6_isCase_L23 a_1 n_things n_follows n_ifOf n_thenOf post kk ni aa_40 aa_41 → W p l e (xq_R 2 46) s m args below meth c H locs 0 0 Q (F0 m 23 ls []) := by
        intro kk kx ni
        induction ni with
        | zero => intros; exact False.elim (by assumption)
        | succ ni ih =>
          intro aa_40 aa_41 H locs ls hP hD hS hl h
          rw [w_X6_isCase_L23] at h
          refine lv_iload_n hx hb dX6_isCase_23 rfl (lv_at hl 3 rfl) ?_
          refine lv_aload_n hx hb dX6_isCase_24 rfl (lv_at hl 0 rfl) ?_
          refine va_get (D := (dC, dI)) (ci := 6) (v := .int n_follows) (C := RX6) (T := TX6) (N := 27) hx hb hts hi_X6 hown hK hP 0 rfl rfl 4 (by decide) fl_138 (fun _ h9 => h9) rfl dX6_isCase_25 ?_
          refine lv_icmp_ge (tgt := 73) hx hb dX6_isCase_28 (by decide) (fun hc_53 => ?_) (fun hc_53 => ?_)
          · have h := h.1 hc_53
            exact kx aa_40 _ _ _ hP hD hS (lv_sub hl [2] rfl) h
          · have h := h.2 hc_53
            refine lv_iload_n hx hb dX6_isCase_31 rfl (lv_at hl 2 rfl) ?_
            refine lv_if_eq (tgt := 73) hx hb dX6_isCase_32 (by decide) (fun hc_52 => ?_) (fun hc_52 => ?_)
            · have h := h.1 hc_52
              exact kx aa_40 _ _ _ hP hD hS (lv_sub hl [2] rfl) h
            · have h := h.2 hc_52
              refine lv_iload_n hx hb dX6_isCase_35 rfl (lv_at hl 1 rfl) ?_
              refine lv_aload_n hx hb dX6_isCase_36 rfl (lv_at hl 0 rfl) ?_
              refine va_get (D := (dC, dI)) (ci := 6) (v := .ref (ab 3)) (C := RX6) (T := TX6) (N := 27) hx hb hts hi_X6 hown hK hP 0 rfl rfl 5 (by decide) fl_16 (fun _ h9 => h9) rfl dX6_isCase_37 ?_
              refine lv_iload_n hx hb dX6_isCase_40 rfl (lv_at hl 3 rfl) ?_
              obtain ⟨hv_44, h⟩ := h
              refine va_iald hx hb hK hP 3 0 rfl rfl hv_44 dX6_isCase_41 ?_
              refine xq_ci (va_runS (As := [.int a_1, .int (n_ifOf aa_41.toNatClampNeg)]) (rest := []) ⟨hx, hb, hml, hown, hts⟩ (m_X6_isIn l dC dI cyI cyJ (wm_u cyI cyJ ab n_fault n_things n_kindOf n_digitOf n_follows n_ifOf n_thenOf n_listOf n_breathOf n_heardOf n_readAt n_readThings n_readFollows n_readKind n_readDigit n_readIf n_readThen n_readings n_readingIn n_readingHour n_readingOf n_breathWas n_sheetSize n_sheetLane n_sheet n_hands n_traceNow) H.size h) (va_cwS 2 hts gX6_isCase_X6_isIn rfl rfl rfl (by decide +kernel) ⟨Nat.le_of_ble_eq_true rfl, Nat.le_of_ble_eq_true rfl⟩) (xq_preS hK hP hD hN) rfl rfl hl.1 rfl (lv_room (Nat.le_of_ble_eq_true rfl)) dX6_isCase_42 ⟨Nat.le_refl _, Nat.le_refl _⟩) hD hS hA (fun rr_45 uu H locs h hP hD hS => ?_)
              have hP : va_P (dC, dI) vwCl (wm_u cyI cyJ ab n_fault n_things n_kindOf n_digitOf n_follows n_ifOf n_thenOf n_listOf n_breathOf n_heardOf n_readAt n_readThings n_readFollows n_readKind n_readDigit n_readIf n_readThen n_readings n_readingIn n_readingHour n_readingOf n_breathWas n_sheetSize n_sheetLane n_sheet n_hands n_traceNow) H := hP
              have hD : va_D A (wm_u cyI cyJ ab n_fault n_things n_kindOf n_digitOf n_follows n_ifOf n_thenOf n_listOf n_breathOf n_heardOf n_readAt n_readThings n_readFollows n_readKind n_readDigit n_readIf n_readThen n_readings n_readingIn n_readingHour n_readingOf n_breathWas n_sheetSize n_sheetLane n_sheet n_hands n_traceNow) := hD
              refine lv_if_eq (tgt := 61) hx hb dX6_isCase_45 (by decide) (fun hc_50 => ?_) (fun hc_50 => ?_)
              · have h := h.1 hc_50
                refine lv_iconst (v := (1 : Int32)) hx hb dX6_isCase_61 (by decide) ?_
                refine lv_goto (tgt := 66) hx hb dX6_isCase_62 (by decide) ?_
                refine lv_istore_n (lv' := [(2, .int (1 : Int32)), (0, .ref (ab 0)), (1, .int a_1), (3, .int aa_41)]) hx hb dX6_isCase_66 rfl hl (by decide) rfl (fun ls hl => ?_)
                refine lv_iinc (v := (aa_41 + (1 : Int32))) (lv' := [(3, .int (aa_41 + (1 : Int32))), (2, .int (1 : Int32)), (0, .ref (ab 0)), (1, .int a_1)]) hx hb dX6_isCase_67 hl (k := 3) rfl rfl (by decide) rfl (fun ls hl => ?_)
                refine lv_goto (tgt := 23) hx hb dX6_isCase_70 (by decide) ?_
                exact ih (1 : Int32) (aa_41 + (1 : Int32)) _ _ _ hP hD hS (lv_sub hl [2, 3, 1, 0] rfl) h
              · have h := h.2 hc_50
                refine lv_iload_n hx hb dX6_isCase_48 rfl (lv_at hl 1 rfl) ?_
                refine lv_aload_n hx hb dX6_isCase_49 rfl (lv_at hl 0 rfl) ?_
                refine va_get (D := (dC, dI)) (ci := 6) (v := .ref (ab 4)) (C := RX6) (T := TX6) (N := 27) hx hb hts hi_X6 hown hK hP 0 rfl rfl 6 (by decide) fl_19 (fun _ h9 => h9) rfl dX6_isCase_50 ?_
                refine lv_iload_n hx hb dX6_isCase_53 rfl (lv_at hl 3 rfl) ?_
                obtain ⟨hv_46, h⟩ := h
                refine va_iald hx hb hK hP 4 0 rfl rfl hv_46 dX6_isCase_54 ?_
                refine xq_ci (va_runS (As := [.int a_1, .int (n_thenOf aa_41.toNatClampNeg)]) (rest := []) ⟨hx, hb, hml, hown, hts⟩ (m_X6_isIn l dC dI cyI cyJ (wm_u cyI cyJ ab n_fault n_things n_kindOf n_digitOf n_follows n_ifOf n_thenOf n_listOf n_breathOf n_heardOf n_readAt n_readThings n_readFollows n_readKind n_readDigit n_readIf n_readThen n_readings n_readingIn n_readingHour n_readingOf n_breathWas n_sheetSize n_sheetLane n_sheet n_hands n_traceNow) H.size h) (va_cwS 2 hts gX6_isCase_X6_isIn rfl rfl rfl (by decide +kernel) ⟨Nat.le_of_ble_eq_true rfl, Nat.le_of_ble_eq_true rfl⟩) (xq_preS hK hP hD hN) rfl rfl hl.1 rfl (lv_room (Nat.le_of_ble_eq_true rfl)) dX6_isCase_55 ⟨Nat.le_refl _, Nat.le_refl _⟩) hD hS hA (fun rr_47 uu H locs h hP hD hS => ?_)
                have hP : va_P (dC, dI) vwCl (wm_u cyI cyJ ab n_fault n_things n_kindOf n_digitOf n_follows n_ifOf n_thenOf n_listOf n_breathOf n_heardOf n_readAt n_readThings n_readFollows n_readKind n_readDigit n_readIf n_readThen n_readings n_readingIn n_readingHour n_readingOf n_breathWas n_sheetSize n_sheetLane n_sheet n_hands n_traceNow) H := hP
                have hD : va_D A (wm_u cyI cyJ ab n_fault n_things n_kindOf n_digitOf n_follows n_ifOf n_thenOf n_listOf n_breathOf n_heardOf n_readAt n_readThings n_readFollows n_readKind n_readDigit n_readIf n_readThen n_readings n_readingIn n_readingHour n_readingOf n_breathWas n_sheetSize n_sheetLane n_sheet n_hands n_traceNow) := hD
                refine lv_if_eq (tgt := 65) hx hb dX6_isCase_58 (by decide) (fun hc_48 => ?_) (fun hc_48 => ?_)
                · have h := h.1 hc_48
                  refine lv_iconst (v := (0 : Int32)) hx hb dX6_isCase_65 (by decide) ?_
                  refine lv_istore_n (lv' := [(2, .int (0 : Int32)), (0, .ref (ab 0)), (1, .int a_1), (3, .int aa_41)]) hx hb dX6_isCase_66 rfl hl (by decide) rfl (fun ls hl => ?_)
                  refine lv_iinc (v := (aa_41 + (1 : Int32))) (lv' := [(3, .int (aa_41 + (1 : Int32))), (2, .int (0 : Int32)), (0, .ref (ab 0)), (1, .int a_1)]) hx hb dX6_isCase_67 hl (k := 3) rfl rfl (by decide) rfl (fun ls hl => ?_)
                  refine lv_goto (tgt := 23) hx hb dX6_isCase_70 (by decide) ?_
                  exact ih (0 : Int32) (aa_41 + (1 : Int32)) _ _ _ hP hD hS (lv_sub hl [2, 3, 1, 0] rfl) h
                · have h := h.2 hc_48
                  refine lv_iconst (v := (1 : Int32)) hx hb dX6_isCase_61 (by decide) ?_
                  refine lv_goto (tgt := 66) hx hb dX6_isCase_62 (by decide) ?_
                  refine lv_istore_n (lv' := [(2, .int (1 : Int32)), (0, .ref (ab 0)), (1, .int a_1), (3, .int aa_41)]) hx hb dX6_isCase_66 rfl hl (by decide) rfl (fun ls hl => ?_)
                  refine lv_iinc (v := (aa_41 + (1 : Int32))) (lv' := [(3, .int (aa_41 + (1 : Int32))), (2, .int (1 : Int32)), (0, .ref (ab 0)), (1, .int a_1)]) hx hb dX6_isCase_67 hl (k := 3) rfl rfl (by decide) rfl (fun ls hl => ?_)
                  refine lv_goto (tgt := 23) hx hb dX6_isCase_70 (by decide) ?_
                  exact ih (1 : Int32) (aa_41 + (1 : Int32)) _ _ _ hP hD hS (lv_sub hl [2, 3, 1, 0] rfl) h
      refine lp_23 _ (fun xx_42 H locs ls hP hD hS hl h => ?_) ni (1 : Int32) (0 : Int32) _ _ _ hP hD hS (lv_sub hl [2, 3, 1, 0] rfl) h
      refine lv_iload_n hx hb dX6_isCase_73 rfl (lv_at hl 0 rfl) ?_
      obtain ⟨hv_43, h⟩ := h
      exact xq_rz hQ hx hb hr hv_43 hP hK hD hS () rfl h dX6_isCase_74 hlocks
def w_X6_partsBy_L22 (a_1 : Int32) (a_2 : Int32) (a_3 : Int32) (n_things : Int32) (n_kindOf : Nat → Int32) (n_follows : Int32) (n_ifOf : Nat → Int32) (n_thenOf : Nat → Int32) (n_listOf : Nat → Int32) (n_breathOf : Nat → Int32) (post : Int32 → Prop) (kk : Int32 → Prop) : Nat → Int32 → Int32 → Prop
  | 0, _, _ => False
  | f_22 + 1, a_4, a_5 => (a_3 ≤ a_5 → (kk a_4)) ∧ (¬ a_3 ≤ a_5 → ((a_4 = 0 → (kk a_4)) ∧ (¬ a_4 = 0 → (w_X6_isCase n_things n_follows n_ifOf n_thenOf a_5 (fun (rr_3 : Int32) => (rr_3 = 0 → (w_X6_partsBy_L22 a_1 a_2 a_3 n_things n_kindOf n_follows n_ifOf n_thenOf n_listOf n_breathOf post kk f_22 (1 : Int32) (a_5 + (1 : Int32)))) ∧ (¬ rr_3 = 0 → (w_X6_areAlike n_things n_kindOf n_listOf n_breathOf a_3 a_5 a_1 (fun (rr_4 : Int32) => (¬ rr_4 = 0 → (w_X6_partsBy_L22 a_1 a_2 a_3 n_things n_kindOf n_follows n_ifOf n_thenOf n_listOf n_breathOf post kk f_22 (0 : Int32) (a_5 + (1 : Int32)))) ∧ (rr_4 = 0 → (w_X6_partsBy_L22 a_1 a_2 a_3 n_things n_kindOf n_follows n_ifOf n_thenOf n_listOf n_breathOf post kk f_22 (1 : Int32) (a_5 + (1 : Int32))))))))))))
def w_X6_partsBy_L4 (a_1 : Int32) (n_things : Int32) (n_kindOf : Nat → Int32) (n_follows : Int32) (n_ifOf : Nat → Int32) (n_thenOf : Nat → Int32) (n_listOf : Nat → Int32) (n_breathOf : Nat → Int32) (post : Int32 → Prop) (kk : Int32 → Prop) : Nat → Int32 → Int32 → Prop
  | 0, _, _ => False
  | f_4 + 1, a_2, a_3 => w_X6_all n_things (fun (rr_1 : Int32) => (rr_1 < a_3 → (kk a_2)) ∧ (¬ rr_1 < a_3 → (w_X6_isCase n_things n_follows n_ifOf n_thenOf a_3 (fun (rr_2 : Int32) => ∃ e_22, w_X6_partsBy_L22 a_1 a_2 a_3 n_things n_kindOf n_follows n_ifOf n_thenOf n_listOf n_breathOf post (fun (xx_5 : Int32) => (xx_5 = 0 → (w_X6_partsBy_L4 a_1 n_things n_kindOf n_follows n_ifOf n_thenOf n_listOf n_breathOf post kk f_4 (a_2 + (0 : Int32)) (a_3 + (1 : Int32)))) ∧ (¬ xx_5 = 0 → (w_X6_partsBy_L4 a_1 n_things n_kindOf n_follows n_ifOf n_thenOf n_listOf n_breathOf post kk f_4 (a_2 + (1 : Int32)) (a_3 + (1 : Int32))))) e_22 rr_2 (0 : Int32)))))
def w_X6_partsBy (n_things : Int32) (n_kindOf : Nat → Int32) (n_follows : Int32) (n_ifOf : Nat → Int32) (n_thenOf : Nat → Int32) (n_listOf : Nat → Int32) (n_breathOf : Nat → Int32) (a_1 : Int32) (post : Int32 → Prop) : Prop := ∃ e_4, w_X6_partsBy_L4 a_1 n_things n_kindOf n_follows n_ifOf n_thenOf n_listOf n_breathOf post (fun (xx_20 : Int32) => post xx_20) e_4 (0 : Int32) (0 : Int32)
set_option maxHeartbeats 4000000 in
set_option maxRecDepth 100000 in
theorem m_X6_partsBy (l : Launch) (dC : Nat → ClassId) (dI : Nat → Nat → Nat) (cyI cyJ : ClassId) (ab : Nat → Nat) (sz : Nat) {n_fault : Int32} {n_things : Int32} {n_kindOf : Nat → Int32} {n_digitOf : Nat → Int32} {n_follows : Int32} {n_ifOf : Nat → Int32} {n_thenOf : Nat → Int32} {n_listOf : Nat → Int32} {n_breathOf : Nat → Int32} {n_heardOf : Nat → Int32} {n_readAt : Int32} {n_readThings : Int32} {n_readFollows : Int32} {n_readKind : Nat → Int32} {n_readDigit : Nat → Int32} {n_readIf : Nat → Int32} {n_readThen : Nat → Int32} {n_readings : Int32} {n_readingIn : Nat → Int32} {n_readingHour : Nat → Int32} {n_readingOf : Nat → Int32} {n_breathWas : Nat → Int32} {n_sheetSize : Nat → Int32} {n_sheetLane : Nat → Int32} {n_sheet : Nat → Int32} {n_hands : Nat → Int32} {n_traceNow : Int32} {a_1 : Int32} {post : Int32 → Prop} (h : w_X6_partsBy n_things n_kindOf n_follows n_ifOf n_thenOf n_listOf n_breathOf a_1 post) : Met l yX6_partsBy wsX6_partsBy (xq_R 4 97) (va_Pc [.ref (ab 0), .int a_1] (xq_P (dC, dI) [(cyI, .int), (cyJ, .long)] (wm_u cyI cyJ ab n_fault n_things n_kindOf n_digitOf n_follows n_ifOf n_thenOf n_listOf n_breathOf n_heardOf n_readAt n_readThings n_readFollows n_readKind n_readDigit n_readIf n_readThen n_readings n_readingIn n_readingHour n_readingOf n_breathWas n_sheetSize n_sheetLane n_sheet n_hands n_traceNow) sz)) (va_Qi (fun (rr : Int32) (uu : Unit) => post rr ) (fun (uu : Unit) => xq_B (dC, dI) [(cyI, .int), (cyJ, .long)] (va_A (wm_u cyI cyJ ab n_fault n_things n_kindOf n_digitOf n_follows n_ifOf n_thenOf n_listOf n_breathOf n_heardOf n_readAt n_readThings n_readFollows n_readKind n_readDigit n_readIf n_readThen n_readings n_readingIn n_readingHour n_readingOf n_breathWas n_sheetSize n_sheetLane n_sheet n_hands n_traceNow) sz) (wm_u cyI cyJ ab n_fault n_things n_kindOf n_digitOf n_follows n_ifOf n_thenOf n_listOf n_breathOf n_heardOf n_readAt n_readThings n_readFollows n_readKind n_readDigit n_readIf n_readThen n_readings n_readingIn n_readingHour n_readingOf n_breathWas n_sheetSize n_sheetLane n_sheet n_hands n_traceNow)) (va_A (wm_u cyI cyJ ab n_fault n_things n_kindOf n_digitOf n_follows n_ifOf n_thenOf n_listOf n_breathOf n_heardOf n_readAt n_readThings n_readFollows n_readKind n_readDigit n_readIf n_readThen n_readings n_readingIn n_readingHour n_readingOf n_breathWas n_sheetSize n_sheetLane n_sheet n_hands n_traceNow) sz)) 0 0 (va_A (wm_u cyI cyJ ab n_fault n_things n_kindOf n_digitOf n_follows n_ifOf n_thenOf n_listOf n_breathOf n_heardOf n_readAt n_readThings n_readFollows n_readKind n_readDigit n_readIf n_readThen n_readings n_readingIn n_readingHour n_readingOf n_breathWas n_sheetSize n_sheetLane n_sheet n_hands n_traceNow) sz) := by
  refine xq_M (cc := cX6_partsBy) (maxL := 6) (ret := (some .int)) (QA := fun A => va_Qi (fun (rr : Int32) (uu : Unit) => post rr ) (fun (uu : Unit) => xq_B (dC, dI) [(cyI, .int), (cyJ, .long)] A (wm_u cyI cyJ ab n_fault n_things n_kindOf n_digitOf n_follows n_ifOf n_thenOf n_listOf n_breathOf n_heardOf n_readAt n_readThings n_readFollows n_readKind n_readDigit n_readIf n_readThen n_readings n_readingIn n_readingHour n_readingOf n_breathWas n_sheetSize n_sheetLane n_sheet n_hands n_traceNow)) A) (by decide) rfl (Nat.le_of_ble_eq_true rfl) ?_
  intro p e s m args below meth c A ls Q hQ hx hb hr hml hts hown hlocks hsz hP hK hD hA hS hN hl
  subst hsz
  have hl : lv_has ls 6 [(0, .ref (ab 0)), (1, .int a_1)] := hl
  unfold w_X6_partsBy at h
  refine lv_iconst (v := (0 : Int32)) hx hb dX6_partsBy_0 (by decide) ?_
  refine lv_istore_n (lv' := [(2, .int (0 : Int32)), (0, .ref (ab 0)), (1, .int a_1)]) hx hb dX6_partsBy_1 rfl hl (by decide) rfl (fun ls hl => ?_)
  refine lv_iconst (v := (0 : Int32)) hx hb dX6_partsBy_2 (by decide) ?_
  refine lv_istore_n (lv' := [(3, .int (0 : Int32)), (2, .int (0 : Int32)), (0, .ref (ab 0)), (1, .int a_1)]) hx hb dX6_partsBy_3 rfl hl (by decide) rfl (fun ls hl => ?_)
  obtain ⟨ni, h⟩ := h
  have lp_4 : ∀ (kk : Int32 → Prop), (∀ (xx_20 : Int32) (H : Heap) (locs : List Loc) (ls : Array Slot), va_P (dC, dI) vwCl (wm_u cyI cyJ ab n_fault n_things n_kindOf n_digitOf n_follows n_ifOf n_thenOf n_listOf n_breathOf n_heardOf n_readAt n_readThings n_readFollows n_readKind n_readDigit n_readIf n_readThen n_readings n_readingIn n_readingHour n_readingOf n_breathWas n_sheetSize n_sheetLane n_sheet n_hands n_traceNow) H → va_D A (wm_u cyI cyJ ab n_fault n_things n_kindOf n_digitOf n_follows n_ifOf n_thenOf n_listOf n_breathOf n_heardOf n_readAt n_readThings n_readFollows n_readKind n_readDigit n_readIf n_readThen n_readings n_readingIn n_readingHour n_readingOf n_breathWas n_sheetSize n_sheetLane n_sheet n_hands n_traceNow) → va_S A s.heap H locs → lv_has ls 6 [(2, .int xx_20)] → kk xx_20 → W p l e (xq_R 4 97) s m args below meth c H locs 0 0 Q (F0 m 85 ls [])) → ∀ (ni : Nat) (aa_18 : Int32) (aa_19 : Int32) (H : Heap) (locs : List Loc) (ls : Array Slot), va_P (dC, dI) vwCl (wm_u cyI cyJ ab n_fault n_things n_kindOf n_digitOf n_follows n_ifOf n_thenOf n_listOf n_breathOf n_heardOf n_readAt n_readThings n_readFollows n_readKind n_readDigit n_readIf n_readThen n_readings n_readingIn n_readingHour n_readingOf n_breathWas n_sheetSize n_sheetLane n_sheet n_hands n_traceNow) H → va_D A (wm_u cyI cyJ ab n_fault n_things n_kindOf n_digitOf n_follows n_ifOf n_thenOf n_listOf n_breathOf n_heardOf n_readAt n_readThings n_readFollows n_readKind n_readDigit n_readIf n_readThen n_readings n_readingIn n_readingHour n_readingOf n_breathWas n_sheetSize n_sheetLane n_sheet n_hands n_traceNow) → va_S A s.heap H locs → lv_has ls 6 [(0, .ref (ab 0)), (1, .int a_1), (2, .int aa_18), (3, .int aa_19)] → w_X6_partsBy_L4 a_1 n_things n_kindOf n_follows n_ifOf n_thenOf n_listOf n_breathOf post kk ni aa_18 aa_19 → W p l e (xq_R 4 97) s m args below meth c H locs 0 0 Q (F0 m 4 ls []) := by
    intro kk kx ni
    induction ni with
    | zero => intros; exact False.elim (by assumption)
    | succ ni ih =>
      intro aa_18 aa_19 H locs ls hP hD hS hl h
      rw [w_X6_partsBy_L4] at h
      refine lv_iload_n hx hb dX6_partsBy_4 rfl (lv_at hl 3 rfl) ?_
      refine lv_aload_n hx hb dX6_partsBy_5 rfl (lv_at hl 0 rfl) ?_
      refine xq_ci (va_runV (As := []) (rest := [.int aa_19]) ⟨hx, hb, hml, hown, hts⟩ (m_X6_all l dC dI cyI cyJ ab H.size h) (cwV 0 hts gX6_partsBy_X6_all rfl rfl rfl (by decide +kernel) ⟨Nat.le_of_ble_eq_true rfl, Nat.le_of_ble_eq_true rfl⟩) (xq_preV hK hP hD hN (ci := 6) (q0 := 0) rfl rfl) rfl rfl hl.1 rfl (lv_room (Nat.le_of_ble_eq_true rfl)) dX6_partsBy_6 ⟨Nat.le_refl _, Nat.le_refl _⟩) hD hS hA (fun rr_21 uu H locs h hP hD hS => ?_)
      have hP : va_P (dC, dI) vwCl (wm_u cyI cyJ ab n_fault n_things n_kindOf n_digitOf n_follows n_ifOf n_thenOf n_listOf n_breathOf n_heardOf n_readAt n_readThings n_readFollows n_readKind n_readDigit n_readIf n_readThen n_readings n_readingIn n_readingHour n_readingOf n_breathWas n_sheetSize n_sheetLane n_sheet n_hands n_traceNow) H := hP
      have hD : va_D A (wm_u cyI cyJ ab n_fault n_things n_kindOf n_digitOf n_follows n_ifOf n_thenOf n_listOf n_breathOf n_heardOf n_readAt n_readThings n_readFollows n_readKind n_readDigit n_readIf n_readThen n_readings n_readingIn n_readingHour n_readingOf n_breathWas n_sheetSize n_sheetLane n_sheet n_hands n_traceNow) := hD
      refine lv_icmp_gt (tgt := 85) hx hb dX6_partsBy_9 (by decide) (fun hc_36 => ?_) (fun hc_36 => ?_)
      · have h := h.1 hc_36
        exact kx aa_18 _ _ _ hP hD hS (lv_sub hl [2] rfl) h
      · have h := h.2 hc_36
        refine lv_aload_n hx hb dX6_partsBy_12 rfl (lv_at hl 0 rfl) ?_
        refine lv_iload_n hx hb dX6_partsBy_13 rfl (lv_at hl 3 rfl) ?_
        refine xq_ci (va_runV (As := [.int aa_19]) (rest := []) ⟨hx, hb, hml, hown, hts⟩ (m_X6_isCase l dC dI cyI cyJ ab H.size h) (cwV 1 hts gX6_partsBy_X6_isCase rfl rfl rfl (by decide +kernel) ⟨Nat.le_of_ble_eq_true rfl, Nat.le_of_ble_eq_true rfl⟩) (xq_preV hK hP hD hN (ci := 6) (q0 := 0) rfl rfl) rfl rfl hl.1 rfl (lv_room (Nat.le_of_ble_eq_true rfl)) dX6_partsBy_14 ⟨Nat.le_refl _, Nat.le_refl _⟩) hD hS hA (fun rr_22 uu H locs h hP hD hS => ?_)
        have hP : va_P (dC, dI) vwCl (wm_u cyI cyJ ab n_fault n_things n_kindOf n_digitOf n_follows n_ifOf n_thenOf n_listOf n_breathOf n_heardOf n_readAt n_readThings n_readFollows n_readKind n_readDigit n_readIf n_readThen n_readings n_readingIn n_readingHour n_readingOf n_breathWas n_sheetSize n_sheetLane n_sheet n_hands n_traceNow) H := hP
        have hD : va_D A (wm_u cyI cyJ ab n_fault n_things n_kindOf n_digitOf n_follows n_ifOf n_thenOf n_listOf n_breathOf n_heardOf n_readAt n_readThings n_readFollows n_readKind n_readDigit n_readIf n_readThen n_readings n_readingIn n_readingHour n_readingOf n_breathWas n_sheetSize n_sheetLane n_sheet n_hands n_traceNow) := hD
        refine lv_istore (lv' := [(4, .int rr_22), (0, .ref (ab 0)), (1, .int a_1), (2, .int aa_18), (3, .int aa_19)]) hx hb dX6_partsBy_17 hl (by decide) rfl (fun ls hl => ?_)
        refine lv_iconst (v := (0 : Int32)) hx hb dX6_partsBy_19 (by decide) ?_
        refine lv_istore (lv' := [(5, .int (0 : Int32)), (4, .int rr_22), (0, .ref (ab 0)), (1, .int a_1), (2, .int aa_18), (3, .int aa_19)]) hx hb dX6_partsBy_20 hl (by decide) rfl (fun ls hl => ?_)
        obtain ⟨ni, h⟩ := h
        have lp_22 : ∀ (kk : Int32 → Prop), (∀ (xx_25 : Int32) (H : Heap) (locs : List Loc) (ls : Array Slot), va_P (dC, dI) vwCl (wm_u cyI cyJ ab n_fault n_things n_kindOf n_digitOf n_follows n_ifOf n_thenOf n_listOf n_breathOf n_heardOf n_readAt n_readThings n_readFollows n_readKind n_readDigit n_readIf n_readThen n_readings n_readingIn n_readingHour n_readingOf n_breathWas n_sheetSize n_sheetLane n_sheet n_hands n_traceNow) H → va_D A (wm_u cyI cyJ ab n_fault n_things n_kindOf n_digitOf n_follows n_ifOf n_thenOf n_listOf n_breathOf n_heardOf n_readAt n_readThings n_readFollows n_readKind n_readDigit n_readIf n_readThen n_readings n_readingIn n_readingHour n_readingOf n_breathWas n_sheetSize n_sheetLane n_sheet n_hands n_traceNow) → va_S A s.heap H locs → lv_has ls 6 [(0, .ref (ab 0)), (1, .int a_1), (2, .int aa_18), (3, .int aa_19), (4, .int xx_25)] → kk xx_25 → W p l e (xq_R 4 97) s m args below meth c H locs 0 0 Q (F0 m 66 ls [])) → ∀ (ni : Nat) (aa_23 : Int32) (aa_24 : Int32) (H : Heap) (locs : List Loc) (ls : Array Slot), va_P (dC, dI) vwCl (wm_u cyI cyJ ab n_fault n_things n_kindOf n_digitOf n_follows n_ifOf n_thenOf n_listOf n_breathOf n_heardOf n_readAt n_readThings n_readFollows n_readKind n_readDigit n_readIf n_readThen n_readings n_readingIn n_readingHour n_readingOf n_breathWas n_sheetSize n_sheetLane n_sheet n_hands n_traceNow) H → va_D A (wm_u cyI cyJ ab n_fault n_things n_kindOf n_digitOf n_follows n_ifOf n_thenOf n_listOf n_breathOf n_heardOf n_readAt n_readThings n_readFollows n_readKind n_readDigit n_readIf n_readThen n_readings n_readingIn n_readingHour n_readingOf n_breathWas n_sheetSize n_sheetLane n_sheet n_hands n_traceNow) → va_S A s.heap H locs → lv_has ls 6 [(0, .ref (ab 0)), (1, .int a_1), (2, .int aa_18), (3, .int aa_19), (4, .int aa_23), (5, .int aa_24)] → w_X6_partsBy_L22 a_1 aa_18 aa_19 n_things n_kindOf n_follows n_ifOf n_thenOf n_listOf n_breathOf post kk ni aa_23 aa_24 → W p l e (xq_R 4 97) s m args below meth c H locs 0 0 Q (F0 m 22 ls []) := by
          intro kk kx ni
          induction ni with
          | zero => intros; exact False.elim (by assumption)
          | succ ni ih =>
            intro aa_23 aa_24 H locs ls hP hD hS hl h
            rw [w_X6_partsBy_L22] at h
            refine lv_iload hx hb dX6_partsBy_22 (lv_at hl 5 rfl) ?_
            refine lv_iload_n hx hb dX6_partsBy_24 rfl (lv_at hl 3 rfl) ?_
            refine lv_icmp_ge (tgt := 66) hx hb dX6_partsBy_25 (by decide) (fun hc_34 => ?_) (fun hc_34 => ?_)
            · have h := h.1 hc_34
              exact kx aa_23 _ _ _ hP hD hS (lv_sub hl [0, 1, 2, 3, 4] rfl) h
            · have h := h.2 hc_34
              refine lv_iload hx hb dX6_partsBy_28 (lv_at hl 4 rfl) ?_
              refine lv_if_eq (tgt := 66) hx hb dX6_partsBy_30 (by decide) (fun hc_33 => ?_) (fun hc_33 => ?_)
              · have h := h.1 hc_33
                exact kx aa_23 _ _ _ hP hD hS (lv_sub hl [0, 1, 2, 3, 4] rfl) h
              · have h := h.2 hc_33
                refine lv_aload_n hx hb dX6_partsBy_33 rfl (lv_at hl 0 rfl) ?_
                refine lv_iload hx hb dX6_partsBy_34 (lv_at hl 5 rfl) ?_
                refine xq_ci (va_runV (As := [.int aa_24]) (rest := []) ⟨hx, hb, hml, hown, hts⟩ (m_X6_isCase l dC dI cyI cyJ ab H.size h) (cwV 1 hts gX6_partsBy_X6_isCase rfl rfl rfl (by decide +kernel) ⟨Nat.le_of_ble_eq_true rfl, Nat.le_of_ble_eq_true rfl⟩) (xq_preV hK hP hD hN (ci := 6) (q0 := 0) rfl rfl) rfl rfl hl.1 rfl (lv_room (Nat.le_of_ble_eq_true rfl)) dX6_partsBy_36 ⟨Nat.le_refl _, Nat.le_refl _⟩) hD hS hA (fun rr_27 uu H locs h hP hD hS => ?_)
                have hP : va_P (dC, dI) vwCl (wm_u cyI cyJ ab n_fault n_things n_kindOf n_digitOf n_follows n_ifOf n_thenOf n_listOf n_breathOf n_heardOf n_readAt n_readThings n_readFollows n_readKind n_readDigit n_readIf n_readThen n_readings n_readingIn n_readingHour n_readingOf n_breathWas n_sheetSize n_sheetLane n_sheet n_hands n_traceNow) H := hP
                have hD : va_D A (wm_u cyI cyJ ab n_fault n_things n_kindOf n_digitOf n_follows n_ifOf n_thenOf n_listOf n_breathOf n_heardOf n_readAt n_readThings n_readFollows n_readKind n_readDigit n_readIf n_readThen n_readings n_readingIn n_readingHour n_readingOf n_breathWas n_sheetSize n_sheetLane n_sheet n_hands n_traceNow) := hD
                refine lv_if_eq (tgt := 53) hx hb dX6_partsBy_39 (by decide) (fun hc_31 => ?_) (fun hc_31 => ?_)
                · have h := h.1 hc_31
                  refine lv_iconst (v := (1 : Int32)) hx hb dX6_partsBy_53 (by decide) ?_
                  refine lv_goto (tgt := 58) hx hb dX6_partsBy_54 (by decide) ?_
                  refine lv_istore (lv' := [(4, .int (1 : Int32)), (0, .ref (ab 0)), (1, .int a_1), (2, .int aa_18), (3, .int aa_19), (5, .int aa_24)]) hx hb dX6_partsBy_58 hl (by decide) rfl (fun ls hl => ?_)
                  refine lv_iinc (v := (aa_24 + (1 : Int32))) (lv' := [(5, .int (aa_24 + (1 : Int32))), (4, .int (1 : Int32)), (0, .ref (ab 0)), (1, .int a_1), (2, .int aa_18), (3, .int aa_19)]) hx hb dX6_partsBy_60 hl (k := 5) rfl rfl (by decide) rfl (fun ls hl => ?_)
                  refine lv_goto (tgt := 22) hx hb dX6_partsBy_63 (by decide) ?_
                  exact ih (1 : Int32) (aa_24 + (1 : Int32)) _ _ _ hP hD hS (lv_sub hl [2, 3, 4, 5, 1, 0] rfl) h
                · have h := h.2 hc_31
                  refine lv_aload_n hx hb dX6_partsBy_42 rfl (lv_at hl 0 rfl) ?_
                  refine lv_iload_n hx hb dX6_partsBy_43 rfl (lv_at hl 3 rfl) ?_
                  refine lv_iload hx hb dX6_partsBy_44 (lv_at hl 5 rfl) ?_
                  refine lv_iload_n hx hb dX6_partsBy_46 rfl (lv_at hl 1 rfl) ?_
                  refine xq_ci (va_runV (As := [.int aa_19, .int aa_24, .int a_1]) (rest := []) ⟨hx, hb, hml, hown, hts⟩ (m_X6_areAlike l dC dI cyI cyJ ab H.size h) (cwV 3 hts gX6_partsBy_X6_areAlike rfl rfl rfl (by decide +kernel) ⟨Nat.le_of_ble_eq_true rfl, Nat.le_of_ble_eq_true rfl⟩) (xq_preV hK hP hD hN (ci := 6) (q0 := 0) rfl rfl) rfl rfl hl.1 rfl (lv_room (Nat.le_of_ble_eq_true rfl)) dX6_partsBy_47 ⟨Nat.le_refl _, Nat.le_refl _⟩) hD hS hA (fun rr_28 uu H locs h hP hD hS => ?_)
                  have hP : va_P (dC, dI) vwCl (wm_u cyI cyJ ab n_fault n_things n_kindOf n_digitOf n_follows n_ifOf n_thenOf n_listOf n_breathOf n_heardOf n_readAt n_readThings n_readFollows n_readKind n_readDigit n_readIf n_readThen n_readings n_readingIn n_readingHour n_readingOf n_breathWas n_sheetSize n_sheetLane n_sheet n_hands n_traceNow) H := hP
                  have hD : va_D A (wm_u cyI cyJ ab n_fault n_things n_kindOf n_digitOf n_follows n_ifOf n_thenOf n_listOf n_breathOf n_heardOf n_readAt n_readThings n_readFollows n_readKind n_readDigit n_readIf n_readThen n_readings n_readingIn n_readingHour n_readingOf n_breathWas n_sheetSize n_sheetLane n_sheet n_hands n_traceNow) := hD
                  refine lv_if_ne (tgt := 57) hx hb dX6_partsBy_50 (by decide) (fun hc_29 => ?_) (fun hc_29 => ?_)
                  · have h := h.1 hc_29
                    refine lv_iconst (v := (0 : Int32)) hx hb dX6_partsBy_57 (by decide) ?_
                    refine lv_istore (lv' := [(4, .int (0 : Int32)), (0, .ref (ab 0)), (1, .int a_1), (2, .int aa_18), (3, .int aa_19), (5, .int aa_24)]) hx hb dX6_partsBy_58 hl (by decide) rfl (fun ls hl => ?_)
                    refine lv_iinc (v := (aa_24 + (1 : Int32))) (lv' := [(5, .int (aa_24 + (1 : Int32))), (4, .int (0 : Int32)), (0, .ref (ab 0)), (1, .int a_1), (2, .int aa_18), (3, .int aa_19)]) hx hb dX6_partsBy_60 hl (k := 5) rfl rfl (by decide) rfl (fun ls hl => ?_)
                    refine lv_goto (tgt := 22) hx hb dX6_partsBy_63 (by decide) ?_
                    exact ih (0 : Int32) (aa_24 + (1 : Int32)) _ _ _ hP hD hS (lv_sub hl [2, 3, 4, 5, 1, 0] rfl) h
                  · have h := h.2 hc_29
                    refine lv_iconst (v := (1 : Int32)) hx hb dX6_partsBy_53 (by decide) ?_
                    refine lv_goto (tgt := 58) hx hb dX6_partsBy_54 (by decide) ?_
                    refine lv_istore (lv' := [(4, .int (1 : Int32)), (0, .ref (ab 0)), (1, .int a_1), (2, .int aa_18), (3, .int aa_19), (5, .int aa_24)]) hx hb dX6_partsBy_58 hl (by decide) rfl (fun ls hl => ?_)
                    refine lv_iinc (v := (aa_24 + (1 : Int32))) (lv' := [(5, .int (aa_24 + (1 : Int32))), (4, .int (1 : Int32)), (0, .ref (ab 0)), (1, .int a_1), (2, .int aa_18), (3, .int aa_19)]) hx hb dX6_partsBy_60 hl (k := 5) rfl rfl (by decide) rfl (fun ls hl => ?_)
                    refine lv_goto (tgt := 22) hx hb dX6_partsBy_63 (by decide) ?_
                    exact ih (1 : Int32) (aa_24 + (1 : Int32)) _ _ _ hP hD hS (lv_sub hl [2, 3, 4, 5, 1, 0] rfl) h
        refine lp_22 _ (fun xx_25 H locs ls hP hD hS hl h => ?_) ni rr_22 (0 : Int32) _ _ _ hP hD hS (lv_sub hl [2, 3, 4, 5, 1, 0] rfl) h
        refine lv_iload_n hx hb dX6_partsBy_66 rfl (lv_at hl 2 rfl) ?_
        refine lv_iload hx hb dX6_partsBy_67 (lv_at hl 4 rfl) ?_
        refine lv_if_eq (tgt := 76) hx hb dX6_partsBy_69 (by decide) (fun hc_26 => ?_) (fun hc_26 => ?_)
        · have h := h.1 hc_26
          refine lv_iconst (v := (0 : Int32)) hx hb dX6_partsBy_76 (by decide) ?_
          refine lv_iadd hx hb dX6_partsBy_77 ?_
          refine lv_istore_n (lv' := [(2, .int (aa_18 + (0 : Int32))), (0, .ref (ab 0)), (1, .int a_1), (3, .int aa_19), (4, .int xx_25)]) hx hb dX6_partsBy_78 rfl hl (by decide) rfl (fun ls hl => ?_)
          refine lv_iinc (v := (aa_19 + (1 : Int32))) (lv' := [(3, .int (aa_19 + (1 : Int32))), (2, .int (aa_18 + (0 : Int32))), (0, .ref (ab 0)), (1, .int a_1), (4, .int xx_25)]) hx hb dX6_partsBy_79 hl (k := 3) rfl rfl (by decide) rfl (fun ls hl => ?_)
          refine lv_goto (tgt := 4) hx hb dX6_partsBy_82 (by decide) ?_
          exact ih (aa_18 + (0 : Int32)) (aa_19 + (1 : Int32)) _ _ _ hP hD hS (lv_sub hl [2, 3, 1, 0] rfl) h
        · have h := h.2 hc_26
          refine lv_iconst (v := (1 : Int32)) hx hb dX6_partsBy_72 (by decide) ?_
          refine lv_goto (tgt := 77) hx hb dX6_partsBy_73 (by decide) ?_
          refine lv_iadd hx hb dX6_partsBy_77 ?_
          refine lv_istore_n (lv' := [(2, .int (aa_18 + (1 : Int32))), (0, .ref (ab 0)), (1, .int a_1), (3, .int aa_19), (4, .int xx_25)]) hx hb dX6_partsBy_78 rfl hl (by decide) rfl (fun ls hl => ?_)
          refine lv_iinc (v := (aa_19 + (1 : Int32))) (lv' := [(3, .int (aa_19 + (1 : Int32))), (2, .int (aa_18 + (1 : Int32))), (0, .ref (ab 0)), (1, .int a_1), (4, .int xx_25)]) hx hb dX6_partsBy_79 hl (k := 3) rfl rfl (by decide) rfl (fun ls hl => ?_)
          refine lv_goto (tgt := 4) hx hb dX6_partsBy_82 (by decide) ?_
          exact ih (aa_18 + (1 : Int32)) (aa_19 + (1 : Int32)) _ _ _ hP hD hS (lv_sub hl [2, 3, 1, 0] rfl) h
  refine lp_4 _ (fun xx_20 H locs ls hP hD hS hl h => ?_) ni (0 : Int32) (0 : Int32) _ _ _ hP hD hS (lv_sub hl [2, 3, 1, 0] rfl) h
  refine lv_iload_n hx hb dX6_partsBy_85 rfl (lv_at hl 0 rfl) ?_
  exact xq_ri hQ hx hb hr hP hK hD hS () rfl h dX6_partsBy_86 hlocks
def w_X6_best_L48 (a_1 : Int32) (a_2 : Int32) (a_3 : Int32) (n_things : Int32) (n_kindOf : Nat → Int32) (n_follows : Int32) (n_ifOf : Nat → Int32) (n_thenOf : Nat → Int32) (n_breathOf : Nat → Int32) (post : Int32 → (Nat → Int32) → Prop) (kk : Int32 → Int32 → (Nat → Int32) → Prop) : Nat → Int32 → Int32 → Int32 → (Nat → Int32) → Prop
  | 0, _, _, _, _ => False
  | f_48 + 1, a_4, a_5, a_6, n_listOf => w_X6_all n_things (fun (rr_4 : Int32) => (rr_4 < a_6 → (kk a_4 a_5 n_listOf)) ∧ (¬ rr_4 < a_6 → ((vp_in a_1 6) ∧ (w_X6_partsBy n_things n_kindOf n_follows n_ifOf n_thenOf (upd n_listOf a_1.toNatClampNeg a_6) n_breathOf (a_1 + (1 : Int32)) (fun (rr_6 : Int32) => xq_j1 (fun (kj_8 : Int32 → Prop) => (rr_6 ≤ a_5 → (kj_8 a_4)) ∧ (¬ rr_6 ≤ a_5 → (kj_8 a_6))) (fun (jj_7 : Int32) => (rr_6 ≤ a_5 → (w_X6_best_L48 a_1 a_2 a_3 n_things n_kindOf n_follows n_ifOf n_thenOf n_breathOf post kk f_48 jj_7 a_5 (a_6 + (1 : Int32)) (upd n_listOf a_1.toNatClampNeg a_6))) ∧ (¬ rr_6 ≤ a_5 → (w_X6_best_L48 a_1 a_2 a_3 n_things n_kindOf n_follows n_ifOf n_thenOf n_breathOf post kk f_48 jj_7 rr_6 (a_6 + (1 : Int32)) (upd n_listOf a_1.toNatClampNeg a_6)))))))))
def w_X6_best (n_things : Int32) (n_kindOf : Nat → Int32) (n_follows : Int32) (n_ifOf : Nat → Int32) (n_thenOf : Nat → Int32) (n_listOf : Nat → Int32) (n_breathOf : Nat → Int32) (a_1 : Int32) (a_2 : Int32) (post : Int32 → (Nat → Int32) → Prop) : Prop := w_X6_noHour a_1 (fun (rr_1 : Int32) => (rr_1 = 0 → (w_X6_in (Int32.toInt64 a_2) (0 : Int64) (1 : Int64) (fun (rr_2 : Int32) => (¬ rr_2 = 0 → ((¬ n_things = 0 → ((vp_in a_1 6) ∧ (∃ e_48, w_X6_best_L48 a_1 a_2 (n_listOf a_1.toNatClampNeg) n_things n_kindOf n_follows n_ifOf n_thenOf n_breathOf post (fun (xx_18 : Int32) (xx_19 : Int32) (xx_20 : Nat → Int32) => (vp_in a_1 6) ∧ ((¬ a_2 = 0 → (post xx_19 (upd xx_20 a_1.toNatClampNeg (n_listOf a_1.toNatClampNeg)))) ∧ (a_2 = 0 → (post xx_18 (upd xx_20 a_1.toNatClampNeg (n_listOf a_1.toNatClampNeg)))))) e_48 (0 : Int32) (0 : Int32) (0 : Int32) n_listOf))) ∧ (n_things = 0 → (post (-3 : Int32) n_listOf)))) ∧ (rr_2 = 0 → (post (-2 : Int32) n_listOf))))) ∧ (¬ rr_1 = 0 → (post (-1 : Int32) n_listOf)))
set_option maxHeartbeats 4000000 in
set_option maxRecDepth 100000 in
theorem m_X6_best (l : Launch) (dC : Nat → ClassId) (dI : Nat → Nat → Nat) (cyI cyJ : ClassId) (ab : Nat → Nat) (sz : Nat) {n_fault : Int32} {n_things : Int32} {n_kindOf : Nat → Int32} {n_digitOf : Nat → Int32} {n_follows : Int32} {n_ifOf : Nat → Int32} {n_thenOf : Nat → Int32} {n_listOf : Nat → Int32} {n_breathOf : Nat → Int32} {n_heardOf : Nat → Int32} {n_readAt : Int32} {n_readThings : Int32} {n_readFollows : Int32} {n_readKind : Nat → Int32} {n_readDigit : Nat → Int32} {n_readIf : Nat → Int32} {n_readThen : Nat → Int32} {n_readings : Int32} {n_readingIn : Nat → Int32} {n_readingHour : Nat → Int32} {n_readingOf : Nat → Int32} {n_breathWas : Nat → Int32} {n_sheetSize : Nat → Int32} {n_sheetLane : Nat → Int32} {n_sheet : Nat → Int32} {n_hands : Nat → Int32} {n_traceNow : Int32} {a_1 : Int32} {a_2 : Int32} {post : Int32 → (Nat → Int32) → Prop} (h : w_X6_best n_things n_kindOf n_follows n_ifOf n_thenOf n_listOf n_breathOf a_1 a_2 post) : Met l yX6_best wsX6_best (xq_R 5 122) (va_Pc [.ref (ab 0), .int a_1, .int a_2] (xq_P (dC, dI) [(cyI, .int), (cyJ, .long)] (wm_u cyI cyJ ab n_fault n_things n_kindOf n_digitOf n_follows n_ifOf n_thenOf n_listOf n_breathOf n_heardOf n_readAt n_readThings n_readFollows n_readKind n_readDigit n_readIf n_readThen n_readings n_readingIn n_readingHour n_readingOf n_breathWas n_sheetSize n_sheetLane n_sheet n_hands n_traceNow) sz)) (va_Qi (fun (rr : Int32) (uu : (Nat → Int32)) => post rr uu) (fun (uu : (Nat → Int32)) => xq_B (dC, dI) [(cyI, .int), (cyJ, .long)] (va_A (wm_u cyI cyJ ab n_fault n_things n_kindOf n_digitOf n_follows n_ifOf n_thenOf n_listOf n_breathOf n_heardOf n_readAt n_readThings n_readFollows n_readKind n_readDigit n_readIf n_readThen n_readings n_readingIn n_readingHour n_readingOf n_breathWas n_sheetSize n_sheetLane n_sheet n_hands n_traceNow) sz) (wm_u cyI cyJ ab n_fault n_things n_kindOf n_digitOf n_follows n_ifOf n_thenOf uu n_breathOf n_heardOf n_readAt n_readThings n_readFollows n_readKind n_readDigit n_readIf n_readThen n_readings n_readingIn n_readingHour n_readingOf n_breathWas n_sheetSize n_sheetLane n_sheet n_hands n_traceNow)) (va_A (wm_u cyI cyJ ab n_fault n_things n_kindOf n_digitOf n_follows n_ifOf n_thenOf n_listOf n_breathOf n_heardOf n_readAt n_readThings n_readFollows n_readKind n_readDigit n_readIf n_readThen n_readings n_readingIn n_readingHour n_readingOf n_breathWas n_sheetSize n_sheetLane n_sheet n_hands n_traceNow) sz)) 0 0 (va_A (wm_u cyI cyJ ab n_fault n_things n_kindOf n_digitOf n_follows n_ifOf n_thenOf n_listOf n_breathOf n_heardOf n_readAt n_readThings n_readFollows n_readKind n_readDigit n_readIf n_readThen n_readings n_readingIn n_readingHour n_readingOf n_breathWas n_sheetSize n_sheetLane n_sheet n_hands n_traceNow) sz) := by
  refine xq_M (cc := cX6_best) (maxL := 8) (ret := (some .int)) (QA := fun A => va_Qi (fun (rr : Int32) (uu : (Nat → Int32)) => post rr uu) (fun (uu : (Nat → Int32)) => xq_B (dC, dI) [(cyI, .int), (cyJ, .long)] A (wm_u cyI cyJ ab n_fault n_things n_kindOf n_digitOf n_follows n_ifOf n_thenOf uu n_breathOf n_heardOf n_readAt n_readThings n_readFollows n_readKind n_readDigit n_readIf n_readThen n_readings n_readingIn n_readingHour n_readingOf n_breathWas n_sheetSize n_sheetLane n_sheet n_hands n_traceNow)) A) (by decide) rfl (Nat.le_of_ble_eq_true rfl) ?_
  intro p e s m args below meth c A ls Q hQ hx hb hr hml hts hown hlocks hsz hP hK hD hA hS hN hl
  subst hsz
  have hl : lv_has ls 8 [(0, .ref (ab 0)), (1, .int a_1), (2, .int a_2)] := hl
  have hi_X6 : ∀ w ∈ wsX60, w ∈ wsX6_best := fun _ h => List.mem_cons_of_mem _ (List.mem_append_right _ h)
  have fl_22 := hts (.fieldLink RX6 22 "UnsaidCallsModel" "listOf" "[I") (by decide +kernel)
  have fl_98 := hts (.fieldLink RX6 98 "UnsaidCallsModel" "things" "I") (by decide +kernel)
  unfold w_X6_best at h
  refine lv_iload_n hx hb dX6_best_0 rfl (lv_at hl 1 rfl) ?_
  refine xq_ci (va_runS (As := [.int a_1]) (rest := []) ⟨hx, hb, hml, hown, hts⟩ (m_X6_noHour l dC dI cyI cyJ (wm_u cyI cyJ ab n_fault n_things n_kindOf n_digitOf n_follows n_ifOf n_thenOf n_listOf n_breathOf n_heardOf n_readAt n_readThings n_readFollows n_readKind n_readDigit n_readIf n_readThen n_readings n_readingIn n_readingHour n_readingOf n_breathWas n_sheetSize n_sheetLane n_sheet n_hands n_traceNow) s.heap.size h) (va_cwS 1 hts gX6_best_X6_noHour rfl rfl rfl (by decide +kernel) ⟨Nat.le_of_ble_eq_true rfl, Nat.le_of_ble_eq_true rfl⟩) (xq_preS hK hP hD hN) rfl rfl hl.1 rfl (lv_room (Nat.le_of_ble_eq_true rfl)) dX6_best_1 ⟨Nat.le_refl _, Nat.le_refl _⟩) hD hS hA (fun rr_1 uu H locs h hP hD hS => ?_)
  have hP : va_P (dC, dI) vwCl (wm_u cyI cyJ ab n_fault n_things n_kindOf n_digitOf n_follows n_ifOf n_thenOf n_listOf n_breathOf n_heardOf n_readAt n_readThings n_readFollows n_readKind n_readDigit n_readIf n_readThen n_readings n_readingIn n_readingHour n_readingOf n_breathWas n_sheetSize n_sheetLane n_sheet n_hands n_traceNow) H := hP
  have hD : va_D A (wm_u cyI cyJ ab n_fault n_things n_kindOf n_digitOf n_follows n_ifOf n_thenOf n_listOf n_breathOf n_heardOf n_readAt n_readThings n_readFollows n_readKind n_readDigit n_readIf n_readThen n_readings n_readingIn n_readingHour n_readingOf n_breathWas n_sheetSize n_sheetLane n_sheet n_hands n_traceNow) := hD
  refine lv_if_eq (tgt := 9) hx hb dX6_best_4 (by decide) (fun hc_36 => ?_) (fun hc_36 => ?_)
  · have h := h.1 hc_36
    refine lv_iload_n hx hb dX6_best_9 rfl (lv_at hl 2 rfl) ?_
    refine lv_i2l (v := (Int32.toInt64 a_2)) hx hb dX6_best_10 rfl ?_
    refine lv_lconst (v := (0 : Int64)) hx hb dX6_best_11 (by decide) ?_
    refine lv_lconst (v := (1 : Int64)) hx hb dX6_best_12 (by decide) ?_
    refine xq_ci (va_runS (As := [.long (Int32.toInt64 a_2), .long (0 : Int64), .long (1 : Int64)]) (rest := []) ⟨hx, hb, hml, hown, hts⟩ (m_X6_in l dC dI cyI cyJ (wm_u cyI cyJ ab n_fault n_things n_kindOf n_digitOf n_follows n_ifOf n_thenOf n_listOf n_breathOf n_heardOf n_readAt n_readThings n_readFollows n_readKind n_readDigit n_readIf n_readThen n_readings n_readingIn n_readingHour n_readingOf n_breathWas n_sheetSize n_sheetLane n_sheet n_hands n_traceNow) H.size h) (va_cwS 3 hts gX6_best_X6_in rfl rfl rfl (by decide +kernel) ⟨Nat.le_of_ble_eq_true rfl, Nat.le_of_ble_eq_true rfl⟩) (xq_preS hK hP hD hN) rfl rfl hl.1 rfl (lv_room (Nat.le_of_ble_eq_true rfl)) dX6_best_13 ⟨Nat.le_refl _, Nat.le_refl _⟩) hD hS hA (fun rr_2 uu H locs h hP hD hS => ?_)
    have hP : va_P (dC, dI) vwCl (wm_u cyI cyJ ab n_fault n_things n_kindOf n_digitOf n_follows n_ifOf n_thenOf n_listOf n_breathOf n_heardOf n_readAt n_readThings n_readFollows n_readKind n_readDigit n_readIf n_readThen n_readings n_readingIn n_readingHour n_readingOf n_breathWas n_sheetSize n_sheetLane n_sheet n_hands n_traceNow) H := hP
    have hD : va_D A (wm_u cyI cyJ ab n_fault n_things n_kindOf n_digitOf n_follows n_ifOf n_thenOf n_listOf n_breathOf n_heardOf n_readAt n_readThings n_readFollows n_readKind n_readDigit n_readIf n_readThen n_readings n_readingIn n_readingHour n_readingOf n_breathWas n_sheetSize n_sheetLane n_sheet n_hands n_traceNow) := hD
    refine lv_if_ne (tgt := 22) hx hb dX6_best_16 (by decide) (fun hc_34 => ?_) (fun hc_34 => ?_)
    · have h := h.1 hc_34
      refine lv_aload_n hx hb dX6_best_22 rfl (lv_at hl 0 rfl) ?_
      refine va_get (D := (dC, dI)) (ci := 6) (v := .int n_things) (C := RX6) (T := TX6) (N := 27) hx hb hts hi_X6 hown hK hP 0 rfl rfl 1 (by decide) fl_98 (fun _ h9 => h9) rfl dX6_best_23 ?_
      refine lv_if_ne (tgt := 32) hx hb dX6_best_26 (by decide) (fun hc_33 => ?_) (fun hc_33 => ?_)
      · have h := h.1 hc_33
        refine lv_aload_n hx hb dX6_best_32 rfl (lv_at hl 0 rfl) ?_
        refine va_get (D := (dC, dI)) (ci := 6) (v := .ref (ab 5)) (C := RX6) (T := TX6) (N := 27) hx hb hts hi_X6 hown hK hP 0 rfl rfl 7 (by decide) fl_22 (fun _ h9 => h9) rfl dX6_best_33 ?_
        refine lv_iload_n hx hb dX6_best_36 rfl (lv_at hl 1 rfl) ?_
        obtain ⟨hv_3, h⟩ := h
        refine va_iald hx hb hK hP 5 0 rfl rfl hv_3 dX6_best_37 ?_
        refine lv_istore_n (lv' := [(3, .int (n_listOf a_1.toNatClampNeg)), (0, .ref (ab 0)), (1, .int a_1), (2, .int a_2)]) hx hb dX6_best_38 rfl hl (by decide) rfl (fun ls hl => ?_)
        refine lv_iconst (v := (0 : Int32)) hx hb dX6_best_39 (by decide) ?_
        refine lv_istore (lv' := [(4, .int (0 : Int32)), (3, .int (n_listOf a_1.toNatClampNeg)), (0, .ref (ab 0)), (1, .int a_1), (2, .int a_2)]) hx hb dX6_best_40 hl (by decide) rfl (fun ls hl => ?_)
        refine lv_iconst (v := (0 : Int32)) hx hb dX6_best_42 (by decide) ?_
        refine lv_istore (lv' := [(5, .int (0 : Int32)), (4, .int (0 : Int32)), (3, .int (n_listOf a_1.toNatClampNeg)), (0, .ref (ab 0)), (1, .int a_1), (2, .int a_2)]) hx hb dX6_best_43 hl (by decide) rfl (fun ls hl => ?_)
        refine lv_iconst (v := (0 : Int32)) hx hb dX6_best_45 (by decide) ?_
        refine lv_istore (lv' := [(6, .int (0 : Int32)), (5, .int (0 : Int32)), (4, .int (0 : Int32)), (3, .int (n_listOf a_1.toNatClampNeg)), (0, .ref (ab 0)), (1, .int a_1), (2, .int a_2)]) hx hb dX6_best_46 hl (by decide) rfl (fun ls hl => ?_)
        obtain ⟨ni, h⟩ := h
        have lp_48 : ∀ (kk : Int32 → Int32 → (Nat → Int32) → Prop), (∀ (xx_18 : Int32) (xx_19 : Int32) (xx_20 : Nat → Int32) (H : Heap) (locs : List Loc) (ls : Array Slot), va_P (dC, dI) vwCl (wm_u cyI cyJ ab n_fault n_things n_kindOf n_digitOf n_follows n_ifOf n_thenOf xx_20 n_breathOf n_heardOf n_readAt n_readThings n_readFollows n_readKind n_readDigit n_readIf n_readThen n_readings n_readingIn n_readingHour n_readingOf n_breathWas n_sheetSize n_sheetLane n_sheet n_hands n_traceNow) H → va_D A (wm_u cyI cyJ ab n_fault n_things n_kindOf n_digitOf n_follows n_ifOf n_thenOf xx_20 n_breathOf n_heardOf n_readAt n_readThings n_readFollows n_readKind n_readDigit n_readIf n_readThen n_readings n_readingIn n_readingHour n_readingOf n_breathWas n_sheetSize n_sheetLane n_sheet n_hands n_traceNow) → va_S A s.heap H locs → lv_has ls 8 [(0, .ref (ab 0)), (1, .int a_1), (2, .int a_2), (3, .int (n_listOf a_1.toNatClampNeg)), (4, .int xx_18), (5, .int xx_19)] → kk xx_18 xx_19 xx_20 → W p l e (xq_R 5 122) s m args below meth c H locs 0 0 Q (F0 m 112 ls [])) → ∀ (ni : Nat) (aa_14 : Int32) (aa_15 : Int32) (aa_16 : Int32) (cc_17 : Nat → Int32) (H : Heap) (locs : List Loc) (ls : Array Slot), va_P (dC, dI) vwCl (wm_u cyI cyJ ab n_fault n_things n_kindOf n_digitOf n_follows n_ifOf n_thenOf cc_17 n_breathOf n_heardOf n_readAt n_readThings n_readFollows n_readKind n_readDigit n_readIf n_readThen n_readings n_readingIn n_readingHour n_readingOf n_breathWas n_sheetSize n_sheetLane n_sheet n_hands n_traceNow) H → va_D A (wm_u cyI cyJ ab n_fault n_things n_kindOf n_digitOf n_follows n_ifOf n_thenOf cc_17 n_breathOf n_heardOf n_readAt n_readThings n_readFollows n_readKind n_readDigit n_readIf n_readThen n_readings n_readingIn n_readingHour n_readingOf n_breathWas n_sheetSize n_sheetLane n_sheet n_hands n_traceNow) → va_S A s.heap H locs → lv_has ls 8 [(0, .ref (ab 0)), (1, .int a_1), (2, .int a_2), (3, .int (n_listOf a_1.toNatClampNeg)), (4, .int aa_14), (5, .int aa_15), (6, .int aa_16)] → w_X6_best_L48 a_1 a_2 (n_listOf a_1.toNatClampNeg) n_things n_kindOf n_follows n_ifOf n_thenOf n_breathOf post kk ni aa_14 aa_15 aa_16 cc_17 → W p l e (xq_R 5 122) s m args below meth c H locs 0 0 Q (F0 m 48 ls []) := by
          intro kk kx ni
          induction ni with
          | zero => intros; exact False.elim (by assumption)
          | succ ni ih =>
            intro aa_14 aa_15 aa_16 cc_17 H locs ls hP hD hS hl h
            rw [w_X6_best_L48] at h
            refine lv_iload hx hb dX6_best_48 (lv_at hl 6 rfl) ?_
            refine lv_aload_n hx hb dX6_best_50 rfl (lv_at hl 0 rfl) ?_
            refine xq_ci (va_runV (As := []) (rest := [.int aa_16]) ⟨hx, hb, hml, hown, hts⟩ (m_X6_all l dC dI cyI cyJ ab H.size h) (cwV 0 hts gX6_best_X6_all rfl rfl rfl (by decide +kernel) ⟨Nat.le_of_ble_eq_true rfl, Nat.le_of_ble_eq_true rfl⟩) (xq_preV hK hP hD hN (ci := 6) (q0 := 0) rfl rfl) rfl rfl hl.1 rfl (lv_room (Nat.le_of_ble_eq_true rfl)) dX6_best_51 ⟨Nat.le_refl _, Nat.le_refl _⟩) hD hS hA (fun rr_23 uu H locs h hP hD hS => ?_)
            have hP : va_P (dC, dI) vwCl (wm_u cyI cyJ ab n_fault n_things n_kindOf n_digitOf n_follows n_ifOf n_thenOf cc_17 n_breathOf n_heardOf n_readAt n_readThings n_readFollows n_readKind n_readDigit n_readIf n_readThen n_readings n_readingIn n_readingHour n_readingOf n_breathWas n_sheetSize n_sheetLane n_sheet n_hands n_traceNow) H := hP
            have hD : va_D A (wm_u cyI cyJ ab n_fault n_things n_kindOf n_digitOf n_follows n_ifOf n_thenOf cc_17 n_breathOf n_heardOf n_readAt n_readThings n_readFollows n_readKind n_readDigit n_readIf n_readThen n_readings n_readingIn n_readingHour n_readingOf n_breathWas n_sheetSize n_sheetLane n_sheet n_hands n_traceNow) := hD
            refine lv_icmp_gt (tgt := 112) hx hb dX6_best_54 (by decide) (fun hc_31 => ?_) (fun hc_31 => ?_)
            · have h := h.1 hc_31
              exact kx aa_14 aa_15 cc_17 _ _ _ hP hD hS (lv_sub hl [0, 1, 2, 3, 4, 5] rfl) h
            · have h := h.2 hc_31
              refine lv_aload_n hx hb dX6_best_57 rfl (lv_at hl 0 rfl) ?_
              refine va_get (D := (dC, dI)) (ci := 6) (v := .ref (ab 5)) (C := RX6) (T := TX6) (N := 27) hx hb hts hi_X6 hown hK hP 0 rfl rfl 7 (by decide) fl_22 (fun _ h9 => h9) rfl dX6_best_58 ?_
              refine lv_iload_n hx hb dX6_best_61 rfl (lv_at hl 1 rfl) ?_
              refine lv_iload hx hb dX6_best_62 (lv_at hl 6 rfl) ?_
              obtain ⟨hv_24, h⟩ := h
              refine va_iast hx hb hK hP hD hS 5 0 rfl rfl hv_24 dX6_best_64 (fun H locs hP hD hS => ?_)
              have hP : va_P (dC, dI) vwCl (wm_u cyI cyJ ab n_fault n_things n_kindOf n_digitOf n_follows n_ifOf n_thenOf (upd cc_17 a_1.toNatClampNeg aa_16) n_breathOf n_heardOf n_readAt n_readThings n_readFollows n_readKind n_readDigit n_readIf n_readThen n_readings n_readingIn n_readingHour n_readingOf n_breathWas n_sheetSize n_sheetLane n_sheet n_hands n_traceNow) H := hP
              have hD : va_D A (wm_u cyI cyJ ab n_fault n_things n_kindOf n_digitOf n_follows n_ifOf n_thenOf (upd cc_17 a_1.toNatClampNeg aa_16) n_breathOf n_heardOf n_readAt n_readThings n_readFollows n_readKind n_readDigit n_readIf n_readThen n_readings n_readingIn n_readingHour n_readingOf n_breathWas n_sheetSize n_sheetLane n_sheet n_hands n_traceNow) := hD
              refine lv_aload_n hx hb dX6_best_65 rfl (lv_at hl 0 rfl) ?_
              refine lv_iload_n hx hb dX6_best_66 rfl (lv_at hl 1 rfl) ?_
              refine lv_iconst (v := (1 : Int32)) hx hb dX6_best_67 (by decide) ?_
              refine lv_iadd hx hb dX6_best_68 ?_
              refine xq_ci (va_runV (As := [.int (a_1 + (1 : Int32))]) (rest := []) ⟨hx, hb, hml, hown, hts⟩ (m_X6_partsBy l dC dI cyI cyJ ab H.size h) (cwV 1 hts gX6_best_X6_partsBy rfl rfl rfl (by decide +kernel) ⟨Nat.le_of_ble_eq_true rfl, Nat.le_of_ble_eq_true rfl⟩) (xq_preV hK hP hD hN (ci := 6) (q0 := 0) rfl rfl) rfl rfl hl.1 rfl (lv_room (Nat.le_of_ble_eq_true rfl)) dX6_best_69 ⟨Nat.le_refl _, Nat.le_refl _⟩) hD hS hA (fun rr_25 uu H locs h hP hD hS => ?_)
              have hP : va_P (dC, dI) vwCl (wm_u cyI cyJ ab n_fault n_things n_kindOf n_digitOf n_follows n_ifOf n_thenOf (upd cc_17 a_1.toNatClampNeg aa_16) n_breathOf n_heardOf n_readAt n_readThings n_readFollows n_readKind n_readDigit n_readIf n_readThen n_readings n_readingIn n_readingHour n_readingOf n_breathWas n_sheetSize n_sheetLane n_sheet n_hands n_traceNow) H := hP
              have hD : va_D A (wm_u cyI cyJ ab n_fault n_things n_kindOf n_digitOf n_follows n_ifOf n_thenOf (upd cc_17 a_1.toNatClampNeg aa_16) n_breathOf n_heardOf n_readAt n_readThings n_readFollows n_readKind n_readDigit n_readIf n_readThen n_readings n_readingIn n_readingHour n_readingOf n_breathWas n_sheetSize n_sheetLane n_sheet n_hands n_traceNow) := hD
              refine lv_istore (lv' := [(7, .int rr_25), (0, .ref (ab 0)), (1, .int a_1), (2, .int a_2), (3, .int (n_listOf a_1.toNatClampNeg)), (4, .int aa_14), (5, .int aa_15), (6, .int aa_16)]) hx hb dX6_best_72 hl (by decide) rfl (fun ls hl => ?_)
              refine lv_iload hx hb dX6_best_74 (lv_at hl 0 rfl) ?_
              refine lv_iload hx hb dX6_best_76 (lv_at hl 6 rfl) ?_
              refine xq_j1_go (X := fun (jj_26 : Int32) => ∀ (H : Heap) (locs : List Loc) (ls : Array Slot), va_P (dC, dI) vwCl (wm_u cyI cyJ ab n_fault n_things n_kindOf n_digitOf n_follows n_ifOf n_thenOf (upd cc_17 a_1.toNatClampNeg aa_16) n_breathOf n_heardOf n_readAt n_readThings n_readFollows n_readKind n_readDigit n_readIf n_readThen n_readings n_readingIn n_readingHour n_readingOf n_breathWas n_sheetSize n_sheetLane n_sheet n_hands n_traceNow) H → va_D A (wm_u cyI cyJ ab n_fault n_things n_kindOf n_digitOf n_follows n_ifOf n_thenOf (upd cc_17 a_1.toNatClampNeg aa_16) n_breathOf n_heardOf n_readAt n_readThings n_readFollows n_readKind n_readDigit n_readIf n_readThen n_readings n_readingIn n_readingHour n_readingOf n_breathWas n_sheetSize n_sheetLane n_sheet n_hands n_traceNow) → va_S A s.heap H locs → lv_has ls 8 [(0, .ref (ab 0)), (1, .int a_1), (2, .int a_2), (3, .int (n_listOf a_1.toNatClampNeg)), (5, .int aa_15), (6, .int aa_16), (7, .int rr_25)] → W p l e (xq_R 5 122) s m args below meth c H locs 0 0 Q (F0 m 88 ls [.int jj_26])) h (fun jj_26 h H locs ls hP hD hS hl => ?_) (fun kj_27 h => ?_)
              · refine lv_istore (lv' := [(4, .int jj_26), (0, .ref (ab 0)), (1, .int a_1), (2, .int a_2), (3, .int (n_listOf a_1.toNatClampNeg)), (5, .int aa_15), (6, .int aa_16), (7, .int rr_25)]) hx hb dX6_best_88 hl (by decide) rfl (fun ls hl => ?_)
                refine lv_iload hx hb dX6_best_90 (lv_at hl 7 rfl) ?_
                refine lv_iload hx hb dX6_best_92 (lv_at hl 5 rfl) ?_
                refine lv_icmp_le (tgt := 102) hx hb dX6_best_94 (by decide) (fun hc_29 => ?_) (fun hc_29 => ?_)
                · have h := h.1 hc_29
                  refine lv_iload hx hb dX6_best_102 (lv_at hl 5 rfl) ?_
                  refine lv_istore (lv' := [(5, .int aa_15), (4, .int jj_26), (0, .ref (ab 0)), (1, .int a_1), (2, .int a_2), (3, .int (n_listOf a_1.toNatClampNeg)), (6, .int aa_16), (7, .int rr_25)]) hx hb dX6_best_104 hl (by decide) rfl (fun ls hl => ?_)
                  refine lv_iinc (v := (aa_16 + (1 : Int32))) (lv' := [(6, .int (aa_16 + (1 : Int32))), (5, .int aa_15), (4, .int jj_26), (0, .ref (ab 0)), (1, .int a_1), (2, .int a_2), (3, .int (n_listOf a_1.toNatClampNeg)), (7, .int rr_25)]) hx hb dX6_best_106 hl (k := 6) rfl rfl (by decide) rfl (fun ls hl => ?_)
                  refine lv_goto (tgt := 48) hx hb dX6_best_109 (by decide) ?_
                  exact ih jj_26 aa_15 (aa_16 + (1 : Int32)) (upd cc_17 a_1.toNatClampNeg aa_16) _ _ _ hP hD hS (lv_sub hl [3, 4, 5, 6, 2, 1, 0] rfl) h
                · have h := h.2 hc_29
                  refine lv_iload hx hb dX6_best_97 (lv_at hl 7 rfl) ?_
                  refine lv_goto (tgt := 104) hx hb dX6_best_99 (by decide) ?_
                  refine lv_istore (lv' := [(5, .int rr_25), (4, .int jj_26), (0, .ref (ab 0)), (1, .int a_1), (2, .int a_2), (3, .int (n_listOf a_1.toNatClampNeg)), (6, .int aa_16), (7, .int rr_25)]) hx hb dX6_best_104 hl (by decide) rfl (fun ls hl => ?_)
                  refine lv_iinc (v := (aa_16 + (1 : Int32))) (lv' := [(6, .int (aa_16 + (1 : Int32))), (5, .int rr_25), (4, .int jj_26), (0, .ref (ab 0)), (1, .int a_1), (2, .int a_2), (3, .int (n_listOf a_1.toNatClampNeg)), (7, .int rr_25)]) hx hb dX6_best_106 hl (k := 6) rfl rfl (by decide) rfl (fun ls hl => ?_)
                  refine lv_goto (tgt := 48) hx hb dX6_best_109 (by decide) ?_
                  exact ih jj_26 rr_25 (aa_16 + (1 : Int32)) (upd cc_17 a_1.toNatClampNeg aa_16) _ _ _ hP hD hS (lv_sub hl [3, 4, 5, 6, 2, 1, 0] rfl) h
              · refine lv_icmp_le (tgt := 86) hx hb dX6_best_78 (by decide) (fun hc_28 => ?_) (fun hc_28 => ?_)
                · have h := h.1 hc_28
                  refine lv_iload hx hb dX6_best_86 (lv_at hl 5 rfl) ?_
                  exact kj_27 aa_14 h _ _ _ hP hD hS (lv_sub hl [1, 2, 3, 4, 6, 7, 0] rfl)
                · have h := h.2 hc_28
                  refine lv_iload hx hb dX6_best_81 (lv_at hl 7 rfl) ?_
                  refine lv_goto (tgt := 88) hx hb dX6_best_83 (by decide) ?_
                  exact kj_27 aa_16 h _ _ _ hP hD hS (lv_sub hl [1, 2, 3, 4, 6, 7, 0] rfl)
        refine lp_48 _ (fun xx_18 xx_19 xx_20 H locs ls hP hD hS hl h => ?_) ni (0 : Int32) (0 : Int32) (0 : Int32) n_listOf _ _ _ hP hD hS (lv_sub hl [4, 5, 6, 3, 2, 1, 0] rfl) h
        refine lv_aload_n hx hb dX6_best_112 rfl (lv_at hl 0 rfl) ?_
        refine va_get (D := (dC, dI)) (ci := 6) (v := .ref (ab 5)) (C := RX6) (T := TX6) (N := 27) hx hb hts hi_X6 hown hK hP 0 rfl rfl 7 (by decide) fl_22 (fun _ h9 => h9) rfl dX6_best_113 ?_
        refine lv_iload_n hx hb dX6_best_116 rfl (lv_at hl 1 rfl) ?_
        refine lv_iload_n hx hb dX6_best_117 rfl (lv_at hl 3 rfl) ?_
        obtain ⟨hv_21, h⟩ := h
        refine va_iast hx hb hK hP hD hS 5 0 rfl rfl hv_21 dX6_best_118 (fun H locs hP hD hS => ?_)
        have hP : va_P (dC, dI) vwCl (wm_u cyI cyJ ab n_fault n_things n_kindOf n_digitOf n_follows n_ifOf n_thenOf (upd xx_20 a_1.toNatClampNeg (n_listOf a_1.toNatClampNeg)) n_breathOf n_heardOf n_readAt n_readThings n_readFollows n_readKind n_readDigit n_readIf n_readThen n_readings n_readingIn n_readingHour n_readingOf n_breathWas n_sheetSize n_sheetLane n_sheet n_hands n_traceNow) H := hP
        have hD : va_D A (wm_u cyI cyJ ab n_fault n_things n_kindOf n_digitOf n_follows n_ifOf n_thenOf (upd xx_20 a_1.toNatClampNeg (n_listOf a_1.toNatClampNeg)) n_breathOf n_heardOf n_readAt n_readThings n_readFollows n_readKind n_readDigit n_readIf n_readThen n_readings n_readingIn n_readingHour n_readingOf n_breathWas n_sheetSize n_sheetLane n_sheet n_hands n_traceNow) := hD
        refine lv_iload_n hx hb dX6_best_119 rfl (lv_at hl 2 rfl) ?_
        refine lv_if_ne (tgt := 128) hx hb dX6_best_120 (by decide) (fun hc_22 => ?_) (fun hc_22 => ?_)
        · have h := h.1 hc_22
          refine lv_iload hx hb dX6_best_128 (lv_at hl 5 rfl) ?_
          exact xq_ri hQ hx hb hr hP hK hD hS (upd xx_20 a_1.toNatClampNeg (n_listOf a_1.toNatClampNeg)) rfl h dX6_best_130 hlocks
        · have h := h.2 hc_22
          refine lv_iload hx hb dX6_best_123 (lv_at hl 4 rfl) ?_
          refine lv_goto (tgt := 130) hx hb dX6_best_125 (by decide) ?_
          exact xq_ri hQ hx hb hr hP hK hD hS (upd xx_20 a_1.toNatClampNeg (n_listOf a_1.toNatClampNeg)) rfl h dX6_best_130 hlocks
      · have h := h.2 hc_33
        refine lv_bipush (v := (-3 : Int32)) hx hb dX6_best_29 (by decide) ?_
        exact xq_ri hQ hx hb hr hP hK hD hS n_listOf rfl h dX6_best_31 hlocks
    · have h := h.2 hc_34
      refine lv_bipush (v := (-2 : Int32)) hx hb dX6_best_19 (by decide) ?_
      exact xq_ri hQ hx hb hr hP hK hD hS n_listOf rfl h dX6_best_21 hlocks
  · have h := h.2 hc_36
    refine lv_iconst (v := (-1 : Int32)) hx hb dX6_best_7 (by decide) ?_
    exact xq_ri hQ hx hb hr hP hK hD hS n_listOf rfl h dX6_best_8 hlocks
def w_X6_bits_L4   (post : Int32 → Prop) (kk : Int32 → Prop) : Nat → Int32 → Int32 → Prop
  | 0, _, _ => False
  | f_4 + 1, a_1, a_2 => (a_2 ≤ 0 → (kk a_1)) ∧ (¬ a_2 ≤ 0 → (w_X6_bits_L4  post kk f_4 (a_1 + (a_2 &&& (1 : Int32))) (a_2 >>> ((1 : Int32) &&& 31))))
def w_X6_bits (a_0 : Int32) (post : Int32 → Prop) : Prop := ∃ e_4, w_X6_bits_L4  post (fun (xx_4 : Int32) => post xx_4) e_4 (0 : Int32) a_0
set_option maxHeartbeats 4000000 in
set_option maxRecDepth 100000 in
theorem m_X6_bits (l : Launch) (dC : Nat → ClassId) (dI : Nat → Nat → Nat) (cyI cyJ : ClassId) (ww : va_W) (sz : Nat) {a_0 : Int32} {post : Int32 → Prop} (h : w_X6_bits a_0 post) : Met l yX6_bits wsX6_bits (xq_R 0 0) (va_Pc [.int a_0] (xq_P (dC, dI) [(cyI, .int), (cyJ, .long)] ww sz)) (va_Qi (fun (rr : Int32) (uu : Unit) => post rr ) (fun (uu : Unit) => xq_B (dC, dI) [(cyI, .int), (cyJ, .long)] (va_A ww sz) ww) (va_A ww sz)) 0 0 (va_A ww sz) := by
  refine xq_M (cc := cX6_bits) (maxL := 3) (ret := (some .int)) (QA := fun A => va_Qi (fun (rr : Int32) (uu : Unit) => post rr ) (fun (uu : Unit) => xq_B (dC, dI) [(cyI, .int), (cyJ, .long)] A ww) A) (by decide) rfl (Nat.le_of_ble_eq_true rfl) ?_
  intro p e s m args below meth c A ls Q hQ hx hb hr hml hts hown hlocks hsz hP hK hD hA hS hN hl
  subst hsz
  have hl : lv_has ls 3 [(0, .int a_0)] := hl
  unfold w_X6_bits at h
  refine lv_iconst (v := (0 : Int32)) hx hb dX6_bits_0 (by decide) ?_
  refine lv_istore_n (lv' := [(1, .int (0 : Int32)), (0, .int a_0)]) hx hb dX6_bits_1 rfl hl (by decide) rfl (fun ls hl => ?_)
  refine lv_iload_n hx hb dX6_bits_2 rfl (lv_at hl 1 rfl) ?_
  refine lv_istore_n (lv' := [(2, .int a_0), (1, .int (0 : Int32)), (0, .int a_0)]) hx hb dX6_bits_3 rfl hl (by decide) rfl (fun ls hl => ?_)
  obtain ⟨ni, h⟩ := h
  have lp_4 : ∀ (kk : Int32 → Prop), (∀ (xx_4 : Int32) (H : Heap) (locs : List Loc) (ls : Array Slot), va_P (dC, dI) vwCl ww H → va_D A ww → va_S A s.heap H locs → lv_has ls 3 [(1, .int xx_4)] → kk xx_4 → W p l e (xq_R 0 0) s m args below meth c H locs 0 0 Q (F0 m 21 ls [])) → ∀ (ni : Nat) (aa_2 : Int32) (aa_3 : Int32) (H : Heap) (locs : List Loc) (ls : Array Slot), va_P (dC, dI) vwCl ww H → va_D A ww → va_S A s.heap H locs → lv_has ls 3 [(1, .int aa_2), (2, .int aa_3)] → w_X6_bits_L4  post kk ni aa_2 aa_3 → W p l e (xq_R 0 0) s m args below meth c H locs 0 0 Q (F0 m 4 ls []) := by
    intro kk kx ni
    induction ni with
    | zero => intros; exact False.elim (by assumption)
    | succ ni ih =>
      intro aa_2 aa_3 H locs ls hP hD hS hl h
      rw [w_X6_bits_L4] at h
      refine lv_iload_n hx hb dX6_bits_4 rfl (lv_at hl 1 rfl) ?_
      refine lv_if_le (tgt := 21) hx hb dX6_bits_5 (by decide) (fun hc_5 => ?_) (fun hc_5 => ?_)
      · have h := h.1 hc_5
        exact kx aa_2 _ _ _ hP hD hS (lv_sub hl [0] rfl) h
      · have h := h.2 hc_5
        refine lv_iload_n hx hb dX6_bits_8 rfl (lv_at hl 0 rfl) ?_
        refine lv_iload_n hx hb dX6_bits_9 rfl (lv_at hl 1 rfl) ?_
        refine lv_iconst (v := (1 : Int32)) hx hb dX6_bits_10 (by decide) ?_
        refine lv_iand hx hb dX6_bits_11 ?_
        refine lv_iadd hx hb dX6_bits_12 ?_
        refine lv_istore_n (lv' := [(1, .int (aa_2 + (aa_3 &&& (1 : Int32)))), (2, .int aa_3)]) hx hb dX6_bits_13 rfl hl (by decide) rfl (fun ls hl => ?_)
        refine lv_iload_n hx hb dX6_bits_14 rfl (lv_at hl 1 rfl) ?_
        refine lv_iconst (v := (1 : Int32)) hx hb dX6_bits_15 (by decide) ?_
        refine lv_ishr hx hb dX6_bits_16 ?_
        refine lv_istore_n (lv' := [(2, .int (aa_3 >>> ((1 : Int32) &&& 31))), (1, .int (aa_2 + (aa_3 &&& (1 : Int32))))]) hx hb dX6_bits_17 rfl hl (by decide) rfl (fun ls hl => ?_)
        refine lv_goto (tgt := 4) hx hb dX6_bits_18 (by decide) ?_
        exact ih (aa_2 + (aa_3 &&& (1 : Int32))) (aa_3 >>> ((1 : Int32) &&& 31)) _ _ _ hP hD hS (lv_sub hl [1, 0] rfl) h
  refine lp_4 _ (fun xx_4 H locs ls hP hD hS hl h => ?_) ni (0 : Int32) a_0 _ _ _ hP hD hS (lv_sub hl [1, 0] rfl) h
  refine lv_iload_n hx hb dX6_bits_21 rfl (lv_at hl 0 rfl) ?_
  exact xq_ri hQ hx hb hr hP hK hD hS () rfl h dX6_bits_22 hlocks
def w_X6_breath (n_things : Int32) (n_breathOf : Nat → Int32) (a_1 : Int32) (a_2 : Int32) (post : Int32 → (Nat → Int32) → Prop) : Prop := w_X6_noHour a_1 (fun (rr_1 : Int32) => (rr_1 = 0 → (w_X6_in (Int32.toInt64 a_2) (0 : Int64) (18 : Int64) (fun (rr_2 : Int32) => (¬ rr_2 = 0 → ((¬ n_things = 0 → ((vp_in a_1 6) ∧ ((vp_in a_1 6) ∧ (post (n_breathOf a_1.toNatClampNeg) (upd n_breathOf a_1.toNatClampNeg a_2))))) ∧ (n_things = 0 → (post (-3 : Int32) n_breathOf)))) ∧ (rr_2 = 0 → (post (-2 : Int32) n_breathOf))))) ∧ (¬ rr_1 = 0 → (post (-1 : Int32) n_breathOf)))
set_option maxHeartbeats 4000000 in
set_option maxRecDepth 100000 in
theorem m_X6_breath (l : Launch) (dC : Nat → ClassId) (dI : Nat → Nat → Nat) (cyI cyJ : ClassId) (ab : Nat → Nat) (sz : Nat) {n_fault : Int32} {n_things : Int32} {n_kindOf : Nat → Int32} {n_digitOf : Nat → Int32} {n_follows : Int32} {n_ifOf : Nat → Int32} {n_thenOf : Nat → Int32} {n_listOf : Nat → Int32} {n_breathOf : Nat → Int32} {n_heardOf : Nat → Int32} {n_readAt : Int32} {n_readThings : Int32} {n_readFollows : Int32} {n_readKind : Nat → Int32} {n_readDigit : Nat → Int32} {n_readIf : Nat → Int32} {n_readThen : Nat → Int32} {n_readings : Int32} {n_readingIn : Nat → Int32} {n_readingHour : Nat → Int32} {n_readingOf : Nat → Int32} {n_breathWas : Nat → Int32} {n_sheetSize : Nat → Int32} {n_sheetLane : Nat → Int32} {n_sheet : Nat → Int32} {n_hands : Nat → Int32} {n_traceNow : Int32} {a_1 : Int32} {a_2 : Int32} {post : Int32 → (Nat → Int32) → Prop} (h : w_X6_breath n_things n_breathOf a_1 a_2 post) : Met l yX6_breath wsX6_breath (xq_R 2 45) (va_Pc [.ref (ab 0), .int a_1, .int a_2] (xq_P (dC, dI) [(cyI, .int), (cyJ, .long)] (wm_u cyI cyJ ab n_fault n_things n_kindOf n_digitOf n_follows n_ifOf n_thenOf n_listOf n_breathOf n_heardOf n_readAt n_readThings n_readFollows n_readKind n_readDigit n_readIf n_readThen n_readings n_readingIn n_readingHour n_readingOf n_breathWas n_sheetSize n_sheetLane n_sheet n_hands n_traceNow) sz)) (va_Qi (fun (rr : Int32) (uu : (Nat → Int32)) => post rr uu) (fun (uu : (Nat → Int32)) => xq_B (dC, dI) [(cyI, .int), (cyJ, .long)] (va_A (wm_u cyI cyJ ab n_fault n_things n_kindOf n_digitOf n_follows n_ifOf n_thenOf n_listOf n_breathOf n_heardOf n_readAt n_readThings n_readFollows n_readKind n_readDigit n_readIf n_readThen n_readings n_readingIn n_readingHour n_readingOf n_breathWas n_sheetSize n_sheetLane n_sheet n_hands n_traceNow) sz) (wm_u cyI cyJ ab n_fault n_things n_kindOf n_digitOf n_follows n_ifOf n_thenOf n_listOf uu n_heardOf n_readAt n_readThings n_readFollows n_readKind n_readDigit n_readIf n_readThen n_readings n_readingIn n_readingHour n_readingOf n_breathWas n_sheetSize n_sheetLane n_sheet n_hands n_traceNow)) (va_A (wm_u cyI cyJ ab n_fault n_things n_kindOf n_digitOf n_follows n_ifOf n_thenOf n_listOf n_breathOf n_heardOf n_readAt n_readThings n_readFollows n_readKind n_readDigit n_readIf n_readThen n_readings n_readingIn n_readingHour n_readingOf n_breathWas n_sheetSize n_sheetLane n_sheet n_hands n_traceNow) sz)) 0 0 (va_A (wm_u cyI cyJ ab n_fault n_things n_kindOf n_digitOf n_follows n_ifOf n_thenOf n_listOf n_breathOf n_heardOf n_readAt n_readThings n_readFollows n_readKind n_readDigit n_readIf n_readThen n_readings n_readingIn n_readingHour n_readingOf n_breathWas n_sheetSize n_sheetLane n_sheet n_hands n_traceNow) sz) := by
  refine xq_M (cc := cX6_breath) (maxL := 4) (ret := (some .int)) (QA := fun A => va_Qi (fun (rr : Int32) (uu : (Nat → Int32)) => post rr uu) (fun (uu : (Nat → Int32)) => xq_B (dC, dI) [(cyI, .int), (cyJ, .long)] A (wm_u cyI cyJ ab n_fault n_things n_kindOf n_digitOf n_follows n_ifOf n_thenOf n_listOf uu n_heardOf n_readAt n_readThings n_readFollows n_readKind n_readDigit n_readIf n_readThen n_readings n_readingIn n_readingHour n_readingOf n_breathWas n_sheetSize n_sheetLane n_sheet n_hands n_traceNow)) A) (by decide) rfl (Nat.le_of_ble_eq_true rfl) ?_
  intro p e s m args below meth c A ls Q hQ hx hb hr hml hts hown hlocks hsz hP hK hD hA hS hN hl
  subst hsz
  have hl : lv_has ls 4 [(0, .ref (ab 0)), (1, .int a_1), (2, .int a_2)] := hl
  have hi_X6 : ∀ w ∈ wsX60, w ∈ wsX6_breath := fun _ h => List.mem_cons_of_mem _ (List.mem_append_right _ h)
  have fl_25 := hts (.fieldLink RX6 25 "UnsaidCallsModel" "breathOf" "[I") (by decide +kernel)
  have fl_98 := hts (.fieldLink RX6 98 "UnsaidCallsModel" "things" "I") (by decide +kernel)
  unfold w_X6_breath at h
  refine lv_iload_n hx hb dX6_breath_0 rfl (lv_at hl 1 rfl) ?_
  refine xq_ci (va_runS (As := [.int a_1]) (rest := []) ⟨hx, hb, hml, hown, hts⟩ (m_X6_noHour l dC dI cyI cyJ (wm_u cyI cyJ ab n_fault n_things n_kindOf n_digitOf n_follows n_ifOf n_thenOf n_listOf n_breathOf n_heardOf n_readAt n_readThings n_readFollows n_readKind n_readDigit n_readIf n_readThen n_readings n_readingIn n_readingHour n_readingOf n_breathWas n_sheetSize n_sheetLane n_sheet n_hands n_traceNow) s.heap.size h) (va_cwS 1 hts gX6_breath_X6_noHour rfl rfl rfl (by decide +kernel) ⟨Nat.le_of_ble_eq_true rfl, Nat.le_of_ble_eq_true rfl⟩) (xq_preS hK hP hD hN) rfl rfl hl.1 rfl (lv_room (Nat.le_of_ble_eq_true rfl)) dX6_breath_1 ⟨Nat.le_refl _, Nat.le_refl _⟩) hD hS hA (fun rr_1 uu H locs h hP hD hS => ?_)
  have hP : va_P (dC, dI) vwCl (wm_u cyI cyJ ab n_fault n_things n_kindOf n_digitOf n_follows n_ifOf n_thenOf n_listOf n_breathOf n_heardOf n_readAt n_readThings n_readFollows n_readKind n_readDigit n_readIf n_readThen n_readings n_readingIn n_readingHour n_readingOf n_breathWas n_sheetSize n_sheetLane n_sheet n_hands n_traceNow) H := hP
  have hD : va_D A (wm_u cyI cyJ ab n_fault n_things n_kindOf n_digitOf n_follows n_ifOf n_thenOf n_listOf n_breathOf n_heardOf n_readAt n_readThings n_readFollows n_readKind n_readDigit n_readIf n_readThen n_readings n_readingIn n_readingHour n_readingOf n_breathWas n_sheetSize n_sheetLane n_sheet n_hands n_traceNow) := hD
  refine lv_if_eq (tgt := 9) hx hb dX6_breath_4 (by decide) (fun hc_8 => ?_) (fun hc_8 => ?_)
  · have h := h.1 hc_8
    refine lv_iload_n hx hb dX6_breath_9 rfl (lv_at hl 2 rfl) ?_
    refine lv_i2l (v := (Int32.toInt64 a_2)) hx hb dX6_breath_10 rfl ?_
    refine lv_lconst (v := (0 : Int64)) hx hb dX6_breath_11 (by decide) ?_
    refine lv_ldc2 (v := (18 : Int64)) hx hb hown (hts (.constantLong RX6 162 (18)) (by decide +kernel)) dX6_breath_12 ?_
    refine xq_ci (va_runS (As := [.long (Int32.toInt64 a_2), .long (0 : Int64), .long (18 : Int64)]) (rest := []) ⟨hx, hb, hml, hown, hts⟩ (m_X6_in l dC dI cyI cyJ (wm_u cyI cyJ ab n_fault n_things n_kindOf n_digitOf n_follows n_ifOf n_thenOf n_listOf n_breathOf n_heardOf n_readAt n_readThings n_readFollows n_readKind n_readDigit n_readIf n_readThen n_readings n_readingIn n_readingHour n_readingOf n_breathWas n_sheetSize n_sheetLane n_sheet n_hands n_traceNow) H.size h) (va_cwS 3 hts gX6_breath_X6_in rfl rfl rfl (by decide +kernel) ⟨Nat.le_of_ble_eq_true rfl, Nat.le_of_ble_eq_true rfl⟩) (xq_preS hK hP hD hN) rfl rfl hl.1 rfl (lv_room (Nat.le_of_ble_eq_true rfl)) dX6_breath_15 ⟨Nat.le_refl _, Nat.le_refl _⟩) hD hS hA (fun rr_2 uu H locs h hP hD hS => ?_)
    have hP : va_P (dC, dI) vwCl (wm_u cyI cyJ ab n_fault n_things n_kindOf n_digitOf n_follows n_ifOf n_thenOf n_listOf n_breathOf n_heardOf n_readAt n_readThings n_readFollows n_readKind n_readDigit n_readIf n_readThen n_readings n_readingIn n_readingHour n_readingOf n_breathWas n_sheetSize n_sheetLane n_sheet n_hands n_traceNow) H := hP
    have hD : va_D A (wm_u cyI cyJ ab n_fault n_things n_kindOf n_digitOf n_follows n_ifOf n_thenOf n_listOf n_breathOf n_heardOf n_readAt n_readThings n_readFollows n_readKind n_readDigit n_readIf n_readThen n_readings n_readingIn n_readingHour n_readingOf n_breathWas n_sheetSize n_sheetLane n_sheet n_hands n_traceNow) := hD
    refine lv_if_ne (tgt := 24) hx hb dX6_breath_18 (by decide) (fun hc_6 => ?_) (fun hc_6 => ?_)
    · have h := h.1 hc_6
      refine lv_aload_n hx hb dX6_breath_24 rfl (lv_at hl 0 rfl) ?_
      refine va_get (D := (dC, dI)) (ci := 6) (v := .int n_things) (C := RX6) (T := TX6) (N := 27) hx hb hts hi_X6 hown hK hP 0 rfl rfl 1 (by decide) fl_98 (fun _ h9 => h9) rfl dX6_breath_25 ?_
      refine lv_if_ne (tgt := 34) hx hb dX6_breath_28 (by decide) (fun hc_5 => ?_) (fun hc_5 => ?_)
      · have h := h.1 hc_5
        refine lv_aload_n hx hb dX6_breath_34 rfl (lv_at hl 0 rfl) ?_
        refine va_get (D := (dC, dI)) (ci := 6) (v := .ref (ab 6)) (C := RX6) (T := TX6) (N := 27) hx hb hts hi_X6 hown hK hP 0 rfl rfl 8 (by decide) fl_25 (fun _ h9 => h9) rfl dX6_breath_35 ?_
        refine lv_iload_n hx hb dX6_breath_38 rfl (lv_at hl 1 rfl) ?_
        obtain ⟨hv_3, h⟩ := h
        refine va_iald hx hb hK hP 6 0 rfl rfl hv_3 dX6_breath_39 ?_
        refine lv_istore_n (lv' := [(3, .int (n_breathOf a_1.toNatClampNeg)), (0, .ref (ab 0)), (1, .int a_1), (2, .int a_2)]) hx hb dX6_breath_40 rfl hl (by decide) rfl (fun ls hl => ?_)
        refine lv_aload_n hx hb dX6_breath_41 rfl (lv_at hl 1 rfl) ?_
        refine va_get (D := (dC, dI)) (ci := 6) (v := .ref (ab 6)) (C := RX6) (T := TX6) (N := 27) hx hb hts hi_X6 hown hK hP 0 rfl rfl 8 (by decide) fl_25 (fun _ h9 => h9) rfl dX6_breath_42 ?_
        refine lv_iload_n hx hb dX6_breath_45 rfl (lv_at hl 2 rfl) ?_
        refine lv_iload_n hx hb dX6_breath_46 rfl (lv_at hl 3 rfl) ?_
        obtain ⟨hv_4, h⟩ := h
        refine va_iast hx hb hK hP hD hS 6 0 rfl rfl hv_4 dX6_breath_47 (fun H locs hP hD hS => ?_)
        have hP : va_P (dC, dI) vwCl (wm_u cyI cyJ ab n_fault n_things n_kindOf n_digitOf n_follows n_ifOf n_thenOf n_listOf (upd n_breathOf a_1.toNatClampNeg a_2) n_heardOf n_readAt n_readThings n_readFollows n_readKind n_readDigit n_readIf n_readThen n_readings n_readingIn n_readingHour n_readingOf n_breathWas n_sheetSize n_sheetLane n_sheet n_hands n_traceNow) H := hP
        have hD : va_D A (wm_u cyI cyJ ab n_fault n_things n_kindOf n_digitOf n_follows n_ifOf n_thenOf n_listOf (upd n_breathOf a_1.toNatClampNeg a_2) n_heardOf n_readAt n_readThings n_readFollows n_readKind n_readDigit n_readIf n_readThen n_readings n_readingIn n_readingHour n_readingOf n_breathWas n_sheetSize n_sheetLane n_sheet n_hands n_traceNow) := hD
        refine lv_iload_n hx hb dX6_breath_48 rfl (lv_at hl 0 rfl) ?_
        exact xq_ri hQ hx hb hr hP hK hD hS (upd n_breathOf a_1.toNatClampNeg a_2) rfl h dX6_breath_49 hlocks
      · have h := h.2 hc_5
        refine lv_bipush (v := (-3 : Int32)) hx hb dX6_breath_31 (by decide) ?_
        exact xq_ri hQ hx hb hr hP hK hD hS n_breathOf rfl h dX6_breath_33 hlocks
    · have h := h.2 hc_6
      refine lv_bipush (v := (-2 : Int32)) hx hb dX6_breath_21 (by decide) ?_
      exact xq_ri hQ hx hb hr hP hK hD hS n_breathOf rfl h dX6_breath_23 hlocks
  · have h := h.2 hc_8
    refine lv_iconst (v := (-1 : Int32)) hx hb dX6_breath_7 (by decide) ?_
    exact xq_ri hQ hx hb hr hP hK hD hS n_breathOf rfl h dX6_breath_8 hlocks
def w_X6_called (n_things : Int32) (n_kindOf : Nat → Int32) (n_follows : Int32) (n_ifOf : Nat → Int32) (n_thenOf : Nat → Int32) (n_listOf : Nat → Int32) (n_breathOf : Nat → Int32) (a_1 : Int32) (a_2 : Int32) (post : Int32 → Prop) : Prop := w_X6_isCase n_things n_follows n_ifOf n_thenOf a_1 (fun (rr_1 : Int32) => (rr_1 = 0 → (post (-1 : Int32))) ∧ (¬ rr_1 = 0 → (w_X6_noHour a_2 (fun (rr_2 : Int32) => (rr_2 = 0 → (w_X6_calledIn n_things n_kindOf n_listOf n_breathOf a_1 a_2 (fun (rr_3 : Int32) => post rr_3))) ∧ (¬ rr_2 = 0 → (post (-1 : Int32)))))))
set_option maxHeartbeats 4000000 in
set_option maxRecDepth 100000 in
theorem m_X6_called (l : Launch) (dC : Nat → ClassId) (dI : Nat → Nat → Nat) (cyI cyJ : ClassId) (ab : Nat → Nat) (sz : Nat) {n_fault : Int32} {n_things : Int32} {n_kindOf : Nat → Int32} {n_digitOf : Nat → Int32} {n_follows : Int32} {n_ifOf : Nat → Int32} {n_thenOf : Nat → Int32} {n_listOf : Nat → Int32} {n_breathOf : Nat → Int32} {n_heardOf : Nat → Int32} {n_readAt : Int32} {n_readThings : Int32} {n_readFollows : Int32} {n_readKind : Nat → Int32} {n_readDigit : Nat → Int32} {n_readIf : Nat → Int32} {n_readThen : Nat → Int32} {n_readings : Int32} {n_readingIn : Nat → Int32} {n_readingHour : Nat → Int32} {n_readingOf : Nat → Int32} {n_breathWas : Nat → Int32} {n_sheetSize : Nat → Int32} {n_sheetLane : Nat → Int32} {n_sheet : Nat → Int32} {n_hands : Nat → Int32} {n_traceNow : Int32} {a_1 : Int32} {a_2 : Int32} {post : Int32 → Prop} (h : w_X6_called n_things n_kindOf n_follows n_ifOf n_thenOf n_listOf n_breathOf a_1 a_2 post) : Met l yX6_called wsX6_called (xq_R 3 72) (va_Pc [.ref (ab 0), .int a_1, .int a_2] (xq_P (dC, dI) [(cyI, .int), (cyJ, .long)] (wm_u cyI cyJ ab n_fault n_things n_kindOf n_digitOf n_follows n_ifOf n_thenOf n_listOf n_breathOf n_heardOf n_readAt n_readThings n_readFollows n_readKind n_readDigit n_readIf n_readThen n_readings n_readingIn n_readingHour n_readingOf n_breathWas n_sheetSize n_sheetLane n_sheet n_hands n_traceNow) sz)) (va_Qi (fun (rr : Int32) (uu : Unit) => post rr ) (fun (uu : Unit) => xq_B (dC, dI) [(cyI, .int), (cyJ, .long)] (va_A (wm_u cyI cyJ ab n_fault n_things n_kindOf n_digitOf n_follows n_ifOf n_thenOf n_listOf n_breathOf n_heardOf n_readAt n_readThings n_readFollows n_readKind n_readDigit n_readIf n_readThen n_readings n_readingIn n_readingHour n_readingOf n_breathWas n_sheetSize n_sheetLane n_sheet n_hands n_traceNow) sz) (wm_u cyI cyJ ab n_fault n_things n_kindOf n_digitOf n_follows n_ifOf n_thenOf n_listOf n_breathOf n_heardOf n_readAt n_readThings n_readFollows n_readKind n_readDigit n_readIf n_readThen n_readings n_readingIn n_readingHour n_readingOf n_breathWas n_sheetSize n_sheetLane n_sheet n_hands n_traceNow)) (va_A (wm_u cyI cyJ ab n_fault n_things n_kindOf n_digitOf n_follows n_ifOf n_thenOf n_listOf n_breathOf n_heardOf n_readAt n_readThings n_readFollows n_readKind n_readDigit n_readIf n_readThen n_readings n_readingIn n_readingHour n_readingOf n_breathWas n_sheetSize n_sheetLane n_sheet n_hands n_traceNow) sz)) 0 0 (va_A (wm_u cyI cyJ ab n_fault n_things n_kindOf n_digitOf n_follows n_ifOf n_thenOf n_listOf n_breathOf n_heardOf n_readAt n_readThings n_readFollows n_readKind n_readDigit n_readIf n_readThen n_readings n_readingIn n_readingHour n_readingOf n_breathWas n_sheetSize n_sheetLane n_sheet n_hands n_traceNow) sz) := by
  refine xq_M (cc := cX6_called) (maxL := 3) (ret := (some .int)) (QA := fun A => va_Qi (fun (rr : Int32) (uu : Unit) => post rr ) (fun (uu : Unit) => xq_B (dC, dI) [(cyI, .int), (cyJ, .long)] A (wm_u cyI cyJ ab n_fault n_things n_kindOf n_digitOf n_follows n_ifOf n_thenOf n_listOf n_breathOf n_heardOf n_readAt n_readThings n_readFollows n_readKind n_readDigit n_readIf n_readThen n_readings n_readingIn n_readingHour n_readingOf n_breathWas n_sheetSize n_sheetLane n_sheet n_hands n_traceNow)) A) (by decide) rfl (Nat.le_of_ble_eq_true rfl) ?_
  intro p e s m args below meth c A ls Q hQ hx hb hr hml hts hown hlocks hsz hP hK hD hA hS hN hl
  subst hsz
  have hl : lv_has ls 3 [(0, .ref (ab 0)), (1, .int a_1), (2, .int a_2)] := hl
  unfold w_X6_called at h
  refine lv_aload_n hx hb dX6_called_0 rfl (lv_at hl 0 rfl) ?_
  refine lv_iload_n hx hb dX6_called_1 rfl (lv_at hl 1 rfl) ?_
  refine xq_ci (va_runV (As := [.int a_1]) (rest := []) ⟨hx, hb, hml, hown, hts⟩ (m_X6_isCase l dC dI cyI cyJ ab s.heap.size h) (cwV 1 hts gX6_called_X6_isCase rfl rfl rfl (by decide +kernel) ⟨Nat.le_of_ble_eq_true rfl, Nat.le_of_ble_eq_true rfl⟩) (xq_preV hK hP hD hN (ci := 6) (q0 := 0) rfl rfl) rfl rfl hl.1 rfl (lv_room (Nat.le_of_ble_eq_true rfl)) dX6_called_2 ⟨Nat.le_refl _, Nat.le_refl _⟩) hD hS hA (fun rr_1 uu H locs h hP hD hS => ?_)
  have hP : va_P (dC, dI) vwCl (wm_u cyI cyJ ab n_fault n_things n_kindOf n_digitOf n_follows n_ifOf n_thenOf n_listOf n_breathOf n_heardOf n_readAt n_readThings n_readFollows n_readKind n_readDigit n_readIf n_readThen n_readings n_readingIn n_readingHour n_readingOf n_breathWas n_sheetSize n_sheetLane n_sheet n_hands n_traceNow) H := hP
  have hD : va_D A (wm_u cyI cyJ ab n_fault n_things n_kindOf n_digitOf n_follows n_ifOf n_thenOf n_listOf n_breathOf n_heardOf n_readAt n_readThings n_readFollows n_readKind n_readDigit n_readIf n_readThen n_readings n_readingIn n_readingHour n_readingOf n_breathWas n_sheetSize n_sheetLane n_sheet n_hands n_traceNow) := hD
  refine lv_if_eq (tgt := 15) hx hb dX6_called_5 (by decide) (fun hc_7 => ?_) (fun hc_7 => ?_)
  · have h := h.1 hc_7
    refine lv_iconst (v := (-1 : Int32)) hx hb dX6_called_15 (by decide) ?_
    refine lv_goto (tgt := 25) hx hb dX6_called_16 (by decide) ?_
    exact xq_ri hQ hx hb hr hP hK hD hS () rfl h dX6_called_25 hlocks
  · have h := h.2 hc_7
    refine lv_iload_n hx hb dX6_called_8 rfl (lv_at hl 2 rfl) ?_
    refine xq_ci (va_runS (As := [.int a_2]) (rest := []) ⟨hx, hb, hml, hown, hts⟩ (m_X6_noHour l dC dI cyI cyJ (wm_u cyI cyJ ab n_fault n_things n_kindOf n_digitOf n_follows n_ifOf n_thenOf n_listOf n_breathOf n_heardOf n_readAt n_readThings n_readFollows n_readKind n_readDigit n_readIf n_readThen n_readings n_readingIn n_readingHour n_readingOf n_breathWas n_sheetSize n_sheetLane n_sheet n_hands n_traceNow) H.size h) (va_cwS 1 hts gX6_called_X6_noHour rfl rfl rfl (by decide +kernel) ⟨Nat.le_of_ble_eq_true rfl, Nat.le_of_ble_eq_true rfl⟩) (xq_preS hK hP hD hN) rfl rfl hl.1 rfl (lv_room (Nat.le_of_ble_eq_true rfl)) dX6_called_9 ⟨Nat.le_refl _, Nat.le_refl _⟩) hD hS hA (fun rr_2 uu H locs h hP hD hS => ?_)
    have hP : va_P (dC, dI) vwCl (wm_u cyI cyJ ab n_fault n_things n_kindOf n_digitOf n_follows n_ifOf n_thenOf n_listOf n_breathOf n_heardOf n_readAt n_readThings n_readFollows n_readKind n_readDigit n_readIf n_readThen n_readings n_readingIn n_readingHour n_readingOf n_breathWas n_sheetSize n_sheetLane n_sheet n_hands n_traceNow) H := hP
    have hD : va_D A (wm_u cyI cyJ ab n_fault n_things n_kindOf n_digitOf n_follows n_ifOf n_thenOf n_listOf n_breathOf n_heardOf n_readAt n_readThings n_readFollows n_readKind n_readDigit n_readIf n_readThen n_readings n_readingIn n_readingHour n_readingOf n_breathWas n_sheetSize n_sheetLane n_sheet n_hands n_traceNow) := hD
    refine lv_if_eq (tgt := 19) hx hb dX6_called_12 (by decide) (fun hc_5 => ?_) (fun hc_5 => ?_)
    · have h := h.1 hc_5
      refine lv_aload_n hx hb dX6_called_19 rfl (lv_at hl 0 rfl) ?_
      refine lv_iload_n hx hb dX6_called_20 rfl (lv_at hl 1 rfl) ?_
      refine lv_iload_n hx hb dX6_called_21 rfl (lv_at hl 2 rfl) ?_
      refine xq_ci (va_runV (As := [.int a_1, .int a_2]) (rest := []) ⟨hx, hb, hml, hown, hts⟩ (m_X6_calledIn l dC dI cyI cyJ ab H.size h) (cwV 2 hts gX6_called_X6_calledIn rfl rfl rfl (by decide +kernel) ⟨Nat.le_of_ble_eq_true rfl, Nat.le_of_ble_eq_true rfl⟩) (xq_preV hK hP hD hN (ci := 6) (q0 := 0) rfl rfl) rfl rfl hl.1 rfl (lv_room (Nat.le_of_ble_eq_true rfl)) dX6_called_22 ⟨Nat.le_refl _, Nat.le_refl _⟩) hD hS hA (fun rr_3 uu H locs h hP hD hS => ?_)
      have hP : va_P (dC, dI) vwCl (wm_u cyI cyJ ab n_fault n_things n_kindOf n_digitOf n_follows n_ifOf n_thenOf n_listOf n_breathOf n_heardOf n_readAt n_readThings n_readFollows n_readKind n_readDigit n_readIf n_readThen n_readings n_readingIn n_readingHour n_readingOf n_breathWas n_sheetSize n_sheetLane n_sheet n_hands n_traceNow) H := hP
      have hD : va_D A (wm_u cyI cyJ ab n_fault n_things n_kindOf n_digitOf n_follows n_ifOf n_thenOf n_listOf n_breathOf n_heardOf n_readAt n_readThings n_readFollows n_readKind n_readDigit n_readIf n_readThen n_readings n_readingIn n_readingHour n_readingOf n_breathWas n_sheetSize n_sheetLane n_sheet n_hands n_traceNow) := hD
      exact xq_ri hQ hx hb hr hP hK hD hS () rfl h dX6_called_25 hlocks
    · have h := h.2 hc_5
      refine lv_iconst (v := (-1 : Int32)) hx hb dX6_called_15 (by decide) ?_
      refine lv_goto (tgt := 25) hx hb dX6_called_16 (by decide) ?_
      exact xq_ri hQ hx hb hr hP hK hD hS () rfl h dX6_called_25 hlocks
def w_X6_cases_L4  (n_things : Int32) (n_follows : Int32) (n_ifOf : Nat → Int32) (n_thenOf : Nat → Int32) (post : Int64 → Prop) (kk : Int64 → Prop) : Nat → Int64 → Int32 → Prop
  | 0, _, _ => False
  | f_4 + 1, a_1, a_3 => ((64 : Int32) ≤ a_3 → (kk a_1)) ∧ (¬ (64 : Int32) ≤ a_3 → (w_X6_isCase n_things n_follows n_ifOf n_thenOf a_3 (fun (rr_1 : Int32) => (rr_1 = 0 → (w_X6_cases_L4 n_things n_follows n_ifOf n_thenOf post kk f_4 (a_1 ||| (0 : Int64)) (a_3 + (1 : Int32)))) ∧ (¬ rr_1 = 0 → (w_X6_cases_L4 n_things n_follows n_ifOf n_thenOf post kk f_4 (a_1 ||| ((1 : Int64) <<< (Int32.toInt64 a_3 &&& 63))) (a_3 + (1 : Int32)))))))
def w_X6_cases (n_things : Int32) (n_follows : Int32) (n_ifOf : Nat → Int32) (n_thenOf : Nat → Int32) (post : Int64 → Prop) : Prop := ∃ e_4, w_X6_cases_L4 n_things n_follows n_ifOf n_thenOf post (fun (xx_7 : Int64) => post xx_7) e_4 (0 : Int64) (0 : Int32)
set_option maxHeartbeats 4000000 in
set_option maxRecDepth 100000 in
theorem m_X6_cases (l : Launch) (dC : Nat → ClassId) (dI : Nat → Nat → Nat) (cyI cyJ : ClassId) (ab : Nat → Nat) (sz : Nat) {n_fault : Int32} {n_things : Int32} {n_kindOf : Nat → Int32} {n_digitOf : Nat → Int32} {n_follows : Int32} {n_ifOf : Nat → Int32} {n_thenOf : Nat → Int32} {n_listOf : Nat → Int32} {n_breathOf : Nat → Int32} {n_heardOf : Nat → Int32} {n_readAt : Int32} {n_readThings : Int32} {n_readFollows : Int32} {n_readKind : Nat → Int32} {n_readDigit : Nat → Int32} {n_readIf : Nat → Int32} {n_readThen : Nat → Int32} {n_readings : Int32} {n_readingIn : Nat → Int32} {n_readingHour : Nat → Int32} {n_readingOf : Nat → Int32} {n_breathWas : Nat → Int32} {n_sheetSize : Nat → Int32} {n_sheetLane : Nat → Int32} {n_sheet : Nat → Int32} {n_hands : Nat → Int32} {n_traceNow : Int32} {post : Int64 → Prop} (h : w_X6_cases n_things n_follows n_ifOf n_thenOf post) : Met l yX6_cases wsX6_cases (xq_R 3 69) (va_Pc [.ref (ab 0)] (xq_P (dC, dI) [(cyI, .int), (cyJ, .long)] (wm_u cyI cyJ ab n_fault n_things n_kindOf n_digitOf n_follows n_ifOf n_thenOf n_listOf n_breathOf n_heardOf n_readAt n_readThings n_readFollows n_readKind n_readDigit n_readIf n_readThen n_readings n_readingIn n_readingHour n_readingOf n_breathWas n_sheetSize n_sheetLane n_sheet n_hands n_traceNow) sz)) (va_Ql (fun (rr : Int64) (uu : Unit) => post rr ) (fun (uu : Unit) => xq_B (dC, dI) [(cyI, .int), (cyJ, .long)] (va_A (wm_u cyI cyJ ab n_fault n_things n_kindOf n_digitOf n_follows n_ifOf n_thenOf n_listOf n_breathOf n_heardOf n_readAt n_readThings n_readFollows n_readKind n_readDigit n_readIf n_readThen n_readings n_readingIn n_readingHour n_readingOf n_breathWas n_sheetSize n_sheetLane n_sheet n_hands n_traceNow) sz) (wm_u cyI cyJ ab n_fault n_things n_kindOf n_digitOf n_follows n_ifOf n_thenOf n_listOf n_breathOf n_heardOf n_readAt n_readThings n_readFollows n_readKind n_readDigit n_readIf n_readThen n_readings n_readingIn n_readingHour n_readingOf n_breathWas n_sheetSize n_sheetLane n_sheet n_hands n_traceNow)) (va_A (wm_u cyI cyJ ab n_fault n_things n_kindOf n_digitOf n_follows n_ifOf n_thenOf n_listOf n_breathOf n_heardOf n_readAt n_readThings n_readFollows n_readKind n_readDigit n_readIf n_readThen n_readings n_readingIn n_readingHour n_readingOf n_breathWas n_sheetSize n_sheetLane n_sheet n_hands n_traceNow) sz)) 0 0 (va_A (wm_u cyI cyJ ab n_fault n_things n_kindOf n_digitOf n_follows n_ifOf n_thenOf n_listOf n_breathOf n_heardOf n_readAt n_readThings n_readFollows n_readKind n_readDigit n_readIf n_readThen n_readings n_readingIn n_readingHour n_readingOf n_breathWas n_sheetSize n_sheetLane n_sheet n_hands n_traceNow) sz) := by
  refine xq_M (cc := cX6_cases) (maxL := 4) (ret := (some .long)) (QA := fun A => va_Ql (fun (rr : Int64) (uu : Unit) => post rr ) (fun (uu : Unit) => xq_B (dC, dI) [(cyI, .int), (cyJ, .long)] A (wm_u cyI cyJ ab n_fault n_things n_kindOf n_digitOf n_follows n_ifOf n_thenOf n_listOf n_breathOf n_heardOf n_readAt n_readThings n_readFollows n_readKind n_readDigit n_readIf n_readThen n_readings n_readingIn n_readingHour n_readingOf n_breathWas n_sheetSize n_sheetLane n_sheet n_hands n_traceNow)) A) (by decide) rfl (Nat.le_of_ble_eq_true rfl) ?_
  intro p e s m args below meth c A ls Q hQ hx hb hr hml hts hown hlocks hsz hP hK hD hA hS hN hl
  subst hsz
  have hl : lv_has ls 4 [(0, .ref (ab 0))] := hl
  unfold w_X6_cases at h
  refine lv_lconst (v := (0 : Int64)) hx hb dX6_cases_0 (by decide) ?_
  refine lv_lstore_n (lv' := [(1, .long (0 : Int64)), (0, .ref (ab 0))]) hx hb dX6_cases_1 rfl hl (by decide) rfl (fun ls hl => ?_)
  refine lv_iconst (v := (0 : Int32)) hx hb dX6_cases_2 (by decide) ?_
  refine lv_istore_n (lv' := [(3, .int (0 : Int32)), (1, .long (0 : Int64)), (0, .ref (ab 0))]) hx hb dX6_cases_3 rfl hl (by decide) rfl (fun ls hl => ?_)
  obtain ⟨ni, h⟩ := h
  have lp_4 : ∀ (kk : Int64 → Prop), (∀ (xx_7 : Int64) (H : Heap) (locs : List Loc) (ls : Array Slot), va_P (dC, dI) vwCl (wm_u cyI cyJ ab n_fault n_things n_kindOf n_digitOf n_follows n_ifOf n_thenOf n_listOf n_breathOf n_heardOf n_readAt n_readThings n_readFollows n_readKind n_readDigit n_readIf n_readThen n_readings n_readingIn n_readingHour n_readingOf n_breathWas n_sheetSize n_sheetLane n_sheet n_hands n_traceNow) H → va_D A (wm_u cyI cyJ ab n_fault n_things n_kindOf n_digitOf n_follows n_ifOf n_thenOf n_listOf n_breathOf n_heardOf n_readAt n_readThings n_readFollows n_readKind n_readDigit n_readIf n_readThen n_readings n_readingIn n_readingHour n_readingOf n_breathWas n_sheetSize n_sheetLane n_sheet n_hands n_traceNow) → va_S A s.heap H locs → lv_has ls 4 [(1, .long xx_7)] → kk xx_7 → W p l e (xq_R 3 69) s m args below meth c H locs 0 0 Q (F0 m 34 ls [])) → ∀ (ni : Nat) (aa_5 : Int64) (aa_6 : Int32) (H : Heap) (locs : List Loc) (ls : Array Slot), va_P (dC, dI) vwCl (wm_u cyI cyJ ab n_fault n_things n_kindOf n_digitOf n_follows n_ifOf n_thenOf n_listOf n_breathOf n_heardOf n_readAt n_readThings n_readFollows n_readKind n_readDigit n_readIf n_readThen n_readings n_readingIn n_readingHour n_readingOf n_breathWas n_sheetSize n_sheetLane n_sheet n_hands n_traceNow) H → va_D A (wm_u cyI cyJ ab n_fault n_things n_kindOf n_digitOf n_follows n_ifOf n_thenOf n_listOf n_breathOf n_heardOf n_readAt n_readThings n_readFollows n_readKind n_readDigit n_readIf n_readThen n_readings n_readingIn n_readingHour n_readingOf n_breathWas n_sheetSize n_sheetLane n_sheet n_hands n_traceNow) → va_S A s.heap H locs → lv_has ls 4 [(0, .ref (ab 0)), (1, .long aa_5), (3, .int aa_6)] → w_X6_cases_L4 n_things n_follows n_ifOf n_thenOf post kk ni aa_5 aa_6 → W p l e (xq_R 3 69) s m args below meth c H locs 0 0 Q (F0 m 4 ls []) := by
    intro kk kx ni
    induction ni with
    | zero => intros; exact False.elim (by assumption)
    | succ ni ih =>
      intro aa_5 aa_6 H locs ls hP hD hS hl h
      rw [w_X6_cases_L4] at h
      refine lv_iload_n hx hb dX6_cases_4 rfl (lv_at hl 2 rfl) ?_
      refine lv_bipush (v := (64 : Int32)) hx hb dX6_cases_5 (by decide) ?_
      refine lv_icmp_ge (tgt := 34) hx hb dX6_cases_7 (by decide) (fun hc_11 => ?_) (fun hc_11 => ?_)
      · have h := h.1 hc_11
        exact kx aa_5 _ _ _ hP hD hS (lv_sub hl [1] rfl) h
      · have h := h.2 hc_11
        refine lv_lload_n hx hb dX6_cases_10 rfl (lv_at hl 1 rfl) ?_
        refine lv_aload_n hx hb dX6_cases_11 rfl (lv_at hl 0 rfl) ?_
        refine lv_iload_n hx hb dX6_cases_12 rfl (lv_at hl 2 rfl) ?_
        refine xq_ci (va_runV (As := [.int aa_6]) (rest := [.long aa_5]) ⟨hx, hb, hml, hown, hts⟩ (m_X6_isCase l dC dI cyI cyJ ab H.size h) (cwV 1 hts gX6_cases_X6_isCase rfl rfl rfl (by decide +kernel) ⟨Nat.le_of_ble_eq_true rfl, Nat.le_of_ble_eq_true rfl⟩) (xq_preV hK hP hD hN (ci := 6) (q0 := 0) rfl rfl) rfl rfl hl.1 rfl (lv_room (Nat.le_of_ble_eq_true rfl)) dX6_cases_13 ⟨Nat.le_refl _, Nat.le_refl _⟩) hD hS hA (fun rr_8 uu H locs h hP hD hS => ?_)
        have hP : va_P (dC, dI) vwCl (wm_u cyI cyJ ab n_fault n_things n_kindOf n_digitOf n_follows n_ifOf n_thenOf n_listOf n_breathOf n_heardOf n_readAt n_readThings n_readFollows n_readKind n_readDigit n_readIf n_readThen n_readings n_readingIn n_readingHour n_readingOf n_breathWas n_sheetSize n_sheetLane n_sheet n_hands n_traceNow) H := hP
        have hD : va_D A (wm_u cyI cyJ ab n_fault n_things n_kindOf n_digitOf n_follows n_ifOf n_thenOf n_listOf n_breathOf n_heardOf n_readAt n_readThings n_readFollows n_readKind n_readDigit n_readIf n_readThen n_readings n_readingIn n_readingHour n_readingOf n_breathWas n_sheetSize n_sheetLane n_sheet n_hands n_traceNow) := hD
        refine lv_if_eq (tgt := 25) hx hb dX6_cases_16 (by decide) (fun hc_9 => ?_) (fun hc_9 => ?_)
        · have h := h.1 hc_9
          refine lv_lconst (v := (0 : Int64)) hx hb dX6_cases_25 (by decide) ?_
          refine lv_lor hx hb dX6_cases_26 ?_
          refine lv_lstore_n (lv' := [(1, .long (aa_5 ||| (0 : Int64))), (0, .ref (ab 0)), (3, .int aa_6)]) hx hb dX6_cases_27 rfl hl (by decide) rfl (fun ls hl => ?_)
          refine lv_iinc (v := (aa_6 + (1 : Int32))) (lv' := [(3, .int (aa_6 + (1 : Int32))), (1, .long (aa_5 ||| (0 : Int64))), (0, .ref (ab 0))]) hx hb dX6_cases_28 hl (k := 2) rfl rfl (by decide) rfl (fun ls hl => ?_)
          refine lv_goto (tgt := 4) hx hb dX6_cases_31 (by decide) ?_
          exact ih (aa_5 ||| (0 : Int64)) (aa_6 + (1 : Int32)) _ _ _ hP hD hS (lv_sub hl [2, 1, 0] rfl) h
        · have h := h.2 hc_9
          refine lv_lconst (v := (1 : Int64)) hx hb dX6_cases_19 (by decide) ?_
          refine lv_iload_n hx hb dX6_cases_20 rfl (lv_at hl 2 rfl) ?_
          refine lv_lshl (v := ((1 : Int64) <<< (Int32.toInt64 aa_6 &&& 63))) hx hb dX6_cases_21 rfl ?_
          refine lv_goto (tgt := 26) hx hb dX6_cases_22 (by decide) ?_
          refine lv_lor hx hb dX6_cases_26 ?_
          refine lv_lstore_n (lv' := [(1, .long (aa_5 ||| ((1 : Int64) <<< (Int32.toInt64 aa_6 &&& 63)))), (0, .ref (ab 0)), (3, .int aa_6)]) hx hb dX6_cases_27 rfl hl (by decide) rfl (fun ls hl => ?_)
          refine lv_iinc (v := (aa_6 + (1 : Int32))) (lv' := [(3, .int (aa_6 + (1 : Int32))), (1, .long (aa_5 ||| ((1 : Int64) <<< (Int32.toInt64 aa_6 &&& 63)))), (0, .ref (ab 0))]) hx hb dX6_cases_28 hl (k := 2) rfl rfl (by decide) rfl (fun ls hl => ?_)
          refine lv_goto (tgt := 4) hx hb dX6_cases_31 (by decide) ?_
          exact ih (aa_5 ||| ((1 : Int64) <<< (Int32.toInt64 aa_6 &&& 63))) (aa_6 + (1 : Int32)) _ _ _ hP hD hS (lv_sub hl [2, 1, 0] rfl) h
  refine lp_4 _ (fun xx_7 H locs ls hP hD hS hl h => ?_) ni (0 : Int64) (0 : Int32) _ _ _ hP hD hS (lv_sub hl [2, 1, 0] rfl) h
  refine lv_lload_n hx hb dX6_cases_34 rfl (lv_at hl 0 rfl) ?_
  exact xq_rl hQ hx hb hr hP hK hD hS () rfl h dX6_cases_35 hlocks
def w_X6_lost (post : Int64 → Prop) : Prop := post (-9223372036854775808 : Int64)
set_option maxHeartbeats 4000000 in
set_option maxRecDepth 100000 in
theorem m_X6_lost (l : Launch) (dC : Nat → ClassId) (dI : Nat → Nat → Nat) (cyI cyJ : ClassId) (ww : va_W) (sz : Nat) {post : Int64 → Prop} (h : w_X6_lost post) : Met l yX6_lost wsX6_lost (xq_R 0 0) (va_Pc [] (xq_P (dC, dI) [(cyI, .int), (cyJ, .long)] ww sz)) (va_Ql (fun (rr : Int64) (uu : Unit) => post rr ) (fun (uu : Unit) => xq_B (dC, dI) [(cyI, .int), (cyJ, .long)] (va_A ww sz) ww) (va_A ww sz)) 0 0 (va_A ww sz) := by
  refine xq_M (cc := cX6_lost) (maxL := 0) (ret := (some .long)) (QA := fun A => va_Ql (fun (rr : Int64) (uu : Unit) => post rr ) (fun (uu : Unit) => xq_B (dC, dI) [(cyI, .int), (cyJ, .long)] A ww) A) (by decide) rfl (Nat.le_of_ble_eq_true rfl) ?_
  intro p e s m args below meth c A ls Q hQ hx hb hr hml hts hown hlocks hsz hP hK hD hA hS hN hl
  subst hsz
  have hl : lv_has ls 0 [] := hl
  unfold w_X6_lost at h
  refine lv_ldc2 (v := (-9223372036854775808 : Int64)) hx hb hown (hts (.constantLong RX6 67 (-9223372036854775808)) (by decide +kernel)) dX6_lost_0 ?_
  exact xq_rl hQ hx hb hr hP hK hD hS () rfl h dX6_lost_3 hlocks
def w_X6_failedLong (n_fault : Int32) (a_1 : Int32) (post : Int64 → Int32 → Prop) : Prop := w_X6_lost (fun (rr_1 : Int64) => post rr_1 a_1)
set_option maxHeartbeats 4000000 in
set_option maxRecDepth 100000 in
theorem m_X6_failedLong (l : Launch) (dC : Nat → ClassId) (dI : Nat → Nat → Nat) (cyI cyJ : ClassId) (ab : Nat → Nat) (sz : Nat) {n_fault : Int32} {n_things : Int32} {n_kindOf : Nat → Int32} {n_digitOf : Nat → Int32} {n_follows : Int32} {n_ifOf : Nat → Int32} {n_thenOf : Nat → Int32} {n_listOf : Nat → Int32} {n_breathOf : Nat → Int32} {n_heardOf : Nat → Int32} {n_readAt : Int32} {n_readThings : Int32} {n_readFollows : Int32} {n_readKind : Nat → Int32} {n_readDigit : Nat → Int32} {n_readIf : Nat → Int32} {n_readThen : Nat → Int32} {n_readings : Int32} {n_readingIn : Nat → Int32} {n_readingHour : Nat → Int32} {n_readingOf : Nat → Int32} {n_breathWas : Nat → Int32} {n_sheetSize : Nat → Int32} {n_sheetLane : Nat → Int32} {n_sheet : Nat → Int32} {n_hands : Nat → Int32} {n_traceNow : Int32} {a_1 : Int32} {post : Int64 → Int32 → Prop} (h : w_X6_failedLong n_fault a_1 post) : Met l yX6_failedLong wsX6_failedLong (xq_R 1 19) (va_Pc [.ref (ab 0), .int a_1] (xq_P (dC, dI) [(cyI, .int), (cyJ, .long)] (wm_u cyI cyJ ab n_fault n_things n_kindOf n_digitOf n_follows n_ifOf n_thenOf n_listOf n_breathOf n_heardOf n_readAt n_readThings n_readFollows n_readKind n_readDigit n_readIf n_readThen n_readings n_readingIn n_readingHour n_readingOf n_breathWas n_sheetSize n_sheetLane n_sheet n_hands n_traceNow) sz)) (va_Ql (fun (rr : Int64) (uu : Int32) => post rr uu) (fun (uu : Int32) => xq_B (dC, dI) [(cyI, .int), (cyJ, .long)] (va_A (wm_u cyI cyJ ab n_fault n_things n_kindOf n_digitOf n_follows n_ifOf n_thenOf n_listOf n_breathOf n_heardOf n_readAt n_readThings n_readFollows n_readKind n_readDigit n_readIf n_readThen n_readings n_readingIn n_readingHour n_readingOf n_breathWas n_sheetSize n_sheetLane n_sheet n_hands n_traceNow) sz) (wm_u cyI cyJ ab uu n_things n_kindOf n_digitOf n_follows n_ifOf n_thenOf n_listOf n_breathOf n_heardOf n_readAt n_readThings n_readFollows n_readKind n_readDigit n_readIf n_readThen n_readings n_readingIn n_readingHour n_readingOf n_breathWas n_sheetSize n_sheetLane n_sheet n_hands n_traceNow)) (va_A (wm_u cyI cyJ ab n_fault n_things n_kindOf n_digitOf n_follows n_ifOf n_thenOf n_listOf n_breathOf n_heardOf n_readAt n_readThings n_readFollows n_readKind n_readDigit n_readIf n_readThen n_readings n_readingIn n_readingHour n_readingOf n_breathWas n_sheetSize n_sheetLane n_sheet n_hands n_traceNow) sz)) 0 0 (va_A (wm_u cyI cyJ ab n_fault n_things n_kindOf n_digitOf n_follows n_ifOf n_thenOf n_listOf n_breathOf n_heardOf n_readAt n_readThings n_readFollows n_readKind n_readDigit n_readIf n_readThen n_readings n_readingIn n_readingHour n_readingOf n_breathWas n_sheetSize n_sheetLane n_sheet n_hands n_traceNow) sz) := by
  refine xq_M (cc := cX6_failedLong) (maxL := 2) (ret := (some .long)) (QA := fun A => va_Ql (fun (rr : Int64) (uu : Int32) => post rr uu) (fun (uu : Int32) => xq_B (dC, dI) [(cyI, .int), (cyJ, .long)] A (wm_u cyI cyJ ab uu n_things n_kindOf n_digitOf n_follows n_ifOf n_thenOf n_listOf n_breathOf n_heardOf n_readAt n_readThings n_readFollows n_readKind n_readDigit n_readIf n_readThen n_readings n_readingIn n_readingHour n_readingOf n_breathWas n_sheetSize n_sheetLane n_sheet n_hands n_traceNow)) A) (by decide) rfl (Nat.le_of_ble_eq_true rfl) ?_
  intro p e s m args below meth c A ls Q hQ hx hb hr hml hts hown hlocks hsz hP hK hD hA hS hN hl
  subst hsz
  have hl : lv_has ls 2 [(0, .ref (ab 0)), (1, .int a_1)] := hl
  have hi_X6 : ∀ w ∈ wsX60, w ∈ wsX6_failedLong := fun _ h => List.mem_cons_of_mem _ (List.mem_append_right _ h)
  have fl_69 := hts (.fieldLink RX6 69 "UnsaidCallsModel" "fault" "I") (by decide +kernel)
  unfold w_X6_failedLong at h
  refine lv_aload_n hx hb dX6_failedLong_0 rfl (lv_at hl 0 rfl) ?_
  refine lv_iload_n hx hb dX6_failedLong_1 rfl (lv_at hl 1 rfl) ?_
  refine va_put (D := (dC, dI)) (ci := 6) (v := .int a_1) (ty := .int) (C := RX6) (T := TX6) (N := 27) hx hb hts hi_X6 tyX6 tyX6_ok nmX6 hown hK hP hD hS 0 rfl rfl 0 (by decide) fl_69 (fun _ h9 => h9) rfl (by decide +kernel) rfl rfl (Nat.le_of_ble_eq_true rfl) dX6_failedLong_2 (fun H locs hP hD hS => ?_)
  have hP : va_P (dC, dI) vwCl (wm_u cyI cyJ ab a_1 n_things n_kindOf n_digitOf n_follows n_ifOf n_thenOf n_listOf n_breathOf n_heardOf n_readAt n_readThings n_readFollows n_readKind n_readDigit n_readIf n_readThen n_readings n_readingIn n_readingHour n_readingOf n_breathWas n_sheetSize n_sheetLane n_sheet n_hands n_traceNow) H := hP
  have hD : va_D A (wm_u cyI cyJ ab a_1 n_things n_kindOf n_digitOf n_follows n_ifOf n_thenOf n_listOf n_breathOf n_heardOf n_readAt n_readThings n_readFollows n_readKind n_readDigit n_readIf n_readThen n_readings n_readingIn n_readingHour n_readingOf n_breathWas n_sheetSize n_sheetLane n_sheet n_hands n_traceNow) := hD
  refine xq_cl (va_runS (As := []) (rest := []) ⟨hx, hb, hml, hown, hts⟩ (m_X6_lost l dC dI cyI cyJ (wm_u cyI cyJ ab a_1 n_things n_kindOf n_digitOf n_follows n_ifOf n_thenOf n_listOf n_breathOf n_heardOf n_readAt n_readThings n_readFollows n_readKind n_readDigit n_readIf n_readThen n_readings n_readingIn n_readingHour n_readingOf n_breathWas n_sheetSize n_sheetLane n_sheet n_hands n_traceNow) H.size h) (va_cwS 0 hts gX6_failedLong_X6_lost rfl rfl rfl (by decide +kernel) ⟨Nat.le_of_ble_eq_true rfl, Nat.le_of_ble_eq_true rfl⟩) (xq_preS hK hP hD hN) rfl rfl hl.1 rfl (lv_room (Nat.le_of_ble_eq_true rfl)) dX6_failedLong_5 ⟨Nat.le_refl _, Nat.le_refl _⟩) hD hS hA (fun rr_1 uu H locs h hP hD hS => ?_)
  have hP : va_P (dC, dI) vwCl (wm_u cyI cyJ ab a_1 n_things n_kindOf n_digitOf n_follows n_ifOf n_thenOf n_listOf n_breathOf n_heardOf n_readAt n_readThings n_readFollows n_readKind n_readDigit n_readIf n_readThen n_readings n_readingIn n_readingHour n_readingOf n_breathWas n_sheetSize n_sheetLane n_sheet n_hands n_traceNow) H := hP
  have hD : va_D A (wm_u cyI cyJ ab a_1 n_things n_kindOf n_digitOf n_follows n_ifOf n_thenOf n_listOf n_breathOf n_heardOf n_readAt n_readThings n_readFollows n_readKind n_readDigit n_readIf n_readThen n_readings n_readingIn n_readingHour n_readingOf n_breathWas n_sheetSize n_sheetLane n_sheet n_hands n_traceNow) := hD
  exact xq_rl hQ hx hb hr hP hK hD hS a_1 rfl h dX6_failedLong_8 hlocks
def w_X6_noCell (n_sheetSize : Nat → Int32) (a_1 : Int32) (a_2 : Int32) (post : Int32 → Prop) : Prop := (vp_in a_1 4) ∧ ((0 ≤ (n_sheetSize a_1.toNatClampNeg) → ((vp_in a_1 4) ∧ (w_X6_in (Int32.toInt64 a_2) (0 : Int64) ((Int32.toInt64 (n_sheetSize a_1.toNatClampNeg)) - (1 : Int64)) (fun (rr_3 : Int32) => (rr_3 = 0 → (post (3 : Int32))) ∧ (¬ rr_3 = 0 → (post (0 : Int32))))))) ∧ (¬ 0 ≤ (n_sheetSize a_1.toNatClampNeg) → (post (1 : Int32))))
set_option maxHeartbeats 4000000 in
set_option maxRecDepth 100000 in
theorem m_X6_noCell (l : Launch) (dC : Nat → ClassId) (dI : Nat → Nat → Nat) (cyI cyJ : ClassId) (ab : Nat → Nat) (sz : Nat) {n_fault : Int32} {n_things : Int32} {n_kindOf : Nat → Int32} {n_digitOf : Nat → Int32} {n_follows : Int32} {n_ifOf : Nat → Int32} {n_thenOf : Nat → Int32} {n_listOf : Nat → Int32} {n_breathOf : Nat → Int32} {n_heardOf : Nat → Int32} {n_readAt : Int32} {n_readThings : Int32} {n_readFollows : Int32} {n_readKind : Nat → Int32} {n_readDigit : Nat → Int32} {n_readIf : Nat → Int32} {n_readThen : Nat → Int32} {n_readings : Int32} {n_readingIn : Nat → Int32} {n_readingHour : Nat → Int32} {n_readingOf : Nat → Int32} {n_breathWas : Nat → Int32} {n_sheetSize : Nat → Int32} {n_sheetLane : Nat → Int32} {n_sheet : Nat → Int32} {n_hands : Nat → Int32} {n_traceNow : Int32} {a_1 : Int32} {a_2 : Int32} {post : Int32 → Prop} (h : w_X6_noCell n_sheetSize a_1 a_2 post) : Met l yX6_noCell wsX6_noCell (xq_R 1 25) (va_Pc [.ref (ab 0), .int a_1, .int a_2] (xq_P (dC, dI) [(cyI, .int), (cyJ, .long)] (wm_u cyI cyJ ab n_fault n_things n_kindOf n_digitOf n_follows n_ifOf n_thenOf n_listOf n_breathOf n_heardOf n_readAt n_readThings n_readFollows n_readKind n_readDigit n_readIf n_readThen n_readings n_readingIn n_readingHour n_readingOf n_breathWas n_sheetSize n_sheetLane n_sheet n_hands n_traceNow) sz)) (va_Qi (fun (rr : Int32) (uu : Unit) => post rr ) (fun (uu : Unit) => xq_B (dC, dI) [(cyI, .int), (cyJ, .long)] (va_A (wm_u cyI cyJ ab n_fault n_things n_kindOf n_digitOf n_follows n_ifOf n_thenOf n_listOf n_breathOf n_heardOf n_readAt n_readThings n_readFollows n_readKind n_readDigit n_readIf n_readThen n_readings n_readingIn n_readingHour n_readingOf n_breathWas n_sheetSize n_sheetLane n_sheet n_hands n_traceNow) sz) (wm_u cyI cyJ ab n_fault n_things n_kindOf n_digitOf n_follows n_ifOf n_thenOf n_listOf n_breathOf n_heardOf n_readAt n_readThings n_readFollows n_readKind n_readDigit n_readIf n_readThen n_readings n_readingIn n_readingHour n_readingOf n_breathWas n_sheetSize n_sheetLane n_sheet n_hands n_traceNow)) (va_A (wm_u cyI cyJ ab n_fault n_things n_kindOf n_digitOf n_follows n_ifOf n_thenOf n_listOf n_breathOf n_heardOf n_readAt n_readThings n_readFollows n_readKind n_readDigit n_readIf n_readThen n_readings n_readingIn n_readingHour n_readingOf n_breathWas n_sheetSize n_sheetLane n_sheet n_hands n_traceNow) sz)) 0 0 (va_A (wm_u cyI cyJ ab n_fault n_things n_kindOf n_digitOf n_follows n_ifOf n_thenOf n_listOf n_breathOf n_heardOf n_readAt n_readThings n_readFollows n_readKind n_readDigit n_readIf n_readThen n_readings n_readingIn n_readingHour n_readingOf n_breathWas n_sheetSize n_sheetLane n_sheet n_hands n_traceNow) sz) := by
  refine xq_M (cc := cX6_noCell) (maxL := 3) (ret := (some .int)) (QA := fun A => va_Qi (fun (rr : Int32) (uu : Unit) => post rr ) (fun (uu : Unit) => xq_B (dC, dI) [(cyI, .int), (cyJ, .long)] A (wm_u cyI cyJ ab n_fault n_things n_kindOf n_digitOf n_follows n_ifOf n_thenOf n_listOf n_breathOf n_heardOf n_readAt n_readThings n_readFollows n_readKind n_readDigit n_readIf n_readThen n_readings n_readingIn n_readingHour n_readingOf n_breathWas n_sheetSize n_sheetLane n_sheet n_hands n_traceNow)) A) (by decide) rfl (Nat.le_of_ble_eq_true rfl) ?_
  intro p e s m args below meth c A ls Q hQ hx hb hr hml hts hown hlocks hsz hP hK hD hA hS hN hl
  subst hsz
  have hl : lv_has ls 3 [(0, .ref (ab 0)), (1, .int a_1), (2, .int a_2)] := hl
  have hi_X6 : ∀ w ∈ wsX60, w ∈ wsX6_noCell := fun _ h => List.mem_cons_of_mem _ (List.mem_append_right _ h)
  have fl_55 := hts (.fieldLink RX6 55 "UnsaidCallsModel" "sheetSize" "[I") (by decide +kernel)
  unfold w_X6_noCell at h
  refine lv_aload_n hx hb dX6_noCell_0 rfl (lv_at hl 0 rfl) ?_
  refine va_get (D := (dC, dI)) (ci := 6) (v := .ref (ab 16)) (C := RX6) (T := TX6) (N := 27) hx hb hts hi_X6 hown hK hP 0 rfl rfl 22 (by decide) fl_55 (fun _ h9 => h9) rfl dX6_noCell_1 ?_
  refine lv_iload_n hx hb dX6_noCell_4 rfl (lv_at hl 1 rfl) ?_
  obtain ⟨hv_1, h⟩ := h
  refine va_iald hx hb hK hP 16 0 rfl rfl hv_1 dX6_noCell_5 ?_
  refine lv_if_ge (tgt := 13) hx hb dX6_noCell_6 (by decide) (fun hc_6 => ?_) (fun hc_6 => ?_)
  · have h := h.1 hc_6
    refine lv_iload_n hx hb dX6_noCell_13 rfl (lv_at hl 2 rfl) ?_
    refine lv_i2l (v := (Int32.toInt64 a_2)) hx hb dX6_noCell_14 rfl ?_
    refine lv_lconst (v := (0 : Int64)) hx hb dX6_noCell_15 (by decide) ?_
    refine lv_aload_n hx hb dX6_noCell_16 rfl (lv_at hl 0 rfl) ?_
    refine va_get (D := (dC, dI)) (ci := 6) (v := .ref (ab 16)) (C := RX6) (T := TX6) (N := 27) hx hb hts hi_X6 hown hK hP 0 rfl rfl 22 (by decide) fl_55 (fun _ h9 => h9) rfl dX6_noCell_17 ?_
    refine lv_iload_n hx hb dX6_noCell_20 rfl (lv_at hl 1 rfl) ?_
    obtain ⟨hv_2, h⟩ := h
    refine va_iald hx hb hK hP 16 0 rfl rfl hv_2 dX6_noCell_21 ?_
    refine lv_i2l (v := (Int32.toInt64 (n_sheetSize a_1.toNatClampNeg))) hx hb dX6_noCell_22 rfl ?_
    refine lv_lconst (v := (1 : Int64)) hx hb dX6_noCell_23 (by decide) ?_
    refine lv_lsub hx hb dX6_noCell_24 ?_
    refine xq_ci (va_runS (As := [.long (Int32.toInt64 a_2), .long (0 : Int64), .long ((Int32.toInt64 (n_sheetSize a_1.toNatClampNeg)) - (1 : Int64))]) (rest := []) ⟨hx, hb, hml, hown, hts⟩ (m_X6_in l dC dI cyI cyJ (wm_u cyI cyJ ab n_fault n_things n_kindOf n_digitOf n_follows n_ifOf n_thenOf n_listOf n_breathOf n_heardOf n_readAt n_readThings n_readFollows n_readKind n_readDigit n_readIf n_readThen n_readings n_readingIn n_readingHour n_readingOf n_breathWas n_sheetSize n_sheetLane n_sheet n_hands n_traceNow) s.heap.size h) (va_cwS 3 hts gX6_noCell_X6_in rfl rfl rfl (by decide +kernel) ⟨Nat.le_of_ble_eq_true rfl, Nat.le_of_ble_eq_true rfl⟩) (xq_preS hK hP hD hN) rfl rfl hl.1 rfl (lv_room (Nat.le_of_ble_eq_true rfl)) dX6_noCell_25 ⟨Nat.le_refl _, Nat.le_refl _⟩) hD hS hA (fun rr_3 uu H locs h hP hD hS => ?_)
    have hP : va_P (dC, dI) vwCl (wm_u cyI cyJ ab n_fault n_things n_kindOf n_digitOf n_follows n_ifOf n_thenOf n_listOf n_breathOf n_heardOf n_readAt n_readThings n_readFollows n_readKind n_readDigit n_readIf n_readThen n_readings n_readingIn n_readingHour n_readingOf n_breathWas n_sheetSize n_sheetLane n_sheet n_hands n_traceNow) H := hP
    have hD : va_D A (wm_u cyI cyJ ab n_fault n_things n_kindOf n_digitOf n_follows n_ifOf n_thenOf n_listOf n_breathOf n_heardOf n_readAt n_readThings n_readFollows n_readKind n_readDigit n_readIf n_readThen n_readings n_readingIn n_readingHour n_readingOf n_breathWas n_sheetSize n_sheetLane n_sheet n_hands n_traceNow) := hD
    refine lv_if_eq (tgt := 35) hx hb dX6_noCell_28 (by decide) (fun hc_4 => ?_) (fun hc_4 => ?_)
    · have h := h.1 hc_4
      refine lv_iconst (v := (3 : Int32)) hx hb dX6_noCell_35 (by decide) ?_
      exact xq_ri hQ hx hb hr hP hK hD hS () rfl h dX6_noCell_36 hlocks
    · have h := h.2 hc_4
      refine lv_iconst (v := (0 : Int32)) hx hb dX6_noCell_31 (by decide) ?_
      refine lv_goto (tgt := 36) hx hb dX6_noCell_32 (by decide) ?_
      exact xq_ri hQ hx hb hr hP hK hD hS () rfl h dX6_noCell_36 hlocks
  · have h := h.2 hc_6
    refine lv_iconst (v := (1 : Int32)) hx hb dX6_noCell_9 (by decide) ?_
    refine lv_goto (tgt := 36) hx hb dX6_noCell_10 (by decide) ?_
    exact xq_ri hQ hx hb hr hP hK hD hS () rfl h dX6_noCell_36 hlocks
