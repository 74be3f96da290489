-- ===== sheets =====
theorem s_hasRow {k : Nat} {s_lanes : Nat → Int32} (hk : k < 4) (post : Int32 → Prop) : w_X2_hasRow s_lanes (nI k) post ↔ post (pa_b (decide (¬ s_lanes k = -1))) := by
  unfold w_X2_hasRow
  rw [pa_cl (by omega)]
  refine ⟨fun h => (pa_1 (by rw [decide_eq_true_iff])).mp h.2, fun h => ⟨pa_vp hk (by omega), (pa_1 (by rw [decide_eq_true_iff])).mpr h⟩⟩
theorem s_mayBe {k : Nat} {s_lanes : Nat → Int32} (a : Int32) (hk : k < 4) (post : Int32 → Prop) : w_X2_mayBeOfLane s_lanes (nI k) a post ↔ post (pa_b (decide (s_lanes k = -1 ∨ s_lanes k = a))) := by
  unfold w_X2_mayBeOfLane
  rw [pa_cl (by omega)]
  constructor
  · intro h
    by_cases c1 : s_lanes k = -1
    · rw [decide_eq_true (Or.inl c1)]; exact h.2.1 c1
    · by_cases c2 : s_lanes k = a
      · rw [decide_eq_true (Or.inr c2)]; exact (h.2.2 c1).2.2 c2
      · rw [decide_eq_false (by simp [c1, c2])]; exact (h.2.2 c1).2.1 c2
  · intro h
    refine ⟨pa_vp hk (by omega), fun c1 => ?_, fun c1 => ⟨pa_vp hk (by omega), fun c2 => ?_, fun c2 => ?_⟩⟩
    · rw [decide_eq_true (Or.inl c1)] at h; exact h
    · rw [decide_eq_false (by simp [c1, c2])] at h; exact h
    · rw [decide_eq_true (Or.inr c2)] at h; exact h
theorem s_isCell {k : Nat} {s_sizes : Nat → Int32} (a : Int32) (hk : k < 4) (post : Int32 → Prop) (h : post (pa_b (decide (0 ≤ a.toInt ∧ a.toInt < (s_sizes k).toInt)))) : w_X2_isCell s_sizes (nI k) a post := by
  unfold w_X2_isCell
  rw [pa_cl (by omega), pa_l0, pa_le]
  refine ⟨fun c1 => ?_, fun c1 => ⟨pa_vp hk (by omega), fun c2 => ?_, fun c2 => ?_⟩⟩
  · rw [decide_eq_false (by omega)] at h; exact h
  · rw [decide_eq_false (by omega)] at h; exact h
  · rw [decide_eq_true (by omega)] at h; exact h
theorem ps_sub {sz : Nat} {a : Int32} (hs : sz ≤ 60) (h0 : 0 ≤ a.toInt) (h1 : a.toInt ≤ sz) : (nI sz - a).toInt = sz - a.toInt := by
  rw [Int32.toInt_sub, pa_nI sz (by omega), Int.bmod_eq_of_le] <;> omega
theorem s_hasCells {k sz : Nat} {s_sizes : Nat → Int32} (a n : Int32) (hk : k < 4) (hs : s_sizes k = nI sz) (h60 : sz ≤ 60) (post : Int32 → Prop) (h : post (pa_b (decide (0 ≤ n.toInt ∧ 0 ≤ a.toInt ∧ a.toInt + n.toInt ≤ sz)))) : w_X2_hasCells s_sizes (nI k) a n post := by
  unfold w_X2_hasCells
  rw [pa_cl (by omega), hs, pa_l0, pa_l0, pa_lt, pa_nI sz (by omega)]
  refine ⟨fun c1 => ?_, fun c1 => ⟨fun c2 => ?_, fun c2 => ⟨pa_vp hk (by omega), fun c3 => ?_, fun c3 => ⟨pa_vp hk (by omega), fun c4 => ?_, fun c4 => ?_⟩⟩⟩⟩
  · rw [decide_eq_false (by omega)] at h; exact h
  · rw [decide_eq_false (by omega)] at h; exact h
  · rw [decide_eq_false (by omega)] at h; exact h
  · rw [pa_lt, ps_sub h60 (by omega) (by omega)] at c4
    rw [decide_eq_false (by omega)] at h; exact h
  · rw [pa_lt, ps_sub h60 (by omega) (by omega)] at c4
    rw [decide_eq_true (by omega)] at h; exact h
theorem s_beyond (a n z : Int32) (post : Int32 → Prop) (h : post (pa_b (!decide (0 ≤ n.toInt ∧ 0 ≤ a.toInt ∧ a.toInt + n.toInt ≤ z.toInt)))) : w_X6_isBeyond a (Int32.toInt64 n) z post := by
  unfold w_X6_isBeyond
  have ha := pa_in a
  have hn := pa_in n
  have e : (Int32.toInt64 a + Int32.toInt64 n).toInt = a.toInt + n.toInt := by
    rw [Int64.toInt_add, pa_i64, pa_i64, Int.bmod_eq_of_le] <;> omega
  rw [pa_l0, lg_cmp_lt, pa_llt, lg_cmp_le, pa_lle, pa_i64, e, pa_i64, show (0 : Int64).toInt = 0 from rfl]
  refine ⟨fun c1 => ?_, fun c1 => ⟨fun c2 => ?_, fun c2 => ⟨fun c3 => ?_, fun c3 => ?_⟩⟩⟩
  · rw [decide_eq_false (by omega)] at h; exact h
  · rw [decide_eq_false (by omega)] at h; exact h
  · rw [decide_eq_true (by omega)] at h; exact h
  · rw [decide_eq_false (by omega)] at h; exact h
theorem s_noCell {k : Nat} {n_sheetSize : Nat → Int32} (a : Int32) (hk : k < 4) (post : Int32 → Prop) (h1 : (n_sheetSize k).toInt < 0 → post 1) (h3 : 0 ≤ (n_sheetSize k).toInt → ¬ (0 ≤ a.toInt ∧ a.toInt < (n_sheetSize k).toInt) → post 3) (h0 : 0 ≤ (n_sheetSize k).toInt → (0 ≤ a.toInt ∧ a.toInt < (n_sheetSize k).toInt) → post 0) : w_X6_noCell n_sheetSize (nI k) a post := by
  unfold w_X6_noCell
  have hz := pa_in (n_sheetSize k)
  have e : (Int32.toInt64 (n_sheetSize k) - (1 : Int64)).toInt = (n_sheetSize k).toInt - 1 := by
    rw [Int64.toInt_sub, pa_i64, show (1 : Int64).toInt = 1 from rfl, Int.bmod_eq_of_le] <;> omega
  rw [pa_cl (by omega), pa_le 0, show (0 : Int32).toInt = 0 from rfl]
  refine ⟨pa_vp hk (by omega), fun c1 => ⟨pa_vp hk (by omega), ?_⟩, fun c1 => h1 (by omega)⟩
  rw [s_in, pa_i64, e, show (0 : Int64).toInt = 0 from rfl, pa_b0, decide_eq_false_iff_not]
  exact ⟨fun c2 => h3 c1 (by omega), fun c2 => h0 c1 (by omega)⟩
/-- the sheets of both sides -/
def iv_s1 (s_lanes s_sizes s_cells n_sheetSize n_sheetLane n_sheet : Nat → Int32) (k : Nat) : Prop :=
  (s_lanes k = -1 ∧ n_sheetSize k = -1 ∧ s_sizes k = 0) ∨ ∃ la sz : Nat, la ≤ 2 ∧ sz ≤ 60 ∧ s_lanes k = nI la ∧ n_sheetLane k = nI la ∧ s_sizes k = nI sz ∧ n_sheetSize k = nI sz ∧ ∀ i, i < sz → s_cells (60 * k + i) = n_sheet (60 * k + i)
def iv_s (s_lanes s_sizes s_cells n_sheetSize n_sheetLane n_sheet : Nat → Int32) : Prop := ∀ k, k < 4 → iv_s1 s_lanes s_sizes s_cells n_sheetSize n_sheetLane n_sheet k
theorem ps_lane {la : Nat} (h : la ≤ 2) : ¬ nI la = (-1 : Int32) := by
  rw [pa_eq, pa_nI _ (by omega), show (-1 : Int32).toInt = -1 from rfl]; omega
theorem ps_of {a : Int32} {n : Nat} (hn : n ≤ 1000) (h : 0 ≤ a.toInt ∧ a.toInt < n) : ∃ k, k < n ∧ a = nI k := pa_of h.1 h.2 (by omega)
theorem ps_mOne : (-1 : Int32).toInt = -1 := by decide
/-- what a refusal of cells comes to, on both sides -/
theorem s_cellsOf {s_lanes s_sizes s_cells n_sheetSize n_sheetLane n_sheet : Nat → Int32} (hv : iv_s s_lanes s_sizes s_cells n_sheetSize n_sheetLane n_sheet) (a1 a2 a3 a4 : Int32) :
    ∃ r f : Int32, (r.toInt < 0 ∨ r = 0 ∧ ∃ k i N sz, k < 4 ∧ a1 = nI k ∧ a3 = nI i ∧ a4 = nI N ∧ i + N ≤ sz ∧ sz ≤ 60 ∧ s_sizes k = nI sz ∧ ∀ j, j < sz → s_cells (60 * k + j) = n_sheet (60 * k + j))
      ∧ (∀ lf post, (r = 0 → post r 0) → (r.toInt < 0 → post r f) → w_X5_refusalOfCells s_lanes s_sizes lf a1 a2 a3 a4 post)
      ∧ (∀ lf post, (r = 0 → post r lf) → (r.toInt < 0 → post r f) → w_X6_barred lf n_sheetSize n_sheetLane a1 a2 a3 (Int32.toInt64 a4) post) := by
  by_cases c1 : 0 ≤ a1.toInt ∧ a1.toInt < 4
  · obtain ⟨k, hk, rfl⟩ := ps_of (n := 4) (by omega) c1
    by_cases c2 : 0 ≤ a2.toInt ∧ a2.toInt < 3
    · rcases hv k hk with ⟨v1, v2, v3⟩ | ⟨la, sz, v1, v2, v3, v4, v5, v6, v7⟩
      · refine ⟨-11, 1, Or.inl (by decide), fun lf post h0 h1 => ?_, fun lf post h0 h1 => ?_⟩
        · have hp := h1 (by decide)
          unfold w_X5_refusalOfCells
          rw [s_isSheet, decide_eq_true c1, s_isLane, decide_eq_true c2, s_mayBe _ hk, decide_eq_true (Or.inl v1), s_hasRow hk, decide_eq_false (by simp [v1])]
          exact ⟨fun _ => ⟨fun _ => ⟨fun _ => ⟨fun q => absurd rfl q, fun _ => hp⟩, fun q => absurd q (by decide)⟩, fun q => absurd q (by decide)⟩, fun q => absurd q (by decide)⟩
        · have hp := h1 (by decide)
          unfold w_X6_barred
          rw [s_noSheet, decide_eq_true c1, s_in, pa_i64, decide_eq_true (by rw [show (0 : Int64).toInt = 0 from rfl, show (2 : Int64).toInt = 2 from rfl]; omega)]
          refine ⟨fun _ => ⟨fun _ => ⟨pa_vp hk (by omega), ?_⟩, fun q => absurd q (by decide)⟩, fun q => absurd rfl q⟩
          rw [pa_cl (by omega), v2]
          refine xq_use0 (fun K hK => ⟨fun _ => hK, fun q => absurd (by decide) q⟩) ⟨pa_vp hk (by omega), fun q => absurd q (by decide), fun _ => hp⟩
      · by_cases c3 : nI la = a2
        · subst c3
          by_cases c4 : 0 ≤ a4.toInt
          · by_cases c5 : 0 ≤ a4.toInt ∧ 0 ≤ a3.toInt ∧ a3.toInt + a4.toInt ≤ sz
            · obtain ⟨i, hi, rfl⟩ := pa_of (x := a3) (n := 61) c5.2.1 (by omega) (by omega)
              obtain ⟨N, hN, rfl⟩ := pa_of (x := a4) (n := 61) c5.1 (by omega) (by omega)
              rw [pa_nI N (by omega), pa_nI i (by omega)] at c5
              refine ⟨0, 0, Or.inr ⟨rfl, k, i, N, sz, hk, rfl, rfl, rfl, by omega, v2, v5, v7⟩, fun lf post h0 h1 => ?_, fun lf post h0 h1 => ?_⟩
              · have hp := h0 rfl
                unfold w_X5_refusalOfCells
                rw [s_isSheet, decide_eq_true c1, s_isLane, decide_eq_true c2, s_mayBe _ hk, decide_eq_true (Or.inr v3), s_hasRow hk, decide_eq_true (by rw [v3]; exact ps_lane v1)]
                refine ⟨fun _ => ⟨fun _ => ⟨fun _ => ⟨fun _ => ⟨fun _ => ?_, fun q => absurd ((pa_le 0 _).mpr c4) q⟩, fun q => absurd q (by decide)⟩, fun q => absurd q (by decide)⟩, fun q => absurd q (by decide)⟩, fun q => absurd q (by decide)⟩
                refine s_hasCells _ _ hk v5 v2 _ ?_
                rw [pa_nI N (by omega), pa_nI i (by omega), decide_eq_true c5]
                exact ⟨fun q => absurd q (by decide), fun _ => hp⟩
              · have hp := h0 rfl
                unfold w_X6_barred
                rw [s_noSheet, decide_eq_true c1, s_in, pa_i64, decide_eq_true (by rw [show (0 : Int64).toInt = 0 from rfl, show (2 : Int64).toInt = 2 from rfl]; omega)]
                refine ⟨fun _ => ⟨fun _ => ⟨pa_vp hk (by omega), ?_⟩, fun q => absurd q (by decide)⟩, fun q => absurd rfl q⟩
                rw [pa_cl (by omega), v6, v4, pa_l0, pa_le 0, pa_nI sz (by omega), show (0 : Int32).toInt = 0 from rfl]
                refine xq_use0 (fun K hK => ⟨fun _ => hK, fun q => ⟨pa_vp hk (by omega), fun _ => hK, fun q => absurd rfl q⟩⟩) ⟨pa_vp hk (by omega), fun _ => ⟨fun _ => ⟨pa_vp hk (by omega), ?_⟩, fun q => absurd ((lg_cmp_ge _ _).mpr ((pa_lle _ _).mpr (by rw [pa_i64]; exact c4))) q⟩, fun q => absurd (by omega) q⟩
                refine s_beyond _ _ _ _ ?_
                rw [pa_nI N (by omega), pa_nI i (by omega), pa_nI sz (by omega), decide_eq_true c5]
                exact ⟨fun _ => hp, fun q => absurd rfl q⟩
            · refine ⟨-13, 3, Or.inl (by decide), fun lf post h0 h1 => ?_, fun lf post h0 h1 => ?_⟩
              · have hp := h1 (by decide)
                unfold w_X5_refusalOfCells
                rw [s_isSheet, decide_eq_true c1, s_isLane, decide_eq_true c2, s_mayBe _ hk, decide_eq_true (Or.inr v3), s_hasRow hk, decide_eq_true (by rw [v3]; exact ps_lane v1)]
                refine ⟨fun _ => ⟨fun _ => ⟨fun _ => ⟨fun _ => ⟨fun _ => ?_, fun q => absurd ((pa_le 0 _).mpr c4) q⟩, fun q => absurd q (by decide)⟩, fun q => absurd q (by decide)⟩, fun q => absurd q (by decide)⟩, fun q => absurd q (by decide)⟩
                refine s_hasCells _ _ hk v5 v2 _ ?_
                rw [decide_eq_false c5]
                exact ⟨fun _ => hp, fun q => absurd rfl q⟩
              · have hp := h1 (by decide)
                unfold w_X6_barred
                rw [s_noSheet, decide_eq_true c1, s_in, pa_i64, decide_eq_true (by rw [show (0 : Int64).toInt = 0 from rfl, show (2 : Int64).toInt = 2 from rfl]; omega)]
                refine ⟨fun _ => ⟨fun _ => ⟨pa_vp hk (by omega), ?_⟩, fun q => absurd q (by decide)⟩, fun q => absurd rfl q⟩
                rw [pa_cl (by omega), v6, v4, pa_l0, pa_le 0, pa_nI sz (by omega), show (0 : Int32).toInt = 0 from rfl]
                refine xq_use0 (fun K hK => ⟨fun _ => hK, fun q => ⟨pa_vp hk (by omega), fun _ => hK, fun q => absurd rfl q⟩⟩) ⟨pa_vp hk (by omega), fun _ => ⟨fun _ => ⟨pa_vp hk (by omega), ?_⟩, fun q => absurd ((lg_cmp_ge _ _).mpr ((pa_lle _ _).mpr (by rw [pa_i64]; exact c4))) q⟩, fun q => absurd (by omega) q⟩
                refine s_beyond _ _ _ _ ?_
                rw [pa_nI sz (by omega), decide_eq_false c5]
                exact ⟨fun q => absurd q (by decide), fun _ => hp⟩
          · refine ⟨-14, 4, Or.inl (by decide), fun lf post h0 h1 => ?_, fun lf post h0 h1 => ?_⟩
            · have hp := h1 (by decide)
              unfold w_X5_refusalOfCells
              rw [s_isSheet, decide_eq_true c1, s_isLane, decide_eq_true c2, s_mayBe _ hk, decide_eq_true (Or.inr v3), s_hasRow hk, decide_eq_true (by rw [v3]; exact ps_lane v1)]
              exact ⟨fun _ => ⟨fun _ => ⟨fun _ => ⟨fun _ => ⟨fun q => absurd ((pa_le 0 _).mp q) c4, fun q => hp⟩, fun q => absurd q (by decide)⟩, fun q => absurd q (by decide)⟩, fun q => absurd q (by decide)⟩, fun q => absurd q (by decide)⟩
            · have hp := h1 (by decide)
              unfold w_X6_barred
              rw [s_noSheet, decide_eq_true c1, s_in, pa_i64, decide_eq_true (by rw [show (0 : Int64).toInt = 0 from rfl, show (2 : Int64).toInt = 2 from rfl]; omega)]
              refine ⟨fun _ => ⟨fun _ => ⟨pa_vp hk (by omega), ?_⟩, fun q => absurd q (by decide)⟩, fun q => absurd rfl q⟩
              rw [pa_cl (by omega), v6, v4, pa_l0, pa_le 0, pa_nI sz (by omega), show (0 : Int32).toInt = 0 from rfl]
              refine xq_use0 (fun K hK => ⟨fun _ => hK, fun q => ⟨pa_vp hk (by omega), fun _ => hK, fun q => absurd rfl q⟩⟩) ⟨pa_vp hk (by omega), fun _ => ⟨fun q => absurd ?_ c4, fun _ => hp⟩, fun q => absurd (by omega) q⟩
              have := (pa_lle _ _).mp ((lg_cmp_ge _ _).mp q)
              rw [pa_i64] at this; exact this
        · refine ⟨-12, 2, Or.inl (by decide), fun lf post h0 h1 => ?_, fun lf post h0 h1 => ?_⟩
          · have hp := h1 (by decide)
            unfold w_X5_refusalOfCells
            rw [s_isSheet, decide_eq_true c1, s_isLane, decide_eq_true c2, s_mayBe _ hk, decide_eq_false (by rw [v3]; exact fun w => w.elim (ps_lane v1) c3)]
            exact ⟨fun _ => ⟨fun _ => ⟨fun q => absurd rfl q, fun _ => hp⟩, fun q => absurd q (by decide)⟩, fun q => absurd q (by decide)⟩
          · have hp := h1 (by decide)
            unfold w_X6_barred
            rw [s_noSheet, decide_eq_true c1, s_in, pa_i64, decide_eq_true (by rw [show (0 : Int64).toInt = 0 from rfl, show (2 : Int64).toInt = 2 from rfl]; omega)]
            refine ⟨fun _ => ⟨fun _ => ⟨pa_vp hk (by omega), ?_⟩, fun q => absurd q (by decide)⟩, fun q => absurd rfl q⟩
            rw [pa_cl (by omega), v6, v4, pa_l0, pa_nI sz (by omega)]
            exact ⟨fun q => by omega, fun _ => ⟨pa_vp hk (by omega), fun q => absurd q c3, fun _ => hp⟩⟩
    · refine ⟨-2, 0, Or.inl (by decide), fun lf post h0 h1 => ?_, fun lf post h0 h1 => ?_⟩
      · have hp := h1 (by decide)
        unfold w_X5_refusalOfCells
        rw [s_isSheet, decide_eq_true c1, s_isLane, decide_eq_false c2]
        exact ⟨fun _ => ⟨fun q => absurd rfl q, fun _ => hp⟩, fun q => absurd q (by decide)⟩
      · have hp := h1 (by decide)
        unfold w_X6_barred
        rw [s_noSheet, decide_eq_true c1, s_in, pa_i64, decide_eq_false (by rw [show (0 : Int64).toInt = 0 from rfl, show (2 : Int64).toInt = 2 from rfl]; omega)]
        exact ⟨fun _ => ⟨fun q => absurd rfl q, fun _ => hp⟩, fun q => absurd rfl q⟩
  · refine ⟨-1, 0, Or.inl (by decide), fun lf post h0 h1 => ?_, fun lf post h0 h1 => ?_⟩
    · have hp := h1 (by decide)
      unfold w_X5_refusalOfCells
      rw [s_isSheet, decide_eq_false c1]
      exact ⟨fun q => absurd rfl q, fun _ => hp⟩
    · have hp := h1 (by decide)
      unfold w_X6_barred
      rw [s_noSheet, decide_eq_false c1]
      exact ⟨fun q => absurd q (by decide), fun _ => hp⟩
