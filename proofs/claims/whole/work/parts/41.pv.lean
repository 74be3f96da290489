-- ===== how many; a night without a town =====
def iv_ct (he : Nat → Int32) (i : Nat) : Nat := (List.range i).foldl (fun s h => s + (if he h = -9 then 0 else 1)) 0
theorem iv_cts (he : Nat → Int32) (i : Nat) : iv_ct he (i + 1) = iv_ct he i + (if he i = -9 then 0 else 1) := pd_range_s _ _ _
theorem iv_ctb (he : Nat → Int32) : ∀ i, iv_ct he i ≤ i := by
  intro i
  induction i with
  | zero => exact Nat.le_refl 0
  | succ i ih => rw [iv_cts]; split <;> omega
theorem iv_ctc {he he' : Nat → Int32} (h : ∀ j, j < 6 → he j = he' j) : iv_ct he 6 = iv_ct he' 6 := by
  have : ∀ i, i ≤ 6 → iv_ct he i = iv_ct he' i := by
    intro i
    induction i with
    | zero => intro _; rfl
    | succ i ih => intro hi; rw [iv_cts, iv_cts, ih (by omega), h i (by omega)]
  exact this 6 (by omega)
theorem s_countHeard {u_heard : Nat → Int32} {post : Int32 → Prop} (h : post (nI (iv_ct u_heard 6))) : w_X5_countHeard u_heard post := by
  unfold w_X5_countHeard
  refine ⟨6 + 1, ?_⟩
  refine pl_inv (M := fun f i (z : Int32) => w_X5_countHeard_L4 u_heard post _ f z (nI i)) (fun i z => z = nI (iv_ct u_heard i)) (fun f z hI => ?_) (fun f i z hi hI hM => ?_) 0 rfl
  · rw [w_X5_countHeard_L4]; subst hI
    exact ⟨fun _ => h, fun q => absurd (by decide) q⟩
  · rw [w_X5_countHeard_L4]; subst hI
    refine ⟨fun q => absurd q (pa_nle (a := 6) (by omega) (by omega)), fun _ => ⟨pa_vp (by omega) (by omega), ?_⟩⟩
    rw [pa_cl (by omega), pa_s1, pa_s1]
    refine ⟨fun q => hM _ ?_, fun q => hM _ ?_⟩
    · rw [iv_cts, if_pos q]; rfl
    · rw [iv_cts, if_neg q]
theorem s_many7 {n fo : Nat} {fi ft : Nat → Nat} {n_ifOf n_thenOf n_heardOf : Nat → Int32} {a1 a3 R : Int32} {post kk : Int32 → Prop} (hn : n < 7) (hfo : fo ≤ 4) (hf : ∀ f, f < fo → n_ifOf f = nI (fi f) ∧ n_thenOf f = nI (ft f) ∧ fi f < 6 ∧ ft f < 6) (h : kk (nI (pd_cl n fo fi ft).length)) : ∃ e, w_X6_many_L7 a1 a3 (nI n) (nI fo) n_ifOf n_thenOf n_heardOf R post kk e 0 0 := by
  refine ⟨64 + 1, ?_⟩
  refine pl_inv (M := fun f i (z : Int32) => w_X6_many_L7 a1 a3 (nI n) (nI fo) n_ifOf n_thenOf n_heardOf R post kk f z (nI i)) (fun i z => z = nI ((List.range i).filter (pc_ic n fo fi ft)).length) (fun f z hI => ?_) (fun f i z hi hI hM => ?_) 0 rfl
  · rw [w_X6_many_L7]; subst hI
    exact ⟨fun _ => h, fun q => absurd (by decide) q⟩
  · rw [w_X6_many_L7]; subst hI
    refine ⟨fun q => absurd q (pa_nle (a := 64) (by omega) (by omega)), fun _ => s_isCase hn hfo hf _ ?_⟩
    rw [pc_ci_nI (by omega), pa_b0, pn_add0, pa_s1 i, pa_s1]
    refine ⟨fun q => hM _ ?_, fun q => hM _ ?_⟩
    · rw [pq_fs, if_neg (by rw [q]; decide), List.append_nil]
    · rw [Bool.not_eq_false] at q
      rw [pq_fs, if_pos q, List.length_append (bs := [i])]; rfl
theorem s_many40 {n : Nat} {n_ifOf n_thenOf n_heardOf : Nat → Int32} {a1 a2 F R : Int32} {post kk : Int32 → Prop} (hn : n < 7) (hhe : ∀ h, h < 6 → n_heardOf h = (-9 : Int32) ∨ 0 ≤ (n_heardOf h).toInt) (h : kk (nI (iv_ct (if n = 0 then fun _ => -9 else n_heardOf) 6))) : ∃ e, w_X6_many_L40 a1 a2 (nI n) F n_ifOf n_thenOf n_heardOf R post kk e 0 0 := by
  rcases Nat.eq_zero_or_pos n with e | e
  · subst e
    refine ⟨1, ?_⟩
    rw [w_X6_many_L40]
    rw [if_pos rfl] at h
    exact ⟨fun q => absurd q (by decide), fun _ => ⟨fun _ => h, fun q => absurd (by decide) q⟩⟩
  · refine ⟨6 + 1, ?_⟩
    rw [if_neg (by omega)] at h
    refine pl_inv (M := fun f i (z : Int32) => w_X6_many_L40 a1 a2 (nI n) F n_ifOf n_thenOf n_heardOf R post kk f z (nI i)) (fun i z => z = nI (iv_ct n_heardOf i)) (fun f z hI => ?_) (fun f i z hi hI hM => ?_) 0 rfl
    · rw [w_X6_many_L40]; subst hI
      exact ⟨fun _ => h, fun q => absurd (by decide) q⟩
    · rw [w_X6_many_L40]; subst hI
      refine ⟨fun q => absurd q (pa_nle (a := 6) (by omega) (by omega)), fun _ => ⟨fun q => absurd q (by rw [show (0 : Int32) = nI 0 from rfl, pa_leN (by omega) (by omega)]; omega), fun _ => ⟨pa_vp (by omega) (by omega), ?_⟩⟩⟩
      rw [pa_cl (by omega), pa_s1 i, pn_add0, pa_s1, pa_l0]
      refine ⟨fun q => hM _ ?_, fun q => hM _ ?_⟩
      · have : n_heardOf i = -9 := (hhe i hi).resolve_right (by omega)
        rw [iv_cts, if_pos this]; rfl
      · have : ¬ n_heardOf i = -9 := fun w => q (by rw [w]; decide)
        rw [iv_cts, if_neg this]
theorem s_night0 {fo : Nat} {s_lanes s_sizes s_cells t_caseRow t_calls u_lists p_partOfCase : Nat → Int32} {p_callsOfCase : Nat → Int64} {p_cases p_parts t_caseCount lf nf : Int32} {n_kindOf n_ifOf n_thenOf n_listOf n_breathOf n_breathWas n_sheetSize n_sheetLane n_sheet : Nat → Int32} (hv : iv_s s_lanes s_sizes s_cells n_sheetSize n_sheetLane n_sheet) (a1 a2 a3 a4 : Int32) :
    ∃ r f : Int32, (∀ post, (∀ g p c1 c2, post r g p c1 c2 f) → w_X5_night s_lanes s_sizes s_cells t_caseRow t_calls (nI 0) t_caseCount p_callsOfCase p_partOfCase p_cases p_parts u_lists lf a1 a2 a3 a4 post)
      ∧ (∀ post, (∀ bw, post r f n_breathOf bw) → w_X6_night nf (nI 0) n_kindOf (nI fo) n_ifOf n_thenOf n_listOf n_breathOf n_breathWas n_sheetSize n_sheetLane n_sheet a1 a2 a3 a4 post) := by
  obtain ⟨r, f, hr, hC, hM⟩ := s_cellsOf hv a1 a2 a3 a4
  rcases hr with hneg | ⟨rfl, -⟩
  · refine ⟨r, f, fun post h => ?_, fun post h => ?_⟩
    · unfold w_X5_night
      exact hC lf _ (fun e => absurd e (pu_ne0 hneg)) (fun _ => ⟨fun e => absurd e (pu_ne0 hneg), fun _ => h _ _ _ _⟩)
    · unfold w_X6_night
      exact hM nf _ (fun e => absurd e (pu_ne0 hneg)) (fun _ => ⟨fun e => absurd e (pu_le0 hneg), fun _ => h _⟩)
  · refine ⟨-3, 0, fun post h => ?_, fun post h => ?_⟩
    · unfold w_X5_night
      refine hC lf _ (fun _ => ⟨fun _ => ?_, fun e => absurd rfl e⟩) (fun e => absurd e (by decide))
      rw [s_hasTown (by omega), decide_eq_false (by omega)]
      exact ⟨fun q => absurd rfl q, fun _ => h _ _ _ _⟩
    · unfold w_X6_night
      exact hM nf _ (fun _ => ⟨fun _ => ⟨fun q => absurd rfl q, fun _ => h _⟩, fun q => absurd (by decide) q⟩) (fun e => absurd e (by decide))
