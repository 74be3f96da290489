-- ===== night =====
def pu_B (c : Nat → Int32) (j : Nat) : Bool := decide (0 ≤ (c j).toInt ∧ (c j).toInt ≤ 18)
theorem pu_Bc {c c' : Nat → Int32} {j : Nat} (h : c j = c' j) : pu_B c j = pu_B c' j := by unfold pu_B; simp only [h]
theorem s_areBreaths {k i N sz : Nat} {s_sizes s_cells : Nat → Int32} {post : Int32 → Prop} (hk : k < 4) (hs : s_sizes k = nI sz) (h60 : sz ≤ 60) (hi : i + N ≤ sz) (hN : N ≤ 6) (h : post (pa_b ((List.range N).all (pu_B (fun j => s_cells (60 * k + (i + j))))))) : w_X5_areBreaths s_sizes s_cells (nI k) (nI i) (nI N) post := by
  unfold w_X5_areBreaths
  refine ⟨N + 1, ?_⟩
  refine pl_inv (M := fun f j (_ : Unit) => w_X5_areBreaths_L3 (nI k) (nI i) (nI N) s_sizes s_cells post _ f (nI j)) (fun j _ => (List.range j).all (pu_B (fun j => s_cells (60 * k + (i + j)))) = true) (fun f z hI => ?_) (fun f j z hj hI hM => ?_) () rfl
  · rw [w_X5_areBreaths_L3]
    rw [hI] at h
    exact ⟨fun _ => h, fun q => absurd (pa_le_ (Nat.le_refl _) (by omega)) q⟩
  · rw [w_X5_areBreaths_L3]
    refine ⟨fun q => absurd q (pa_nle hj (by omega)), fun _ => ⟨fun q => absurd q (pa_nle (a := 6) (by omega) (by omega)), fun _ => ?_⟩⟩
    rw [nI_add, pa_s1]
    refine s_at hk hs (by omega) h60 ?_
    rw [s_isBreath, pa_bn, pa_b0]
    refine ⟨fun q => hM () (by rw [pc_all_s, hI]; exact q), fun q => ?_⟩
    rw [pc_all_f (i := j + 1) (by omega) (by rw [pc_all_s, hI]; exact q)] at h
    exact h
theorem pu_ad {k i j : Nat} : (60 : Int32) * nI k + nI i + nI j = nI (60 * k + (i + j)) := by
  rw [show (60 : Int32) = nI 60 from rfl, pk_mul, nI_add, nI_add, Nat.add_assoc]
theorem s_night51 {k i N : Nat} {F : Int32} {n_things n_follows : Int32} {n_kindOf n_ifOf n_thenOf n_listOf n_breathOf n_breathWas n_sheetSize n_sheetLane n_sheet : Nat → Int32} {post : Int32 → Int32 → (Nat → Int32) → (Nat → Int32) → Prop} {kk : Int32 → Prop} (hk : k < 4) (hi : i + N ≤ 60) (h : kk (pa_b ((List.range N).all (pu_B (fun j => n_sheet (60 * k + (i + j))))))) :
    ∃ e, w_X6_night_L51 (nI k) (nI i) (nI N) F n_things n_kindOf n_follows n_ifOf n_thenOf n_listOf n_breathOf n_breathWas n_sheetSize n_sheetLane n_sheet post kk e 1 0 := by
  refine ⟨N + 1, ?_⟩
  refine pl_inv (M := fun f j (z : Int32) => w_X6_night_L51 (nI k) (nI i) (nI N) F n_things n_kindOf n_follows n_ifOf n_thenOf n_listOf n_breathOf n_breathWas n_sheetSize n_sheetLane n_sheet post kk f z (nI j)) (fun j z => z = pa_b ((List.range j).all (pu_B (fun j => n_sheet (60 * k + (i + j)))))) (fun f z hI => ?_) (fun f j z hj hI hM => ?_) 1 rfl
  · rw [w_X6_night_L51]
    subst hI
    exact ⟨fun _ => h, fun q => absurd (pa_le_ (Nat.le_refl _) (by omega)) q⟩
  · rw [w_X6_night_L51]
    subst hI
    refine ⟨fun q => absurd q (pa_nle hj (by omega)), fun _ => ⟨fun q => ?_, fun q => ?_⟩⟩
    · rw [pa_b0] at q
      rw [q]; rw [pc_all_f (i := j) (by omega) q] at h; exact h
    · rw [pa_bn] at q
      rw [pu_ad, pa_cl (by omega), s_in, pa_i64, show (0 : Int64).toInt = 0 from rfl, show (18 : Int64).toInt = 18 from rfl, pa_s1]
      exact ⟨pa_vp (by omega) (by omega), hM _ (by rw [pc_all_s, q]; rfl)⟩
theorem s_night51f {k i : Nat} {a4 F : Int32} {n_things n_follows : Int32} {n_kindOf n_ifOf n_thenOf n_listOf n_breathOf n_breathWas n_sheetSize n_sheetLane n_sheet : Nat → Int32} {post : Int32 → Int32 → (Nat → Int32) → (Nat → Int32) → Prop} {kk : Int32 → Prop} (h : kk 0) :
    ∃ e, w_X6_night_L51 (nI k) (nI i) a4 F n_things n_kindOf n_follows n_ifOf n_thenOf n_listOf n_breathOf n_breathWas n_sheetSize n_sheetLane n_sheet post kk e 0 0 := by
  refine ⟨1, ?_⟩
  rw [w_X6_night_L51]
  exact ⟨fun _ => h, fun _ => ⟨fun _ => h, fun q => absurd rfl q⟩⟩
theorem s_night108 {k i N : Nat} {F : Int32} {n_things n_follows : Int32} {n_kindOf n_ifOf n_thenOf n_listOf n_breathOf n_breathWas n_sheetSize n_sheetLane n_sheet : Nat → Int32} {post : Int32 → Int32 → (Nat → Int32) → (Nat → Int32) → Prop} {kk : (Nat → Int32) → (Nat → Int32) → Prop} (hk : k < 4) (hN : N ≤ 6) (hi : i + N ≤ 60)
    (h : ∀ bo bw, (∀ h, h < N → bo h = n_sheet (60 * k + (i + h))) → (∀ h, N ≤ h → bo h = n_breathOf h) → (∀ h, h < N → bw h = n_breathOf h) → kk bo bw) :
    ∃ e, w_X6_night_L108 (nI k) (nI i) (nI N) F n_things n_kindOf n_follows n_ifOf n_thenOf n_listOf n_sheetSize n_sheetLane n_sheet post kk e 0 n_breathOf n_breathWas := by
  refine ⟨N + 1, ?_⟩
  refine pl_inv (M := fun f j (z : (Nat → Int32) × (Nat → Int32)) => w_X6_night_L108 (nI k) (nI i) (nI N) F n_things n_kindOf n_follows n_ifOf n_thenOf n_listOf n_sheetSize n_sheetLane n_sheet post kk f (nI j) z.1 z.2) (fun j z => (∀ h, h < j → z.1 h = n_sheet (60 * k + (i + h))) ∧ (∀ h, j ≤ h → z.1 h = n_breathOf h) ∧ (∀ h, h < j → z.2 h = n_breathOf h)) (fun f z hI => ?_) (fun f j z hj hI hM => ?_) (n_breathOf, n_breathWas) ⟨fun h hh => by omega, fun _ _ => rfl, fun h hh => by omega⟩
  · rw [w_X6_night_L108]
    exact ⟨fun _ => h _ _ hI.1 hI.2.1 hI.2.2, fun q => absurd (pa_le_ (Nat.le_refl _) (by omega)) q⟩
  · rw [w_X6_night_L108]
    obtain ⟨i1, i2, i3⟩ := hI
    refine ⟨fun q => absurd q (pa_nle hj (by omega)), fun _ => ⟨pa_vp (by omega) (by omega), pa_vp (by omega) (by omega), ?_⟩⟩
    rw [pu_ad, pa_cl (by omega), pa_cl (by omega), pa_s1]
    refine ⟨pa_vp (by omega) (by omega), pa_vp (by omega) (by omega), hM (_, _) ⟨fun h hh => ?_, fun h hh => ?_, fun h hh => ?_⟩⟩
    · show upd z.1 j _ h = _
      by_cases e : h = j
      · subst e; exact pk_us
      · rw [pk_un e]; exact i1 h (by omega)
    · show upd z.1 j _ h = _
      rw [pk_un (by omega)]; exact i2 h (by omega)
    · show upd z.2 j _ h = _
      by_cases e : h = j
      · subst e; rw [pk_us]; exact i2 h (by omega)
      · rw [pk_un e]; exact i3 h (by omega)
theorem s_night167 {N : Nat} {F a7 : Int32} {n_things n_follows : Int32} {n_kindOf n_ifOf n_thenOf n_listOf b0 bo bw n_sheetSize n_sheetLane n_sheet : Nat → Int32} {post : Int32 → Int32 → (Nat → Int32) → (Nat → Int32) → Prop} {kk : (Nat → Int32) → Prop} (hN : N ≤ 6) (h1 : ∀ h, N ≤ h → bo h = b0 h) (h2 : ∀ h, h < N → bw h = b0 h)
    (h : kk b0) : ∃ e, w_X6_night_L167 (nI N) a7 F n_things n_kindOf n_follows n_ifOf n_thenOf n_listOf bw n_sheetSize n_sheetLane n_sheet post kk e 0 bo := by
  refine ⟨N + 1, ?_⟩
  refine pl_inv (M := fun f j (z : (Nat → Int32)) => w_X6_night_L167 (nI N) a7 F n_things n_kindOf n_follows n_ifOf n_thenOf n_listOf bw n_sheetSize n_sheetLane n_sheet post kk f (nI j) z) (fun j z => ∀ h, h < j ∨ N ≤ h → z h = b0 h) (fun f z hI => ?_) (fun f j z hj hI hM => ?_) bo (fun h hh => by rcases hh with w | w; omega; exact h1 h w)
  · rw [w_X6_night_L167]
    have : z = b0 := funext (fun h => hI h (by omega))
    subst this
    exact ⟨fun _ => h, fun q => absurd (pa_le_ (Nat.le_refl _) (by omega)) q⟩
  · rw [w_X6_night_L167]
    refine ⟨fun q => absurd q (pa_nle hj (by omega)), fun _ => ⟨pa_vp (by omega) (by omega), pa_vp (by omega) (by omega), ?_⟩⟩
    rw [pa_cl (by omega), pa_s1]
    refine hM _ (fun h hh => ?_)
    by_cases e : h = j
    · subst e; rw [pk_us]; exact h2 h hj
    · rw [pk_un e]; exact hI h (by omega)
theorem pu_le0 {r : Int32} (h : r.toInt < 0) : ¬ 0 ≤ r := by rw [pa_le, show (0 : Int32).toInt = 0 from rfl]; omega
theorem pu_ne0 {r : Int32} (h : r.toInt < 0) : ¬ r = 0 := by rintro rfl; exact absurd h (by decide)
theorem s_night {n fo : Nat} {fi ft kd li br : Nat → Nat} {s_lanes s_sizes s_cells t_caseRow t_calls u_lists u_breaths p_partOfCase : Nat → Int32} {p_callsOfCase : Nat → Int64} {p_cases p_parts t_caseCount lf nf : Int32} {n_kindOf n_ifOf n_thenOf n_listOf n_breathOf n_breathWas n_sheetSize n_sheetLane n_sheet : Nat → Int32} (hn : n < 7) (hfo : fo ≤ 4) (hv : iv_s s_lanes s_sizes s_cells n_sheetSize n_sheetLane n_sheet) (hT : pd_T n fo fi ft t_caseRow t_caseCount) (hc : ∀ b, b ≤ 18 → ∀ u, u < 2 ^ n → t_calls (b * 64 + u) = nI (pt_nm n kd u b)) (hh : ∀ h, h < 6 → u_lists h = nI (li h) ∧ li h < 2 ^ n ∧ u_breaths h = nI (br h) ∧ br h ≤ 18)
    (hf : ∀ f, f < fo → n_ifOf f = nI (fi f) ∧ n_thenOf f = nI (ft f) ∧ fi f < 6 ∧ ft f < 6) (hk : ∀ t, t < n → n_kindOf t = nI (kd t) ∧ kd t ≤ 2) (hm : ∀ h, h < 6 → n_listOf h = nI (li h) ∧ li h < 2 ^ n ∧ n_breathOf h = nI (br h) ∧ br h ≤ 18) (a1 a2 a3 a4 : Int32) :
    ∃ r f : Int32, (∀ post, (∀ g p c1 c2, post r g p c1 c2 f) → w_X5_night s_lanes s_sizes s_cells t_caseRow t_calls (nI n) t_caseCount p_callsOfCase p_partOfCase p_cases p_parts u_lists lf a1 a2 a3 a4 post)
      ∧ (∀ post, (∀ bw, post r f n_breathOf bw) → w_X6_night nf (nI n) n_kindOf (nI fo) n_ifOf n_thenOf n_listOf n_breathOf n_breathWas n_sheetSize n_sheetLane n_sheet a1 a2 a3 a4 post) := by
  obtain ⟨r, f, hr, hC, hM⟩ := s_cellsOf hv a1 a2 a3 a4
  rcases hr with hneg | ⟨rfl, k, i, N, sz, hk4, rfl, rfl, rfl, hiN, h60, hsz, heq⟩
  · refine ⟨r, f, fun post h => ?_, fun post h => ?_⟩
    · unfold w_X5_night
      exact hC lf _ (fun e => absurd e (pu_ne0 hneg)) (fun _ => ⟨fun e => absurd e (pu_ne0 hneg), fun _ => h _ _ _ _⟩)
    · unfold w_X6_night
      exact hM nf _ (fun e => absurd e (pu_ne0 hneg)) (fun _ => ⟨fun e => absurd e (pu_le0 hneg), fun _ => h _⟩)
  · by_cases hn0 : 0 < n
    · by_cases hB : N ≤ 6 ∧ (List.range N).all (pu_B (fun j => n_sheet (60 * k + (i + j)))) = true
      · obtain ⟨hN6, hB⟩ := hB
        have hBj : ∀ j, j < N → 0 ≤ (n_sheet (60 * k + (i + j))).toInt ∧ (n_sheet (60 * k + (i + j))).toInt ≤ 18 := fun j hj => by
          have := List.all_eq_true.mp hB j (List.mem_range.mpr hj)
          unfold pu_B at this
          exact of_decide_eq_true this
        have hBc : (List.range N).all (pu_B (fun j => s_cells (60 * k + (i + j)))) = true := by
          rw [List.all_eq_true] at hB ⊢
          intro j hj
          have h1 := List.mem_range.mp hj
          exact (pu_Bc (c := fun j => s_cells (60 * k + (i + j))) (c' := fun j => n_sheet (60 * k + (i + j))) (heq (i + j) (by omega))).trans (hB j hj)
        have hbr : ∃ br' : Nat → Nat, (∀ j, j < N → n_sheet (60 * k + (i + j)) = nI (br' j)) ∧ (∀ j, N ≤ j → br' j = br j) ∧ (∀ j, j < 6 → br' j ≤ 18) := by
          refine ⟨fun j => if j < N then (n_sheet (60 * k + (i + j))).toInt.toNat else br j, fun j hj => ?_, fun j hj => ?_, fun j hj => ?_⟩
          · have := hBj j hj
            dsimp only
            rw [if_pos hj, pa_eq, pa_nI _ (by omega)]; omega
          · exact if_neg (by omega)
          · dsimp only
            split
            · have := hBj j (by assumption); omega
            · exact (hh j hj).2.2.2
        obtain ⟨br', b1, b2, b3⟩ := hbr
        refine ⟨nI (ph_ct n fo fi ft (pi_al n kd li br' N)), 0, fun post h => ?_, fun post h => ?_⟩
        · unfold w_X5_night
          refine hC lf _ (fun _ => ⟨fun _ => ?_, fun e => absurd rfl e⟩) (fun e => absurd e (by decide))
          rw [s_hasTown hn, decide_eq_true hn0]
          refine ⟨fun _ => ⟨fun q => ?_, fun _ => ?_⟩, fun q => absurd q (by decide)⟩
          · rw [show (6 : Int32) = nI 6 from rfl, pa_ltN (by omega) (by omega)] at q; omega
          refine s_areBreaths hk4 hsz h60 hiN hN6 ?_
          rw [hBc]
          refine ⟨fun _ => ?_, fun q => absurd q (by decide)⟩
          have hT2 := hT
          obtain ⟨rfl, hrow⟩ := hT
          refine s_begin (fun g0 hg0 => ⟨N + 1, ?_⟩)
          refine pl_inv (M := fun f j s => w_X5_night_L64 (nI k) (nI i) (nI N) s_lanes s_sizes s_cells t_caseRow t_calls (nI n) (nI (pd_cl n fo fi ft).length) p_partOfCase (nI (pd_cl n fo fi ft).length) p_parts u_lists 0 post _ f (nI j) s) (fun j s => ph_R n fo fi ft (pi_key n kd li br' j) s) (fun f s hI => ?_) (fun f j s hj hI hM => ?_) g0 hg0
          · rw [w_X5_night_L64]
            refine ⟨fun _ => ?_, fun q => absurd (pa_le_ (Nat.le_refl _) (by omega)) q⟩
            refine s_number hn (pj_keyb hn kd li br' (by omega)) hI (fun f hf hb => ?_)
            rw [pj_ctk hn]
            exact h _ _ _ _
          · rw [w_X5_night_L64]
            refine ⟨fun q => absurd q (pa_nle hj (by omega)), fun _ => ⟨fun q => absurd q (pa_nle (a := 6) (by omega) (by omega)), fun _ => ⟨pa_vp (by omega) (by omega), ?_⟩⟩⟩
            have hhi := hh j (by omega)
            rw [nI_add, pa_cl (by omega), hhi.1, pa_s1]
            refine s_at hk4 hsz (by omega) h60 ?_
            rw [heq (i + j) (by omega), b1 j hj]
            refine s_splitBy hn hT2 hc hhi.2.1 (b3 j (by omega)) (fun x => ?_) hI (fun g hg => hM g ?_)
            · have h1 := pi_keyb hn kd li br' x j
              have h2 : 64 ^ j ≤ 64 ^ 6 := Nat.pow_le_pow_right (by omega) (by omega)
              omega
            · intro c x hx
              rw [hg c x hx]
              have : pi_key n kd li br' (j + 1) x = pi_key n kd li br' j x * 64 + pi_ca n kd li br' j x := pd_range_s _ _ _
              rw [this]; rfl
        · unfold w_X6_night
          refine hM nf _ (fun _ => ⟨fun _ => ⟨fun _ => ⟨fun q => ?_, fun _ => ?_⟩, fun q => ?_⟩, fun q => absurd (by decide) q⟩) (fun e => absurd e (by decide))
          · rw [show (6 : Int32) = nI 6 from rfl, pa_ltN (by omega) (by omega)] at q; omega
          · refine s_night51 hk4 (by omega) ?_
            rw [hB]
            refine ⟨fun _ => ?_, fun q => absurd q (by decide)⟩
            refine s_night108 hk4 hN6 (by omega) (fun bo bw w1 w2 w3 => ?_)
            refine s_partsBy (br := br') hn hfo hf hk (fun h hh6 => ⟨(hm h hh6).1, (hm h hh6).2.1, ?_, b3 h hh6⟩) hN6 ?_
            · by_cases e : h < N
              · rw [w1 h e]; exact b1 h e
              · rw [w2 h (by omega), b2 h (by omega)]; exact (hm h hh6).2.2.1
            · exact s_night167 hN6 w2 w3 (h _)
          · rw [show (0 : Int32) = nI 0 from rfl, pa_nIinj (by omega) (by omega)] at q; omega
      · refine ⟨-2, 0, fun post h => ?_, fun post h => ?_⟩
        · unfold w_X5_night
          refine hC lf _ (fun _ => ⟨fun _ => ?_, fun e => absurd rfl e⟩) (fun e => absurd e (by decide))
          rw [s_hasTown hn, decide_eq_true hn0]
          refine ⟨fun _ => ⟨fun q => h _ _ _ _, fun q => ?_⟩, fun q => absurd q (by decide)⟩
          rw [show (6 : Int32) = nI 6 from rfl, pa_ltN (by omega) (by omega)] at q
          refine s_areBreaths hk4 hsz h60 hiN (by omega) ?_
          have : (List.range N).all (pu_B (fun j => s_cells (60 * k + (i + j)))) = false := by
            cases hb : (List.range N).all (pu_B (fun j => s_cells (60 * k + (i + j)))) with
            | false => rfl
            | true =>
              refine absurd ⟨by omega, ?_⟩ hB
              rw [List.all_eq_true] at hb ⊢
              intro j hj
              have h1 := List.mem_range.mp hj
              exact (pu_Bc (c := fun j => s_cells (60 * k + (i + j))) (c' := fun j => n_sheet (60 * k + (i + j))) (heq (i + j) (by omega))).symm.trans (hb j hj)
          rw [this]
          exact ⟨fun q => absurd rfl q, fun _ => h _ _ _ _⟩
        · unfold w_X6_night
          refine hM nf _ (fun _ => ⟨fun _ => ⟨fun _ => ⟨fun q => ?_, fun q => ?_⟩, fun q => ?_⟩, fun q => absurd (by decide) q⟩) (fun e => absurd e (by decide))
          · exact s_night51f ⟨fun q => absurd rfl q, fun _ => h _⟩
          · rw [show (6 : Int32) = nI 6 from rfl, pa_ltN (by omega) (by omega)] at q
            refine s_night51 hk4 (by omega) ?_
            have : (List.range N).all (pu_B (fun j => n_sheet (60 * k + (i + j)))) = false := by
              cases hb : (List.range N).all (pu_B (fun j => n_sheet (60 * k + (i + j)))) with
              | false => rfl
              | true => exact absurd ⟨by omega, hb⟩ hB
            rw [this]
            exact ⟨fun q => absurd rfl q, fun _ => h _⟩
          · rw [show (0 : Int32) = nI 0 from rfl, pa_nIinj (by omega) (by omega)] at q; omega
    · have e0 : n = 0 := by omega
      subst e0
      refine ⟨-3, 0, fun post h => ?_, fun post h => ?_⟩
      · unfold w_X5_night
        refine hC lf _ (fun _ => ⟨fun _ => ?_, fun e => absurd rfl e⟩) (fun e => absurd e (by decide))
        rw [s_hasTown hn, decide_eq_false hn0]
        exact ⟨fun q => absurd rfl q, fun _ => h _ _ _ _⟩
      · unfold w_X6_night
        exact hM nf _ (fun _ => ⟨fun _ => ⟨fun q => absurd rfl q, fun _ => h _⟩, fun q => absurd (by decide) q⟩) (fun e => absurd e (by decide))
