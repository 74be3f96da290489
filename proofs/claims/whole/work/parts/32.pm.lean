-- ===== best; readings and rules =====
def pm_C (n fo : Nat) (fi ft kd li br : Nat → Nat) (h l : Nat) : Nat := ph_ct n fo fi ft (ph_k (fun x => pi_key n kd li br h x * 64 + pt_nm n kd (pa_un l x) (br h)))
theorem pm_Cb {n fo : Nat} {fi ft : Nat → Nat} (hn : n < 7) (al : Nat → Nat → Bool) : ph_ct n fo fi ft al ≤ 64 := by
  have h1 := pi_ctb (n := n) (fo := fo) (fi := fi) (ft := ft) (al := al) (2 ^ n)
  have h2 := pa_p2 hn
  unfold ph_ct; omega
def pm_bf (C : Nat → Nat) (s : Nat × Nat) (l : Nat) : Nat × Nat := if s.2 < C l then (l, C l) else s
def pm_bs (C : Nat → Nat) (N : Nat) : Nat × Nat := (List.range N).foldl (pm_bf C) (0, 0)
theorem pm_bsb {C : Nat → Nat} {B : Nat} (hC : ∀ l, C l ≤ B) : ∀ N, (pm_bs C N).1 ≤ N ∧ (pm_bs C N).2 ≤ B := by
  intro N
  induction N with
  | zero => simp [pm_bs]
  | succ N ih =>
    have e : pm_bs C (N + 1) = pm_bf C (pm_bs C N) N := pd_range_s _ _ _
    rw [e]
    unfold pm_bf
    have := hC N
    split
    · exact ⟨by simp only; omega, by simp only; omega⟩
    · omega
theorem pm_li {n fo h l : Nat} {fi ft kd li br : Nat → Nat} (hn : n < 7) : ph_ct n fo fi ft (pi_al n kd (fun j => if j = h then l else li j) br (h + 1)) = pm_C n fo fi ft kd li br h l := by
  unfold pm_C
  rw [← pj_ctk hn]
  refine pi_cte (fun y x => ?_)
  have e : ∀ x, pi_key n kd (fun j => if j = h then l else li j) br (h + 1) x = pi_key n kd li br h x * 64 + pt_nm n kd (pa_un l x) (br h) := by
    intro x
    have e1 : pi_key n kd (fun j => if j = h then l else li j) br (h + 1) x = pi_key n kd (fun j => if j = h then l else li j) br h x * 64 + pi_ca n kd (fun j => if j = h then l else li j) br h x := pd_range_s _ _ _
    rw [e1]
    have e2 : pi_ca n kd (fun j => if j = h then l else li j) br h x = pt_nm n kd (pa_un l x) (br h) := by unfold pi_ca; simp
    have e3 : ∀ N, N ≤ h → pi_key n kd (fun j => if j = h then l else li j) br N x = pi_key n kd li br N x := by
      intro N
      induction N with
      | zero => intro _; rfl
      | succ N ih =>
        intro hN
        have e4 : ∀ li, pi_key n kd li br (N + 1) x = pi_key n kd li br N x * 64 + pi_ca n kd li br N x := fun li => pd_range_s _ _ _
        rw [e4, e4, ih (by omega)]
        have : pi_ca n kd (fun j => if j = h then l else li j) br N x = pi_ca n kd li br N x := by
          unfold pi_ca
          have : ¬ N = h := by omega
          simp [this]
        rw [this]
    rw [e2, e3 h (Nat.le_refl h)]
  simp only [ph_k, e]
theorem s_X5_best {n fo : Nat} {fi ft kd li br : Nat → Nat} {t_caseRow t_calls u_lists u_breaths p_partOfCase : Nat → Int32} {p_callsOfCase p_callsOfPart : Nat → Int64} {p_cases p_parts t_caseCount a w : Int32} {post : Int32 → (Nat → Int64) → (Nat → Int32) → (Nat → Int64) → Int32 → Int32 → Prop} (hn : n < 7) (hT : pd_T n fo fi ft t_caseRow t_caseCount) (hc : ∀ b, b ≤ 18 → ∀ u, u < 2 ^ n → t_calls (b * 64 + u) = nI (pt_nm n kd u b)) (hh : ∀ h, h < 6 → u_lists h = nI (li h) ∧ li h < 2 ^ n ∧ u_breaths h = nI (br h) ∧ br h ≤ 18)
    (h1 : ¬ (0 ≤ a.toInt ∧ a.toInt < 6) → ∀ g f g2 c1 c2, post (-1) g f g2 c1 c2) (h2 : (0 ≤ a.toInt ∧ a.toInt < 6) → ¬ (w = 0 ∨ w = 1) → ∀ g f g2 c1 c2, post (-2) g f g2 c1 c2) (h3 : (0 ≤ a.toInt ∧ a.toInt < 6) → (w = 0 ∨ w = 1) → n = 0 → ∀ g f g2 c1 c2, post (-3) g f g2 c1 c2) (h4 : ∀ h, h < 6 → a = nI h → (w = 0 ∨ w = 1) → 0 < n → ∀ g f g2 c1 c2, post (if w = 0 then nI (pm_bs (pm_C n fo fi ft kd li br h) (2 ^ n)).1 else nI (pm_bs (pm_C n fo fi ft kd li br h) (2 ^ n)).2) g f g2 c1 c2) : w_X5_best t_caseRow t_calls (nI n) t_caseCount p_callsOfCase p_partOfCase p_callsOfPart p_cases p_parts u_lists u_breaths a w post := by
  unfold w_X5_best
  have h64 := pa_p2 hn
  rw [s_isHour]
  refine ⟨fun q => ?_, fun q => ?_⟩
  · rw [pa_bn, decide_eq_true_iff] at q
    by_cases hw : w = 0 ∨ w = 1
    · refine xq_use0 (fun K hK => ⟨fun _ => hK, fun z => ⟨fun _ => hK, fun z1 => ?_⟩⟩) ?_
      · rcases hw with y | y
        · exact absurd y z
        · exact absurd y z1
      · rw [s_hasTown hn]
        refine ⟨fun q2 => ?_, fun q2 => ?_⟩
        · rw [pa_bn, decide_eq_true_iff] at q2
          obtain ⟨h, hh6, rfl⟩ := pa_of (x := a) (n := 6) q.1 q.2 (by omega)
          have h4 := h4 h hh6 rfl hw q2
          have hhh := hh h hh6
          refine s_splitHours hn hT hc hh (by omega) (fun g hg => ?_)
          refine s_number hn (pj_keyb hn kd li br (by omega)) hg (fun f hf hb => ⟨2 ^ n + 1, ?_⟩)
          have hbb := pm_bsb (C := pm_C n fo fi ft kd li br h) (B := 64) (fun l => pm_Cb hn _)
          refine pl_inv (M := fun e i (s : Nat → Int64) => w_X5_best_L52 (nI h) w t_caseRow t_calls (nI n) t_caseCount g f (nI (pd_cl n fo fi ft).length) (nI (ph_ct n fo fi ft (ph_k (pi_key n kd li br h)))) u_lists u_breaths post _ e (nI (pm_bs (pm_C n fo fi ft kd li br h) i).1) (nI (pm_bs (pm_C n fo fi ft kd li br h) i).2) (nI i) s) (fun i s => True) (fun e s hI => ?_) (fun e l s hl hI hM => ?_) _ trivial
          · rw [w_X5_best_L52, s_sets hn]
            refine ⟨fun _ => ⟨fun z => ?_, fun z => ?_⟩, fun z => absurd (pa_le_ (Nat.le_refl _) (by omega)) z⟩
            · rw [if_neg z] at h4; exact h4 _ _ _ _ _
            · rw [if_pos z] at h4; exact h4 _ _ _ _ _
          · have e1 : pm_bs (pm_C n fo fi ft kd li br h) (l + 1) = pm_bf (pm_C n fo fi ft kd li br h) (pm_bs (pm_C n fo fi ft kd li br h) l) l := pd_range_s _ _ _
            have hbl := hbb l
            rw [e1] at hM
            generalize pm_bs (pm_C n fo fi ft kd li br h) l = z at hM hbl ⊢
            rw [w_X5_best_L52, s_sets hn]
            refine ⟨fun y => absurd y (pa_nle hl (by omega)), fun _ => ⟨pa_vp hh6 (by omega), ?_⟩⟩
            rw [pa_cl (by omega), hhh.2.2.1]
            refine s_countWith hn hT hc hl hhh.2.2.2 hb hf (fun cp => ?_)
            have hCb : pm_C n fo fi ft kd li br h l ≤ 64 := pm_Cb hn _
            have e2 : ph_ct n fo fi ft (ph_k (fun x => pi_key n kd li br h x * 64 + pt_nm n kd (pa_un l x) (br h))) = pm_C n fo fi ft kd li br h l := rfl
            rw [e2, pa_s1, pa_leN (by omega) (by omega)]
            refine ⟨fun y => ?_, fun y => ?_⟩
            · have e3 : pm_bf (pm_C n fo fi ft kd li br h) z l = z := by unfold pm_bf; rw [if_neg (by omega)]
              rw [e3] at hM; exact hM cp trivial
            · have e3 : pm_bf (pm_C n fo fi ft kd li br h) z l = (l, pm_C n fo fi ft kd li br h l) := by unfold pm_bf; rw [if_pos (by omega)]
              rw [e3] at hM; exact hM cp trivial
        · rw [pa_b0, decide_eq_false_iff_not] at q2
          exact h3 q hw (by omega) _ _ _ _ _
    · show (w = 0 → _) ∧ _
      exact ⟨fun z => absurd (Or.inl z) hw, fun _ => ⟨fun z => absurd (Or.inr z) hw, fun _ => h2 q hw _ _ _ _ _⟩⟩
  · rw [pa_b0, decide_eq_false_iff_not] at q
    exact h1 q _ _ _ _ _
theorem s_X6_best {n fo : Nat} {fi ft kd li br : Nat → Nat} {n_kindOf n_listOf n_breathOf n_ifOf n_thenOf : Nat → Int32} {a w : Int32} {post : Int32 → (Nat → Int32) → Prop} (hn : n < 7) (hfo : fo ≤ 4) (hf : ∀ f, f < fo → n_ifOf f = nI (fi f) ∧ n_thenOf f = nI (ft f) ∧ fi f < 6 ∧ ft f < 6) (hk : ∀ t, t < n → n_kindOf t = nI (kd t) ∧ kd t ≤ 2) (hh : ∀ h, h < 6 → n_listOf h = nI (li h) ∧ li h < 2 ^ n ∧ n_breathOf h = nI (br h) ∧ br h ≤ 18)
    (h1 : ¬ (0 ≤ a.toInt ∧ a.toInt < 6) → post (-1) n_listOf) (h2 : (0 ≤ a.toInt ∧ a.toInt < 6) → ¬ (w = 0 ∨ w = 1) → post (-2) n_listOf) (h3 : (0 ≤ a.toInt ∧ a.toInt < 6) → (w = 0 ∨ w = 1) → n = 0 → post (-3) n_listOf) (h4 : ∀ h, h < 6 → a = nI h → (w = 0 ∨ w = 1) → 0 < n → post (if w = 0 then nI (pm_bs (pm_C n fo fi ft kd li br h) (2 ^ n)).1 else nI (pm_bs (pm_C n fo fi ft kd li br h) (2 ^ n)).2) n_listOf) : w_X6_best (nI n) n_kindOf (nI fo) n_ifOf n_thenOf n_listOf n_breathOf a w post := by
  unfold w_X6_best
  have h64 := pa_p2 hn
  rw [s_noHour]
  refine ⟨fun q => ?_, fun q => ?_⟩
  · rw [pa_b0, Bool.not_eq_false', decide_eq_true_iff] at q
    rw [s_in, pa_i64, show (0 : Int64).toInt = 0 from rfl, show (1 : Int64).toInt = 1 from rfl]
    refine ⟨fun q1 => ?_, fun q1 => ?_⟩
    · rw [pa_bn, decide_eq_true_iff, pf_e1] at q1
      refine ⟨fun q2 => ?_, fun q2 => ?_⟩
      · have hn0 : 0 < n := by
          rcases Nat.eq_zero_or_pos n with e | e
          · subst e; exact absurd rfl q2
          · exact e
        obtain ⟨h, hh6, rfl⟩ := pa_of (x := a) (n := 6) q.1 q.2 (by omega)
        have h4 := h4 h hh6 rfl q1 hn0
        refine ⟨pa_vp hh6 (by omega), 2 ^ n + 1, ?_⟩
        have hbb := pm_bsb (C := pm_C n fo fi ft kd li br h) (B := 64) (fun l => pm_Cb hn _)
        refine pl_inv (M := fun e i (s : Nat → Int32) => w_X6_best_L48 (nI h) w (n_listOf (nI h).toNatClampNeg) (nI n) n_kindOf (nI fo) n_ifOf n_thenOf n_breathOf post _ e (nI (pm_bs (pm_C n fo fi ft kd li br h) i).1) (nI (pm_bs (pm_C n fo fi ft kd li br h) i).2) (nI i) s) (fun i s => ∀ j, j ≠ h → s j = n_listOf j) (fun e s hI => ?_) (fun e l s hl hI hM => ?_) n_listOf (fun _ _ => rfl)
        · rw [w_X6_best_L48, s_all hn]
          refine ⟨fun _ => ⟨pa_vp hh6 (by omega), ?_⟩, fun z => absurd ((pf_all hn (Nat.le_refl _)).mpr rfl) z⟩
          have e1 : upd s (nI h).toNatClampNeg (n_listOf (nI h).toNatClampNeg) = n_listOf := by
            rw [pa_cl (by omega)]
            funext j
            by_cases ej : j = h
            · subst ej; exact pk_us
            · rw [pk_un ej]; exact hI j ej
          rw [e1]
          refine ⟨fun z => ?_, fun z => ?_⟩
          · rw [if_neg z] at h4; exact h4
          · rw [if_pos z] at h4; exact h4
        · have e1 : pm_bs (pm_C n fo fi ft kd li br h) (l + 1) = pm_bf (pm_C n fo fi ft kd li br h) (pm_bs (pm_C n fo fi ft kd li br h) l) l := pd_range_s _ _ _
          have hbl := hbb l
          rw [e1] at hM
          generalize pm_bs (pm_C n fo fi ft kd li br h) l = z at hM hbl ⊢
          rw [w_X6_best_L48, s_all hn]
          refine ⟨fun y => absurd ((pf_all hn (by omega)).mp y) (by omega), fun _ => ⟨pa_vp hh6 (by omega), ?_⟩⟩
          rw [pa_s1, pa_s1]
          have hCb : pm_C n fo fi ft kd li br h l ≤ 64 := pm_Cb hn _
          have hsI : ∀ j, j ≠ h → upd s (nI h).toNatClampNeg (nI l) j = n_listOf j := by
            intro j hj
            rw [pa_cl (by omega), pk_un hj]; exact hI j hj
          refine s_partsBy (fi := fi) (ft := ft) (kd := kd) (li := fun j => if j = h then l else li j) (br := br) (N := h + 1) hn hfo hf hk (fun j hj => ?_) (by omega) ?_
          · have hhj := hh j hj
            by_cases ej : j = h
            · subst ej
              rw [pa_cl (by omega), pk_us]
              simp only [if_true]
              exact ⟨trivial, hl, hhj.2.2.1, hhj.2.2.2⟩
            · rw [hsI j ej]
              simp only [if_neg ej]
              exact hhj
          · rw [pm_li hn]
            refine xq_use1 (if pm_C n fo fi ft kd li br h l ≤ z.2 then nI z.1 else nI l) (fun K hK => ?_) ?_
            · rw [pa_leN (by omega) (by omega)]
              refine ⟨fun y => ?_, fun y => ?_⟩
              · rw [if_pos y] at hK; exact hK
              · rw [if_neg y] at hK; exact hK
            · rw [pa_leN (by omega) (by omega)]
              refine ⟨fun y => ?_, fun y => ?_⟩
              · rw [if_pos y]
                have e3 : pm_bf (pm_C n fo fi ft kd li br h) z l = z := by unfold pm_bf; rw [if_neg (by omega)]
                rw [e3] at hM; exact hM _ hsI
              · rw [if_neg y]
                have e3 : pm_bf (pm_C n fo fi ft kd li br h) z l = (l, pm_C n fo fi ft kd li br h l) := by unfold pm_bf; rw [if_pos (by omega)]
                rw [e3] at hM; exact hM _ hsI
      · have e : n = 0 := by
          rw [show (0 : Int32) = nI 0 from rfl, pa_nIinj (by omega) (by omega)] at q2; exact q2
        exact h3 q q1 e
    · rw [pa_b0, decide_eq_false_iff_not, pf_e1] at q1
      exact h2 q q1
  · rw [pa_bn, Bool.not_eq_true', decide_eq_false_iff_not] at q
    exact h1 q
-- rules
def pm_ru (n : Nat) (kd : Nat → Nat) (rc : Nat) (rx rh : Nat → Nat) (rs : Nat → Int32) (b h l : Nat) (r : Nat) : Bool := !(rh r == h) || decide (nI (pt_nm n kd (pa_un l (rx r)) b) = rs r)
theorem s_allow {n rc l h b : Nat} {kd rx rh : Nat → Nat} {t_calls r_cases r_hours r_sets : Nat → Int32} {post : Int32 → Prop} (hn : n < 7) (hc : ∀ b, b ≤ 18 → ∀ u, u < 2 ^ n → t_calls (b * 64 + u) = nI (pt_nm n kd u b)) (hrc : rc ≤ 8) (hr : ∀ r, r < rc → r_cases r = nI (rx r) ∧ rx r < 64 ∧ r_hours r = nI (rh r) ∧ rh r < 6) (hl : l < 2 ^ n) (hh : h < 6) (hb : b ≤ 18)
    (hp : post (pa_b ((List.range rc).all (pm_ru n kd rc rx rh r_sets b h l)))) : w_X1_allow t_calls r_cases r_hours r_sets (nI rc) (nI l) (nI h) (nI b) post := by
  unfold w_X1_allow
  refine ⟨rc + 1, ?_⟩
  refine pl_inv (σ := Unit) (M := fun f i _ => w_X1_allow_L3 (nI l) (nI h) (nI b) t_calls r_cases r_hours r_sets (nI rc) post (post 1) f (nI i)) (fun i _ => (List.range i).all (pm_ru n kd rc rx rh r_sets b h l) = true) (fun f s hI => ?_) (fun f i s hi hI hM => ?_) () rfl
  · rw [w_X1_allow_L3]
    rw [hI] at hp
    exact ⟨fun _ => hp, fun q => absurd (pa_le_ (Nat.le_refl _) (by omega)) q⟩
  · have hri := hr i hi
    rw [w_X1_allow_L3]
    refine ⟨fun q => absurd q (pa_nle hi (by omega)), fun _ => ⟨fun q => absurd q (pa_nle (a := 8) (by omega) (by omega)), fun _ => ⟨pa_vp (by omega) (by omega), fun q => ?_, fun q => ⟨pa_vp (by omega) (by omega), ?_⟩⟩⟩⟩
    · rw [pa_cl (by omega), hri.2.2.1, pa_nIinj (by omega) (by omega)] at q
      rw [pa_s1]
      refine hM () ?_
      rw [pc_all_s, hI, Bool.true_and]
      unfold pm_ru
      rw [beq_eq_false_iff_ne.mpr q]; rfl
    · rw [pa_cl (by omega), hri.2.2.1, pa_nIinj (by omega) (by omega)] at q
      rw [pa_cl (by omega), hri.1, pa_s1]
      refine s_callIn hn hc hl hri.2.1 hb ⟨pa_vp (by omega) (by omega), fun z => ?_, fun z => ?_⟩
      · refine hM () ?_
        rw [pc_all_s, hI, Bool.true_and]
        unfold pm_ru
        rw [decide_eq_true z, Bool.or_true]
      · have e : pm_ru n kd rc rx rh r_sets b h l i = false := by
          unfold pm_ru
          rw [beq_iff_eq.mpr q, decide_eq_false z]; rfl
        have e2 : (List.range rc).all (pm_ru n kd rc rx rh r_sets b h l) = false := pc_all_f (i := i + 1) (by omega) (by rw [pc_all_s, e, Bool.and_false])
        rw [e2] at hp; exact hp
theorem s_isRule {n rc l h b : Nat} {kd rx rh : Nat → Nat} {n_kindOf n_breathOf n_readingIn n_readingHour n_readingOf : Nat → Int32} {post : Int32 → Prop} (hn : n < 7) (hk : ∀ t, t < n → n_kindOf t = nI (kd t) ∧ kd t ≤ 2) (hrc : rc ≤ 8) (hr : ∀ r, r < rc → n_readingIn r = nI (rx r) ∧ rx r < 64 ∧ n_readingHour r = nI (rh r) ∧ rh r < 6) (hl : l < 2 ^ n) (hh : h < 6) (hbe : n_breathOf h = nI b) (hb : b ≤ 18)
    (hp : post (pa_b ((List.range rc).all (pm_ru n kd rc rx rh n_readingOf b h l)))) : w_X6_isRule (nI n) n_kindOf n_breathOf (nI rc) n_readingIn n_readingHour n_readingOf (nI l) (nI h) post := by
  unfold w_X6_isRule
  have h64 := pa_p2 hn
  refine ⟨rc + 1, ?_⟩
  refine pl_seq (M := fun f i => w_X6_isRule_L5 (nI l) (nI h) (nI n) n_kindOf n_breathOf (nI rc) n_readingIn n_readingHour n_readingOf post _ f (pa_b ((List.range i).all (pm_ru n kd rc rx rh n_readingOf b h l))) (nI i)) (N := rc) (fun f => ?_) (fun f i hi hM => ?_)
  · rw [w_X6_isRule_L5]
    exact ⟨fun _ => ⟨pa_z _, hp⟩, fun q => absurd (pa_le_ (Nat.le_refl _) (by omega)) q⟩
  · have hri := hr i hi
    rw [pc_all_s] at hM
    rw [w_X6_isRule_L5]
    refine ⟨fun q => absurd q (pa_nle hi (by omega)), fun _ => ⟨fun q => ?_, fun q => ⟨pa_vp (by omega) (by omega), fun q1 => ?_, fun q1 => ⟨pa_vp (by omega) (by omega), pa_vp hh (by omega), ?_⟩⟩⟩⟩
    · rw [pa_b0] at q
      rw [q, Bool.false_and] at hM
      rw [pa_s1]; exact hM
    · rw [pa_bn] at q
      rw [pa_cl (by omega), hri.2.2.1, pa_nIinj (by omega) (by omega)] at q1
      have e : pm_ru n kd rc rx rh n_readingOf b h l i = true := by
        unfold pm_ru
        rw [beq_eq_false_iff_ne.mpr q1]; rfl
      rw [q, e] at hM
      rw [pa_s1]; exact hM
    · rw [pa_bn] at q
      rw [pa_cl (by omega), hri.2.2.1, pa_nIinj (by omega) (by omega)] at q1
      rw [pa_cl (by omega), pa_cl (by omega), hri.1, hbe, pa_s1]
      refine s_named (kd := kd) hn hk (by omega) hri.2.1 hb ⟨pa_vp (by omega) (by omega), fun z => ?_, fun z => ?_⟩
      · have e : pm_ru n kd rc rx rh n_readingOf b h l i = false := by
          unfold pm_ru
          rw [beq_iff_eq.mpr q1, decide_eq_false z]; rfl
        rw [q, e] at hM; exact hM
      · have e : pm_ru n kd rc rx rh n_readingOf b h l i = true := by
          unfold pm_ru
          rw [decide_eq_true z, Bool.or_true]
        rw [q, e] at hM; exact hM
def pm_ct (al : Nat → Bool) (N : Nat) : Nat := (List.range N).foldl (fun s l => if al l = true then s + 1 else s) 0
theorem pm_cts (al : Nat → Bool) (N : Nat) : pm_ct al (N + 1) = if al N = true then pm_ct al N + 1 else pm_ct al N := pd_range_s _ _ _
theorem pm_ctb (al : Nat → Bool) : ∀ N, pm_ct al N ≤ N := by
  intro N
  induction N with
  | zero => simp [pm_ct]
  | succ N ih => rw [pm_cts]; split <;> omega
theorem pm_uq {p : Nat → Bool} {l l' : Nat} (h1 : p l = true) (h2 : ∀ j, j < l → p j = false) (h3 : p l' = true) (h4 : ∀ j, j < l' → p j = false) : l = l' := by
  rcases Nat.lt_trichotomy l l' with h | h | h
  · rw [h4 l h] at h1; cases h1
  · exact h
  · rw [h2 l' h] at h3; cases h3
def pm_hit (al : Nat → Bool) (k : Int32) (l : Nat) : Bool := al l && decide (nI (pm_ct al l) = k)
theorem s_X5_rules {n rc : Nat} {kd rx rh br : Nat → Nat} {t_calls r_cases r_hours r_sets u_breaths : Nat → Int32} {a k : Int32} {post : Int32 → Prop} (hn : n < 7) (hc : ∀ b, b ≤ 18 → ∀ u, u < 2 ^ n → t_calls (b * 64 + u) = nI (pt_nm n kd u b)) (hh : ∀ h, h < 6 → u_breaths h = nI (br h) ∧ br h ≤ 18) (hrc : rc ≤ 8) (hr : ∀ r, r < rc → r_cases r = nI (rx r) ∧ rx r < 64 ∧ r_hours r = nI (rh r) ∧ rh r < 6)
    (h1 : ¬ ((0 ≤ a.toInt ∧ a.toInt < 6) ∧ -1 ≤ k.toInt) → post (-1)) (h2 : ((0 ≤ a.toInt ∧ a.toInt < 6) ∧ -1 ≤ k.toInt) → n = 0 → post (-3)) (h3 : ∀ h, h < 6 → a = nI h → -1 ≤ k.toInt → 0 < n → (∀ l, l < 2 ^ n → pm_hit (fun l => (List.range rc).all (pm_ru n kd rc rx rh r_sets (br h) h l)) k l = true → (∀ j, j < l → pm_hit (fun l => (List.range rc).all (pm_ru n kd rc rx rh r_sets (br h) h l)) k j = false) → post (nI l)) ∧ ((∀ l, l < 2 ^ n → pm_hit (fun l => (List.range rc).all (pm_ru n kd rc rx rh r_sets (br h) h l)) k l = false) → post (if k = (-1 : Int32) then nI (pm_ct (fun l => (List.range rc).all (pm_ru n kd rc rx rh r_sets (br h) h l)) (2 ^ n)) else -9))) : w_X5_rules t_calls (nI n) r_cases r_hours r_sets (nI rc) u_breaths a k post := by
  unfold w_X5_rules
  have h64 := pa_p2 hn
  rw [s_isHour]
  refine ⟨fun q => ?_, fun q => ?_⟩
  · rw [pa_b0, decide_eq_false_iff_not] at q; exact h1 (fun z => q z.1)
  · rw [pa_bn, decide_eq_true_iff] at q
    rw [pa_le, show (-1 : Int32).toInt = -1 from rfl]
    refine ⟨fun q1 => ?_, fun q1 => h1 (fun z => q1 z.2)⟩
    rw [s_hasTown hn]
    refine ⟨fun q2 => ?_, fun q2 => ?_⟩
    · rw [pa_bn, decide_eq_true_iff] at q2
      obtain ⟨h, hh6, rfl⟩ := pa_of (x := a) (n := 6) q.1 q.2 (by omega)
      have h3 := h3 h hh6 rfl q1 q2
      have hhh := hh h hh6
      generalize hal : (fun l => (List.range rc).all (pm_ru n kd rc rx rh r_sets (br h) h l)) = al at h3
      have hal2 : ∀ l, (List.range rc).all (pm_ru n kd rc rx rh r_sets (br h) h l) = al l := fun l => by rw [← hal]
      refine ⟨2 ^ n + 1, ?_⟩
      refine pl_inv (σ := Unit) (M := fun f i _ => w_X5_rules_L29 (nI h) k t_calls (nI n) r_cases r_hours r_sets (nI rc) u_breaths post _ f (nI (pm_ct al i)) (nI i)) (fun i _ => ∀ j, j < i → pm_hit al k j = false) (fun f s hI => ?_) (fun f l s hl hI hM => ?_) () (fun j hj => by omega)
      · rw [w_X5_rules_L29, s_sets hn]
        refine ⟨fun _ => ?_, fun z => absurd (pa_le_ (Nat.le_refl _) (by omega)) z⟩
        have := h3.2 hI
        refine ⟨fun z => ?_, fun z => ?_⟩
        · rw [if_neg z] at this; exact this
        · rw [if_pos z] at this; exact this
      · have hb := pm_ctb al l
        rw [pm_cts] at hM
        rw [w_X5_rules_L29, s_sets hn]
        refine ⟨fun z => absurd z (pa_nle hl (by omega)), fun _ => ⟨pa_vp hh6 (by omega), ?_⟩⟩
        rw [pa_cl (by omega), hhh.1, pa_s1, pa_s1]
        refine s_allow hn hc hrc hr hl hh6 hhh.2 ?_
        rw [hal2]
        have hM2 : pm_hit al k l = false → _ := fun z => hM () (fun j hj => by
          by_cases e : j = l
          · subst e; exact z
          · exact hI j (by omega))
        refine ⟨fun z => ?_, fun z => ⟨fun z1 => ?_, fun z1 => ?_⟩⟩
        · rw [pa_b0] at z
          rw [if_neg (by rw [z]; decide)] at hM2
          exact hM2 (by unfold pm_hit; rw [z]; rfl)
        · rw [pa_bn] at z
          rw [if_pos z] at hM2
          exact hM2 (by unfold pm_hit; rw [z, decide_eq_false z1]; rfl)
        · rw [pa_bn] at z
          exact h3.1 l hl (by unfold pm_hit; rw [z, decide_eq_true z1]; rfl) hI
    · rw [pa_b0, decide_eq_false_iff_not] at q2
      exact h2 ⟨q, q1⟩ (by omega)
theorem s_X6_rules {n rc : Nat} {kd rx rh br : Nat → Nat} {n_kindOf n_breathOf n_readingIn n_readingHour n_readingOf : Nat → Int32} {a k : Int32} {post : Int32 → Prop} (hn : n < 7) (hk : ∀ t, t < n → n_kindOf t = nI (kd t) ∧ kd t ≤ 2) (hh : ∀ h, h < 6 → n_breathOf h = nI (br h) ∧ br h ≤ 18) (hrc : rc ≤ 8) (hr : ∀ r, r < rc → n_readingIn r = nI (rx r) ∧ rx r < 64 ∧ n_readingHour r = nI (rh r) ∧ rh r < 6)
    (h1 : ¬ ((0 ≤ a.toInt ∧ a.toInt < 6) ∧ -1 ≤ k.toInt) → post (-1)) (h2 : ((0 ≤ a.toInt ∧ a.toInt < 6) ∧ -1 ≤ k.toInt) → n = 0 → post (-3)) (h3 : ∀ h, h < 6 → a = nI h → -1 ≤ k.toInt → 0 < n → (∀ l, l < 2 ^ n → pm_hit (fun l => (List.range rc).all (pm_ru n kd rc rx rh n_readingOf (br h) h l)) k l = true → (∀ j, j < l → pm_hit (fun l => (List.range rc).all (pm_ru n kd rc rx rh n_readingOf (br h) h l)) k j = false) → post (nI l)) ∧ ((∀ l, l < 2 ^ n → pm_hit (fun l => (List.range rc).all (pm_ru n kd rc rx rh n_readingOf (br h) h l)) k l = false) → post (if k = (-1 : Int32) then nI (pm_ct (fun l => (List.range rc).all (pm_ru n kd rc rx rh n_readingOf (br h) h l)) (2 ^ n)) else -9))) : w_X6_rules (nI n) n_kindOf n_breathOf (nI rc) n_readingIn n_readingHour n_readingOf a k post := by
  unfold w_X6_rules
  have h64 := pa_p2 hn
  rw [s_noHour]
  refine ⟨fun q => ?_, fun q => ?_⟩
  · rw [pa_bn, Bool.not_eq_true', decide_eq_false_iff_not] at q; exact h1 (fun z => q z.1)
  · rw [pa_b0, Bool.not_eq_false', decide_eq_true_iff] at q
    rw [pa_le, show (-1 : Int32).toInt = -1 from rfl]
    refine ⟨fun q1 => ⟨fun q2 => ?_, fun q2 => ?_⟩, fun q1 => h1 (fun z => q1 z.2)⟩
    · have hn0 : 0 < n := by
        rcases Nat.eq_zero_or_pos n with e | e
        · subst e; exact absurd rfl q2
        · exact e
      obtain ⟨h, hh6, rfl⟩ := pa_of (x := a) (n := 6) q.1 q.2 (by omega)
      have h3 := h3 h hh6 rfl q1 hn0
      have hhh := hh h hh6
      generalize hal : (fun l => (List.range rc).all (pm_ru n kd rc rx rh n_readingOf (br h) h l)) = al at h3
      have hal2 : ∀ l, (List.range rc).all (pm_ru n kd rc rx rh n_readingOf (br h) h l) = al l := fun l => by rw [← hal]
      refine ⟨2 ^ n + 1, ?_⟩
      refine pl_inv (σ := Unit) (M := fun f i _ => w_X6_rules_L29 (nI h) k (nI n) n_kindOf n_breathOf (nI rc) n_readingIn n_readingHour n_readingOf post _ f (nI (pm_ct al i)) (nI i)) (fun i _ => ∀ j, j < i → pm_hit al k j = false) (fun f s hI => ?_) (fun f l s hl hI hM => ?_) () (fun j hj => by omega)
      · rw [w_X6_rules_L29, s_all hn]
        refine ⟨fun _ => ?_, fun z => absurd ((pf_all hn (Nat.le_refl _)).mpr rfl) z⟩
        have := h3.2 hI
        have ek : k = (-1 : Int32) ↔ ¬ 0 ≤ k.toInt := by rw [pa_eq, show (-1 : Int32).toInt = -1 from rfl]; omega
        rw [pa_le, show (0 : Int32).toInt = 0 from rfl]
        refine ⟨fun z => ?_, fun z => ?_⟩
        · rw [if_neg (fun w => ek.mp w z)] at this; exact this
        · rw [if_pos (ek.mpr z)] at this; exact this
      · have hb := pm_ctb al l
        rw [pm_cts] at hM
        rw [w_X6_rules_L29, s_all hn]
        refine ⟨fun z => absurd ((pf_all hn (by omega)).mp z) (by omega), fun _ => ?_⟩
        rw [pa_s1, pa_s1]
        refine s_isRule (kd := kd) (rx := rx) (rh := rh) hn hk hrc hr hl hh6 hhh.1 hhh.2 ?_
        rw [hal2]
        have hM2 : pm_hit al k l = false → _ := fun z => hM () (fun j hj => by
          by_cases e : j = l
          · subst e; exact z
          · exact hI j (by omega))
        refine ⟨fun z => ?_, fun z => ⟨fun z1 => ?_, fun z1 => ?_⟩⟩
        · rw [pa_b0] at z
          rw [if_neg (by rw [z]; decide)] at hM2
          exact hM2 (by unfold pm_hit; rw [z]; rfl)
        · rw [pa_bn] at z
          rw [if_pos z] at hM2
          exact hM2 (by unfold pm_hit; rw [z, decide_eq_false z1]; rfl)
        · rw [pa_bn] at z
          exact h3.1 l hl (by unfold pm_hit; rw [z, decide_eq_true z1]; rfl) hI
    · have e : n = 0 := by
        rw [show (0 : Int32) = nI 0 from rfl, pa_nIinj (by omega) (by omega)] at q2; exact q2
      exact h2 ⟨q, q1⟩ e
