-- ===== parts, best, two: both sides =====
theorem pj_and (s : Int64) {y : Nat} (hy : y < 64) : (lg_cmp (s &&& ((1 : Int64) <<< (Int32.toInt64 (nI y) &&& 63))) (0 : Int64)) = 0 ↔ s.toBitVec.getLsbD y = false := by
  rw [pe_cmp0, ← Int64.toBitVec_inj]
  show (s.toBitVec &&& ((1 : Int64) <<< (Int32.toInt64 (nI y) &&& 63)).toBitVec) = 0#64 ↔ _
  rw [pd_sh1 y hy]
  constructor
  · intro h
    have := congrArg (fun w => w.getLsbD y) h
    simp only [BitVec.getLsbD_and, BitVec.getLsbD_twoPow, BitVec.getLsbD_zero] at this
    simpa [hy] using this
  · intro h
    apply BitVec.eq_of_getLsbD_eq
    intro i hi
    rw [BitVec.getLsbD_and, BitVec.getLsbD_twoPow, BitVec.getLsbD_zero]
    by_cases e : y = i
    · subst e; rw [h]; rfl
    · simp [e]
theorem s_countWith {n fo l b P : Nat} {fi ft kd : Nat → Nat} {key : Nat → Nat} {t_caseRow t_calls f : Nat → Int32} {p_callsOfPart : Nat → Int64} {t_caseCount : Int32} {post : Int32 → (Nat → Int64) → Prop} (hn : n < 7) (hT : pd_T n fo fi ft t_caseRow t_caseCount) (hc : ∀ b, b ≤ 18 → ∀ u, u < 2 ^ n → t_calls (b * 64 + u) = nI (pt_nm n kd u b)) (hl : l < 2 ^ n) (hb : b ≤ 18) (hP : P ≤ 64) (hG : ph_G n fo fi ft key (pd_cl n fo fi ft).length P f)
    (h : ∀ cp, post (nI (ph_ct n fo fi ft (ph_k (fun x => key x * 64 + pt_nm n kd (pa_un l x) b)))) cp) : w_X0_countWith t_caseRow t_calls f p_callsOfPart (nI (pd_cl n fo fi ft).length) (nI P) (nI l) (nI b) post := by
  unfold w_X0_countWith
  obtain ⟨-, hrow⟩ := hT
  have hlen := pd_len n fo fi ft
  have h64 := pa_p2 hn
  obtain ⟨hG1, hG2⟩ := hG
  have hfin : ((pd_cl n fo fi ft).take (pd_cl n fo fi ft).length).foldl (ph_cf (ph_k (fun x => key x * 64 + pt_nm n kd (pa_un l x) b)) (pc_ic n fo fi ft)) 0 = ph_ct n fo fi ft (ph_k (fun x => key x * 64 + pt_nm n kd (pa_un l x) b)) := by
    rw [List.take_length, pd_both _ _ hn]; rfl
  refine ⟨P + 1, ?_⟩
  refine pl_inv (M := fun g i s => w_X0_countWith_L3 (nI l) (nI b) t_caseRow t_calls f (nI (pd_cl n fo fi ft).length) (nI P) post _ g (nI i) s) (fun i s => ∀ p, p < i → s p = 0) (fun g s hI => ?_) (fun g i s hi hI hM => ?_) _ (fun p hp => by omega)
  · rw [w_X0_countWith_L3]
    refine ⟨fun _ => ⟨(pd_cl n fo fi ft).length + 1, ?_⟩, fun q => absurd (pa_le_ (Nat.le_refl _) (by omega)) q⟩
    refine pl_inv (M := fun g i (s : Int32 × (Nat → Int64)) => w_X0_countWith_L32 (nI l) (nI b) t_caseRow t_calls f (nI (pd_cl n fo fi ft).length) (nI P) post _ g s.1 (nI i) s.2) (fun i s => s.1 = nI (((pd_cl n fo fi ft).take i).foldl (ph_cf (ph_k (fun x => key x * 64 + pt_nm n kd (pa_un l x) b)) (pc_ic n fo fi ft)) 0) ∧ ∀ p y, p < P → y < 64 → ((s.2 p).toBitVec.getLsbD y = true ↔ ∃ e x', e < i ∧ (pd_cl n fo fi ft)[e]? = some x' ∧ f e = nI p ∧ pt_nm n kd (pa_un l x') b = y)) (fun g s hI => ?_) (fun g i s hi hI hM => ?_) ((0 : Int32), s) ⟨rfl, fun p y hp hy => ?_⟩
    · rw [w_X0_countWith_L32]
      refine ⟨fun _ => ?_, fun q => absurd (pa_le_ (Nat.le_refl _) (by omega)) q⟩
      rw [hI.1, hfin]
      exact h s.2
    · obtain ⟨x, hx⟩ := pd_get hi
      have hx2 := pd_mem hx
      have hnew := ph_newI (key := fun x => key x * 64 + pt_nm n kd (pa_un l x) b) hx
      have hstep : ((pd_cl n fo fi ft).take (i + 1)).foldl (ph_cf (ph_k (fun x => key x * 64 + pt_nm n kd (pa_un l x) b)) (pc_ic n fo fi ft)) 0 = ph_cf (ph_k (fun x => key x * 64 + pt_nm n kd (pa_un l x) b)) (pc_ic n fo fi ft) (((pd_cl n fo fi ft).take i).foldl (ph_cf (ph_k (fun x => key x * 64 + pt_nm n kd (pa_un l x) b)) (pc_ic n fo fi ft)) 0) x := pd_fold_s _ _ hx
      rw [hstep] at hM
      generalize ((pd_cl n fo fi ft).take i).foldl (ph_cf (ph_k (fun x => key x * 64 + pt_nm n kd (pa_un l x) b)) (pc_ic n fo fi ft)) 0 = ct at hI hM
      obtain ⟨h1, h2⟩ := hI
      obtain ⟨cnt, cp⟩ := s
      simp only at h1 h2
      subst h1
      obtain ⟨p, hp, hfp⟩ := hG1 i hi
      have hy : pt_nm n kd (pa_un l x) b < 64 := by have := pt_nm_lt n kd (pa_un l x) b; omega
      rw [w_X0_countWith_L32]
      refine ⟨fun q => absurd q (pa_nle hi (by omega)), fun _ => ⟨pa_vp (by omega) (by omega), ?_⟩⟩
      rw [pa_cl (by omega), hrow i x hx]
      refine s_callIn hn hc hl hx2.2.1 hb ⟨pa_vp (by omega) (by omega), ?_⟩
      rw [hfp, pa_cl (by omega), pj_and _ hy]
      have hbit := h2 p _ hp hy
      refine ⟨pa_vp (by omega) (by omega), fun q => ?_, fun q => ⟨pa_vp (by omega) (by omega), pa_vp (by omega) (by omega), ?_⟩⟩
      · rw [Bool.not_eq_false] at q
        obtain ⟨e, x', he, hx', hfe, hye⟩ := hbit.mp q
        have hkk : key x' = key x := (hG2 e i x' x (by omega) hi hx' hx).mp (by rw [hfe, hfp])
        have hn0 : ¬ ph_new (ph_k (fun x => key x * 64 + pt_nm n kd (pa_un l x) b)) (pc_ic n fo fi ft) x = true := fun z => hnew.mp z e x' he hx' (by rw [hkk, hye])
        have e1 : ph_cf (ph_k (fun x => key x * 64 + pt_nm n kd (pa_un l x) b)) (pc_ic n fo fi ft) ct x = ct := by unfold ph_cf; rw [if_neg hn0]; rfl
        rw [e1] at hM
        rw [pa_s1]
        refine hM (nI ct, cp) ⟨rfl, fun p' y' hp' hy' => ?_⟩
        rw [h2 p' y' hp' hy']
        constructor
        · rintro ⟨d, z, hd, hz⟩; exact ⟨d, z, by omega, hz⟩
        · rintro ⟨d, z, hd, hz, hfd, hyd⟩
          by_cases ed : d = i
          · subst ed
            rw [hx] at hz; cases hz
            rw [hfp, pa_nIinj (by omega) (by omega)] at hfd
            subst hfd; subst hyd
            exact ⟨e, x', he, hx', hfe, hye⟩
          · exact ⟨d, z, by omega, hz, hfd, hyd⟩
      · have hn1 : ph_new (ph_k (fun x => key x * 64 + pt_nm n kd (pa_un l x) b)) (pc_ic n fo fi ft) x = true := by
          refine hnew.mpr (fun d z hd hz hkz => ?_)
          have hz64 : pt_nm n kd (pa_un l z) b < 64 := by have := pt_nm_lt n kd (pa_un l z) b; omega
          have hk1 : key z = key x := by omega
          have hk2 : pt_nm n kd (pa_un l z) b = pt_nm n kd (pa_un l x) b := by omega
          have hfd : f d = nI p := by rw [← hfp]; exact (hG2 d i z x (by omega) hi hz hx).mpr hk1
          have := hbit.mpr ⟨d, z, hd, hz, hfd, hk2⟩
          rw [this] at q; cases q
        have e1 : ph_cf (ph_k (fun x => key x * 64 + pt_nm n kd (pa_un l x) b)) (pc_ic n fo fi ft) ct x = ct + 1 := by unfold ph_cf; rw [if_pos hn1]
        rw [e1] at hM
        rw [pa_s1, pa_s1]
        refine hM (nI (ct + 1), vp_updL cp p (pd_bit (cp p) (pt_nm n kd (pa_un l x) b))) ⟨rfl, fun p' y' hp' hy' => ?_⟩
        by_cases ep : p' = p
        · subst ep
          simp only [pk_uLs]
          rw [pd_bitD _ hy y' hy', Bool.or_eq_true, decide_eq_true_iff, h2 p' y' hp' hy']
          constructor
          · rintro (⟨d, z, hd, hz⟩ | hyy)
            · exact ⟨d, z, by omega, hz⟩
            · exact ⟨i, x, by omega, hx, hfp, hyy.symm⟩
          · rintro ⟨d, z, hd, hz, hfd, hyd⟩
            by_cases ed : d = i
            · subst ed
              rw [hx] at hz; cases hz
              exact Or.inr hyd.symm
            · exact Or.inl ⟨d, z, by omega, hz, hfd, hyd⟩
        · simp only [pk_uLn ep]
          rw [h2 p' y' hp' hy']
          constructor
          · rintro ⟨d, z, hd, hz⟩; exact ⟨d, z, by omega, hz⟩
          · rintro ⟨d, z, hd, hz, hfd, hyd⟩
            by_cases ed : d = i
            · subst ed
              rw [hfp, pa_nIinj (by omega) (by omega)] at hfd
              exact absurd hfd.symm ep
            · exact ⟨d, z, by omega, hz, hfd, hyd⟩
    · simp only
      rw [hI p hp]
      constructor
      · intro z
        have : (0 : Int64).toBitVec = 0#64 := rfl
        rw [this] at z; simp at z
      · rintro ⟨e, x', he, -⟩; omega
  · rw [w_X0_countWith_L3]
    refine ⟨fun q => absurd q (pa_nle hi (by omega)), fun _ => ⟨pa_vp (by omega) (by omega), ?_⟩⟩
    rw [pa_s1, pa_cl (by omega)]
    refine hM _ (fun p hp => ?_)
    by_cases ec : p = i
    · subst ec; exact pk_uLs
    · rw [pk_uLn ec]; exact hI p (by omega)
theorem s_splitHours {n fo N : Nat} {fi ft kd li br : Nat → Nat} {t_caseRow t_calls u_lists u_breaths : Nat → Int32} {p_callsOfCase : Nat → Int64} {p_cases t_caseCount : Int32} {post : (Nat → Int64) → Int32 → Prop} (hn : n < 7) (hT : pd_T n fo fi ft t_caseRow t_caseCount) (hc : ∀ b, b ≤ 18 → ∀ u, u < 2 ^ n → t_calls (b * 64 + u) = nI (pt_nm n kd u b)) (hh : ∀ h, h < 6 → u_lists h = nI (li h) ∧ li h < 2 ^ n ∧ u_breaths h = nI (br h) ∧ br h ≤ 18) (hN : N ≤ 6)
    (h : ∀ g, ph_R n fo fi ft (pi_key n kd li br N) g → post g (nI (pd_cl n fo fi ft).length)) : w_X5_splitByHours t_caseRow t_calls t_caseCount p_callsOfCase p_cases u_lists u_breaths (nI N) post := by
  unfold w_X5_splitByHours
  have hT2 := hT
  obtain ⟨rfl, hrow⟩ := hT
  refine s_begin (fun g0 hg0 => ⟨N + 1, ?_⟩)
  refine pl_inv (M := fun f i s => w_X5_splitByHours_L13 (nI N) t_caseRow t_calls (nI (pd_cl n fo fi ft).length) (nI (pd_cl n fo fi ft).length) u_lists u_breaths post _ f (nI i) s) (fun i s => ph_R n fo fi ft (pi_key n kd li br i) s) (fun f s hI => ?_) (fun f i s hi hI hM => ?_) g0 hg0
  · rw [w_X5_splitByHours_L13]
    exact ⟨fun _ => h s hI, fun q => absurd (pa_le_ (Nat.le_refl _) (by omega)) q⟩
  · rw [w_X5_splitByHours_L13]
    refine ⟨fun q => absurd q (pa_nle hi (by omega)), fun _ => ⟨fun q => absurd q (pa_nle (a := 6) (by omega) (by omega)), fun _ => ⟨pa_vp (by omega) (by omega), pa_vp (by omega) (by omega), ?_⟩⟩⟩
    have hhi := hh i (by omega)
    rw [pa_cl (by omega), hhi.1, hhi.2.2.1, pa_s1]
    refine s_splitBy hn hT2 hc hhi.2.1 hhi.2.2.2 (fun x => ?_) hI (fun g hg => hM g ?_)
    · have h1 := pi_keyb hn kd li br x i
      have h2 : 64 ^ i ≤ 64 ^ 6 := Nat.pow_le_pow_right (by omega) (by omega)
      omega
    · intro c x hx
      rw [hg c x hx]
      have : pi_key n kd li br (i + 1) x = pi_key n kd li br i x * 64 + pi_ca n kd li br i x := pd_range_s _ _ _
      rw [this]; rfl
theorem pj_keyb {n : Nat} (hn : n < 7) (kd li br : Nat → Nat) {N : Nat} (hN : N ≤ 6) (x : Nat) : pi_key n kd li br N x < 2 ^ 62 := by
  have h1 := pi_keyb hn kd li br x N
  have h2 : 64 ^ N ≤ 64 ^ 6 := Nat.pow_le_pow_right (by omega) hN
  omega
theorem pj_ctk {n fo : Nat} {fi ft : Nat → Nat} (hn : n < 7) (kd li br : Nat → Nat) (N : Nat) : ph_ct n fo fi ft (ph_k (pi_key n kd li br N)) = ph_ct n fo fi ft (pi_al n kd li br N) := pi_cte (fun y x => pi_keye hn kd li br x y N)
theorem s_X5_parts {n fo : Nat} {fi ft kd li br : Nat → Nat} {t_caseRow t_calls u_lists u_breaths p_partOfCase : Nat → Int32} {p_callsOfCase : Nat → Int64} {p_cases p_parts t_caseCount a : Int32} {post : Int32 → (Nat → Int64) → (Nat → Int32) → Int32 → Int32 → Prop} (hn : n < 7) (hT : pd_T n fo fi ft t_caseRow t_caseCount) (hc : ∀ b, b ≤ 18 → ∀ u, u < 2 ^ n → t_calls (b * 64 + u) = nI (pt_nm n kd u b)) (hh : ∀ h, h < 6 → u_lists h = nI (li h) ∧ li h < 2 ^ n ∧ u_breaths h = nI (br h) ∧ br h ≤ 18)
    (h1 : ¬ (0 ≤ a.toInt ∧ a.toInt ≤ 6) → ∀ g f c1 c2, post (-2) g f c1 c2) (h2 : (0 ≤ a.toInt ∧ a.toInt ≤ 6) → n = 0 → ∀ g f c1 c2, post (-3) g f c1 c2) (h3 : ∀ N, N ≤ 6 → a = nI N → 0 < n → ∀ g f c1 c2, post (nI (ph_ct n fo fi ft (pi_al n kd li br N))) g f c1 c2) : w_X5_parts t_caseRow t_calls (nI n) t_caseCount p_callsOfCase p_partOfCase p_cases p_parts u_lists u_breaths a post := by
  unfold w_X5_parts
  rw [pa_l0, show (a ≤ 6) = (a.toInt ≤ 6) from propext (by rw [pa_le, show (6 : Int32).toInt = 6 from rfl])]
  refine ⟨fun q => h1 (by omega) _ _ _ _, fun q => ⟨fun q1 => ?_, fun q1 => h1 (by omega) _ _ _ _⟩⟩
  rw [s_hasTown hn]
  refine ⟨fun q2 => ?_, fun q2 => ?_⟩
  · rw [pa_bn, decide_eq_true_iff] at q2
    obtain ⟨N, hN, rfl⟩ := pa_of (x := a) (n := 7) (by omega) (by omega) (by omega)
    refine s_splitHours hn hT hc hh (by omega) (fun g hg => ?_)
    refine s_number hn (pj_keyb hn kd li br (by omega)) hg (fun f hf hb => ?_)
    rw [pj_ctk hn]
    exact h3 N (by omega) rfl q2 _ _ _ _
  · rw [pa_b0, decide_eq_false_iff_not] at q2
    exact h2 (by omega) (by omega) _ _ _ _
theorem s_X6_parts {n fo : Nat} {fi ft kd li br : Nat → Nat} {n_kindOf n_listOf n_breathOf n_ifOf n_thenOf : Nat → Int32} {a : Int32} {post : Int32 → Prop} (hn : n < 7) (hfo : fo ≤ 4) (hf : ∀ f, f < fo → n_ifOf f = nI (fi f) ∧ n_thenOf f = nI (ft f) ∧ fi f < 6 ∧ ft f < 6) (hk : ∀ t, t < n → n_kindOf t = nI (kd t) ∧ kd t ≤ 2) (hh : ∀ h, h < 6 → n_listOf h = nI (li h) ∧ li h < 2 ^ n ∧ n_breathOf h = nI (br h) ∧ br h ≤ 18)
    (h1 : ¬ (0 ≤ a.toInt ∧ a.toInt ≤ 6) → post (-2)) (h2 : (0 ≤ a.toInt ∧ a.toInt ≤ 6) → n = 0 → post (-3)) (h3 : ∀ N, N ≤ 6 → a = nI N → 0 < n → post (nI (ph_ct n fo fi ft (pi_al n kd li br N)))) : w_X6_parts (nI n) n_kindOf (nI fo) n_ifOf n_thenOf n_listOf n_breathOf a post := by
  unfold w_X6_parts
  rw [s_in, pa_i64, show (0 : Int64).toInt = 0 from rfl, show (6 : Int64).toInt = 6 from rfl]
  refine ⟨fun q => ?_, fun q => ?_⟩
  · rw [pa_bn, decide_eq_true_iff] at q
    refine ⟨fun q1 => ?_, fun q1 => ?_⟩
    · obtain ⟨N, hN, rfl⟩ := pa_of (x := a) (n := 7) (by omega) (by omega) (by omega)
      have hn0 : 0 < n := by
        rcases Nat.eq_zero_or_pos n with e | e
        · subst e; exact absurd rfl q1
        · exact e
      exact s_partsBy hn hfo hf hk hh (by omega) (h3 N (by omega) rfl hn0)
    · have e : n = 0 := by
        rw [show (0 : Int32) = nI 0 from rfl, pa_nIinj (by omega) (by omega)] at q1; exact q1
      exact h2 q e
  · rw [pa_b0, decide_eq_false_iff_not] at q; exact h1 q
theorem s_X5_two {n fo : Nat} {fi ft kd br : Nat → Nat} {t_caseRow t_calls u_breaths p_partOfCase : Nat → Int32} {p_callsOfCase : Nat → Int64} {p_cases p_parts t_caseCount a1 a2 a3 : Int32} {post : Int32 → (Nat → Int64) → (Nat → Int32) → Int32 → Int32 → Prop} (hn : n < 7) (hT : pd_T n fo fi ft t_caseRow t_caseCount) (hc : ∀ b, b ≤ 18 → ∀ u, u < 2 ^ n → t_calls (b * 64 + u) = nI (pt_nm n kd u b)) (hh : ∀ h, h < 6 → u_breaths h = nI (br h) ∧ br h ≤ 18)
    (h1 : ¬ (0 ≤ a3.toInt ∧ a3.toInt < 6) → ∀ g f c1 c2, post (-1) g f c1 c2) (h2 : (0 ≤ a3.toInt ∧ a3.toInt < 6) → ¬ ((0 ≤ a1.toInt ∧ a1.toInt < (2 ^ n : Nat)) ∧ (0 ≤ a2.toInt ∧ a2.toInt < (2 ^ n : Nat))) → ∀ g f c1 c2, post (-2) g f c1 c2) (h3 : (0 ≤ a3.toInt ∧ a3.toInt < 6) → ((0 ≤ a1.toInt ∧ a1.toInt < (2 ^ n : Nat)) ∧ (0 ≤ a2.toInt ∧ a2.toInt < (2 ^ n : Nat))) → n = 0 → ∀ g f c1 c2, post (-3) g f c1 c2) (h4 : ∀ h o1 o2, h < 6 → o1 < 2 ^ n → o2 < 2 ^ n → a1 = nI o1 → a2 = nI o2 → a3 = nI h → 0 < n → ∀ g f c1 c2, post (nI (ph_ct n fo fi ft (pi_al2 n kd o1 o2 (br h)))) g f c1 c2) : w_X5_two t_caseRow t_calls (nI n) t_caseCount p_callsOfCase p_partOfCase p_cases p_parts u_breaths a1 a2 a3 post := by
  unfold w_X5_two
  have hT2 := hT
  obtain ⟨rfl, hrow⟩ := hT
  have h64 := pa_p2 hn
  rw [s_isHour]
  refine ⟨fun q => ?_, fun q => ?_⟩
  · rw [pa_bn, decide_eq_true_iff] at q
    rw [s_isSet hn]
    refine ⟨fun q1 => ?_, fun q1 => ?_⟩
    · rw [pa_b0, decide_eq_false_iff_not] at q1
      exact h2 q (fun z => q1 z.1) _ _ _ _
    · rw [pa_bn, decide_eq_true_iff] at q1
      rw [s_isSet hn]
      refine ⟨fun q2 => ?_, fun q2 => ?_⟩
      · rw [pa_bn, decide_eq_true_iff] at q2
        rw [s_hasTown hn]
        refine ⟨fun q3 => ?_, fun q3 => ?_⟩
        · rw [pa_bn, decide_eq_true_iff] at q3
          obtain ⟨h, hh6, rfl⟩ := pa_of (x := a3) (n := 6) q.1 q.2 (by omega)
          obtain ⟨o1, ho1, rfl⟩ := pa_of q1.1 q1.2 (by omega)
          obtain ⟨o2, ho2, rfl⟩ := pa_of q2.1 q2.2 (by omega)
          have hhh := hh h hh6
          refine s_begin (fun g0 hg0 => ⟨pa_vp hh6 (by omega), ?_⟩)
          rw [pa_cl (by omega), hhh.1]
          refine s_splitBy hn hT2 hc ho1 hhh.2 (fun x => by omega) hg0 (fun g1 hg1 => ⟨pa_vp hh6 (by omega), ?_⟩)
          have hnb : ∀ o x, pt_nm n kd (pa_un o x) (br h) < 64 := fun o x => by have := pt_nm_lt n kd (pa_un o x) (br h); omega
          refine s_splitBy hn hT2 hc ho2 hhh.2 (fun x => by have := hnb o1 x; omega) hg1 (fun g2 hg2 => ?_)
          refine s_number hn (fun x => by have := hnb o1 x; have := hnb o2 x; omega) hg2 (fun f hf hb => ?_)
          have e : ph_ct n fo fi ft (ph_k (fun x => (0 * 64 + pt_nm n kd (pa_un o1 x) (br h)) * 64 + pt_nm n kd (pa_un o2 x) (br h))) = ph_ct n fo fi ft (pi_al2 n kd o1 o2 (br h)) := by
            refine pi_cte (fun y x => ?_)
            simp only [ph_k, pi_al2]
            have := hnb o1 x; have := hnb o2 x; have := hnb o1 y; have := hnb o2 y
            rw [Bool.eq_iff_iff, Bool.and_eq_true, beq_iff_eq, beq_iff_eq, beq_iff_eq]
            omega
          rw [e]
          exact h4 h o1 o2 hh6 ho1 ho2 rfl rfl rfl q3 _ _ _ _
        · rw [pa_b0, decide_eq_false_iff_not] at q3
          exact h3 q ⟨q1, q2⟩ (by omega) _ _ _ _
      · rw [pa_b0, decide_eq_false_iff_not] at q2
        exact h2 q (fun z => q2 z.2) _ _ _ _
  · rw [pa_b0, decide_eq_false_iff_not] at q
    exact h1 q _ _ _ _
theorem s_X6_two {n fo : Nat} {fi ft kd br : Nat → Nat} {n_kindOf n_breathOf n_ifOf n_thenOf : Nat → Int32} {a1 a2 a3 : Int32} {post : Int32 → Prop} (hn : n < 7) (hfo : fo ≤ 4) (hf : ∀ f, f < fo → n_ifOf f = nI (fi f) ∧ n_thenOf f = nI (ft f) ∧ fi f < 6 ∧ ft f < 6) (hk : ∀ t, t < n → n_kindOf t = nI (kd t) ∧ kd t ≤ 2) (hh : ∀ h, h < 6 → n_breathOf h = nI (br h) ∧ br h ≤ 18)
    (h1 : ¬ (0 ≤ a3.toInt ∧ a3.toInt < 6) → post (-1)) (h2 : (0 ≤ a3.toInt ∧ a3.toInt < 6) → ¬ ((0 ≤ a1.toInt ∧ a1.toInt < (2 ^ n : Nat)) ∧ (0 ≤ a2.toInt ∧ a2.toInt < (2 ^ n : Nat))) → post (-2)) (h3 : (0 ≤ a3.toInt ∧ a3.toInt < 6) → ((0 ≤ a1.toInt ∧ a1.toInt < (2 ^ n : Nat)) ∧ (0 ≤ a2.toInt ∧ a2.toInt < (2 ^ n : Nat))) → n = 0 → post (-3)) (h4 : ∀ h o1 o2, h < 6 → o1 < 2 ^ n → o2 < 2 ^ n → a1 = nI o1 → a2 = nI o2 → a3 = nI h → 0 < n → post (nI (ph_ct n fo fi ft (pi_al2 n kd o1 o2 (br h))))) : w_X6_two (nI n) n_kindOf (nI fo) n_ifOf n_thenOf n_breathOf a1 a2 a3 post := by
  unfold w_X6_two
  have h64 := pa_p2 hn
  rw [s_noHour]
  refine ⟨fun q => ?_, fun q => ?_⟩
  · rw [pa_b0, Bool.not_eq_false', decide_eq_true_iff] at q
    rw [s_isOfThings hn]
    refine ⟨fun q1 => ?_, fun q1 => ?_⟩
    · rw [pa_b0, decide_eq_false_iff_not] at q1
      exact h2 q (fun z => q1 z.1)
    · rw [pa_bn, decide_eq_true_iff] at q1
      rw [s_isOfThings hn]
      refine ⟨fun q2 => ?_, fun q2 => ?_⟩
      · rw [pa_bn, decide_eq_true_iff] at q2
        refine ⟨fun q3 => ?_, fun q3 => ?_⟩
        · have hn0 : 0 < n := by
            rcases Nat.eq_zero_or_pos n with e | e
            · subst e; exact absurd rfl q3
            · exact e
          obtain ⟨h, hh6, rfl⟩ := pa_of (x := a3) (n := 6) q.1 q.2 (by omega)
          obtain ⟨o1, ho1, rfl⟩ := pa_of q1.1 q1.2 (by omega)
          obtain ⟨o2, ho2, rfl⟩ := pa_of q2.1 q2.2 (by omega)
          have hhh := hh h hh6
          refine ⟨pa_vp hh6 (by omega), 2 ^ n + 1, ?_⟩
          rw [pa_cl (by omega), hhh.1]
          exact s_X6_twoL hn hfo hf hk ho1 ho2 hhh.2 (h4 h o1 o2 hh6 ho1 ho2 rfl rfl rfl hn0)
        · have e : n = 0 := by
            rw [show (0 : Int32) = nI 0 from rfl, pa_nIinj (by omega) (by omega)] at q3; exact q3
          exact h3 q ⟨q1, q2⟩ e
      · rw [pa_b0, decide_eq_false_iff_not] at q2
        exact h2 q (fun z => q2 z.2)
  · rw [pa_bn, Bool.not_eq_true', decide_eq_false_iff_not] at q
    exact h1 q
