-- ===== words in the mean =====
theorem pg_caseAll {n fo : Nat} {fi ft : Nat → Nat} (hn0 : 0 < n) (hft : ∀ f, f < fo → ft f < n) : pc_ic n fo fi ft (2 ^ n - 1) = true := by
  unfold pc_ic
  have := pa_p1 n
  rw [decide_eq_true (by omega), Bool.true_and, List.all_eq_true]
  intro f hf
  rw [List.mem_range] at hf
  unfold pc_fo
  rw [Nat.testBit_two_pow_sub_one, Nat.testBit_two_pow_sub_one, decide_eq_true (hft f hf)]
  simp
theorem pg_pos {g : Nat × Nat → Nat → Nat × Nat} {P : Nat → Bool} (hg : ∀ p x, p.2 + 1 ≤ (g p x).2) {x : Nat} (hp : P x = true) : ∀ i, x < i → 0 < ((List.range i).foldl (fun p x => if P x = true then g p x else p) (0, 0)).2 := by
  intro i
  induction i with
  | zero => intro h; omega
  | succ i ih =>
    intro h
    rw [pd_range_s]
    by_cases e : x = i
    · subst e
      rw [if_pos hp]
      have := hg ((List.range x).foldl (fun p x => if P x = true then g p x else p) (0, 0)) x
      omega
    · have h1 := ih (by omega)
      generalize (List.range i).foldl (fun p x => if P x = true then g p x else p) (0, 0) = z at h1 ⊢
      have := hg z i
      split <;> omega
theorem s_X6_words {n fo : Nat} {fi ft kd dg li br : Nat → Nat} {n_kindOf n_digitOf n_listOf n_breathOf n_ifOf n_thenOf : Nat → Int32} {a w : Int32} {post : Int64 → Prop} (hn : n < 7) (hfo : fo ≤ 4) (hf : ∀ f, f < fo → n_ifOf f = nI (fi f) ∧ n_thenOf f = nI (ft f) ∧ fi f < 6 ∧ ft f < 6) (hft : ∀ f, f < fo → ft f < n) (hk : ∀ t, t < n → n_kindOf t = nI (kd t) ∧ kd t ≤ 2) (hd : ∀ t, t < n → n_digitOf t = nI (dg t) ∧ 1 ≤ dg t ∧ dg t ≤ 9) (hh : ∀ h, h < 6 → n_listOf h = nI (li h) ∧ li h < 2 ^ n ∧ n_breathOf h = nI (br h) ∧ br h ≤ 18)
    (h1 : ¬ (0 ≤ a.toInt ∧ a.toInt < 6) → post (-9223372036854775808)) (h2 : ¬ (w = 0 ∨ w = 1) → post (-9223372036854775808)) (h3 : n = 0 → post (-9223372036854775808)) (h4 : ∀ h, h < 6 → a = nI h → (w = 0 ∨ w = 1) → 0 < n → post (pf_sh ((List.range (2 ^ n)).foldl (fun p x => if pc_ic n fo fi ft x = true then pf_wd n kd dg (li h) (br h) p x else p) (0, 0)).1 ((List.range (2 ^ n)).foldl (fun p x => if pc_ic n fo fi ft x = true then pf_wd n kd dg (li h) (br h) p x else p) (0, 0)).2 w)) : w_X6_words (nI n) n_kindOf n_digitOf (nI fo) n_ifOf n_thenOf n_listOf n_breathOf a w post := by
  unfold w_X6_words
  have h64 := pa_p2 hn
  rw [s_noHour]
  by_cases ht : 0 ≤ a.toInt ∧ a.toInt < 6
  · obtain ⟨h, hh6, rfl⟩ := pa_of (n := 6) ht.1 ht.2 (by omega)
    have e : (!decide (0 ≤ (nI h).toInt ∧ (nI h).toInt < 6)) = false := by rw [decide_eq_true ht]; rfl
    rw [e]
    show (¬ pa_b false = 0 → _) ∧ (pa_b false = 0 → _)
    refine ⟨fun q => absurd rfl q, fun _ => ?_⟩
    rw [s_in, pa_i64, show (0 : Int64).toInt = 0 from rfl, show (1 : Int64).toInt = 1 from rfl]
    refine ⟨fun q => ?_, fun q => ⟨fun q1 => ?_, fun q1 => ?_⟩⟩
    · rw [pa_b0, decide_eq_false_iff_not, pf_e1] at q; exact h2 q
    · rw [pa_bn, decide_eq_true_iff, pf_e1] at q
      have hn0 : 0 < n := by
        rcases Nat.eq_zero_or_pos n with e | e
        · subst e; exact absurd rfl q1
        · exact e
      have h4 := h4 h hh6 rfl q hn0
      have hbd := pf_bd (P := pc_ic n fo fi ft) (pf_wdb (kd := kd) (l := li h) (b := br h) hn (fun t ht => (hk t ht).2) (fun t ht => (hd t ht).2))
      refine ⟨2 ^ n + 1, ?_⟩
      refine pl_seq (M := fun f i => w_X6_words_L36 (nI h) w (nI n) n_kindOf n_digitOf (nI fo) n_ifOf n_thenOf n_listOf n_breathOf post _ f (lN ((List.range i).foldl (fun p x => if pc_ic n fo fi ft x = true then pf_wd n kd dg (li h) (br h) p x else p) (0, 0)).1) (lN ((List.range i).foldl (fun p x => if pc_ic n fo fi ft x = true then pf_wd n kd dg (li h) (br h) p x else p) (0, 0)).2) (nI i)) (N := 2 ^ n) (fun f => ?_) (fun f i hi hM => ?_)
      · rw [w_X6_words_L36, s_all hn]
        refine ⟨fun _ => ?_, fun z => absurd ((pf_all hn (Nat.le_refl _)).mpr rfl) z⟩
        have hb := hbd (2 ^ n)
        have hpos := pg_pos (g := pf_wd n kd dg (li h) (br h)) (fun p x => by
          have := pe_wt_b (x := x) hn (fun t ht => (hd t ht).2)
          unfold pf_wd
          simp only
          omega) (pg_caseAll (fi := fi) hn0 hft) (2 ^ n) (by have := pa_p1 n; omega)
        generalize (List.range (2 ^ n)).foldl (fun p x => if pc_ic n fo fi ft x = true then pf_wd n kd dg (li h) (br h) p x else p) (0, 0) = z at h4 hb hpos ⊢
        have hb1 : 2 ^ n * 9565938 ≤ 64 * 9565938 := Nat.mul_le_mul_right _ h64
        refine s_told (by omega) (by omega) hpos ?_
        unfold pf_sh at h4
        rw [if_neg (by omega)] at h4
        exact h4
      · rw [pd_range_s] at hM
        have hb := hbd i
        generalize (List.range i).foldl (fun p x => if pc_ic n fo fi ft x = true then pf_wd n kd dg (li h) (br h) p x else p) (0, 0) = z at hM hb ⊢
        rw [w_X6_words_L36, s_all hn]
        refine ⟨fun z => absurd ((pf_all hn (by omega)).mp z) (by omega), fun _ => ?_⟩
        refine s_isCase (fi := fi) (ft := ft) hn hfo hf (nI i) ?_
        rw [pc_ci_nI (by omega), pa_s1]
        refine ⟨fun q => ?_, fun q => ?_⟩
        · rw [pa_b0] at q; rw [q] at hM; simpa using hM
        · rw [pa_bn] at q; rw [q] at hM
          have hwt := pe_wt_b (x := i) hn (fun t ht => (hd t ht).2)
          refine s_X6_weightOf (dg := dg) hn hd (by omega) (s_X6_weightOf (dg := dg) hn hd (by omega) ?_)
          have hhh := hh h hh6
          refine s_calledIn (kd := kd) (l := li h) (b := br h) hn hk hh6 hhh.1 (by omega) hhh.2.2.1 hhh.2.2.2 (by omega) ?_
          have hlt := pt_nm_lt n kd (pa_un (li h) i) (br h)
          refine s_X6_wordsOf (kd := kd) hn hk (by omega) ?_
          have h2 : pe_wo n kd (pt_nm n kd (pa_un (li h) i) (br h)) ≤ 18 := Nat.le_trans (pe_wob (s := pt_nm n kd (pa_un (li h) i) (br h)) (fun t ht => (hk t ht).2) n (Nat.le_refl n)) (by omega)
          rw [pf_toL (by omega), pf_toL (by omega), lN_mul, lN_add, lN_add]
          simpa [pf_wd] using hM
    · have e : n = 0 := by
        rw [show (0 : Int32) = nI 0 from rfl, pa_nIinj (by omega) (by omega)] at q1; exact q1
      exact h3 e
  · have e : (!decide (0 ≤ a.toInt ∧ a.toInt < 6)) = true := by rw [decide_eq_false ht]; rfl
    rw [e]
    show (¬ pa_b true = 0 → _) ∧ (pa_b true = 0 → _)
    exact ⟨fun _ => h1 ht, fun q => absurd q (by decide)⟩
theorem s_X5_words {n fo : Nat} {fi ft kd dg li br : Nat → Nat} {t_calls u_lists u_breaths t_caseRow t_weights t_kinds : Nat → Int32} {t_caseCount a w : Int32} {post : Int64 → Prop} (hn : n < 7) (hT : pd_T n fo fi ft t_caseRow t_caseCount) (hW : ∀ x, pc_ic n fo fi ft x = true → t_weights x = nI (pe_wt n dg x)) (hk : ∀ t, t < n → t_kinds t = nI (kd t) ∧ kd t ≤ 2) (hd : ∀ t, t < n → 1 ≤ dg t ∧ dg t ≤ 9) (hc : ∀ b, b ≤ 18 → ∀ u, u < 2 ^ n → t_calls (b * 64 + u) = nI (pt_nm n kd u b)) (hh : ∀ h, h < 6 → u_lists h = nI (li h) ∧ li h < 2 ^ n ∧ u_breaths h = nI (br h) ∧ br h ≤ 18)
    (h1 : ¬ (0 ≤ a.toInt ∧ a.toInt < 6) → post (-9223372036854775808)) (h2 : ¬ (w = 0 ∨ w = 1) → post (-9223372036854775808)) (h3 : n = 0 → post (-9223372036854775808)) (h4 : ∀ h, h < 6 → a = nI h → (w = 0 ∨ w = 1) → 0 < n → post (pf_sh ((List.range (2 ^ n)).foldl (fun p x => if pc_ic n fo fi ft x = true then pf_wd n kd dg (li h) (br h) p x else p) (0, 0)).1 ((List.range (2 ^ n)).foldl (fun p x => if pc_ic n fo fi ft x = true then pf_wd n kd dg (li h) (br h) p x else p) (0, 0)).2 w)) : w_X5_words t_kinds t_caseRow t_weights t_calls (nI n) t_caseCount u_lists u_breaths a w post := by
  unfold w_X5_words
  obtain ⟨rfl, hrow⟩ := hT
  have hlen := pd_len n fo fi ft
  have h64 := pa_p2 hn
  rw [s_isHour]
  refine ⟨fun q => ?_, fun q => ?_⟩
  · rw [pa_b0, decide_eq_false_iff_not] at q; exact h1 q
  · rw [pa_bn, decide_eq_true_iff] at q
    obtain ⟨h, hh6, rfl⟩ := pa_of (n := 6) q.1 q.2 (by omega)
    rw [s_isHalf]
    have e2 : (w.toInt = 0 ∨ w.toInt = 1) ↔ (w = 0 ∨ w = 1) := by
      rw [pa_e0, pa_eq w 1, show (1 : Int32).toInt = 1 from rfl]
    refine ⟨fun q1 => ?_, fun q1 => ?_⟩
    · rw [pa_b0, decide_eq_false_iff_not, e2] at q1; exact h2 q1
    · rw [pa_bn, decide_eq_true_iff, e2] at q1
      rw [s_hasTown hn]
      refine ⟨fun q2 => ?_, fun q2 => ?_⟩
      · rw [pa_bn, decide_eq_true_iff] at q2
        have h4 := h4 h hh6 rfl q1 q2
        have hbd := pf_bd (P := pc_ic n fo fi ft) (pf_wdb (kd := kd) (l := li h) (b := br h) hn (fun t ht => (hk t ht).2) hd)
        have hfin : ((pd_cl n fo fi ft).take (pd_cl n fo fi ft).length).foldl (pf_wd n kd dg (li h) (br h)) (0, 0) = (List.range (2 ^ n)).foldl (fun p x => if pc_ic n fo fi ft x = true then pf_wd n kd dg (li h) (br h) p x else p) (0, 0) := by
          rw [List.take_length, pd_both _ _ hn]
        refine ⟨(pd_cl n fo fi ft).length + 1, ?_⟩
        refine pl_seq (M := fun f i => w_X5_words_L33 (nI h) w t_kinds t_caseRow t_weights t_calls (nI n) (nI (pd_cl n fo fi ft).length) u_lists u_breaths post _ f (lN (((pd_cl n fo fi ft).take i).foldl (pf_wd n kd dg (li h) (br h)) (0, 0)).1) (lN (((pd_cl n fo fi ft).take i).foldl (pf_wd n kd dg (li h) (br h)) (0, 0)).2) (nI i)) (N := (pd_cl n fo fi ft).length) (fun f => ?_) (fun f i hi hM => ?_)
        · rw [w_X5_words_L33, hfin]
          refine ⟨fun _ => ?_, fun q => absurd (pa_le_ (Nat.le_refl _) (by omega)) q⟩
          have hb := hbd (2 ^ n)
          generalize (List.range (2 ^ n)).foldl (fun p x => if pc_ic n fo fi ft x = true then pf_wd n kd dg (li h) (br h) p x else p) (0, 0) = z at h4 hb ⊢
          have hb1 : 2 ^ n * 9565938 ≤ 64 * 9565938 := Nat.mul_le_mul_right _ h64
          exact s_half (by omega) (by omega) h4
        · obtain ⟨x, hx⟩ := pd_get hi
          have hx2 := pd_mem hx
          rw [pd_fold_s _ _ hx] at hM
          generalize ((pd_cl n fo fi ft).take i).foldl (pf_wd n kd dg (li h) (br h)) (0, 0) = z at hM ⊢
          rw [w_X5_words_L33]
          refine ⟨fun q => absurd q (pa_nle hi (by omega)), fun _ => ⟨pa_vp (by omega) (by omega), ?_⟩⟩
          have hwt := pe_wt_b (x := x) hn hd
          have hhh := hh h hh6
          rw [pa_cl (by omega), hrow i x hx, pa_s1, pa_cl (by omega), hW x hx2.1, pf_toL (by omega)]
          refine ⟨pa_vp (by omega) (by omega), pa_vp (by omega) (by omega), ?_⟩
          refine s_callOfHour (kd := kd) (l := li h) (b := br h) hn hc hh6 hhh.1 hhh.2.1 hhh.2.2.1 hhh.2.2.2 hx2.2.1 ?_
          have hlt := pt_nm_lt n kd (pa_un (li h) x) (br h)
          refine s_X4_wordsIn (kd := kd) hn hk (by omega) ?_
          have h2 : pe_wo n kd (pt_nm n kd (pa_un (li h) x) (br h)) ≤ 18 := Nat.le_trans (pe_wob (s := pt_nm n kd (pa_un (li h) x) (br h)) (fun t ht => (hk t ht).2) n (Nat.le_refl n)) (by omega)
          rw [pf_toL (by omega), lN_mul, lN_add, lN_add]
          simpa [pf_wd] using hM
      · rw [pa_b0, decide_eq_false_iff_not] at q2
        exact h3 (by omega)
