-- ===== sure, chance, words =====
def pf_su (w : Int32) (s : Int32) (x : Nat) : Int32 := if w = 0 then s &&& nI x else s &&& (nI x ^^^ (-1 : Int32))
def pf_sure (n fo : Nat) (fi ft kd li br : Nat → Nat) (he : Nat → Int32) (w : Int32) : Int32 := (List.range (2 ^ n)).foldl (fun s x => if pc_tb n fo fi ft kd li br he x = true then pf_su w s x else s) (nI (2 ^ n - 1))
theorem pf_e1 {w : Int32} : (0 ≤ w.toInt ∧ w.toInt ≤ 1) ↔ (w = 0 ∨ w = 1) := by
  rw [pa_e0, pa_eq w 1, show (1 : Int32).toInt = 1 from rfl]; omega
/-- the reference's loop goes on while x is no more than all -/
theorem pf_all {n i : Nat} (hn : n < 7) (hi : i ≤ 2 ^ n) : nI (2 ^ n - 1) < nI i ↔ i = 2 ^ n := by
  have h1 := pa_p2 hn
  have h2 := pa_p1 n
  rw [pa_ltN (by omega) (by omega)]; omega
theorem s_X6_sure {n fo : Nat} {fi ft kd li br : Nat → Nat} {he n_kindOf n_listOf n_breathOf n_ifOf n_thenOf : Nat → Int32} {w : Int32} {post : Int32 → Prop} (hn : n < 7) (hfo : fo ≤ 4) (hf : ∀ f, f < fo → n_ifOf f = nI (fi f) ∧ n_thenOf f = nI (ft f) ∧ fi f < 6 ∧ ft f < 6) (hk : ∀ t, t < n → n_kindOf t = nI (kd t) ∧ kd t ≤ 2) (hh : ∀ h, h < 6 → n_listOf h = nI (li h) ∧ li h < 2 ^ n ∧ n_breathOf h = nI (br h) ∧ br h ≤ 18) (hhe : ∀ h, h < 6 → he h = (-9 : Int32) ∨ 0 ≤ (he h).toInt)
    (h1 : ¬ (w = 0 ∨ w = 1) → post (-2)) (h2 : (w = 0 ∨ w = 1) → n = 0 → post (-3)) (h3 : (w = 0 ∨ w = 1) → 0 < n → post (pf_sure n fo fi ft kd li br he w)) : w_X6_sure (nI n) n_kindOf (nI fo) n_ifOf n_thenOf n_listOf n_breathOf he w post := by
  unfold w_X6_sure
  have h64 := pa_p2 hn
  rw [s_in, pa_i64, show (0 : Int64).toInt = 0 from rfl, show (1 : Int64).toInt = 1 from rfl]
  refine ⟨fun q => ?_, fun q => ?_⟩
  · rw [pa_bn, decide_eq_true_iff, pf_e1] at q
    refine ⟨fun q1 => ?_, fun q1 => ?_⟩
    · have hn0 : 0 < n := by
        rcases Nat.eq_zero_or_pos n with e | e
        · subst e; exact absurd rfl q1
        · exact e
      rw [s_all hn]
      refine ⟨2 ^ n + 1, ?_⟩
      refine pl_seq (M := fun f i => w_X6_sure_L30 w (nI n) n_kindOf (nI fo) n_ifOf n_thenOf n_listOf n_breathOf he post (fun xx => post xx) f ((List.range i).foldl (fun s x => if pc_tb n fo fi ft kd li br he x = true then pf_su w s x else s) (nI (2 ^ n - 1))) (nI i)) (N := 2 ^ n) (fun f => ?_) (fun f i hi hM => ?_)
      · rw [w_X6_sure_L30, s_all hn]
        exact ⟨fun _ => h3 q hn0, fun z => absurd ((pf_all hn (Nat.le_refl _)).mpr rfl) z⟩
      · rw [pd_range_s] at hM
        rw [w_X6_sure_L30, s_all hn]
        refine ⟨fun z => absurd ((pf_all hn (by omega)).mp z) (by omega), fun _ => ?_⟩
        refine s_X6_isTh (fi := fi) (ft := ft) (kd := kd) (li := li) (br := br) hn hfo hf hk hh hhe (by omega) ⟨fun z => ?_, fun z => ?_⟩
        · rw [pa_b0] at z; rw [z] at hM; rw [pa_s1]; simpa using hM
        · rw [pa_bn] at z; rw [z] at hM
          rw [pa_s1]
          refine ⟨fun z1 => ?_, fun z1 => ?_⟩
          · simpa [pf_su, z1] using hM
          · simpa [pf_su, z1] using hM
    · have e : n = 0 := by
        rw [show (0 : Int32) = nI 0 from rfl, pa_nIinj (by omega) (by omega)] at q1; exact q1
      exact h2 q e
  · rw [pa_b0, decide_eq_false_iff_not, pf_e1] at q
    exact h1 q
theorem s_X5_sure {n fo : Nat} {fi ft kd li br : Nat → Nat} {he t_calls u_lists u_breaths t_caseRow : Nat → Int32} {t_caseCount w : Int32} {post : Int32 → Prop} (hn : n < 7) (hT : pd_T n fo fi ft t_caseRow t_caseCount) (hc : ∀ b, b ≤ 18 → ∀ u, u < 2 ^ n → t_calls (b * 64 + u) = nI (pt_nm n kd u b)) (hh : ∀ h, h < 6 → u_lists h = nI (li h) ∧ li h < 2 ^ n ∧ u_breaths h = nI (br h) ∧ br h ≤ 18)
    (h1 : ¬ (w = 0 ∨ w = 1) → post (-2)) (h2 : (w = 0 ∨ w = 1) → n = 0 → post (-3)) (h3 : (w = 0 ∨ w = 1) → 0 < n → post (pf_sure n fo fi ft kd li br he w)) : w_X5_sure t_caseRow t_calls (nI n) t_caseCount u_lists u_breaths he w post := by
  unfold w_X5_sure
  obtain ⟨rfl, hrow⟩ := hT
  have hlen := pd_len n fo fi ft
  have key : (w = 0 ∨ w = 1) → w_X5_hasTown (nI n) (fun (rr_4 : Int32) => (¬ rr_4 = 0 → (w_X4_allThings (nI n) (fun (rr_5 : Int32) => ∃ e_32, w_X5_sure_L32 w t_caseRow t_calls (nI n) (nI (pd_cl n fo fi ft).length) u_lists u_breaths he post (fun (xx_14 : Int32) => post xx_14) e_32 rr_5 (0 : Int32)))) ∧ (rr_4 = 0 → (post (-3 : Int32)))) := by
    intro hw
    rw [s_hasTown hn]
    refine ⟨fun q => ?_, fun q => ?_⟩
    · rw [pa_bn, decide_eq_true_iff] at q
      have h3 := h3 hw q
      rw [s_allT hn]
      have hfin : ((pd_cl n fo fi ft).take (pd_cl n fo fi ft).length).foldl (fun s x => if (List.range 6).all (pc_ph he (fun h => pt_nm n kd (pa_un (li h) x) (br h))) = true then pf_su w s x else s) (nI (2 ^ n - 1)) = pf_sure n fo fi ft kd li br he w := by
        rw [List.take_length, pd_both _ _ hn]
        unfold pf_sure
        congr 1
        funext s x
        exact pd_tbE (pf_su w) s x
      refine ⟨(pd_cl n fo fi ft).length + 1, ?_⟩
      refine pl_seq (M := fun f i => w_X5_sure_L32 w t_caseRow t_calls (nI n) (nI (pd_cl n fo fi ft).length) u_lists u_breaths he post (fun xx => post xx) f (((pd_cl n fo fi ft).take i).foldl (fun s x => if (List.range 6).all (pc_ph he (fun h => pt_nm n kd (pa_un (li h) x) (br h))) = true then pf_su w s x else s) (nI (2 ^ n - 1))) (nI i)) (N := (pd_cl n fo fi ft).length) (fun f => ?_) (fun f i hi hM => ?_)
      · rw [w_X5_sure_L32, hfin]
        exact ⟨fun _ => h3, fun q => absurd (pa_le_ (Nat.le_refl _) (by omega)) q⟩
      · obtain ⟨x, hx⟩ := pd_get hi
        have hx2 := pd_mem hx
        rw [pd_fold_s _ _ hx] at hM
        rw [w_X5_sure_L32]
        refine ⟨fun q => absurd q (pa_nle hi (by omega)), fun _ => ⟨pa_vp (by omega) (by omega), ?_⟩⟩
        rw [pa_cl (by omega), hrow i x hx, pa_s1]
        refine s_X5_isTh (kd := kd) (li := li) (br := br) hn hc hh hx2.2.1 ⟨fun z => ?_, fun z => ?_⟩
        · rw [pa_b0] at z; rw [z] at hM; simpa using hM
        · rw [pa_bn] at z; rw [z] at hM
          refine ⟨fun z1 => ?_, fun z1 => ?_⟩
          · simpa [pf_su, z1] using hM
          · simpa [pf_su, z1] using hM
    · rw [pa_b0, decide_eq_false_iff_not] at q
      exact h2 hw (by omega)
  by_cases hw : w = 0 ∨ w = 1
  · refine xq_use0 (fun K hK => ⟨fun _ => hK, fun q => ⟨fun _ => hK, fun q1 => ?_⟩⟩) (key hw)
    rcases hw with z | z
    · exact absurd z q
    · exact absurd z q1
  · show (w = 0 → _) ∧ _
    exact ⟨fun q => absurd (Or.inl q) hw, fun _ => ⟨fun q => absurd (Or.inr q) hw, fun _ => h1 hw⟩⟩
-- sums
def pf_sh (U L : Nat) (w : Int32) : Int64 := if L = 0 then Int32.toInt64 w else if w = 0 then lN U / lN (Nat.gcd U L) else lN L / lN (Nat.gcd U L)
def pf_ch (n : Nat) (dg : Nat → Nat) (t : Nat) (p : Nat × Nat) (x : Nat) : Nat × Nat := (p.1 + (if x.testBit t = true then pe_wt n dg x else 0), p.2 + pe_wt n dg x)
def pf_wd (n : Nat) (kd dg : Nat → Nat) (l b : Nat) (p : Nat × Nat) (x : Nat) : Nat × Nat := (p.1 + pe_wt n dg x * pe_wo n kd (pt_nm n kd (pa_un l x) b), p.2 + pe_wt n dg x)
theorem pf_bd {g : Nat × Nat → Nat → Nat × Nat} {P : Nat → Bool} {W : Nat} (hg : ∀ p x, (g p x).1 ≤ p.1 + W ∧ (g p x).2 ≤ p.2 + W) : ∀ i, ((List.range i).foldl (fun p x => if P x = true then g p x else p) (0, 0)).1 ≤ i * W ∧ ((List.range i).foldl (fun p x => if P x = true then g p x else p) (0, 0)).2 ≤ i * W := by
  intro i
  induction i with
  | zero => simp
  | succ i ih =>
    rw [pd_range_s]
    generalize (List.range i).foldl (fun p x => if P x = true then g p x else p) (0, 0) = z at ih ⊢
    have := hg z i
    have e : (i + 1) * W = i * W + W := by rw [Nat.add_mul, Nat.one_mul]
    show (if P i = true then g z i else z).1 ≤ _ ∧ (if P i = true then g z i else z).2 ≤ _
    split <;> omega
theorem pf_chb {n : Nat} {dg : Nat → Nat} {t : Nat} (hn : n < 7) (hd : ∀ t, t < n → 1 ≤ dg t ∧ dg t ≤ 9) (p : Nat × Nat) (x : Nat) : (pf_ch n dg t p x).1 ≤ p.1 + 9565938 ∧ (pf_ch n dg t p x).2 ≤ p.2 + 9565938 := by
  have h := pe_wt_b (x := x) hn hd
  unfold pf_ch
  refine ⟨?_, by simp only; omega⟩
  simp only
  split <;> omega
theorem pf_wdb {n : Nat} {kd dg : Nat → Nat} {l b : Nat} (hn : n < 7) (hk : ∀ t, t < n → kd t ≤ 2) (hd : ∀ t, t < n → 1 ≤ dg t ∧ dg t ≤ 9) (p : Nat × Nat) (x : Nat) : (pf_wd n kd dg l b p x).1 ≤ p.1 + 9565938 ∧ (pf_wd n kd dg l b p x).2 ≤ p.2 + 9565938 := by
  have h := pe_wt_b (x := x) hn hd
  have h2 : pe_wo n kd (pt_nm n kd (pa_un l x) b) ≤ 18 := Nat.le_trans (pe_wob (s := pt_nm n kd (pa_un l x) b) hk n (Nat.le_refl n)) (by omega)
  have h3 : pe_wt n dg x * pe_wo n kd (pt_nm n kd (pa_un l x) b) ≤ 531441 * 18 := Nat.mul_le_mul h.2 h2
  unfold pf_wd
  simp only
  omega
theorem pf_l0 (z : Nat) : lN z + (0 : Int64) = lN z := by rw [show (0 : Int64) = lN 0 from rfl, lN_add, Nat.add_zero]
theorem pf_toL {w : Nat} (h : w ≤ 9565938) : Int32.toInt64 (nI w) = lN w := nI_l (by omega)
theorem s_X6_chance {n fo t : Nat} {fi ft kd dg li br : Nat → Nat} {he n_kindOf n_digitOf n_listOf n_breathOf n_ifOf n_thenOf : Nat → Int32} {a w : Int32} {post : Int64 → Prop} (hn : n < 7) (hfo : fo ≤ 4) (hf : ∀ f, f < fo → n_ifOf f = nI (fi f) ∧ n_thenOf f = nI (ft f) ∧ fi f < 6 ∧ ft f < 6) (hk : ∀ t, t < n → n_kindOf t = nI (kd t) ∧ kd t ≤ 2) (hd : ∀ t, t < n → n_digitOf t = nI (dg t) ∧ 1 ≤ dg t ∧ dg t ≤ 9) (hh : ∀ h, h < 6 → n_listOf h = nI (li h) ∧ li h < 2 ^ n ∧ n_breathOf h = nI (br h) ∧ br h ≤ 18) (hhe : ∀ h, h < 6 → he h = (-9 : Int32) ∨ 0 ≤ (he h).toInt)
    (h1 : ¬ (0 ≤ a.toInt ∧ a.toInt < n) → post (-9223372036854775808)) (h2 : ¬ (w = 0 ∨ w = 1) → post (-9223372036854775808)) (h3 : ∀ t, t < n → a = nI t → (w = 0 ∨ w = 1) → post (pf_sh ((List.range (2 ^ n)).foldl (fun p x => if pc_tb n fo fi ft kd li br he x = true then pf_ch n dg t p x else p) (0, 0)).1 ((List.range (2 ^ n)).foldl (fun p x => if pc_tb n fo fi ft kd li br he x = true then pf_ch n dg t p x else p) (0, 0)).2 w)) : w_X6_chance (nI n) n_kindOf n_digitOf (nI fo) n_ifOf n_thenOf n_listOf n_breathOf he a w post := by
  unfold w_X6_chance
  have h64 := pa_p2 hn
  rw [s_noThing hn]
  by_cases ht : 0 ≤ a.toInt ∧ a.toInt < (n : Int)
  · obtain ⟨t, htn, rfl⟩ := pa_of ht.1 ht.2 (by omega)
    have e : (!decide (0 ≤ (nI t).toInt ∧ (nI t).toInt < (n : Int))) = false := by rw [decide_eq_true ht]; rfl
    rw [e]
    by_cases hw : w = 0 ∨ w = 1
    · have h3 := h3 t htn rfl hw
      show (¬ pa_b false = 0 → _) ∧ (pa_b false = 0 → _)
      refine ⟨fun q => absurd rfl q, fun _ => ?_⟩
      rw [s_in, pa_i64, show (0 : Int64).toInt = 0 from rfl, show (1 : Int64).toInt = 1 from rfl, decide_eq_true (pf_e1.mpr hw)]
      refine ⟨fun _ => ⟨2 ^ n + 1, ?_⟩, fun q => absurd q (by decide)⟩
      have hbd := pf_bd (P := pc_tb n fo fi ft kd li br he) (pf_chb (t := t) hn (fun t ht => (hd t ht).2))
      refine pl_seq (M := fun f i => w_X6_chance_L30 (nI t) w (nI n) n_kindOf n_digitOf (nI fo) n_ifOf n_thenOf n_listOf n_breathOf he post _ f (lN ((List.range i).foldl (fun p x => if pc_tb n fo fi ft kd li br he x = true then pf_ch n dg t p x else p) (0, 0)).1) (lN ((List.range i).foldl (fun p x => if pc_tb n fo fi ft kd li br he x = true then pf_ch n dg t p x else p) (0, 0)).2) (nI i)) (N := 2 ^ n) (fun f => ?_) (fun f i hi hM => ?_)
      · rw [w_X6_chance_L30, s_all hn]
        refine ⟨fun _ => ?_, fun z => absurd ((pf_all hn (Nat.le_refl _)).mpr rfl) z⟩
        have hb := hbd (2 ^ n)
        generalize (List.range (2 ^ n)).foldl (fun p x => if pc_tb n fo fi ft kd li br he x = true then pf_ch n dg t p x else p) (0, 0) = z at h3 hb ⊢
        have hb1 : 2 ^ n * 9565938 ≤ 64 * 9565938 := Nat.mul_le_mul_right _ h64
        refine ⟨fun q => ?_, fun q => ?_⟩
        · rw [pe_l0 (by omega)] at q
          refine s_told (by omega) (by omega) (by omega) ?_
          unfold pf_sh at h3
          rw [if_neg q] at h3
          exact h3
        · rw [pe_l0 (by omega)] at q
          unfold pf_sh at h3
          rw [if_pos q] at h3
          exact h3
      · rw [pd_range_s] at hM
        have hb := hbd i
        generalize (List.range i).foldl (fun p x => if pc_tb n fo fi ft kd li br he x = true then pf_ch n dg t p x else p) (0, 0) = z at hM hb ⊢
        rw [w_X6_chance_L30, s_all hn]
        refine ⟨fun z => absurd ((pf_all hn (by omega)).mp z) (by omega), fun _ => ?_⟩
        refine s_X6_isTh (fi := fi) (ft := ft) (kd := kd) (li := li) (br := br) hn hfo hf hk hh hhe (by omega) ⟨fun q => ?_, fun q => ?_⟩
        · rw [pa_b0] at q; rw [q] at hM; rw [pa_s1]; simpa using hM
        · rw [pa_bn] at q; rw [q] at hM
          have hwt := pe_wt_b (x := i) hn (fun t ht => (hd t ht).2)
          refine s_X6_weightOf (dg := dg) hn hd (by omega) ?_
          rw [s_isIn (by omega) (by omega)]
          rw [pf_toL (by omega), pa_s1, pf_l0, lN_add]
          refine ⟨fun q1 => ?_, fun q1 => ?_⟩
          · rw [pa_b0] at q1; simpa [pf_ch, q1] using hM
          · rw [pa_bn] at q1
            refine s_X6_weightOf (dg := dg) hn hd (by omega) ?_
            rw [pf_toL (by omega), lN_add]
            simpa [pf_ch, q1] using hM
    · show (¬ pa_b false = 0 → _) ∧ (pa_b false = 0 → _)
      refine ⟨fun q => absurd rfl q, fun _ => ?_⟩
      rw [s_in, pa_i64, show (0 : Int64).toInt = 0 from rfl, show (1 : Int64).toInt = 1 from rfl, decide_eq_false (fun z => hw (pf_e1.mp z))]
      refine ⟨fun q => absurd rfl q, fun _ => ?_⟩
      exact h2 hw
  · have e : (!decide (0 ≤ a.toInt ∧ a.toInt < (n : Int))) = true := by rw [decide_eq_false ht]; rfl
    rw [e]
    show (¬ pa_b true = 0 → _) ∧ (pa_b true = 0 → _)
    exact ⟨fun _ => h1 ht, fun q => absurd q (by decide)⟩
theorem s_X5_chance {n fo t : Nat} {fi ft kd dg li br : Nat → Nat} {he t_calls u_lists u_breaths t_caseRow t_weights : Nat → Int32} {t_caseCount a w : Int32} {post : Int64 → Prop} (hn : n < 7) (hT : pd_T n fo fi ft t_caseRow t_caseCount) (hW : ∀ x, pc_ic n fo fi ft x = true → t_weights x = nI (pe_wt n dg x)) (hd : ∀ t, t < n → 1 ≤ dg t ∧ dg t ≤ 9) (hc : ∀ b, b ≤ 18 → ∀ u, u < 2 ^ n → t_calls (b * 64 + u) = nI (pt_nm n kd u b)) (hh : ∀ h, h < 6 → u_lists h = nI (li h) ∧ li h < 2 ^ n ∧ u_breaths h = nI (br h) ∧ br h ≤ 18)
    (h1 : ¬ (0 ≤ a.toInt ∧ a.toInt < n) → post (-9223372036854775808)) (h2 : ¬ (w = 0 ∨ w = 1) → post (-9223372036854775808)) (h3 : ∀ t, t < n → a = nI t → (w = 0 ∨ w = 1) → post (pf_sh ((List.range (2 ^ n)).foldl (fun p x => if pc_tb n fo fi ft kd li br he x = true then pf_ch n dg t p x else p) (0, 0)).1 ((List.range (2 ^ n)).foldl (fun p x => if pc_tb n fo fi ft kd li br he x = true then pf_ch n dg t p x else p) (0, 0)).2 w)) : w_X5_chance t_caseRow t_weights t_calls (nI n) t_caseCount u_lists u_breaths he a w post := by
  unfold w_X5_chance
  obtain ⟨rfl, hrow⟩ := hT
  have hlen := pd_len n fo fi ft
  have h64 := pa_p2 hn
  rw [s_isThing hn]
  refine ⟨fun q => ?_, fun q => ?_⟩
  · rw [pa_b0, decide_eq_false_iff_not] at q; exact h1 q
  · rw [pa_bn, decide_eq_true_iff] at q
    obtain ⟨t, htn, rfl⟩ := pa_of q.1 q.2 (by omega)
    rw [s_isHalf]
    have e2 : (w.toInt = 0 ∨ w.toInt = 1) ↔ (w = 0 ∨ w = 1) := by
      rw [pa_e0, pa_eq w 1, show (1 : Int32).toInt = 1 from rfl]
    refine ⟨fun q1 => ?_, fun q1 => ?_⟩
    · rw [pa_bn, decide_eq_true_iff, e2] at q1
      have h3 := h3 t htn rfl q1
      have hbd := pf_bd (P := pc_tb n fo fi ft kd li br he) (pf_chb (t := t) hn hd)
      have hfin : ((pd_cl n fo fi ft).take (pd_cl n fo fi ft).length).foldl (fun p x => if (List.range 6).all (pc_ph he (fun h => pt_nm n kd (pa_un (li h) x) (br h))) = true then pf_ch n dg t p x else p) (0, 0) = (List.range (2 ^ n)).foldl (fun p x => if pc_tb n fo fi ft kd li br he x = true then pf_ch n dg t p x else p) (0, 0) := by
        rw [List.take_length, pd_both _ _ hn]
        congr 1
        funext s x
        exact pd_tbE (pf_ch n dg t) s x
      refine ⟨(pd_cl n fo fi ft).length + 1, ?_⟩
      refine pl_seq (M := fun f i => w_X5_chance_L30 (nI t) w t_caseRow t_weights t_calls (nI n) (nI (pd_cl n fo fi ft).length) u_lists u_breaths he post _ f (lN (((pd_cl n fo fi ft).take i).foldl (fun p x => if (List.range 6).all (pc_ph he (fun h => pt_nm n kd (pa_un (li h) x) (br h))) = true then pf_ch n dg t p x else p) (0, 0)).1) (lN (((pd_cl n fo fi ft).take i).foldl (fun p x => if (List.range 6).all (pc_ph he (fun h => pt_nm n kd (pa_un (li h) x) (br h))) = true then pf_ch n dg t p x else p) (0, 0)).2) (nI i)) (N := (pd_cl n fo fi ft).length) (fun f => ?_) (fun f i hi hM => ?_)
      · rw [w_X5_chance_L30, hfin]
        refine ⟨fun _ => ?_, fun q => absurd (pa_le_ (Nat.le_refl _) (by omega)) q⟩
        have hb := hbd (2 ^ n)
        generalize (List.range (2 ^ n)).foldl (fun p x => if pc_tb n fo fi ft kd li br he x = true then pf_ch n dg t p x else p) (0, 0) = z at h3 hb ⊢
        have hb1 : 2 ^ n * 9565938 ≤ 64 * 9565938 := Nat.mul_le_mul_right _ h64
        exact s_half (by omega) (by omega) h3
      · obtain ⟨x, hx⟩ := pd_get hi
        have hx2 := pd_mem hx
        rw [pd_fold_s _ _ hx] at hM
        generalize ((pd_cl n fo fi ft).take i).foldl (fun p x => if (List.range 6).all (pc_ph he (fun h => pt_nm n kd (pa_un (li h) x) (br h))) = true then pf_ch n dg t p x else p) (0, 0) = z at hM ⊢
        rw [w_X5_chance_L30]
        refine ⟨fun q => absurd q (pa_nle hi (by omega)), fun _ => ⟨pa_vp (by omega) (by omega), ?_⟩⟩
        have hwt := pe_wt_b (x := x) hn hd
        rw [pa_cl (by omega), hrow i x hx, pa_s1, pa_cl (by omega), hW x hx2.1, pf_toL (by omega), pf_l0, lN_add, lN_add]
        refine s_X5_isTh (kd := kd) (li := li) (br := br) hn hc hh hx2.2.1 ⟨fun q => ?_, fun q => ⟨pa_vp (by omega) (by omega), ?_⟩⟩
        · rw [pa_b0] at q; rw [q] at hM; simpa using hM
        · rw [pa_bn] at q; rw [q] at hM
          rw [s_has (by omega) (by omega)]
          refine ⟨fun q1 => ?_, fun q1 => ⟨pa_vp (by omega) (by omega), ?_⟩⟩
          · rw [pa_b0] at q1; simpa [pf_ch, q1] using hM
          · rw [pa_bn] at q1; simpa [pf_ch, q1] using hM
    · rw [pa_b0, decide_eq_false_iff_not, e2] at q1; exact h2 q1
