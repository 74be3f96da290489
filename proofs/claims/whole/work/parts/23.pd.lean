-- ===== loops, lists of cases, sets of cases, sums, shares =====
theorem pl_seq {M : Nat → Nat → Prop} {N : Nat} (hx : ∀ f, M (f + 1) N) (hs : ∀ f i, i < N → M f (i + 1) → M (f + 1) i) : M (N + 1) 0 := by
  have key : ∀ k i, i + k = N → M (k + 1) i := by
    intro k
    induction k with
    | zero => intro i hi; have e : i = N := by omega
              subst e; exact hx 0
    | succ k ih => intro i hi; exact hs (k + 1) i (by omega) (ih (i + 1) (by omega))
  exact key N 0 (by omega)
theorem pd_take {l : List Nat} {c x : Nat} (h : l[c]? = some x) : l.take (c + 1) = l.take c ++ [x] := by
  rw [List.take_succ, h]; rfl
theorem pd_fold_s {σ : Type} (g : σ → Nat → σ) (s : σ) {l : List Nat} {c x : Nat} (h : l[c]? = some x) : (l.take (c + 1)).foldl g s = g ((l.take c).foldl g s) x := by
  rw [pd_take h, List.foldl_append]; rfl
theorem pd_range_s {σ : Type} (g : σ → Nat → σ) (s : σ) (i : Nat) : (List.range (i + 1)).foldl g s = g ((List.range i).foldl g s) i := by
  rw [List.range_succ, List.foldl_append]; rfl
theorem pd_ext {σ : Type} (g : σ → Nat → σ) (s : σ) {N M : Nat} (h : N ≤ M) (hg : ∀ t x, N ≤ x → g t x = t) : (List.range M).foldl g s = (List.range N).foldl g s := by
  induction M with
  | zero => have : N = 0 := by omega
            subst this; rfl
  | succ M ih =>
    by_cases e : N = M + 1
    · subst e; rfl
    · rw [pd_range_s, hg _ _ (by omega), ih (by omega)]
def pd_cl (n fo : Nat) (fi ft : Nat → Nat) : List Nat := (List.range 64).filter (pc_ic n fo fi ft)
theorem pd_mem {n fo : Nat} {fi ft : Nat → Nat} {c x : Nat} (h : (pd_cl n fo fi ft)[c]? = some x) : pc_ic n fo fi ft x = true ∧ x < 64 ∧ c < 64 := by
  have h1 := List.mem_of_getElem? h
  unfold pd_cl at h1
  rw [List.mem_filter, List.mem_range] at h1
  refine ⟨h1.2, h1.1, ?_⟩
  have h2 := (List.getElem?_eq_some_iff.mp h).1
  have h3 : (pd_cl n fo fi ft).length ≤ (List.range 64).length := List.length_filter_le _ _
  rw [List.length_range] at h3
  omega
theorem pd_len (n fo : Nat) (fi ft : Nat → Nat) : (pd_cl n fo fi ft).length ≤ 64 := by
  have h3 : (pd_cl n fo fi ft).length ≤ (List.range 64).length := List.length_filter_le _ _
  rwa [List.length_range] at h3
theorem pd_get {n fo : Nat} {fi ft : Nat → Nat} {c : Nat} (h : c < (pd_cl n fo fi ft).length) : ∃ x, (pd_cl n fo fi ft)[c]? = some x := ⟨_, List.getElem?_eq_getElem h⟩
/-- over the list of cases, or over all numbers with an if -/
theorem pd_both {σ : Type} (g : σ → Nat → σ) (s : σ) {n fo : Nat} {fi ft : Nat → Nat} (hn : n < 7) : (pd_cl n fo fi ft).foldl g s = (List.range (2 ^ n)).foldl (fun s x => if pc_ic n fo fi ft x = true then g s x else s) s := by
  unfold pd_cl
  rw [List.foldl_filter]
  refine pd_ext _ _ (pa_p2 hn) ?_
  intro t x hx
  have : ¬ pc_ic n fo fi ft x = true := fun q => by have := (pc_lt q).1; omega
  rw [if_neg this]
/-- what is known of the class's town -/
def pd_T (n fo : Nat) (fi ft : Nat → Nat) (t_caseRow : Nat → Int32) (t_caseCount : Int32) : Prop := t_caseCount = nI (pd_cl n fo fi ft).length ∧ ∀ c x, (pd_cl n fo fi ft)[c]? = some x → t_caseRow c = nI x
def pd_bit (s : Int64) (x : Nat) : Int64 := s ||| ((1 : Int64) <<< (Int32.toInt64 (nI x) &&& 63))
def pd_sN (P : Nat → Bool) (m : Nat) : Int64 := (List.range m).foldl (fun s x => if P x = true then pd_bit s x else s) 0
theorem pd_lor0 (s : Int64) : s ||| (0 : Int64) = s := by
  apply Int64.toBitVec_inj.mp
  show s.toBitVec ||| (0#64) = s.toBitVec
  simp
theorem pd_sN_ext {P : Nat → Bool} {N M : Nat} (h : N ≤ M) (hp : ∀ x, N ≤ x → P x = false) : pd_sN P M = pd_sN P N := by
  unfold pd_sN
  refine pd_ext _ _ h ?_
  intro t x hx
  rw [hp x hx]; simp
theorem s_X6_casesP {n fo : Nat} {fi ft : Nat → Nat} {n_ifOf n_thenOf : Nat → Int32} {post : Int64 → Prop} (hn : n < 7) (hfo : fo ≤ 4) (hf : ∀ f, f < fo → n_ifOf f = nI (fi f) ∧ n_thenOf f = nI (ft f) ∧ fi f < 6 ∧ ft f < 6) (h : post (pd_sN (pc_ic n fo fi ft) 64)) : w_X6_cases (nI n) (nI fo) n_ifOf n_thenOf post := by
  unfold w_X6_cases
  refine ⟨64 + 1, ?_⟩
  refine pl_seq (M := fun f i => w_X6_cases_L4 (nI n) (nI fo) n_ifOf n_thenOf post (fun xx => post xx) f (pd_sN (pc_ic n fo fi ft) i) (nI i)) (N := 64) (fun f => ?_) (fun f i hi hM => ?_)
  · rw [w_X6_cases_L4]
    exact ⟨fun _ => h, fun q => absurd (by decide) q⟩
  · rw [w_X6_cases_L4]
    refine ⟨fun q => absurd q (pa_nle (a := 64) (by omega) (by omega)), fun _ => ?_⟩
    refine s_isCase hn hfo hf (nI i) ?_
    rw [pc_ci_nI (by omega)]
    have e : pd_sN (pc_ic n fo fi ft) (i + 1) = if pc_ic n fo fi ft i = true then pd_bit (pd_sN (pc_ic n fo fi ft) i) i else pd_sN (pc_ic n fo fi ft) i := pd_range_s _ _ _
    rw [e] at hM
    rw [pa_s1, pd_lor0]
    refine ⟨fun q => ?_, fun q => ?_⟩
    · rw [pa_b0] at q; rw [q] at hM; simpa using hM
    · rw [pa_bn] at q; rw [q] at hM; simpa [pd_bit] using hM
theorem s_X6_thought {n fo : Nat} {fi ft kd li br : Nat → Nat} {he n_kindOf n_listOf n_breathOf n_ifOf n_thenOf : Nat → Int32} {post : Int64 → Prop} (hn : n < 7) (hfo : fo ≤ 4) (hf : ∀ f, f < fo → n_ifOf f = nI (fi f) ∧ n_thenOf f = nI (ft f) ∧ fi f < 6 ∧ ft f < 6) (hk : ∀ t, t < n → n_kindOf t = nI (kd t) ∧ kd t ≤ 2) (hh : ∀ h, h < 6 → n_listOf h = nI (li h) ∧ li h < 2 ^ n ∧ n_breathOf h = nI (br h) ∧ br h ≤ 18) (hhe : ∀ h, h < 6 → he h = (-9 : Int32) ∨ 0 ≤ (he h).toInt)
    (h : post (pd_sN (pc_tb n fo fi ft kd li br he) 64)) : w_X6_thought (nI n) n_kindOf (nI fo) n_ifOf n_thenOf n_listOf n_breathOf he post := by
  unfold w_X6_thought
  refine ⟨64 + 1, ?_⟩
  refine pl_seq (M := fun f i => w_X6_thought_L4 (nI n) n_kindOf (nI fo) n_ifOf n_thenOf n_listOf n_breathOf he post (fun xx => post xx) f (pd_sN (pc_tb n fo fi ft kd li br he) i) (nI i)) (N := 64) (fun f => ?_) (fun f i hi hM => ?_)
  · rw [w_X6_thought_L4]
    exact ⟨fun _ => h, fun q => absurd (by decide) q⟩
  · rw [w_X6_thought_L4]
    refine ⟨fun q => absurd q (pa_nle (a := 64) (by omega) (by omega)), fun _ => ?_⟩
    refine s_X6_isTh (fi := fi) (ft := ft) (kd := kd) (li := li) (br := br) hn hfo hf hk hh hhe hi ?_
    have e : pd_sN (pc_tb n fo fi ft kd li br he) (i + 1) = if pc_tb n fo fi ft kd li br he i = true then pd_bit (pd_sN (pc_tb n fo fi ft kd li br he) i) i else pd_sN (pc_tb n fo fi ft kd li br he) i := pd_range_s _ _ _
    rw [e] at hM
    rw [pa_s1, pd_lor0]
    refine ⟨fun q => ?_, fun q => ?_⟩
    · rw [pa_b0] at q; rw [q] at hM; simpa using hM
    · rw [pa_bn] at q; rw [q] at hM; simpa [pd_bit] using hM
theorem pd_tbE {n fo : Nat} {fi ft kd li br : Nat → Nat} {he : Nat → Int32} {σ : Type} (g : σ → Nat → σ) (s : σ) (x : Nat) : (if pc_ic n fo fi ft x = true then (if (List.range 6).all (pc_ph he (fun h => pt_nm n kd (pa_un (li h) x) (br h))) = true then g s x else s) else s) = if pc_tb n fo fi ft kd li br he x = true then g s x else s := by
  unfold pc_tb
  cases pc_ic n fo fi ft x <;> simp
theorem s_X5_thought {n fo : Nat} {fi ft kd li br : Nat → Nat} {he t_calls u_lists u_breaths t_caseRow : Nat → Int32} {t_caseCount : Int32} {post : Int64 → Prop} (hn : n < 7) (hT : pd_T n fo fi ft t_caseRow t_caseCount) (hc : ∀ b, b ≤ 18 → ∀ u, u < 2 ^ n → t_calls (b * 64 + u) = nI (pt_nm n kd u b)) (hh : ∀ h, h < 6 → u_lists h = nI (li h) ∧ li h < 2 ^ n ∧ u_breaths h = nI (br h) ∧ br h ≤ 18)
    (h : post (pd_sN (pc_tb n fo fi ft kd li br he) 64)) : w_X5_thought t_caseRow t_calls t_caseCount u_lists u_breaths he post := by
  unfold w_X5_thought
  obtain ⟨rfl, hrow⟩ := hT
  have hlen := pd_len n fo fi ft
  have hfin : ((pd_cl n fo fi ft).take (pd_cl n fo fi ft).length).foldl (fun s x => if (List.range 6).all (pc_ph he (fun h => pt_nm n kd (pa_un (li h) x) (br h))) = true then pd_bit s x else s) 0 = pd_sN (pc_tb n fo fi ft kd li br he) 64 := by
    rw [List.take_length, pd_both _ _ hn, pd_sN_ext (pa_p2 hn) (P := pc_tb n fo fi ft kd li br he) (fun x hx => by
      unfold pc_tb
      have : pc_ic n fo fi ft x = false := by
        cases e : pc_ic n fo fi ft x with
        | false => rfl
        | true => have := (pc_lt e).1; omega
      rw [this]; rfl)]
    unfold pd_sN
    congr 1
    funext s x
    exact pd_tbE pd_bit s x
  refine ⟨(pd_cl n fo fi ft).length + 1, ?_⟩
  refine pl_seq (M := fun f i => w_X5_thought_L4 t_caseRow t_calls (nI (pd_cl n fo fi ft).length) u_lists u_breaths he post (fun xx => post xx) f (((pd_cl n fo fi ft).take i).foldl (fun s x => if (List.range 6).all (pc_ph he (fun h => pt_nm n kd (pa_un (li h) x) (br h))) = true then pd_bit s x else s) 0) (nI i)) (N := (pd_cl n fo fi ft).length) (fun f => ?_) (fun f i hi hM => ?_)
  · rw [w_X5_thought_L4, hfin]
    exact ⟨fun _ => h, fun q => absurd (pa_le_ (Nat.le_refl _) (by omega)) q⟩
  · obtain ⟨x, hx⟩ := pd_get hi
    have hx2 := pd_mem hx
    rw [pd_fold_s _ _ hx] at hM
    rw [w_X5_thought_L4]
    refine ⟨fun q => absurd q (pa_nle hi (by omega)), fun _ => ⟨pa_vp (by omega) (by omega), ?_⟩⟩
    rw [pa_cl (by omega), hrow i x hx, pa_s1]
    refine s_X5_isTh (kd := kd) (li := li) (br := br) hn hc hh hx2.2.1 ⟨fun q => ?_, fun q => ?_⟩
    · rw [pa_b0] at q; rw [q] at hM; simpa using hM
    · rw [pa_bn] at q; rw [q] at hM; simpa [pd_bit] using hM
-- the bits of a set of cases
theorem pd_shamt : ∀ x, x < 64 → ((Int32.toInt64 (nI x) &&& 63).toBitVec.smod 64).toNat = x := by decide +kernel
theorem pd_sh1 : ∀ x, x < 64 → ((1 : Int64) <<< (Int32.toInt64 (nI x) &&& 63)).toBitVec = BitVec.twoPow 64 x := by decide +kernel
theorem pd_bitD (s : Int64) {x : Nat} (hx : x < 64) (y : Nat) (hy : y < 64) : (pd_bit s x).toBitVec.getLsbD y = (s.toBitVec.getLsbD y || decide (y = x)) := by
  show (s.toBitVec ||| ((1 : Int64) <<< (Int32.toInt64 (nI x) &&& 63)).toBitVec).getLsbD y = _
  rw [pd_sh1 x hx, BitVec.getLsbD_or, BitVec.getLsbD_twoPow]
  congr 1
  have : (x == y) = decide (y = x) := by
    by_cases e : x = y
    · subst e; simp
    · simp [e, Ne.symm e]
  simp [hx, this, eq_comm]
theorem pd_sND (P : Nat → Bool) (m : Nat) (hm : m ≤ 64) (y : Nat) (hy : y < 64) : (pd_sN P m).toBitVec.getLsbD y = (decide (y < m) && P y) := by
  induction m with
  | zero => show (0#64).getLsbD y = _; simp
  | succ m ih =>
    have e : pd_sN P (m + 1) = if P m = true then pd_bit (pd_sN P m) m else pd_sN P m := pd_range_s _ _ _
    rw [e]
    have ih := ih (by omega)
    by_cases hp : P m = true
    · rw [if_pos hp, pd_bitD _ (by omega) y hy, ih]
      by_cases e1 : y = m
      · subst e1; simp [hp]
      · have : decide (y < m + 1) = decide (y < m) := decide_eq_decide.mpr (by omega)
        simp [e1, this]
    · rw [if_neg hp, ih]
      by_cases e1 : y = m
      · subst e1; simp [hp]
      · have : decide (y < m + 1) = decide (y < m) := decide_eq_decide.mpr (by omega)
        rw [this]
