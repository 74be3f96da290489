-- ===== cases =====
def pc_fo (fo : Nat) (fi ft : Nat → Nat) (x : Nat) : Nat → Bool := fun f => !x.testBit (fi f) || x.testBit (ft f)
def pc_ic (n fo : Nat) (fi ft : Nat → Nat) (x : Nat) : Bool := decide (0 < n ∧ x < 2 ^ n) && (List.range fo).all (pc_fo fo fi ft x)
def pc_ci (n fo : Nat) (fi ft : Nat → Nat) (a : Int32) : Bool := decide (0 ≤ a.toInt) && pc_ic n fo fi ft a.toInt.toNat
theorem pc_ci_nI {n fo : Nat} {fi ft : Nat → Nat} {x : Nat} (h : x < 2147483648) : pc_ci n fo fi ft (nI x) = pc_ic n fo fi ft x := by
  unfold pc_ci
  rw [pa_nI _ h]
  simp
theorem pc_ci_of {n fo : Nat} {fi ft : Nat → Nat} {a : Int32} (hn : n < 7) (h : pc_ci n fo fi ft a = true) : ∃ x : Nat, x < 2 ^ n ∧ a = nI x ∧ pc_ic n fo fi ft x = true ∧ 0 < n := by
  unfold pc_ci at h
  rw [Bool.and_eq_true, decide_eq_true_iff] at h
  have h2 := h.2
  unfold pc_ic at h2
  rw [Bool.and_eq_true, decide_eq_true_iff] at h2
  have := pa_p2 hn
  obtain ⟨k, hk, rfl⟩ := pa_of (n := 2 ^ n) h.1 (by omega) (by omega)
  refine ⟨k, hk, rfl, ?_, h2.1.1⟩
  rw [pa_nI _ (by omega)] at h
  simpa using h.2
theorem pc_lt {n fo : Nat} {fi ft : Nat → Nat} {x : Nat} (h : pc_ic n fo fi ft x = true) : x < 2 ^ n ∧ 0 < n := by
  unfold pc_ic at h
  rw [Bool.and_eq_true, decide_eq_true_iff] at h
  exact ⟨h.1.2, h.1.1⟩
theorem pc_all_s (P : Nat → Bool) (i : Nat) : (List.range (i + 1)).all P = ((List.range i).all P && P i) := by
  rw [List.range_succ, List.all_append]; simp
theorem pc_all_f {P : Nat → Bool} {i N : Nat} (hi : i ≤ N) (h : (List.range i).all P = false) : (List.range N).all P = false := by
  rw [List.all_eq_false] at h ⊢
  obtain ⟨x, hx, hp⟩ := h
  exact ⟨x, List.mem_range.mpr (Nat.lt_of_lt_of_le (List.mem_range.mp hx) hi), hp⟩
theorem s_isCaseL {x fo : Nat} {fi ft : Nat → Nat} {n_things : Int32} {n_ifOf n_thenOf : Nat → Int32} {post kk : Int32 → Prop} (hx : x < 64) (hfo : fo ≤ 4) (hf : ∀ f, f < fo → n_ifOf f = nI (fi f) ∧ n_thenOf f = nI (ft f) ∧ fi f < 6 ∧ ft f < 6) (h : kk (pa_b ((List.range fo).all (pc_fo fo fi ft x)))) :
    ∀ k i, i + k = fo → w_X6_isCase_L23 (nI x) n_things (nI fo) n_ifOf n_thenOf post kk (k + 1) (pa_b ((List.range i).all (pc_fo fo fi ft x))) (nI i) := by
  intro k
  induction k with
  | zero =>
    intro i hi
    have e : i = fo := by omega
    subst e
    rw [w_X6_isCase_L23]
    exact ⟨fun _ => h, fun q => absurd (pa_le_ (Nat.le_refl _) (by omega)) q⟩
  | succ k ih =>
    intro i hi
    have h2 := ih (i + 1) (by omega)
    rw [pc_all_s] at h2
    have hfi := hf i (by omega)
    rw [w_X6_isCase_L23]
    refine ⟨fun q => absurd q (pa_nle (by omega) (by omega)), fun _ => ⟨fun q => ?_, fun q => ?_⟩⟩
    · rw [pa_b0] at q
      rw [pc_all_f (by omega) q] at h
      rw [q]; exact h
    · rw [pa_bn] at q
      rw [q, Bool.true_and] at h2
      rw [pa_cl (by omega), hfi.1, hfi.2.1, s_isIn hx hfi.2.2.1]
      refine ⟨pa_vp (by omega) (by omega), fun q1 => ?_, fun q1 => ⟨pa_vp (by omega) (by omega), ?_⟩⟩
      · rw [pa_b0] at q1
        have e : pc_fo fo fi ft x i = true := by unfold pc_fo; rw [q1]; rfl
        rw [e] at h2; rw [pa_s1]; exact h2
      · rw [pa_bn] at q1
        rw [s_isIn hx hfi.2.2.2]
        refine ⟨fun q2 => ?_, fun q2 => ?_⟩
        · rw [pa_b0] at q2
          have e : pc_fo fo fi ft x i = false := by unfold pc_fo; rw [q1, q2]; rfl
          rw [e] at h2; rw [pa_s1]; exact h2
        · rw [pa_bn] at q2
          have e : pc_fo fo fi ft x i = true := by unfold pc_fo; rw [q1, q2]; rfl
          rw [e] at h2; rw [pa_s1]; exact h2
theorem s_isCaseF {a n_things n_follows : Int32} {n_ifOf n_thenOf : Nat → Int32} {post kk : Int32 → Prop} (h : kk 0) : w_X6_isCase_L23 a n_things n_follows n_ifOf n_thenOf post kk 1 (0 : Int32) (0 : Int32) := by
  rw [w_X6_isCase_L23]
  exact ⟨fun _ => h, fun _ => ⟨fun _ => h, fun q => absurd rfl q⟩⟩
theorem s_isCase {n fo : Nat} {fi ft : Nat → Nat} {n_ifOf n_thenOf : Nat → Int32} {post : Int32 → Prop} (hn : n < 7) (hfo : fo ≤ 4) (hf : ∀ f, f < fo → n_ifOf f = nI (fi f) ∧ n_thenOf f = nI (ft f) ∧ fi f < 6 ∧ ft f < 6) (a : Int32) (h : post (pa_b (pc_ci n fo fi ft a))) : w_X6_isCase (nI n) (nI fo) n_ifOf n_thenOf a post := by
  unfold w_X6_isCase
  have hf0 : pc_ci n fo fi ft a = false → xq_z 0 ∧ post 0 := fun q => by rw [q] at h; exact ⟨pa_z false, h⟩
  refine ⟨fun q => ⟨1, s_isCaseF (hf0 ?_)⟩, fun q => ?_⟩
  · rw [pa_le0, pa_nI _ (by omega)] at q
    have e : n = 0 := by omega
    subst e
    simp [pc_ci, pc_ic]
  · rw [s_isOfThings hn]
    refine ⟨fun q1 => ⟨1, s_isCaseF (hf0 ?_)⟩, fun q1 => ?_⟩
    · rw [pa_b0, decide_eq_false_iff_not] at q1
      unfold pc_ci pc_ic
      by_cases z : 0 ≤ a.toInt
      · have : decide (0 < n ∧ a.toInt.toNat < 2 ^ n) = false := decide_eq_false (by omega)
        rw [this, Bool.false_and, Bool.and_false]
      · simp [z]
    · rw [pa_bn, decide_eq_true_iff] at q1
      have h64 := pa_p2 hn
      obtain ⟨x, hx, rfl⟩ := pa_of q1.1 q1.2 (by omega)
      rw [pc_ci_nI (by omega)] at h
      have hn0 : 0 < n := by
        rw [pa_le0, pa_nI _ (by omega)] at q; omega
      have e : pc_ic n fo fi ft x = (List.range fo).all (pc_fo fo fi ft x) := by
        unfold pc_ic
        rw [decide_eq_true (⟨hn0, hx⟩ : 0 < n ∧ x < 2 ^ n), Bool.true_and]
      rw [e] at h
      exact ⟨fo + 1, s_isCaseL (by omega) hfo hf ⟨pa_z _, h⟩ fo 0 (by omega)⟩
-- thought
def pc_ph (he : Nat → Int32) (ca : Nat → Nat) (h : Nat) : Bool := decide (he h = (-9 : Int32)) || decide (he h = nI (ca h))
theorem s_X5_isThL {n x : Nat} {kd li br : Nat → Nat} {he t_calls u_lists u_breaths : Nat → Int32} {post : Int32 → Prop} (hn : n < 7) (hc : ∀ b, b ≤ 18 → ∀ u, u < 2 ^ n → t_calls (b * 64 + u) = nI (pt_nm n kd u b)) (hh : ∀ h, h < 6 → u_lists h = nI (li h) ∧ li h < 2 ^ n ∧ u_breaths h = nI (br h) ∧ br h ≤ 18) (hx : x < 64)
    (h : post (pa_b ((List.range 6).all (pc_ph he (fun h => pt_nm n kd (pa_un (li h) x) (br h)))))) :
    ∀ k i, i + k = 6 → (List.range i).all (pc_ph he (fun h => pt_nm n kd (pa_un (li h) x) (br h))) = true → w_X5_isThought_L2 (nI x) t_calls u_lists u_breaths he post (post 1) (k + 1) (nI i) := by
  intro k
  induction k with
  | zero =>
    intro i hi ha
    have e : i = 6 := by omega
    subst e
    rw [w_X5_isThought_L2]
    rw [ha] at h
    exact ⟨fun _ => h, fun q => absurd (by decide) q⟩
  | succ k ih =>
    intro i hi ha
    have hi6 : i < 6 := by omega
    have h2 := ih (i + 1) (by omega)
    rw [pc_all_s, ha, Bool.true_and] at h2
    rw [w_X5_isThought_L2]
    refine ⟨fun q => absurd q (pa_nle (a := 6) (by omega) (by omega)), fun _ => ⟨pa_vp hi6 (by omega), fun q => ?_, fun q => ⟨pa_vp hi6 (by omega), ?_⟩⟩⟩
    · rw [pa_cl (by omega)] at q
      rw [pa_s1]
      exact h2 (by unfold pc_ph; rw [q]; simp)
    · rw [pa_cl (by omega)] at q ⊢
      have hhi := hh i hi6
      refine s_callOfHour (l := li i) (b := br i) hn hc hi6 hhi.1 hhi.2.1 hhi.2.2.1 hhi.2.2.2 hx ⟨fun q1 => ?_, fun q1 => ?_⟩
      · rw [pa_s1]
        exact h2 (by unfold pc_ph; rw [q1]; simp)
      · have e : pc_ph he (fun h => pt_nm n kd (pa_un (li h) x) (br h)) i = false := by
          unfold pc_ph; simp [q, q1]
        have e2 : (List.range (i + 1)).all (pc_ph he (fun h => pt_nm n kd (pa_un (li h) x) (br h))) = false := by
          rw [pc_all_s, e, Bool.and_false]
        rw [pc_all_f (by omega) e2] at h
        exact h
theorem s_X5_isTh {n x : Nat} {kd li br : Nat → Nat} {he t_calls u_lists u_breaths : Nat → Int32} {post : Int32 → Prop} (hn : n < 7) (hc : ∀ b, b ≤ 18 → ∀ u, u < 2 ^ n → t_calls (b * 64 + u) = nI (pt_nm n kd u b)) (hh : ∀ h, h < 6 → u_lists h = nI (li h) ∧ li h < 2 ^ n ∧ u_breaths h = nI (br h) ∧ br h ≤ 18) (hx : x < 64)
    (h : post (pa_b ((List.range 6).all (pc_ph he (fun h => pt_nm n kd (pa_un (li h) x) (br h)))))) : w_X5_isThought t_calls u_lists u_breaths he (nI x) post := by
  unfold w_X5_isThought
  exact ⟨7, s_X5_isThL hn hc hh hx h 6 0 (by omega) rfl⟩
theorem s_X6_isThL {n x fo : Nat} {kd li br : Nat → Nat} {he n_kindOf n_listOf n_breathOf n_ifOf n_thenOf : Nat → Int32} {n_follows : Int32} {post kk : Int32 → Prop} (hn : n < 7) (hk : ∀ t, t < n → n_kindOf t = nI (kd t) ∧ kd t ≤ 2) (hh : ∀ h, h < 6 → n_listOf h = nI (li h) ∧ li h < 2 ^ n ∧ n_breathOf h = nI (br h) ∧ br h ≤ 18) (hhe : ∀ h, h < 6 → he h = (-9 : Int32) ∨ 0 ≤ (he h).toInt) (hx : x < 64) (b0 : Bool)
    (h : kk (pa_b (b0 && (List.range 6).all (pc_ph he (fun h => pt_nm n kd (pa_un (li h) x) (br h)))))) :
    ∀ k i, i + k = 6 → w_X6_isThought_L8 (nI x) (nI n) n_kindOf n_follows n_ifOf n_thenOf n_listOf n_breathOf he post kk (k + 1) (pa_b (b0 && (List.range i).all (pc_ph he (fun h => pt_nm n kd (pa_un (li h) x) (br h))))) (nI i) := by
  intro k
  have h64 := pa_p2 hn
  induction k with
  | zero =>
    intro i hi
    have e : i = 6 := by omega
    subst e
    rw [w_X6_isThought_L8]
    exact ⟨fun _ => h, fun q => absurd (by decide) q⟩
  | succ k ih =>
    intro i hi
    have hi6 : i < 6 := by omega
    have h2 := ih (i + 1) (by omega)
    rw [pc_all_s, ← Bool.and_assoc] at h2
    rw [w_X6_isThought_L8]
    refine ⟨fun q => absurd q (pa_nle (a := 6) (by omega) (by omega)), fun _ => ⟨fun q => ?_, fun q => ⟨pa_vp hi6 (by omega), fun q1 => ?_, fun q1 => ?_⟩⟩⟩
    · rw [pa_b0] at q
      have : (b0 && (List.range 6).all (pc_ph he (fun h => pt_nm n kd (pa_un (li h) x) (br h)))) = false := by
        cases b0 with
        | false => rfl
        | true => rw [Bool.true_and] at q ⊢; exact pc_all_f (by omega) q
      rw [this] at h
      rw [q]; exact h
    · rw [pa_bn] at q
      rw [pa_cl (by omega)] at q1
      rw [q, Bool.true_and] at h2
      rw [pa_l0] at q1
      have e : pc_ph he (fun h => pt_nm n kd (pa_un (li h) x) (br h)) i = true := by
        unfold pc_ph
        rcases hhe i hi6 with z | z
        · rw [z]; simp
        · omega
      rw [e] at h2
      rw [pa_s1]; exact h2
    · rw [pa_bn] at q
      rw [pa_cl (by omega)] at q1 ⊢
      rw [q, Bool.true_and] at h2
      have hhi := hh i hi6
      refine s_calledIn (l := li i) (b := br i) hn hk hi6 hhi.1 (by omega) hhi.2.2.1 hhi.2.2.2 hx ⟨pa_vp hi6 (by omega), fun q2 => ?_, fun q2 => ?_⟩
      · have e : pc_ph he (fun h => pt_nm n kd (pa_un (li h) x) (br h)) i = false := by
          unfold pc_ph
          have z : ¬ he i = (-9 : Int32) := fun z => by rw [z] at q1; exact q1 (by decide)
          simp [z, Ne.symm q2]
        rw [e] at h2
        rw [pa_s1]; exact h2
      · have e : pc_ph he (fun h => pt_nm n kd (pa_un (li h) x) (br h)) i = true := by
          unfold pc_ph
          rw [← q2]; simp
        rw [e] at h2
        rw [pa_s1]; exact h2
/-- a case that is thought -/
def pc_tb (n fo : Nat) (fi ft kd li br : Nat → Nat) (he : Nat → Int32) (x : Nat) : Bool := pc_ic n fo fi ft x && (List.range 6).all (pc_ph he (fun h => pt_nm n kd (pa_un (li h) x) (br h)))
theorem s_X6_isTh {n x fo : Nat} {fi ft kd li br : Nat → Nat} {he n_kindOf n_listOf n_breathOf n_ifOf n_thenOf : Nat → Int32} {post : Int32 → Prop} (hn : n < 7) (hfo : fo ≤ 4) (hf : ∀ f, f < fo → n_ifOf f = nI (fi f) ∧ n_thenOf f = nI (ft f) ∧ fi f < 6 ∧ ft f < 6) (hk : ∀ t, t < n → n_kindOf t = nI (kd t) ∧ kd t ≤ 2) (hh : ∀ h, h < 6 → n_listOf h = nI (li h) ∧ li h < 2 ^ n ∧ n_breathOf h = nI (br h) ∧ br h ≤ 18) (hhe : ∀ h, h < 6 → he h = (-9 : Int32) ∨ 0 ≤ (he h).toInt) (hx : x < 64)
    (h : post (pa_b (pc_tb n fo fi ft kd li br he x))) : w_X6_isThought (nI n) n_kindOf (nI fo) n_ifOf n_thenOf n_listOf n_breathOf he (nI x) post := by
  unfold w_X6_isThought
  refine s_isCase hn hfo hf (nI x) ?_
  rw [pc_ci_nI (by omega)]
  have := s_X6_isThL (fo := fo) (n_ifOf := n_ifOf) (n_thenOf := n_thenOf) (n_follows := nI fo) (post := post) (kk := fun xx => xq_z xx ∧ post xx) hn hk hh hhe hx (pc_ic n fo fi ft x) ⟨pa_z _, h⟩ 6 0 (by omega)
  simp only [List.range_zero, List.all_nil, Bool.and_true] at this
  exact ⟨7, this⟩
