theorem pe_cmp0 (x y : Int64) : lg_cmp x y = 0 ↔ x = y := by
  unfold lg_cmp
  by_cases h1 : x > y
  · rw [if_pos h1]
    constructor
    · intro h; exact absurd h (by decide)
    · intro h; subst h; exact absurd h1 (by simp [GT.gt, pa_llt])
  · rw [if_neg h1]
    by_cases h2 : x = y
    · simp [h2]
    · rw [if_neg h2]
      constructor
      · intro h; exact absurd h (by decide)
      · intro h; exact absurd h h2
theorem pe_and1 (v : BitVec 64) : (v &&& 1#64) = 1#64 ↔ v.getLsbD 0 = true := by
  constructor
  · intro h
    have := congrArg (fun w => w.getLsbD 0) h
    simpa using this
  · intro h
    apply BitVec.eq_of_getLsbD_eq
    intro i hi
    rw [BitVec.getLsbD_and, BitVec.getLsbD_one]
    by_cases e : i = 0
    · subst e; simp [h]
    · simp [e]
theorem pe_sbit (s : Int64) {x : Nat} (hx : x < 64) : ((s >>> (Int32.toInt64 (nI x) &&& 63)) &&& (1 : Int64)) = 1 ↔ s.toBitVec.getLsbD x = true := by
  rw [← Int64.toBitVec_inj]
  show ((s >>> (Int32.toInt64 (nI x) &&& 63)).toBitVec &&& 1#64) = 1#64 ↔ _
  rw [pe_and1, Int64.toBitVec_shiftRight, BitVec.sshiftRight_eq', pd_shamt x hx, BitVec.getLsbD_sshiftRight]
  simp [hx]
theorem s_X4_isCase {n fo : Nat} {fi ft : Nat → Nat} {t_caseSet : Int64} {post : Int32 → Prop} (hn : n < 7) (hs : t_caseSet = pd_sN (pc_ic n fo fi ft) 64) (a : Int32) (h : post (pa_b (pc_ci n fo fi ft a))) : w_X4_isCase t_caseSet a post := by
  unfold w_X4_isCase
  refine ⟨fun q => ?_, fun q => ⟨fun q1 => ?_, fun q1 => ?_⟩⟩
  · rw [pa_l0] at q
    have : pc_ci n fo fi ft a = false := by unfold pc_ci; rw [decide_eq_false (by omega)]; rfl
    rw [this] at h; exact h
  · rw [pa_ge (m := 64) (k := 64) rfl] at q1
    have : pc_ci n fo fi ft a = false := by
      cases e : pc_ci n fo fi ft a with
      | false => rfl
      | true =>
        obtain ⟨x, hx, rfl, -, -⟩ := pc_ci_of hn e
        have := pa_p2 hn
        rw [pa_nI _ (by omega)] at q1
        omega
    rw [this] at h; exact h
  · rw [pa_l0] at q
    rw [pa_ge (m := 64) (k := 64) rfl] at q1
    obtain ⟨x, hx, rfl⟩ := pa_of (x := a) (n := 64) (by omega) (by omega) (by omega)
    rw [pc_ci_nI (by omega)] at h
    rw [hs, pe_cmp0, pe_sbit _ hx, pd_sND _ _ (Nat.le_refl _) _ hx, decide_eq_true hx, Bool.true_and]
    cases e : pc_ic n fo fi ft x with
    | false => rw [e] at h; simpa [pa_b] using h
    | true => rw [e] at h; simpa [pa_b] using h
-- weights
def pe_wt (n : Nat) (dg : Nat → Nat) (x : Nat) : Nat := (List.range n).foldl (fun s t => s * (if x.testBit t = true then dg t else 10 - dg t)) 1
theorem pe_wtb {n : Nat} {dg : Nat → Nat} {x : Nat} (hd : ∀ t, t < n → 1 ≤ dg t ∧ dg t ≤ 9) : ∀ i, i ≤ n → 1 ≤ (List.range i).foldl (fun s t => s * (if x.testBit t = true then dg t else 10 - dg t)) 1 ∧ (List.range i).foldl (fun s t => s * (if x.testBit t = true then dg t else 10 - dg t)) 1 ≤ 9 ^ i := by
  intro i
  induction i with
  | zero => intro _; simp
  | succ i ih =>
    intro hi
    have h1 := ih (by omega)
    have h2 := hd i (by omega)
    rw [pd_range_s]
    generalize (List.range i).foldl (fun s t => s * (if x.testBit t = true then dg t else 10 - dg t)) 1 = z at h1 ⊢
    have h3 : 1 ≤ (if x.testBit i = true then dg i else 10 - dg i) ∧ (if x.testBit i = true then dg i else 10 - dg i) ≤ 9 := by split <;> omega
    generalize (if x.testBit i = true then dg i else 10 - dg i) = w at h3 ⊢
    refine ⟨Nat.mul_pos h1.1 h3.1, ?_⟩
    rw [Nat.pow_succ]
    exact Nat.mul_le_mul h1.2 h3.2
theorem pe_wt_b {n : Nat} {dg : Nat → Nat} {x : Nat} (hn : n < 7) (hd : ∀ t, t < n → 1 ≤ dg t ∧ dg t ≤ 9) : 1 ≤ pe_wt n dg x ∧ pe_wt n dg x ≤ 531441 := by
  have h := pe_wtb (x := x) hd n (Nat.le_refl n)
  refine ⟨h.1, Nat.le_trans h.2 ?_⟩
  have : ∀ n, n < 7 → 9 ^ n ≤ 531441 := by decide
  exact this n hn
theorem s_X6_weightOf {n x : Nat} {dg : Nat → Nat} {n_digitOf : Nat → Int32} {post : Int32 → Prop} (hn : n < 7) (hd : ∀ t, t < n → n_digitOf t = nI (dg t) ∧ 1 ≤ dg t ∧ dg t ≤ 9) (hx : x < 64) (h : post (nI (pe_wt n dg x))) : w_X6_weightOf (nI n) n_digitOf (nI x) post := by
  unfold w_X6_weightOf
  refine ⟨n + 1, ?_⟩
  refine pl_seq (M := fun f i => w_X6_weightOf_L4 (nI x) (nI n) n_digitOf post (fun xx => post xx) f (nI ((List.range i).foldl (fun s t => s * (if x.testBit t = true then dg t else 10 - dg t)) 1)) (nI i)) (N := n) (fun f => ?_) (fun f i hi hM => ?_)
  · rw [w_X6_weightOf_L4]
    exact ⟨fun _ => h, fun q => absurd (pa_le_ (Nat.le_refl _) (by omega)) q⟩
  · rw [pd_range_s] at hM
    have hdi := hd i hi
    rw [w_X6_weightOf_L4]
    refine ⟨fun q => absurd q (pa_nle hi (by omega)), fun _ => ?_⟩
    rw [s_isIn hx (by omega), pa_cl (by omega), hdi.1, pa_s1, pk_mul, show (10 : Int32) = nI 10 from rfl, pk_sub (by omega), pk_mul]
    refine ⟨fun q => ⟨pa_vp (by omega) (by omega), ?_⟩, fun q => ⟨pa_vp (by omega) (by omega), ?_⟩⟩
    · rw [pa_b0] at q; rw [q] at hM; simpa using hM
    · rw [pa_bn] at q; rw [q] at hM; simpa using hM
theorem s_X4_weigh {n x : Nat} {dg : Nat → Nat} {t_digits : Nat → Int32} {post : Int32 → Prop} (hn : n < 7) (hd : ∀ t, t < n → t_digits t = nI (dg t) ∧ 1 ≤ dg t ∧ dg t ≤ 9) (hx : x < 64) (h : post (nI (pe_wt n dg x))) : w_X4_weigh t_digits (nI n) (nI x) post := by
  unfold w_X4_weigh
  refine ⟨n + 1, ?_⟩
  refine pl_seq (M := fun f i => w_X4_weigh_L4 (nI x) t_digits (nI n) post (fun xx => post xx) f (nI ((List.range i).foldl (fun s t => s * (if x.testBit t = true then dg t else 10 - dg t)) 1)) (nI i)) (N := n) (fun f => ?_) (fun f i hi hM => ?_)
  · rw [w_X4_weigh_L4]
    exact ⟨fun _ => h, fun q => absurd (pa_le_ (Nat.le_refl _) (by omega)) q⟩
  · rw [pd_range_s] at hM
    have hdi := hd i hi
    rw [w_X4_weigh_L4]
    refine ⟨fun q => absurd q (pa_nle hi (by omega)), fun _ => ⟨fun q => absurd q (pa_nle (a := 6) (by omega) (by omega)), fun _ => ?_⟩⟩
    rw [s_has hx (by omega), pa_cl (by omega), hdi.1, pa_s1, pk_mul, show (10 : Int32) = nI 10 from rfl, pk_sub (by omega), pk_mul]
    refine ⟨fun q => ⟨pa_vp (by omega) (by omega), ?_⟩, fun q => ⟨pa_vp (by omega) (by omega), ?_⟩⟩
    · rw [pa_b0] at q; rw [q] at hM; simpa using hM
    · rw [pa_bn] at q; rw [q] at hM; simpa using hM
-- words of a set
def pe_wo (n : Nat) (kd : Nat → Nat) (s : Nat) : Nat := (List.range n).foldl (fun w t => w + (if s.testBit t = true then kd t + 1 else 0)) 0
theorem pe_wob {n : Nat} {kd : Nat → Nat} {s : Nat} (hk : ∀ t, t < n → kd t ≤ 2) : ∀ i, i ≤ n → (List.range i).foldl (fun w t => w + (if s.testBit t = true then kd t + 1 else 0)) 0 ≤ 3 * i := by
  intro i
  induction i with
  | zero => intro _; simp
  | succ i ih =>
    intro hi
    have h1 := ih (by omega)
    have h2 := hk i (by omega)
    rw [pd_range_s]
    generalize (List.range i).foldl (fun w t => w + (if s.testBit t = true then kd t + 1 else 0)) 0 = z at h1 ⊢
    have h3 : (if s.testBit i = true then kd i + 1 else 0) ≤ 3 := by split <;> omega
    omega
theorem s_X6_wordsOf {n s : Nat} {kd : Nat → Nat} {n_kindOf : Nat → Int32} {post : Int32 → Prop} (hn : n < 7) (hk : ∀ t, t < n → n_kindOf t = nI (kd t) ∧ kd t ≤ 2) (hs : s < 64) (h : post (nI (pe_wo n kd s))) : w_X6_wordsOf (nI n) n_kindOf (nI s) post := by
  unfold w_X6_wordsOf
  refine ⟨n + 1, ?_⟩
  refine pl_seq (M := fun f i => w_X6_wordsOf_L4 (nI s) (nI n) n_kindOf post (fun xx => post xx) f (nI ((List.range i).foldl (fun w t => w + (if s.testBit t = true then kd t + 1 else 0)) 0)) (nI i)) (N := n) (fun f => ?_) (fun f i hi hM => ?_)
  · rw [w_X6_wordsOf_L4]
    exact ⟨fun _ => h, fun q => absurd (pa_le_ (Nat.le_refl _) (by omega)) q⟩
  · rw [pd_range_s] at hM
    have hdi := hk i hi
    rw [w_X6_wordsOf_L4]
    refine ⟨fun q => absurd q (pa_nle hi (by omega)), fun _ => ?_⟩
    rw [s_isIn hs (by omega), pa_cl (by omega), hdi.1, pa_s1, pa_s1, nI_add, show (0 : Int32) = nI 0 from rfl, nI_add]
    refine ⟨fun q => ?_, fun q => ⟨pa_vp (by omega) (by omega), ?_⟩⟩
    · rw [← pa_zero, pa_b0] at q; rw [q] at hM; simpa using hM
    · rw [← pa_zero, pa_bn] at q; rw [q] at hM; simpa using hM
theorem s_X4_wordsIn {n s : Nat} {kd : Nat → Nat} {t_kinds : Nat → Int32} {post : Int32 → Prop} (hn : n < 7) (hk : ∀ t, t < n → t_kinds t = nI (kd t) ∧ kd t ≤ 2) (hs : s < 64) (h : post (nI (pe_wo n kd s))) : w_X4_wordsIn t_kinds (nI n) (nI s) post := by
  unfold w_X4_wordsIn
  refine ⟨n + 1, ?_⟩
  refine pl_seq (M := fun f i => w_X4_wordsIn_L4 (nI s) t_kinds (nI n) post (fun xx => post xx) f (nI ((List.range i).foldl (fun w t => w + (if s.testBit t = true then kd t + 1 else 0)) 0)) (nI i)) (N := n) (fun f => ?_) (fun f i hi hM => ?_)
  · rw [w_X4_wordsIn_L4]
    exact ⟨fun _ => h, fun q => absurd (pa_le_ (Nat.le_refl _) (by omega)) q⟩
  · rw [pd_range_s] at hM
    have hdi := hk i hi
    rw [w_X4_wordsIn_L4]
    refine ⟨fun q => absurd q (pa_nle hi (by omega)), fun _ => ⟨fun q => absurd q (pa_nle (a := 6) (by omega) (by omega)), fun _ => ?_⟩⟩
    rw [s_has hs (by omega)]
    refine ⟨fun q => ?_, fun q => ⟨pa_vp (by omega) (by omega), ?_⟩⟩
    · rw [pa_b0] at q; rw [q] at hM; rw [pa_s1]; simpa using hM
    · rw [pa_bn] at q; rw [q] at hM; rw [s_words, pa_cl (by omega), hdi.1, pa_s1, pa_s1, nI_add]; simpa using hM
-- what is named is of things
theorem pt_nmb {kd : Nat → Nat} {u b p n : Nat} (s : Nat × Nat) (hs : s.2 < 2 ^ n) : ∀ i, i ≤ n → ((List.range i).foldl (pt_in kd u b p) s).2 < 2 ^ n := by
  intro i
  induction i with
  | zero => intro _; simpa using hs
  | succ i ih =>
    intro hi
    have h1 := ih (by omega)
    rw [pt_step]
    generalize (List.range i).foldl (pt_in kd u b p) s = z at h1 ⊢
    have h2 : 2 ^ i < 2 ^ n := Nat.pow_lt_pow_right (by omega) (by omega)
    unfold pt_in pt_st
    split
    · split
      · simp only
        split
        · exact Nat.or_lt_two_pow h1 h2
        · exact h1
      · exact h1
    · exact h1
theorem pt_nm_lt (n : Nat) (kd : Nat → Nat) (u b : Nat) : pt_nm n kd u b < 2 ^ n := by
  unfold pt_nm
  rw [pt_eq]
  exact pt_nmb _ (pt_nmb _ (pa_p1 n) n (Nat.le_refl n)) n (Nat.le_refl n)
-- shares
theorem pe_gstep {a b : Nat} (ha : a < 2 ^ 62) (h0 : 0 < b) (hb : b < 2 ^ 62) : lN a - lN a / lN b * lN b = lN (a % b) := pk_lRem (by omega) h0 (by omega)
theorem pe_l0 {b : Nat} (hb : b < 2 ^ 62) : (lg_cmp (lN b) (0 : Int64)) = 0 ↔ b = 0 := by
  rw [pe_cmp0, show (0 : Int64) = lN 0 from rfl, pk_lEQ (by omega) (by omega)]
theorem pe_n0 {b : Nat} (hb : b < 2 ^ 62) (h : 0 < b) : ¬ lN b = 0 := by
  rw [show (0 : Int64) = lN 0 from rfl, pk_lEQ (by omega) (by omega)]; omega
theorem s_toldL {x y : Int64} {w : Int32} {post kk : Int64 → Prop} : ∀ b a : Nat, a < 2 ^ 62 → b < 2 ^ 62 → kk (lN (Nat.gcd a b)) → ∃ e, w_X6_told_L6 x y w post kk e (lN a) (lN b) := by
  intro b
  induction b using Nat.strongRecOn with
  | ind b ih =>
    intro a ha hb h
    by_cases e : b = 0
    · subst e
      refine ⟨1, ?_⟩
      rw [w_X6_told_L6]
      rw [Nat.gcd_zero_right] at h
      exact ⟨fun _ => h, fun q => absurd ((pe_l0 hb).mpr rfl) q⟩
    · have hr : a % b < b := Nat.mod_lt _ (by omega)
      have hg : Nat.gcd b (a % b) = Nat.gcd a b := by rw [Nat.gcd_comm b, ← Nat.gcd_rec, Nat.gcd_comm]
      obtain ⟨f, hf⟩ := ih (a % b) hr b hb (by omega) (by rw [hg]; exact h)
      refine ⟨f + 1, ?_⟩
      rw [w_X6_told_L6]
      refine ⟨fun q => absurd ((pe_l0 hb).mp q) e, fun _ => ⟨pe_n0 hb (by omega), ?_⟩⟩
      rw [pe_gstep ha (by omega) hb]
      exact hf
theorem s_told {U L : Nat} {w : Int32} {post : Int64 → Prop} (hU : U < 2 ^ 62) (hL : L < 2 ^ 62) (h0 : 0 < L) (h : post (if w = 0 then lN U / lN (Nat.gcd U L) else lN L / lN (Nat.gcd U L))) : w_X6_told (lN U) (lN L) w post := by
  unfold w_X6_told
  have hg : Nat.gcd U L ≤ L := Nat.gcd_le_right U h0
  have hg0 : 0 < Nat.gcd U L := Nat.gcd_pos_of_pos_right U h0
  refine s_toldL L U hU hL ⟨fun q => ⟨pe_n0 (by omega) hg0, ?_⟩, fun q => ⟨pe_n0 (by omega) hg0, ?_⟩⟩
  · rw [if_neg q] at h; exact h
  · rw [if_pos q] at h; exact h
theorem s_divisorL {post kk : Int64 → Prop} : ∀ k a b s : Nat, a < 2 ^ 62 → b < 2 ^ 62 → b < 2 ^ k → s + 2 * k ≤ 126 → kk (lN (Nat.gcd a b)) → ∃ e, w_X5_commonDivisor_L9 post kk e (lN a) (lN b) (nI s) := by
  intro k
  induction k with
  | zero =>
    intro a b s ha hb hk hs h
    have e : b = 0 := by simpa using hk
    subst e
    refine ⟨1, ?_⟩
    rw [w_X5_commonDivisor_L9]
    rw [Nat.gcd_zero_right] at h
    exact ⟨fun _ => h, fun _ => ⟨fun _ => h, fun q => absurd ((pe_l0 hb).mpr rfl) q⟩⟩
  | succ k ih =>
    intro a b s ha hb hk hs h
    by_cases e : b = 0
    · subst e
      refine ⟨1, ?_⟩
      rw [w_X5_commonDivisor_L9]
      rw [Nat.gcd_zero_right] at h
      exact ⟨fun _ => h, fun _ => ⟨fun _ => h, fun q => absurd ((pe_l0 hb).mpr rfl) q⟩⟩
    · have hr : a % b < b := Nat.mod_lt _ (by omega)
      have hg : Nat.gcd b (a % b) = Nat.gcd a b := by rw [Nat.gcd_comm b, ← Nat.gcd_rec, Nat.gcd_comm]
      by_cases e2 : a % b = 0
      · refine ⟨2, ?_⟩
        rw [w_X5_commonDivisor_L9]
        refine ⟨fun q => absurd q (pa_nle (a := 128) (by omega) (by omega)), fun _ => ⟨fun q => absurd ((pe_l0 hb).mp q) e, fun _ => ⟨pe_n0 hb (by omega), ?_⟩⟩⟩
        rw [pe_gstep ha (by omega) hb, e2, w_X5_commonDivisor_L9]
        rw [← hg, e2, Nat.gcd_zero_right] at h
        exact ⟨fun _ => h, fun _ => ⟨fun _ => h, fun q => absurd ((pe_l0 (by decide)).mpr rfl) q⟩⟩
      · have hr2 : b % (a % b) < a % b := Nat.mod_lt _ (by omega)
        have hr3 : b % (a % b) + (a % b) ≤ b := by
          have h1 := Nat.div_add_mod b (a % b)
          have h2 : 1 ≤ b / (a % b) := (Nat.one_le_div_iff (by omega)).mpr (by omega)
          have h3 : (a % b) * 1 ≤ (a % b) * (b / (a % b)) := Nat.mul_le_mul_left _ h2
          omega
        have hg2 : Nat.gcd (a % b) (b % (a % b)) = Nat.gcd a b := by rw [Nat.gcd_comm (a % b), ← Nat.gcd_rec, Nat.gcd_comm, hg]
        obtain ⟨f, hf⟩ := ih (a % b) (b % (a % b)) (s + 2) (by omega) (by omega) (by rw [Nat.pow_succ] at hk; omega) (by omega) (by rw [hg2]; exact h)
        refine ⟨f + 2, ?_⟩
        rw [w_X5_commonDivisor_L9]
        refine ⟨fun q => absurd q (pa_nle (a := 128) (by omega) (by omega)), fun _ => ⟨fun q => absurd ((pe_l0 hb).mp q) e, fun _ => ⟨pe_n0 hb (by omega), ?_⟩⟩⟩
        rw [pe_gstep ha (by omega) hb, pa_s1, w_X5_commonDivisor_L9]
        refine ⟨fun q => absurd q (pa_nle (a := 128) (by omega) (by omega)), fun _ => ⟨fun q => absurd ((pe_l0 (by omega)).mp q) e2, fun _ => ⟨pe_n0 (by omega) (by omega), ?_⟩⟩⟩
        rw [pe_gstep hb (by omega) (by omega), pa_s1]
        exact hf
theorem s_half {U L : Nat} {w : Int32} {post : Int64 → Prop} (hU : U < 2 ^ 62) (hL : L < 2 ^ 62) (h : post (if L = 0 then Int32.toInt64 w else if w = 0 then lN U / lN (Nat.gcd U L) else lN L / lN (Nat.gcd U L))) : w_X5_halfOfShare (lN U) (lN L) w post := by
  unfold w_X5_halfOfShare w_X5_commonDivisor
  refine s_divisorL 62 U L 0 hU hL hL (by omega) ?_
  have e1 : (lg_cmp (lN L) (0 : Int64)) ≤ 0 ↔ L = 0 := by
    rw [lg_cmp_le, show (0 : Int64) = lN 0 from rfl, pk_lLE (by omega) (by omega)]; omega
  refine ⟨fun q => ?_, fun q => ?_⟩
  · rw [e1] at q; rw [if_pos q] at h; exact h
  · rw [e1] at q; rw [if_neg q] at h
    have hg : Nat.gcd U L ≤ L := Nat.gcd_le_right U (by omega)
    have hg0 : 0 < Nat.gcd U L := Nat.gcd_pos_of_pos_right U (by omega)
    have e2 : 0 < (lg_cmp (lN (Nat.gcd U L)) (0 : Int64)) ↔ True := by
      rw [lg_cmp_gt, show (0 : Int64) = lN 0 from rfl, pk_lLT (by omega) (by omega)]; simp [hg0]
    refine ⟨fun _ => ⟨fun q1 => ⟨pe_n0 (by omega) hg0, ?_⟩, fun q1 => ⟨pe_n0 (by omega) hg0, ?_⟩⟩, fun q1 => absurd (e2.mpr trivial) q1⟩
    · rw [if_neg q1] at h; exact h
    · rw [if_pos q1] at h; exact h
