-- ===== parts: by hours; the reference's side =====
def pi_ca (n : Nat) (kd li br : Nat → Nat) (h x : Nat) : Nat := pt_nm n kd (pa_un (li h) x) (br h)
def pi_al (n : Nat) (kd li br : Nat → Nat) (N y x : Nat) : Bool := (List.range N).all (fun h => pi_ca n kd li br h x == pi_ca n kd li br h y)
def pi_key (n : Nat) (kd li br : Nat → Nat) (N x : Nat) : Nat := (List.range N).foldl (fun k h => k * 64 + pi_ca n kd li br h x) 0
theorem pi_calt {n : Nat} (hn : n < 7) (kd li br : Nat → Nat) (h x : Nat) : pi_ca n kd li br h x < 64 := by
  have h1 := pt_nm_lt n kd (pa_un (li h) x) (br h)
  have h2 := pa_p2 hn
  unfold pi_ca; omega
theorem pi_keyb {n : Nat} (hn : n < 7) (kd li br : Nat → Nat) (x : Nat) : ∀ N, pi_key n kd li br N x < 64 ^ N := by
  intro N
  induction N with
  | zero => simp [pi_key]
  | succ N ih =>
    have e : pi_key n kd li br (N + 1) x = pi_key n kd li br N x * 64 + pi_ca n kd li br N x := pd_range_s _ _ _
    have h1 := pi_calt hn kd li br N x
    rw [e, Nat.pow_succ]
    omega
theorem pi_keye {n : Nat} (hn : n < 7) (kd li br : Nat → Nat) (x y : Nat) : ∀ N, (pi_key n kd li br N y == pi_key n kd li br N x) = pi_al n kd li br N y x := by
  intro N
  induction N with
  | zero => simp [pi_key, pi_al]
  | succ N ih =>
    have e : ∀ x, pi_key n kd li br (N + 1) x = pi_key n kd li br N x * 64 + pi_ca n kd li br N x := fun x => pd_range_s _ _ _
    have h1 := pi_calt hn kd li br N x
    have h2 := pi_calt hn kd li br N y
    have e2 : pi_al n kd li br (N + 1) y x = (pi_al n kd li br N y x && (pi_ca n kd li br N x == pi_ca n kd li br N y)) := pc_all_s _ _
    rw [e2, ← ih, e, e]
    rw [Bool.eq_iff_iff, Bool.and_eq_true, beq_iff_eq, beq_iff_eq, beq_iff_eq]
    omega
theorem pi_cte {n fo : Nat} {fi ft : Nat → Nat} {al al' : Nat → Nat → Bool} (h : ∀ y x, al y x = al' y x) : ph_ct n fo fi ft al = ph_ct n fo fi ft al' := by
  have : al = al' := by funext y x; exact h y x
  rw [this]
theorem pi_ctb {n fo : Nat} {fi ft : Nat → Nat} {al : Nat → Nat → Bool} : ∀ i, (List.range i).foldl (fun s x => if pc_ic n fo fi ft x = true then ph_cf al (pc_ic n fo fi ft) s x else s) 0 ≤ i := by
  intro i
  induction i with
  | zero => simp
  | succ i ih =>
    rw [pd_range_s]
    generalize (List.range i).foldl (fun s x => if pc_ic n fo fi ft x = true then ph_cf al (pc_ic n fo fi ft) s x else s) 0 = z at ih ⊢
    have h2 : ph_cf al (pc_ic n fo fi ft) z i ≤ z + 1 := by unfold ph_cf; split <;> omega
    split <;> omega
theorem pi_any_s (P : Nat → Bool) (i : Nat) : (List.range (i + 1)).any P = ((List.range i).any P || P i) := by
  rw [List.range_succ, List.any_append]; simp
theorem pi_any_t {P : Nat → Bool} {i N : Nat} (hi : i ≤ N) (h : (List.range i).any P = true) : (List.range N).any P = true := by
  rw [List.any_eq_true] at h ⊢
  obtain ⟨x, hx, hp⟩ := h
  exact ⟨x, List.mem_range.mpr (Nat.lt_of_lt_of_le (List.mem_range.mp hx) hi), hp⟩
theorem s_areAlike {n N x y : Nat} {kd li br : Nat → Nat} {n_kindOf n_listOf n_breathOf : Nat → Int32} {post : Int32 → Prop} (hn : n < 7) (hk : ∀ t, t < n → n_kindOf t = nI (kd t) ∧ kd t ≤ 2) (hh : ∀ h, h < 6 → n_listOf h = nI (li h) ∧ li h < 2 ^ n ∧ n_breathOf h = nI (br h) ∧ br h ≤ 18) (hN : N ≤ 6) (hx : x < 64) (hy : y < 64) (h : post (pa_b (pi_al n kd li br N y x))) : w_X6_areAlike (nI n) n_kindOf n_listOf n_breathOf (nI x) (nI y) (nI N) post := by
  unfold w_X6_areAlike
  have h64 := pa_p2 hn
  refine ⟨N + 1, ?_⟩
  refine pl_seq (M := fun f i => w_X6_areAlike_L6 (nI x) (nI y) (nI N) (nI n) n_kindOf n_listOf n_breathOf post _ f (pa_b (pi_al n kd li br i y x)) (nI i)) (N := N) (fun f => ?_) (fun f i hi hM => ?_)
  · rw [w_X6_areAlike_L6]
    exact ⟨fun _ => ⟨pa_z _, h⟩, fun q => absurd (pa_le_ (Nat.le_refl _) (by omega)) q⟩
  · have e2 : pi_al n kd li br (i + 1) y x = (pi_al n kd li br i y x && (pi_ca n kd li br i x == pi_ca n kd li br i y)) := pc_all_s _ _
    rw [e2] at hM
    rw [w_X6_areAlike_L6]
    refine ⟨fun q => absurd q (pa_nle hi (by omega)), fun _ => ⟨fun q => ?_, fun q => ?_⟩⟩
    · rw [pa_b0] at q
      have : pi_al n kd li br N y x = false := pc_all_f (i := i) (by omega) q
      rw [this] at h
      rw [q]; exact ⟨pa_z _, h⟩
    · rw [pa_bn] at q
      rw [q, Bool.true_and] at hM
      have hhi := hh i (by omega)
      refine s_calledIn (kd := kd) (l := li i) (b := br i) hn hk (by omega) hhi.1 (by omega) hhi.2.2.1 hhi.2.2.2 hx ?_
      refine s_calledIn (kd := kd) (l := li i) (b := br i) hn hk (by omega) hhi.1 (by omega) hhi.2.2.1 hhi.2.2.2 hy ?_
      have c1 := pi_calt hn kd li br i x
      have c2 := pi_calt hn kd li br i y
      have e3 : (nI (pt_nm n kd (pa_un (li i) x) (br i)) = nI (pt_nm n kd (pa_un (li i) y) (br i))) ↔ pi_ca n kd li br i x = pi_ca n kd li br i y := pa_nIinj (by unfold pi_ca at c1; omega) (by unfold pi_ca at c2; omega)
      rw [e3, pa_s1]
      refine ⟨fun q1 => ?_, fun q1 => ?_⟩
      · have : (pi_ca n kd li br i x == pi_ca n kd li br i y) = false := by rw [beq_eq_false_iff_ne]; exact q1
        rw [this] at hM; exact hM
      · have : (pi_ca n kd li br i x == pi_ca n kd li br i y) = true := by rw [beq_iff_eq]; exact q1
        rw [this] at hM; exact hM
/-- the inner search of the reference: is x the first of its part -/
def pi_fi (al : Nat → Nat → Bool) (ic : Nat → Bool) (x i : Nat) : Bool := ic x && !((List.range i).any (fun y => ic y && al y x))
theorem pi_fis (al : Nat → Nat → Bool) (ic : Nat → Bool) (x i : Nat) : pi_fi al ic x (i + 1) = (pi_fi al ic x i && !(ic i && al i x)) := by
  unfold pi_fi
  rw [pi_any_s, Bool.not_or, Bool.and_assoc]
theorem pi_fif {al : Nat → Nat → Bool} {ic : Nat → Bool} {x i N : Nat} (hi : i ≤ N) (h : pi_fi al ic x i = false) : pi_fi al ic x N = false := by
  unfold pi_fi at h ⊢
  cases hx : ic x with
  | false => rfl
  | true =>
    rw [hx, Bool.true_and, Bool.not_eq_false'] at h
    rw [pi_any_t hi h]; rfl
theorem pi_step {n fo : Nat} {fi ft : Nat → Nat} {al : Nat → Nat → Bool} (x s : Nat) : (if pc_ic n fo fi ft x = true then ph_cf al (pc_ic n fo fi ft) s x else s) = s + (if pi_fi al (pc_ic n fo fi ft) x x = true then 1 else 0) := by
  unfold ph_cf ph_new pi_fi
  cases pc_ic n fo fi ft x <;> simp
theorem s_partsBy {n fo N : Nat} {fi ft kd li br : Nat → Nat} {n_kindOf n_listOf n_breathOf n_ifOf n_thenOf : Nat → Int32} {post : Int32 → Prop} (hn : n < 7) (hfo : fo ≤ 4) (hf : ∀ f, f < fo → n_ifOf f = nI (fi f) ∧ n_thenOf f = nI (ft f) ∧ fi f < 6 ∧ ft f < 6) (hk : ∀ t, t < n → n_kindOf t = nI (kd t) ∧ kd t ≤ 2) (hh : ∀ h, h < 6 → n_listOf h = nI (li h) ∧ li h < 2 ^ n ∧ n_breathOf h = nI (br h) ∧ br h ≤ 18) (hN : N ≤ 6)
    (h : post (nI (ph_ct n fo fi ft (pi_al n kd li br N)))) : w_X6_partsBy (nI n) n_kindOf (nI fo) n_ifOf n_thenOf n_listOf n_breathOf (nI N) post := by
  unfold w_X6_partsBy
  have h64 := pa_p2 hn
  refine ⟨2 ^ n + 1, ?_⟩
  refine pl_seq (M := fun f i => w_X6_partsBy_L4 (nI N) (nI n) n_kindOf (nI fo) n_ifOf n_thenOf n_listOf n_breathOf post _ f (nI ((List.range i).foldl (fun s x => if pc_ic n fo fi ft x = true then ph_cf (pi_al n kd li br N) (pc_ic n fo fi ft) s x else s) 0)) (nI i)) (N := 2 ^ n) (fun f => ?_) (fun f x hx hM => ?_)
  · rw [w_X6_partsBy_L4, s_all hn]
    exact ⟨fun _ => h, fun z => absurd ((pf_all hn (Nat.le_refl _)).mpr rfl) z⟩
  · have hb := pi_ctb (n := n) (fo := fo) (fi := fi) (ft := ft) (al := pi_al n kd li br N) x
    rw [pd_range_s, pi_step] at hM
    generalize (List.range x).foldl (fun s x => if pc_ic n fo fi ft x = true then ph_cf (pi_al n kd li br N) (pc_ic n fo fi ft) s x else s) 0 = ct at hM hb ⊢
    rw [w_X6_partsBy_L4, s_all hn]
    refine ⟨fun z => absurd ((pf_all hn (by omega)).mp z) (by omega), fun _ => ?_⟩
    refine s_isCase (fi := fi) (ft := ft) hn hfo hf (nI x) ?_
    rw [pc_ci_nI (by omega)]
    refine ⟨x + 1, ?_⟩
    have e0 : pc_ic n fo fi ft x = pi_fi (pi_al n kd li br N) (pc_ic n fo fi ft) x 0 := by unfold pi_fi; simp
    rw [e0]
    refine pl_seq (M := fun g y => w_X6_partsBy_L22 (nI N) (nI ct) (nI x) (nI n) n_kindOf (nI fo) n_ifOf n_thenOf n_listOf n_breathOf post _ g (pa_b (pi_fi (pi_al n kd li br N) (pc_ic n fo fi ft) x y)) (nI y)) (N := x) (fun g => ?_) (fun g y hy hM2 => ?_)
    · rw [w_X6_partsBy_L22]
      refine ⟨fun _ => ⟨fun q => ?_, fun q => ?_⟩, fun q => absurd (pa_le_ (Nat.le_refl _) (by omega)) q⟩
      · rw [pa_b0] at q
        rw [pa_s1, show (0 : Int32) = nI 0 from rfl, nI_add]
        rw [if_neg (by rw [q]; decide)] at hM; exact hM
      · rw [pa_bn] at q
        rw [pa_s1, pa_s1]
        rw [if_pos q] at hM; exact hM
    · rw [pi_fis] at hM2
      rw [w_X6_partsBy_L22]
      refine ⟨fun q => absurd q (pa_nle hy (by omega)), fun _ => ⟨fun q => ?_, fun q => ?_⟩⟩
      · rw [pa_b0] at q
        rw [q]
        have qf := pi_fif (N := x) (by omega) q
        refine ⟨fun _ => ?_, fun z => absurd rfl z⟩
        rw [pa_s1, show (0 : Int32) = nI 0 from rfl, nI_add]
        rw [if_neg (by rw [qf]; decide)] at hM; exact hM
      · rw [pa_bn] at q
        rw [q, Bool.true_and] at hM2
        refine s_isCase (fi := fi) (ft := ft) hn hfo hf (nI y) ?_
        rw [pc_ci_nI (by omega), pa_s1 y]
        refine ⟨fun q1 => ?_, fun q1 => ?_⟩
        · rw [pa_b0] at q1
          rw [q1] at hM2; exact hM2
        · rw [pa_bn] at q1
          rw [q1, Bool.true_and] at hM2
          refine s_areAlike (kd := kd) (li := li) (br := br) hn hk hh hN (by omega) (by omega) ⟨fun q2 => ?_, fun q2 => ?_⟩
          · rw [pa_bn] at q2; rw [q2] at hM2; exact hM2
          · rw [pa_b0] at q2; rw [q2] at hM2; exact hM2
def pi_al2 (n : Nat) (kd : Nat → Nat) (o1 o2 b y x : Nat) : Bool := (pt_nm n kd (pa_un o1 x) b == pt_nm n kd (pa_un o1 y) b) && (pt_nm n kd (pa_un o2 x) b == pt_nm n kd (pa_un o2 y) b)
theorem s_X6_twoL {n fo o1 o2 b : Nat} {fi ft kd : Nat → Nat} {n_kindOf n_breathOf n_ifOf n_thenOf : Nat → Int32} {post : Int32 → Prop} (hn : n < 7) (hfo : fo ≤ 4) (hf : ∀ f, f < fo → n_ifOf f = nI (fi f) ∧ n_thenOf f = nI (ft f) ∧ fi f < 6 ∧ ft f < 6) (hk : ∀ t, t < n → n_kindOf t = nI (kd t) ∧ kd t ≤ 2) (ho1 : o1 < 2 ^ n) (ho2 : o2 < 2 ^ n) (hb18 : b ≤ 18)
    (h : post (nI (ph_ct n fo fi ft (pi_al2 n kd o1 o2 b)))) : w_X6_two_L52 (nI o1) (nI o2) (nI b) (nI n) n_kindOf (nI fo) n_ifOf n_thenOf n_breathOf post (fun xx => post xx) (2 ^ n + 1) (0 : Int32) (0 : Int32) := by
  have h64 := pa_p2 hn
  refine pl_seq (M := fun f i => w_X6_two_L52 (nI o1) (nI o2) (nI b) (nI n) n_kindOf (nI fo) n_ifOf n_thenOf n_breathOf post (fun xx => post xx) f (nI ((List.range i).foldl (fun s x => if pc_ic n fo fi ft x = true then ph_cf (pi_al2 n kd o1 o2 b) (pc_ic n fo fi ft) s x else s) 0)) (nI i)) (N := 2 ^ n) (fun f => ?_) (fun f x hx hM => ?_)
  · rw [w_X6_two_L52, s_all hn]
    exact ⟨fun _ => h, fun z => absurd ((pf_all hn (Nat.le_refl _)).mpr rfl) z⟩
  · have hb := pi_ctb (n := n) (fo := fo) (fi := fi) (ft := ft) (al := pi_al2 n kd o1 o2 b) x
    rw [pd_range_s, pi_step] at hM
    generalize (List.range x).foldl (fun s x => if pc_ic n fo fi ft x = true then ph_cf (pi_al2 n kd o1 o2 b) (pc_ic n fo fi ft) s x else s) 0 = ct at hM hb ⊢
    rw [w_X6_two_L52, s_all hn]
    refine ⟨fun z => absurd ((pf_all hn (by omega)).mp z) (by omega), fun _ => ?_⟩
    refine s_isCase (fi := fi) (ft := ft) hn hfo hf (nI x) ?_
    rw [pc_ci_nI (by omega)]
    refine ⟨x + 1, ?_⟩
    have e0 : pc_ic n fo fi ft x = pi_fi (pi_al2 n kd o1 o2 b) (pc_ic n fo fi ft) x 0 := by unfold pi_fi; simp
    rw [e0]
    refine pl_seq (M := fun g y => w_X6_two_L72 (nI o1) (nI o2) (nI b) (nI ct) (nI x) (nI n) n_kindOf (nI fo) n_ifOf n_thenOf n_breathOf post _ g (pa_b (pi_fi (pi_al2 n kd o1 o2 b) (pc_ic n fo fi ft) x y)) (nI y)) (N := x) (fun g => ?_) (fun g y hy hM2 => ?_)
    · rw [w_X6_two_L72]
      refine ⟨fun _ => ⟨fun q => ?_, fun q => ?_⟩, fun q => absurd (pa_le_ (Nat.le_refl _) (by omega)) q⟩
      · rw [pa_b0] at q
        rw [pa_s1, show (0 : Int32) = nI 0 from rfl, nI_add]
        rw [if_neg (by rw [q]; decide)] at hM; exact hM
      · rw [pa_bn] at q
        rw [pa_s1, pa_s1]
        rw [if_pos q] at hM; exact hM
    · rw [pi_fis] at hM2
      rw [w_X6_two_L72]
      refine ⟨fun q => absurd q (pa_nle hy (by omega)), fun _ => ⟨fun q => ?_, fun q => ?_⟩⟩
      · rw [pa_b0] at q
        rw [q]
        have qf := pi_fif (N := x) (by omega) q
        refine ⟨fun _ => ?_, fun z => absurd rfl z⟩
        rw [pa_s1, show (0 : Int32) = nI 0 from rfl, nI_add]
        rw [if_neg (by rw [qf]; decide)] at hM; exact hM
      · rw [pa_bn] at q
        rw [q, Bool.true_and] at hM2
        refine s_isCase (fi := fi) (ft := ft) hn hfo hf (nI y) ?_
        rw [pc_ci_nI (by omega), pa_s1 y]
        refine ⟨fun q1 => ?_, fun q1 => ?_⟩
        · rw [pa_b0] at q1
          rw [q1] at hM2; exact hM2
        · rw [pa_bn] at q1
          rw [q1, Bool.true_and] at hM2
          have c1 := pt_nm_lt n kd (pa_un o1 x) b
          have c2 := pt_nm_lt n kd (pa_un o1 y) b
          have c3 := pt_nm_lt n kd (pa_un o2 x) b
          have c4 := pt_nm_lt n kd (pa_un o2 y) b
          refine s_named (kd := kd) hn hk (by omega) (by omega) hb18 (s_named (kd := kd) hn hk (by omega) (by omega) hb18 ?_)
          rw [pa_nIinj (by omega) (by omega)]
          refine ⟨fun q2 => ?_, fun q2 => ?_⟩
          · have e : pi_al2 n kd o1 o2 b y x = false := by unfold pi_al2; rw [beq_eq_false_iff_ne.mpr q2]; rfl
            rw [e] at hM2; exact hM2
          · refine s_named (kd := kd) hn hk (by omega) (by omega) hb18 (s_named (kd := kd) hn hk (by omega) (by omega) hb18 ?_)
            rw [pa_nIinj (by omega) (by omega)]
            refine ⟨fun q3 => ?_, fun q3 => ?_⟩
            · have e : pi_al2 n kd o1 o2 b y x = true := by unfold pi_al2; rw [beq_iff_eq.mpr q2, beq_iff_eq.mpr q3]; rfl
              rw [e] at hM2; exact hM2
            · have e : pi_al2 n kd o1 o2 b y x = false := by unfold pi_al2; rw [beq_eq_false_iff_ne.mpr q3, Bool.and_false]
              rw [e] at hM2; exact hM2
