-- ===== secrets =====
theorem pk_and_ (a b : Nat) : nI a &&& nI b = nI (a &&& b) := by
  apply Int32.toBitVec_inj.mp
  show (BitVec.ofNat 32 a) &&& (BitVec.ofNat 32 b) = BitVec.ofNat 32 (a &&& b)
  apply BitVec.eq_of_getLsbD_eq
  intro i hi
  simp [BitVec.getLsbD_ofNat, hi]
theorem pk_xor_ (a b : Nat) : nI a ^^^ nI b = nI (a ^^^ b) := by
  apply Int32.toBitVec_inj.mp
  show (BitVec.ofNat 32 a) ^^^ (BitVec.ofNat 32 b) = BitVec.ofNat 32 (a ^^^ b)
  apply BitVec.eq_of_getLsbD_eq
  intro i hi
  simp [BitVec.getLsbD_ofNat, hi]
theorem pk_x64 {a b : Nat} (ha : a < 64) (hb : b < 64) : a ^^^ b < 64 := Nat.xor_lt_two_pow (n := 6) ha hb
theorem pk_z {z : Nat} (h : z < 64) : nI z = 0 ↔ z = 0 := by rw [pa_zero, pa_nIinj (by omega) (by omega)]
def pk_sm (n : Nat) (kd : Nat → Nat) (l b x y : Nat) : Bool := pt_nm n kd (pa_un l y) b == pt_nm n kd (pa_un l x) b
/-- a case that friends hold for possible, too, but for t -/
def pk_A (n : Nat) (kd : Nat → Nat) (l b x of t y : Nat) : Bool := ((y ^^^ x) &&& of == 0) && pk_sm n kd l b x y && (y ^^^ x).testBit t
def pk_kn (n fo : Nat) (fi ft kd : Nat → Nat) (l b x of t : Nat) : Bool := !((List.range (2 ^ n)).any (fun y => pc_ic n fo fi ft y && pk_A n kd l b x of t y))
theorem pk_any_s {P : Nat → Bool} {l : List Nat} {c x : Nat} (h : l[c]? = some x) : (l.take (c + 1)).any P = ((l.take c).any P || P x) := by
  rw [pd_take h, List.any_append]; simp
theorem pk_any_cl {n fo : Nat} {fi ft : Nat → Nat} (hn : n < 7) (P : Nat → Bool) : (pd_cl n fo fi ft).any P = (List.range (2 ^ n)).any (fun y => pc_ic n fo fi ft y && P y) := by
  rw [Bool.eq_iff_iff, List.any_eq_true, List.any_eq_true]
  have h64 := pa_p2 hn
  constructor
  · rintro ⟨y, hy, hp⟩
    unfold pd_cl at hy
    rw [List.mem_filter, List.mem_range] at hy
    exact ⟨y, List.mem_range.mpr (pc_lt hy.2).1, by rw [hy.2, hp]; rfl⟩
  · rintro ⟨y, hy, hp⟩
    rw [Bool.and_eq_true] at hp
    rw [List.mem_range] at hy
    refine ⟨y, ?_, hp.2⟩
    unfold pd_cl
    rw [List.mem_filter, List.mem_range]
    exact ⟨by omega, hp.1⟩
theorem pk_any_tk {P : Nat → Bool} {l : List Nat} {c : Nat} (h : (l.take c).any P = true) : l.any P = true := by
  rw [List.any_eq_true] at h ⊢
  obtain ⟨y, hy, hp⟩ := h
  exact ⟨y, List.mem_of_mem_take hy, hp⟩
theorem s_isKnown {n fo l b x of t : Nat} {fi ft kd : Nat → Nat} {n_kindOf n_ifOf n_thenOf : Nat → Int32} {post : Int32 → Prop} (hn : n < 7) (hfo : fo ≤ 4) (hf : ∀ f, f < fo → n_ifOf f = nI (fi f) ∧ n_thenOf f = nI (ft f) ∧ fi f < 6 ∧ ft f < 6) (hk : ∀ t, t < n → n_kindOf t = nI (kd t) ∧ kd t ≤ 2) (hl : l < 2 ^ n) (hb : b ≤ 18) (hx : x < 64) (ho : of < 64) (ht : t < 6)
    (h : post (pa_b (pk_kn n fo fi ft kd l b x of t))) : w_X6_isKnown (nI n) n_kindOf (nI fo) n_ifOf n_thenOf (nI x) (nI of) (nI t) (nI l) (nI b) post := by
  unfold w_X6_isKnown
  have h64 := pa_p2 hn
  refine s_named (kd := kd) hn hk (by omega) hx hb ⟨2 ^ n + 1, ?_⟩
  refine pl_seq (M := fun f i => w_X6_isKnown_L17 (nI x) (nI of) (nI t) (nI l) (nI b) (nI (pt_nm n kd (pa_un l x) b)) (nI n) n_kindOf (nI fo) n_ifOf n_thenOf post _ f (pa_b (!((List.range i).any (fun y => pc_ic n fo fi ft y && pk_A n kd l b x of t y)))) (nI i)) (N := 2 ^ n) (fun f => ?_) (fun f y hy hM => ?_)
  · rw [w_X6_isKnown_L17, s_all hn]
    exact ⟨fun _ => ⟨pa_z _, h⟩, fun z => absurd ((pf_all hn (Nat.le_refl _)).mpr rfl) z⟩
  · rw [pi_any_s, Bool.not_or] at hM
    rw [w_X6_isKnown_L17, s_all hn]
    refine ⟨fun z => absurd ((pf_all hn (by omega)).mp z) (by omega), fun _ => ⟨fun q => ?_, fun q => ?_⟩⟩
    · rw [pa_b0, Bool.not_eq_false'] at q
      have : pk_kn n fo fi ft kd l b x of t = false := by unfold pk_kn; rw [pi_any_t (by omega) q]; rfl
      rw [this] at h
      rw [q]; exact ⟨pa_z false, h⟩
    · rw [pa_bn] at q
      rw [q, Bool.true_and] at hM
      refine s_isCase (fi := fi) (ft := ft) hn hfo hf (nI y) ?_
      rw [pc_ci_nI (by omega), pa_s1]
      refine xq_use1 (pa_b (pc_ic n fo fi ft y && (((y ^^^ x) &&& of == 0) && pk_sm n kd l b x y))) (fun K hK => ⟨fun q1 => ?_, fun q1 => ⟨fun q2 => ?_, fun q2 => ?_⟩⟩) ?_
      · rw [pa_b0] at q1; rw [q1] at hK; exact hK
      · rw [pa_bn] at q1
        rw [pk_xor_, pk_and_, pk_z (Nat.lt_of_le_of_lt Nat.and_le_left (pk_x64 hx (by omega))), Nat.xor_comm] at q2
        rw [q1, beq_eq_false_iff_ne.mpr q2] at hK; exact hK
      · rw [pa_bn] at q1
        rw [pk_xor_, pk_and_, pk_z (Nat.lt_of_le_of_lt Nat.and_le_left (pk_x64 hx (by omega))), Nat.xor_comm] at q2
        refine s_named (kd := kd) hn hk (by omega) (by omega) hb ?_
        have c1 := pt_nm_lt n kd (pa_un l x) b
        have c2 := pt_nm_lt n kd (pa_un l y) b
        rw [pa_nIinj (by omega) (by omega)]
        refine ⟨fun q3 => ?_, fun q3 => ?_⟩
        · have : pk_sm n kd l b x y = false := by unfold pk_sm; exact beq_eq_false_iff_ne.mpr q3
          rw [this, Bool.and_false, Bool.and_false] at hK; exact hK
        · have : pk_sm n kd l b x y = true := by unfold pk_sm; exact beq_iff_eq.mpr q3
          rw [q1, this, beq_iff_eq.mpr q2] at hK; exact hK
      · refine ⟨fun q1 => ?_, fun q1 => ?_⟩
        · rw [pa_b0] at q1
          have e : (pc_ic n fo fi ft y && pk_A n kd l b x of t y) = false := by
            unfold pk_A
            rw [← Bool.and_assoc, q1]; rfl
          rw [e] at hM; exact hM
        · rw [pa_bn] at q1
          rw [s_isIn (by omega) ht, s_isIn hx ht, pa_b_eq]
          have e : (pc_ic n fo fi ft y && pk_A n kd l b x of t y) = (y.testBit t ^^ x.testBit t) := by
            unfold pk_A
            rw [← Bool.and_assoc, q1, Nat.testBit_xor]; rfl
          rw [e] at hM
          refine ⟨fun q2 => ?_, fun q2 => ?_⟩
          · have : (y.testBit t ^^ x.testBit t) = true := by
              revert q2; cases y.testBit t <;> cases x.testBit t <;> simp
            rw [this] at hM; exact hM
          · rw [q2, Bool.xor_self] at hM; exact hM
def pk_sec (n fo : Nat) (fi ft kd : Nat → Nat) (b x of t l : Nat) : Bool := pk_kn n fo fi ft kd l b x of t && !pk_kn n fo fi ft kd l b x 0 t
theorem s_isSecret {n fo l b x of t : Nat} {fi ft kd : Nat → Nat} {t_caseRow t_calls : Nat → Int32} {t_caseCount : Int32} {post : Int32 → Prop} (hn : n < 7) (hT : pd_T n fo fi ft t_caseRow t_caseCount) (hc : ∀ b, b ≤ 18 → ∀ u, u < 2 ^ n → t_calls (b * 64 + u) = nI (pt_nm n kd u b)) (hl : l < 2 ^ n) (hb : b ≤ 18) (hx : x < 64) (ho : of < 64) (ht : t < 6)
    (h : post (pa_b (pk_sec n fo fi ft kd b x of t l))) : w_X5_isSecret t_caseRow t_calls t_caseCount (nI x) (nI of) (nI t) (nI l) (nI b) post := by
  unfold w_X5_isSecret
  obtain ⟨rfl, hrow⟩ := hT
  have hlen := pd_len n fo fi ft
  have h64 := pa_p2 hn
  have e0 : pk_sec n fo fi ft kd b x of t l = (!((pd_cl n fo fi ft).any (pk_A n kd l b x of t)) && (pd_cl n fo fi ft).any (pk_A n kd l b x 0 t)) := by
    unfold pk_sec pk_kn
    rw [pk_any_cl hn, pk_any_cl hn, Bool.not_not]
  refine s_callIn hn hc hl hx hb ⟨(pd_cl n fo fi ft).length + 1, ?_⟩
  refine pl_inv (M := fun f i s => w_X5_isSecret_L20 (nI x) (nI of) (nI t) (nI l) (nI b) (nI (pt_nm n kd (pa_un l x) b)) t_caseRow t_calls (nI (pd_cl n fo fi ft).length) post _ f s (nI i)) (fun i s => s = pa_b (((pd_cl n fo fi ft).take i).any (pk_A n kd l b x 0 t)) ∧ ((pd_cl n fo fi ft).take i).any (pk_A n kd l b x of t) = false) (fun f s hI => ?_) (fun f i s hi hI hM => ?_) (0 : Int32) ⟨by simp [pa_b], by simp⟩
  · rw [w_X5_isSecret_L20]
    refine ⟨fun _ => ?_, fun q => absurd (pa_le_ (Nat.le_refl _) (by omega)) q⟩
    rw [List.take_length] at hI
    rw [e0, hI.2] at h
    rw [hI.1]
    exact ⟨pa_z _, h⟩
  · obtain ⟨y, hy⟩ := pd_get hi
    have hy2 := pd_mem hy
    obtain ⟨h1, h2⟩ := hI
    subst h1
    rw [pk_any_s hy, pk_any_s hy, h2, Bool.false_or] at hM
    have hxy := pk_x64 hy2.2.1 hx
    rw [w_X5_isSecret_L20]
    refine ⟨fun q => absurd q (pa_nle hi (by omega)), fun _ => ⟨pa_vp (by omega) (by omega), ?_⟩⟩
    rw [pa_cl (by omega), hrow i y hy, pk_xor_, s_has hxy ht, pa_s1]
    refine ⟨fun q => ?_, fun q => ⟨pa_vp (by omega) (by omega), ?_⟩⟩
    · rw [pa_b0] at q
      have e1 : ∀ o, pk_A n kd l b x o t y = false := fun o => by unfold pk_A; rw [q, Bool.and_false]
      rw [e1, e1, Bool.or_false] at hM
      exact hM _ ⟨rfl, rfl⟩
    · rw [pa_bn] at q
      refine s_callIn hn hc hl hy2.2.1 hb ?_
      have c1 := pt_nm_lt n kd (pa_un l x) b
      have c2 := pt_nm_lt n kd (pa_un l y) b
      rw [pa_nIinj (by omega) (by omega)]
      refine ⟨fun q1 => ?_, fun q1 => ?_⟩
      · have e1 : ∀ o, pk_A n kd l b x o t y = false := fun o => by
          unfold pk_A pk_sm
          rw [beq_eq_false_iff_ne.mpr q1, Bool.and_false, Bool.false_and]
        rw [e1, e1, Bool.or_false] at hM
        exact hM _ ⟨rfl, rfl⟩
      · have e2 : pk_A n kd l b x 0 t y = true := by
          unfold pk_A pk_sm
          rw [beq_iff_eq.mpr q1, q, Nat.and_zero]; rfl
        rw [pk_and_, pk_z (Nat.lt_of_le_of_lt Nat.and_le_left hxy)]
        refine ⟨fun q2 => ?_, fun q2 => ?_⟩
        · have e1 : pk_A n kd l b x of t y = false := by
            unfold pk_A
            rw [beq_eq_false_iff_ne.mpr q2, Bool.false_and, Bool.false_and]
          rw [e1, e2, Bool.or_true] at hM
          exact hM _ ⟨rfl, rfl⟩
        · have e1 : pk_A n kd l b x of t y = true := by
            unfold pk_A pk_sm
            rw [beq_iff_eq.mpr q1, q, beq_iff_eq.mpr q2]; rfl
          have e3 : (pd_cl n fo fi ft).any (pk_A n kd l b x of t) = true := pk_any_tk (c := i + 1) (by rw [pk_any_s hy, e1, Bool.or_true])
          rw [e0, e3] at h
          exact h
theorem s_X5_secret {n fo : Nat} {fi ft kd br : Nat → Nat} {t_caseRow t_calls u_breaths : Nat → Int32} {t_caseCount a1 a2 a3 a4 : Int32} {t_caseSet : Int64} {post : Int32 → Prop} (hn : n < 7) (hT : pd_T n fo fi ft t_caseRow t_caseCount) (hs : t_caseSet = pd_sN (pc_ic n fo fi ft) 64) (hc : ∀ b, b ≤ 18 → ∀ u, u < 2 ^ n → t_calls (b * 64 + u) = nI (pt_nm n kd u b)) (hh : ∀ h, h < 6 → u_breaths h = nI (br h) ∧ br h ≤ 18)
    (h1 : ¬ (pc_ci n fo fi ft a1 = true ∧ (0 ≤ a3.toInt ∧ a3.toInt < n) ∧ (0 ≤ a4.toInt ∧ a4.toInt < 6)) → post (-1)) (h2 : pc_ci n fo fi ft a1 = true ∧ (0 ≤ a3.toInt ∧ a3.toInt < n) ∧ (0 ≤ a4.toInt ∧ a4.toInt < 6) → ¬ (0 ≤ a2.toInt ∧ a2.toInt < (2 ^ n : Nat)) → post (-2))
    (h3 : ∀ x of t hr, x < 2 ^ n → pc_ic n fo fi ft x = true → of < 2 ^ n → t < n → hr < 6 → a1 = nI x → a2 = nI of → a3 = nI t → a4 = nI hr → (∀ l, l < 2 ^ n → pk_sec n fo fi ft kd (br hr) x of t l = true → (∀ l', l' < l → pk_sec n fo fi ft kd (br hr) x of t l' = false) → post (nI l)) ∧ ((∀ l, l < 2 ^ n → pk_sec n fo fi ft kd (br hr) x of t l = false) → post (-9))) : w_X5_secret t_caseRow t_calls (nI n) t_caseCount t_caseSet u_breaths a1 a2 a3 a4 post := by
  unfold w_X5_secret
  have h64 := pa_p2 hn
  refine s_X4_isCase hn hs a1 ⟨fun q => ?_, fun q => ?_⟩
  · rw [pa_b0] at q; exact h1 (fun z => by rw [z.1] at q; cases q)
  · rw [pa_bn] at q
    rw [s_isThing hn]
    refine ⟨fun q1 => ?_, fun q1 => ?_⟩
    · rw [pa_b0, decide_eq_false_iff_not] at q1; exact h1 (fun z => q1 z.2.1)
    · rw [pa_bn, decide_eq_true_iff] at q1
      rw [s_isHour]
      refine ⟨fun q2 => ?_, fun q2 => ?_⟩
      · rw [pa_bn, decide_eq_true_iff] at q2
        rw [s_isSet hn]
        refine ⟨fun q3 => ?_, fun q3 => ?_⟩
        · rw [pa_bn, decide_eq_true_iff] at q3
          obtain ⟨x, hx, rfl, hic, hn0⟩ := pc_ci_of hn q
          obtain ⟨of, ho, rfl⟩ := pa_of q3.1 q3.2 (by omega)
          obtain ⟨t, ht, rfl⟩ := pa_of q1.1 q1.2 (by omega)
          obtain ⟨hr, hhr, rfl⟩ := pa_of (x := a4) (n := 6) q2.1 q2.2 (by omega)
          have h3 := h3 x of t hr hx hic ho ht hhr rfl rfl rfl rfl
          have hhh := hh hr hhr
          refine ⟨2 ^ n + 1, ?_⟩
          refine pl_inv (σ := Unit) (M := fun f i _ => w_X5_secret_L49 (nI x) (nI of) (nI t) (nI hr) t_caseRow t_calls (nI n) t_caseCount t_caseSet u_breaths post (post (-9)) f (nI i)) (fun i _ => ∀ l, l < i → pk_sec n fo fi ft kd (br hr) x of t l = false) (fun f s hI => ?_) (fun f i s hi hI hM => ?_) () (fun l hl => by omega)
          · rw [w_X5_secret_L49, s_sets hn]
            exact ⟨fun _ => h3.2 hI, fun q => absurd (pa_le_ (Nat.le_refl _) (by omega)) q⟩
          · rw [w_X5_secret_L49, s_sets hn]
            refine ⟨fun q => absurd q (pa_nle hi (by omega)), fun _ => ⟨pa_vp hhr (by omega), ?_⟩⟩
            rw [pa_cl (by omega), hhh.1, pa_s1]
            refine s_isSecret hn hT hc hi hhh.2 (by omega) (by omega) (by omega) ⟨fun z => ?_, fun z => ?_⟩
            · rw [pa_b0] at z
              refine hM () (fun l hl => ?_)
              by_cases e : l = i
              · subst e; exact z
              · exact hI l (by omega)
            · rw [pa_bn] at z
              exact h3.1 i hi z hI
        · rw [pa_b0, decide_eq_false_iff_not] at q3
          exact h2 ⟨q, q1, q2⟩ q3
      · rw [pa_b0, decide_eq_false_iff_not] at q2; exact h1 (fun z => q2 z.2.2)
theorem s_X6_secret {n fo : Nat} {fi ft kd br : Nat → Nat} {n_kindOf n_breathOf n_ifOf n_thenOf : Nat → Int32} {a1 a2 a3 a4 : Int32} {post : Int32 → Prop} (hn : n < 7) (hfo : fo ≤ 4) (hf : ∀ f, f < fo → n_ifOf f = nI (fi f) ∧ n_thenOf f = nI (ft f) ∧ fi f < 6 ∧ ft f < 6) (hk : ∀ t, t < n → n_kindOf t = nI (kd t) ∧ kd t ≤ 2) (hh : ∀ h, h < 6 → n_breathOf h = nI (br h) ∧ br h ≤ 18)
    (h1 : ¬ (pc_ci n fo fi ft a1 = true ∧ (0 ≤ a3.toInt ∧ a3.toInt < n) ∧ (0 ≤ a4.toInt ∧ a4.toInt < 6)) → post (-1)) (h2 : pc_ci n fo fi ft a1 = true ∧ (0 ≤ a3.toInt ∧ a3.toInt < n) ∧ (0 ≤ a4.toInt ∧ a4.toInt < 6) → ¬ (0 ≤ a2.toInt ∧ a2.toInt < (2 ^ n : Nat)) → post (-2))
    (h3 : ∀ x of t hr, x < 2 ^ n → pc_ic n fo fi ft x = true → of < 2 ^ n → t < n → hr < 6 → a1 = nI x → a2 = nI of → a3 = nI t → a4 = nI hr → (∀ l, l < 2 ^ n → pk_sec n fo fi ft kd (br hr) x of t l = true → (∀ l', l' < l → pk_sec n fo fi ft kd (br hr) x of t l' = false) → post (nI l)) ∧ ((∀ l, l < 2 ^ n → pk_sec n fo fi ft kd (br hr) x of t l = false) → post (-9))) : w_X6_secret (nI n) n_kindOf (nI fo) n_ifOf n_thenOf n_breathOf a1 a2 a3 a4 post := by
  unfold w_X6_secret
  have h64 := pa_p2 hn
  refine s_isCase (fi := fi) (ft := ft) hn hfo hf a1 ⟨fun q => ?_, fun q => ?_⟩
  · rw [pa_b0] at q; exact h1 (fun z => by rw [z.1] at q; cases q)
  · rw [pa_bn] at q
    rw [s_noThing hn]
    refine ⟨fun q1 => ?_, fun q1 => ?_⟩
    · rw [pa_bn, Bool.not_eq_true', decide_eq_false_iff_not] at q1; exact h1 (fun z => q1 z.2.1)
    · rw [pa_b0, Bool.not_eq_false', decide_eq_true_iff] at q1
      rw [s_noHour]
      refine ⟨fun q2 => ?_, fun q2 => ?_⟩
      · rw [pa_b0, Bool.not_eq_false', decide_eq_true_iff] at q2
        rw [s_isOfThings hn]
        refine ⟨fun q3 => ?_, fun q3 => ?_⟩
        · rw [pa_bn, decide_eq_true_iff] at q3
          obtain ⟨x, hx, rfl, hic, hn0⟩ := pc_ci_of hn q
          obtain ⟨of, ho, rfl⟩ := pa_of q3.1 q3.2 (by omega)
          obtain ⟨t, ht, rfl⟩ := pa_of q1.1 q1.2 (by omega)
          obtain ⟨hr, hhr, rfl⟩ := pa_of (x := a4) (n := 6) q2.1 q2.2 (by omega)
          have h3 := h3 x of t hr hx hic ho ht hhr rfl rfl rfl rfl
          have hhh := hh hr hhr
          refine ⟨pa_vp hhr (by omega), 2 ^ n + 1, ?_⟩
          rw [pa_cl (by omega), hhh.1]
          refine pl_inv (σ := Unit) (M := fun f i _ => w_X6_secret_L49 (nI x) (nI of) (nI t) (nI (br hr)) (nI n) n_kindOf (nI fo) n_ifOf n_thenOf n_breathOf post (post (-9)) f (nI i)) (fun i _ => ∀ l, l < i → pk_sec n fo fi ft kd (br hr) x of t l = false) (fun f s hI => ?_) (fun f i s hi hI hM => ?_) () (fun l hl => by omega)
          · rw [w_X6_secret_L49, s_all hn]
            exact ⟨fun _ => h3.2 hI, fun z => absurd ((pf_all hn (Nat.le_refl _)).mpr rfl) z⟩
          · rw [w_X6_secret_L49, s_all hn]
            refine ⟨fun z => absurd ((pf_all hn (by omega)).mp z) (by omega), fun _ => ?_⟩
            have hM2 : pk_sec n fo fi ft kd (br hr) x of t i = false → w_X6_secret_L49 (nI x) (nI of) (nI t) (nI (br hr)) (nI n) n_kindOf (nI fo) n_ifOf n_thenOf n_breathOf post (post (-9)) f (nI i + 1) := by
              intro z
              rw [pa_s1]
              refine hM () (fun l hl => ?_)
              by_cases e : l = i
              · subst e; exact z
              · exact hI l (by omega)
            refine s_isKnown (fi := fi) (ft := ft) (kd := kd) hn hfo hf hk hi hhh.2 (by omega) (by omega) (by omega) ⟨fun z => ?_, fun z => ?_⟩
            · rw [pa_b0] at z
              exact hM2 (by unfold pk_sec; rw [z]; rfl)
            · rw [pa_bn] at z
              rw [pa_zero]
              refine s_isKnown (fi := fi) (ft := ft) (kd := kd) hn hfo hf hk hi hhh.2 (by omega) (by omega) (by omega) ⟨fun z1 => ?_, fun z1 => ?_⟩
              · rw [← pa_zero, pa_bn] at z1
                exact hM2 (by unfold pk_sec; rw [z1, Bool.not_true, Bool.and_false])
              · rw [← pa_zero, pa_b0] at z1
                exact h3.1 i hi (by unfold pk_sec; rw [z, z1]; rfl) hI
        · rw [pa_b0, decide_eq_false_iff_not] at q3
          exact h2 ⟨q, q1, q2⟩ q3
      · rw [pa_bn, Bool.not_eq_true', decide_eq_false_iff_not] at q2; exact h1 (fun z => q2 z.2.2)
