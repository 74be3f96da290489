-- ===== shortest =====
def pl_pop (k : Nat) : Nat := k % 2 + k / 2 % 2 + k / 4 % 2 + k / 8 % 2 + k / 16 % 2 + k / 32 % 2
theorem pl_popr : ∀ k, k < 64 → pl_pop k = k % 2 + pl_pop (k / 2) := by decide +kernel
theorem pl_popb (k : Nat) : pl_pop k ≤ 6 := by unfold pl_pop; omega
theorem pl_bc : ∀ k, k < 64 → w_J6_bitCount_0f7a4 (nI k) (fun y => y = nI (pl_pop k)) := by
  unfold w_J6_bitCount_0f7a4
  dsimp only
  decide +kernel
theorem s_bitCount {k : Nat} {post : Int32 → Prop} (hk : k < 64) (h : post (nI (pl_pop k))) : w_J6_bitCount_0f7a4 (nI k) post := by
  have e := pl_bc k hk
  unfold w_J6_bitCount_0f7a4 at e ⊢
  dsimp only at e
  rw [e]; exact h
theorem pl_b1 : ∀ k, k < 64 → (nI k &&& (1 : Int32)) = nI (k % 2) := by decide +kernel
theorem pl_b2 : ∀ k, k < 64 → (nI k >>> ((1 : Int32) &&& 31)) = nI (k / 2) := by decide +kernel
theorem s_bitsL {post kk : Int32 → Prop} : ∀ k acc : Nat, k < 64 → kk (nI (acc + pl_pop k)) → ∃ e, w_X6_bits_L4 post kk e (nI acc) (nI k) := by
  intro k
  induction k using Nat.strongRecOn with
  | ind k ih =>
    intro acc hk h
    by_cases e : k = 0
    · subst e
      refine ⟨1, ?_⟩
      rw [w_X6_bits_L4]
      exact ⟨fun _ => h, fun q => absurd (by decide) q⟩
    · obtain ⟨f, hf⟩ := ih (k / 2) (by omega) (acc + k % 2) (by omega) (by rw [Nat.add_assoc, ← pl_popr k hk]; exact h)
      refine ⟨f + 1, ?_⟩
      rw [w_X6_bits_L4, pl_b1 k hk, pl_b2 k hk, nI_add]
      refine ⟨fun q => ?_, fun _ => hf⟩
      rw [pa_le0, pa_nI _ (by omega)] at q; omega
theorem s_bits {k : Nat} {post : Int32 → Prop} (hk : k < 64) (h : post (nI (pl_pop k))) : w_X6_bits (nI k) post := by
  unfold w_X6_bits
  exact s_bitsL k 0 hk (by rw [Nat.zero_add]; exact h)
def pl_ak (n fo : Nat) (fi ft kd : Nat → Nat) (b t l : Nat) : Bool := (List.range (2 ^ n)).all (fun x => !pc_ic n fo fi ft x || pk_kn n fo fi ft kd l b x 0 t)
theorem s_isAlways {n fo l b t : Nat} {fi ft kd : Nat → Nat} {n_kindOf n_ifOf n_thenOf : Nat → Int32} {post : Int32 → Prop} (hn : n < 7) (hfo : fo ≤ 4) (hf : ∀ f, f < fo → n_ifOf f = nI (fi f) ∧ n_thenOf f = nI (ft f) ∧ fi f < 6 ∧ ft f < 6) (hk : ∀ t, t < n → n_kindOf t = nI (kd t) ∧ kd t ≤ 2) (hl : l < 2 ^ n) (hb : b ≤ 18) (ht : t < 6)
    (h : post (pa_b (pl_ak n fo fi ft kd b t l))) : w_X6_isAlwaysKnown (nI n) n_kindOf (nI fo) n_ifOf n_thenOf (nI t) (nI l) (nI b) post := by
  unfold w_X6_isAlwaysKnown
  have h64 := pa_p2 hn
  refine ⟨2 ^ n + 1, ?_⟩
  refine pl_seq (M := fun f i => w_X6_isAlwaysKnown_L6 (nI t) (nI l) (nI b) (nI n) n_kindOf (nI fo) n_ifOf n_thenOf post _ f (pa_b ((List.range i).all (fun x => !pc_ic n fo fi ft x || pk_kn n fo fi ft kd l b x 0 t))) (nI i)) (N := 2 ^ n) (fun f => ?_) (fun f y hy hM => ?_)
  · rw [w_X6_isAlwaysKnown_L6, s_all hn]
    exact ⟨fun _ => ⟨pa_z _, h⟩, fun z => absurd ((pf_all hn (Nat.le_refl _)).mpr rfl) z⟩
  · rw [pc_all_s] at hM
    rw [w_X6_isAlwaysKnown_L6, s_all hn]
    refine ⟨fun z => absurd ((pf_all hn (by omega)).mp z) (by omega), fun _ => ⟨fun q => ?_, fun q => ?_⟩⟩
    · rw [pa_b0] at q
      have : pl_ak n fo fi ft kd b t l = false := pc_all_f (i := y) (by omega) q
      rw [this] at h
      rw [q]; exact ⟨pa_z false, h⟩
    · rw [pa_bn] at q
      rw [q, Bool.true_and] at hM
      refine s_isCase (fi := fi) (ft := ft) hn hfo hf (nI y) ?_
      rw [pc_ci_nI (by omega), pa_s1]
      refine ⟨fun q1 => ?_, fun q1 => ?_⟩
      · rw [pa_b0] at q1; rw [q1] at hM; exact hM
      · rw [pa_bn] at q1; rw [q1, Bool.not_true, Bool.false_or] at hM
        rw [pa_zero]
        refine s_isKnown (fi := fi) (ft := ft) (kd := kd) hn hfo hf hk hl hb (by omega) (by omega) ht ⟨fun q2 => ?_, fun q2 => ?_⟩
        · rw [← pa_zero, pa_b0] at q2; rw [q2] at hM; exact hM
        · rw [← pa_zero, pa_bn] at q2; rw [q2] at hM; exact hM
theorem pl_andz (a b : Int64) : (lg_cmp (a &&& b) (0 : Int64)) = 0 ↔ ∀ y, y < 64 → ¬ (a.toBitVec.getLsbD y = true ∧ b.toBitVec.getLsbD y = true) := by
  rw [pe_cmp0, ← Int64.toBitVec_inj]
  show (a.toBitVec &&& b.toBitVec) = 0#64 ↔ _
  constructor
  · intro h y hy hb
    have := congrArg (fun w => w.getLsbD y) h
    simp only [BitVec.getLsbD_and, BitVec.getLsbD_zero, hb.1, hb.2] at this
    cases this
  · intro h
    apply BitVec.eq_of_getLsbD_eq
    intro i hi
    rw [BitVec.getLsbD_and, BitVec.getLsbD_zero]
    have := h i hi
    cases h1 : a.toBitVec.getLsbD i <;> cases h2 : b.toBitVec.getLsbD i <;> simp_all
theorem s_tells {n fo l b t : Nat} {fi ft kd : Nat → Nat} {t_caseRow t_calls : Nat → Int32} {t_caseCount : Int32} {post : Int32 → Prop} (hn : n < 7) (hT : pd_T n fo fi ft t_caseRow t_caseCount) (hc : ∀ b, b ≤ 18 → ∀ u, u < 2 ^ n → t_calls (b * 64 + u) = nI (pt_nm n kd u b)) (hl : l < 2 ^ n) (hb : b ≤ 18) (ht : t < 6)
    (h : post (pa_b (pl_ak n fo fi ft kd b t l))) : w_X5_tells t_caseRow t_calls t_caseCount (nI t) (nI l) (nI b) post := by
  unfold w_X5_tells
  obtain ⟨rfl, hrow⟩ := hT
  have hlen := pd_len n fo fi ft
  have h64 := pa_p2 hn
  have hnb : ∀ x, pt_nm n kd (pa_un l x) b < 64 := fun x => by have := pt_nm_lt n kd (pa_un l x) b; omega
  refine ⟨(pd_cl n fo fi ft).length + 1, ?_⟩
  refine pl_inv (M := fun f i (s : Int64 × Int64) => w_X5_tells_L9 (nI t) (nI l) (nI b) t_caseRow t_calls (nI (pd_cl n fo fi ft).length) post _ f s.1 s.2 (nI i)) (fun i s => (∀ y, y < 64 → (s.1.toBitVec.getLsbD y = true ↔ ∃ e x, e < i ∧ (pd_cl n fo fi ft)[e]? = some x ∧ x.testBit t = true ∧ pt_nm n kd (pa_un l x) b = y)) ∧ (∀ y, y < 64 → (s.2.toBitVec.getLsbD y = true ↔ ∃ e x, e < i ∧ (pd_cl n fo fi ft)[e]? = some x ∧ x.testBit t = false ∧ pt_nm n kd (pa_un l x) b = y))) (fun f s hI => ?_) (fun f i s hi hI hM => ?_) ((0 : Int64), (0 : Int64)) ⟨fun y hy => ?_, fun y hy => ?_⟩
  · rw [w_X5_tells_L9]
    refine ⟨fun _ => ?_, fun q => absurd (pa_le_ (Nat.le_refl _) (by omega)) q⟩
    rw [pl_andz]
    have key : (∀ y, y < 64 → ¬ (s.1.toBitVec.getLsbD y = true ∧ s.2.toBitVec.getLsbD y = true)) ↔ pl_ak n fo fi ft kd b t l = true := by
      have hin : ∀ x, pc_ic n fo fi ft x = true → ∃ e, e < (pd_cl n fo fi ft).length ∧ (pd_cl n fo fi ft)[e]? = some x := by
        intro x hx
        have hm : x ∈ pd_cl n fo fi ft := by
          unfold pd_cl
          rw [List.mem_filter, List.mem_range]
          have := (pc_lt hx).1
          exact ⟨by omega, hx⟩
        obtain ⟨e, he⟩ := List.mem_iff_getElem?.mp hm
        exact ⟨e, (List.getElem?_eq_some_iff.mp he).1, he⟩
      constructor
      · intro hno
        unfold pl_ak
        rw [List.all_eq_true]
        intro x _
        cases hx : pc_ic n fo fi ft x with
        | false => rfl
        | true =>
          rw [Bool.not_true, Bool.false_or]
          unfold pk_kn
          rw [Bool.not_eq_true', List.any_eq_false]
          intro y _ hy
          rw [Bool.and_eq_true] at hy
          have hA := hy.2
          unfold pk_A pk_sm at hA
          rw [Bool.and_eq_true, Bool.and_eq_true, beq_iff_eq, beq_iff_eq, Nat.testBit_xor] at hA
          obtain ⟨ex, hex, hex2⟩ := hin x hx
          obtain ⟨ey, hey, hey2⟩ := hin y hy.1
          cases hxt : x.testBit t with
          | true =>
            have hyt : y.testBit t = false := by have := hA.2; rw [hxt] at this; cases h : y.testBit t <;> simp_all
            exact hno _ (hnb x) ⟨(hI.1 _ (hnb x)).mpr ⟨ex, x, hex, hex2, hxt, rfl⟩, (hI.2 _ (hnb x)).mpr ⟨ey, y, hey, hey2, hyt, hA.1.2⟩⟩
          | false =>
            have hyt : y.testBit t = true := by have := hA.2; rw [hxt] at this; simpa using this
            exact hno _ (hnb x) ⟨(hI.1 _ (hnb x)).mpr ⟨ey, y, hey, hey2, hyt, hA.1.2⟩, (hI.2 _ (hnb x)).mpr ⟨ex, x, hex, hex2, hxt, rfl⟩⟩
      · intro hak y hy hb2
        obtain ⟨e1, x1, -, hx1, ht1, hn1⟩ := (hI.1 y hy).mp hb2.1
        obtain ⟨e2, x2, -, hx2, ht2, hn2⟩ := (hI.2 y hy).mp hb2.2
        have m1 := pd_mem hx1
        have m2 := pd_mem hx2
        unfold pl_ak at hak
        rw [List.all_eq_true] at hak
        have h1 := hak x1 (List.mem_range.mpr (pc_lt m1.1).1)
        rw [m1.1, Bool.not_true, Bool.false_or] at h1
        unfold pk_kn at h1
        rw [Bool.not_eq_true', List.any_eq_false] at h1
        refine h1 x2 (List.mem_range.mpr (pc_lt m2.1).1) ?_
        rw [m2.1, Bool.true_and]
        unfold pk_A pk_sm
        rw [Nat.testBit_xor, ht1, ht2, Nat.and_zero, hn1, hn2]
        simp
    refine ⟨fun q => ?_, fun q => ?_⟩
    · rw [key, Bool.not_eq_true] at q; rw [q] at h; exact h
    · rw [key] at q; rw [q] at h; exact h
  · obtain ⟨x, hx⟩ := pd_get hi
    have hx2 := pd_mem hx
    obtain ⟨h1, h2⟩ := hI
    obtain ⟨sa, sb⟩ := s
    simp only at h1 h2
    rw [w_X5_tells_L9]
    refine ⟨fun q => absurd q (pa_nle hi (by omega)), fun _ => ⟨pa_vp (by omega) (by omega), ?_⟩⟩
    rw [pa_cl (by omega), hrow i x hx, pa_s1]
    refine s_callIn hn hc hl hx2.2.1 hb ?_
    rw [s_has hx2.2.1 ht]
    have mono : ∀ (B : Bool) y, (∃ e z, e < i + 1 ∧ (pd_cl n fo fi ft)[e]? = some z ∧ z.testBit t = B ∧ pt_nm n kd (pa_un l z) b = y) ↔ ((∃ e z, e < i ∧ (pd_cl n fo fi ft)[e]? = some z ∧ z.testBit t = B ∧ pt_nm n kd (pa_un l z) b = y) ∨ (x.testBit t = B ∧ pt_nm n kd (pa_un l x) b = y)) := by
      intro B y
      constructor
      · rintro ⟨e, z, he, hz, hzt, hzn⟩
        by_cases ee : e = i
        · subst ee; rw [hx] at hz; cases hz; exact Or.inr ⟨hzt, hzn⟩
        · exact Or.inl ⟨e, z, by omega, hz, hzt, hzn⟩
      · rintro (⟨e, z, he, hz⟩ | hz)
        · exact ⟨e, z, by omega, hz⟩
        · exact ⟨i, x, by omega, hx, hz⟩
    refine ⟨fun q => ?_, fun q => ?_⟩
    · rw [pa_b0] at q
      refine hM (sa, pd_bit sb (pt_nm n kd (pa_un l x) b)) ⟨fun y hy => ?_, fun y hy => ?_⟩
      · simp only
        rw [h1 y hy, mono, q]
        simp
      · simp only
        rw [pd_bitD _ (hnb x) y hy, Bool.or_eq_true, h2 y hy, mono, decide_eq_true_iff, q]
        exact ⟨fun w => w.elim Or.inl (fun v => Or.inr ⟨rfl, v.symm⟩), fun w => w.elim Or.inl (fun v => Or.inr v.2.symm)⟩
    · rw [pa_bn] at q
      refine hM (pd_bit sa (pt_nm n kd (pa_un l x) b), sb) ⟨fun y hy => ?_, fun y hy => ?_⟩
      · simp only
        rw [pd_bitD _ (hnb x) y hy, Bool.or_eq_true, h1 y hy, mono, decide_eq_true_iff, q]
        exact ⟨fun w => w.elim Or.inl (fun v => Or.inr ⟨rfl, v.symm⟩), fun w => w.elim Or.inl (fun v => Or.inr v.2.symm)⟩
      · simp only
        rw [h2 y hy, mono, q]
        simp
  · simp only
    have : (0 : Int64).toBitVec = 0#64 := rfl
    rw [this]
    constructor
    · intro z; simp at z
    · rintro ⟨e, x, he, -⟩; omega
  · simp only
    have : (0 : Int64).toBitVec = 0#64 := rfl
    rw [this]
    constructor
    · intro z; simp at z
    · rintro ⟨e, x, he, -⟩; omega
def pl_sf (ak : Nat → Bool) (s : Option Nat) (l : Nat) : Option Nat := match s with
  | none => if ak l = true then some l else none
  | some b => if pl_pop l < pl_pop b ∧ ak l = true then some l else some b
def pl_sh (ak : Nat → Bool) (N : Nat) : Option Nat := (List.range N).foldl (pl_sf ak) none
def pl_en (s : Option Nat) : Int32 := match s with
  | none => -9
  | some b => nI b
def pl_fw (s : Option Nat) : Int32 := match s with
  | none => 7
  | some b => nI (pl_pop b)
theorem pl_shb (ak : Nat → Bool) : ∀ N b, pl_sh ak N = some b → b < N := by
  intro N
  induction N with
  | zero => intro b h; cases h
  | succ N ih =>
    intro b h
    have e : pl_sh ak (N + 1) = pl_sf ak (pl_sh ak N) N := pd_range_s _ _ _
    rw [e] at h
    cases hs : pl_sh ak N with
    | none =>
      rw [hs] at h; unfold pl_sf at h
      simp only at h
      split at h
      · cases h; omega
      · cases h
    | some c =>
      rw [hs] at h; unfold pl_sf at h
      simp only at h
      have := ih c hs
      split at h
      · cases h; omega
      · cases h; omega
theorem s_X5_shortest {n fo : Nat} {fi ft kd br : Nat → Nat} {t_caseRow t_calls u_breaths : Nat → Int32} {t_caseCount a1 a2 : Int32} {post : Int32 → Prop} (hn : n < 7) (hT : pd_T n fo fi ft t_caseRow t_caseCount) (hc : ∀ b, b ≤ 18 → ∀ u, u < 2 ^ n → t_calls (b * 64 + u) = nI (pt_nm n kd u b)) (hh : ∀ h, h < 6 → u_breaths h = nI (br h) ∧ br h ≤ 18)
    (h1 : ¬ ((0 ≤ a1.toInt ∧ a1.toInt < n) ∧ (0 ≤ a2.toInt ∧ a2.toInt < 6)) → post (-1)) (h2 : ∀ t h, t < n → h < 6 → a1 = nI t → a2 = nI h → post (pl_en (pl_sh (pl_ak n fo fi ft kd (br h) t) (2 ^ n)))) : w_X5_shortest t_caseRow t_calls (nI n) t_caseCount u_breaths a1 a2 post := by
  unfold w_X5_shortest
  have h64 := pa_p2 hn
  rw [s_isThing hn]
  refine ⟨fun q => ?_, fun q => ?_⟩
  · rw [pa_b0, decide_eq_false_iff_not] at q; exact h1 (fun z => q z.1)
  · rw [pa_bn, decide_eq_true_iff] at q
    rw [s_isHour]
    refine ⟨fun q1 => ?_, fun q1 => ?_⟩
    · rw [pa_bn, decide_eq_true_iff] at q1
      obtain ⟨t, ht, rfl⟩ := pa_of q.1 q.2 (by omega)
      obtain ⟨hr, hhr, rfl⟩ := pa_of (x := a2) (n := 6) q1.1 q1.2 (by omega)
      have h2 := h2 t hr ht hhr rfl rfl
      have hhh := hh hr hhr
      refine ⟨2 ^ n + 1, ?_⟩
      refine pl_seq (M := fun f i => w_X5_shortest_L30 (nI t) (nI hr) t_caseRow t_calls (nI n) t_caseCount u_breaths post _ f (pl_en (pl_sh (pl_ak n fo fi ft kd (br hr) t) i)) (pl_fw (pl_sh (pl_ak n fo fi ft kd (br hr) t) i)) (nI i)) (N := 2 ^ n) (fun f => ?_) (fun f l hl hM => ?_)
      · rw [w_X5_shortest_L30, s_sets hn]
        exact ⟨fun _ => h2, fun q => absurd (pa_le_ (Nat.le_refl _) (by omega)) q⟩
      · have e : pl_sh (pl_ak n fo fi ft kd (br hr) t) (l + 1) = pl_sf (pl_ak n fo fi ft kd (br hr) t) (pl_sh (pl_ak n fo fi ft kd (br hr) t) l) l := pd_range_s _ _ _
        rw [e] at hM
        generalize pl_sh (pl_ak n fo fi ft kd (br hr) t) l = s at hM ⊢
        rw [w_X5_shortest_L30, s_sets hn]
        refine ⟨fun q => absurd q (pa_nle hl (by omega)), fun _ => ?_⟩
        refine s_bitCount (by omega) ⟨fun z => ?_, fun z => ⟨pa_vp hhr (by omega), ?_⟩⟩
        · rw [pa_s1]
          have hp := pl_popb l
          cases s with
          | none =>
            exfalso
            unfold pl_fw at z
            simp only at z
            rw [show (7 : Int32) = nI 7 from rfl, pa_leN (by omega) (by omega)] at z; omega
          | some b =>
            unfold pl_fw at z
            simp only at z
            have hp2 := pl_popb b
            rw [pa_leN (by omega) (by omega)] at z
            unfold pl_sf at hM
            simp only at hM
            rw [if_neg (by omega)] at hM
            exact hM
        · rw [pa_cl (by omega), hhh.1, pa_s1]
          refine s_tells hn hT hc hl hhh.2 (by omega) ⟨fun z1 => ?_, fun z1 => ?_⟩
          · rw [pa_b0] at z1
            have e2 : pl_sf (pl_ak n fo fi ft kd (br hr) t) s l = s := by
              unfold pl_sf
              rw [z1]
              cases s <;> simp
            rw [e2] at hM; exact hM
          · rw [pa_bn] at z1
            have e2 : pl_sf (pl_ak n fo fi ft kd (br hr) t) s l = some l := by
              have hp := pl_popb l
              cases s with
              | none => unfold pl_sf; simp only; rw [if_pos z1]
              | some b =>
                unfold pl_fw at z
                simp only at z
                have hp2 := pl_popb b
                rw [pa_leN (by omega) (by omega)] at z
                unfold pl_sf; simp only
                rw [if_pos ⟨by omega, z1⟩]
            rw [e2] at hM; exact hM
    · rw [pa_b0, decide_eq_false_iff_not] at q1; exact h1 (fun z => q1 z.2)
theorem s_X6_shortest {n fo : Nat} {fi ft kd br : Nat → Nat} {n_kindOf n_breathOf n_ifOf n_thenOf : Nat → Int32} {a1 a2 : Int32} {post : Int32 → Prop} (hn : n < 7) (hfo : fo ≤ 4) (hf : ∀ f, f < fo → n_ifOf f = nI (fi f) ∧ n_thenOf f = nI (ft f) ∧ fi f < 6 ∧ ft f < 6) (hk : ∀ t, t < n → n_kindOf t = nI (kd t) ∧ kd t ≤ 2) (hh : ∀ h, h < 6 → n_breathOf h = nI (br h) ∧ br h ≤ 18)
    (h1 : ¬ ((0 ≤ a1.toInt ∧ a1.toInt < n) ∧ (0 ≤ a2.toInt ∧ a2.toInt < 6)) → post (-1)) (h2 : ∀ t h, t < n → h < 6 → a1 = nI t → a2 = nI h → post (pl_en (pl_sh (pl_ak n fo fi ft kd (br h) t) (2 ^ n)))) : w_X6_shortest (nI n) n_kindOf (nI fo) n_ifOf n_thenOf n_breathOf a1 a2 post := by
  unfold w_X6_shortest
  have h64 := pa_p2 hn
  rw [s_noThing hn]
  refine ⟨fun q => ?_, fun q => ?_⟩
  · rw [pa_bn, Bool.not_eq_true', decide_eq_false_iff_not] at q; exact h1 (fun z => q z.1)
  · rw [pa_b0, Bool.not_eq_false', decide_eq_true_iff] at q
    rw [s_noHour]
    refine ⟨fun q1 => ?_, fun q1 => ?_⟩
    · rw [pa_b0, Bool.not_eq_false', decide_eq_true_iff] at q1
      obtain ⟨t, ht, rfl⟩ := pa_of q.1 q.2 (by omega)
      obtain ⟨hr, hhr, rfl⟩ := pa_of (x := a2) (n := 6) q1.1 q1.2 (by omega)
      have h2 := h2 t hr ht hhr rfl rfl
      have hhh := hh hr hhr
      refine ⟨2 ^ n + 1, ?_⟩
      refine pl_seq (M := fun f i => w_X6_shortest_L23 (nI t) (nI hr) (nI n) n_kindOf (nI fo) n_ifOf n_thenOf n_breathOf post _ f (pl_en (pl_sh (pl_ak n fo fi ft kd (br hr) t) i)) (nI i)) (N := 2 ^ n) (fun f => ?_) (fun f l hl hM => ?_)
      · rw [w_X6_shortest_L23, s_all hn]
        exact ⟨fun _ => h2, fun z => absurd ((pf_all hn (Nat.le_refl _)).mpr rfl) z⟩
      · have e : pl_sh (pl_ak n fo fi ft kd (br hr) t) (l + 1) = pl_sf (pl_ak n fo fi ft kd (br hr) t) (pl_sh (pl_ak n fo fi ft kd (br hr) t) l) l := pd_range_s _ _ _
        have hsb := pl_shb (pl_ak n fo fi ft kd (br hr) t) l
        rw [e] at hM
        generalize pl_sh (pl_ak n fo fi ft kd (br hr) t) l = s at hM hsb ⊢
        rw [w_X6_shortest_L23, s_all hn]
        refine ⟨fun z => absurd ((pf_all hn (by omega)).mp z) (by omega), fun _ => ?_⟩
        refine xq_use1 (pa_b (match s with | none => true | some b => decide (pl_pop l < pl_pop b))) (fun K hK => ⟨fun z => ?_, fun z => ?_⟩) ?_
        · cases s with
          | none => exact hK
          | some b =>
            exfalso
            have := hsb b rfl
            unfold pl_en at z
            simp only at z
            rw [pa_l0, pa_nI _ (by omega)] at z; omega
        · cases s with
          | none => exact absurd (by decide) z
          | some b =>
            have := hsb b rfl
            have hp := pl_popb l
            have hp2 := pl_popb b
            refine s_bits (by omega) (s_bits (by omega) ⟨fun z1 => ?_, fun z1 => ?_⟩)
            · rw [pa_leN (by omega) (by omega)] at z1
              have : decide (pl_pop l < pl_pop b) = false := decide_eq_false (by omega)
              simp only [this] at hK; exact hK
            · rw [pa_leN (by omega) (by omega)] at z1
              have : decide (pl_pop l < pl_pop b) = true := decide_eq_true (by omega)
              simp only [this] at hK; exact hK
        · rw [pa_s1]
          refine ⟨fun z => ?_, fun z => ⟨pa_vp hhr (by omega), ?_⟩⟩
          · rw [pa_b0] at z
            cases s with
            | none => cases z
            | some b =>
              simp only [decide_eq_false_iff_not] at z
              unfold pl_sf at hM
              simp only at hM
              rw [if_neg (fun w => z w.1)] at hM
              exact hM
          · rw [pa_bn] at z
            rw [pa_cl (by omega), hhh.1]
            refine s_isAlways (fi := fi) (ft := ft) (kd := kd) hn hfo hf hk hl hhh.2 (by omega) ⟨fun z1 => ?_, fun z1 => ?_⟩
            · rw [pa_b0] at z1
              have e2 : pl_sf (pl_ak n fo fi ft kd (br hr) t) s l = s := by
                unfold pl_sf
                rw [z1]
                cases s <;> simp
              rw [e2] at hM; exact hM
            · rw [pa_bn] at z1
              have e2 : pl_sf (pl_ak n fo fi ft kd (br hr) t) s l = some l := by
                cases s with
                | none => unfold pl_sf; simp only; rw [if_pos z1]
                | some b =>
                  simp only [decide_eq_true_iff] at z
                  unfold pl_sf; simp only
                  rw [if_pos ⟨z, z1⟩]
              rw [e2] at hM; exact hM
    · rw [pa_bn, Bool.not_eq_true', decide_eq_false_iff_not] at q1; exact h1 (fun z => q1 z.2)
