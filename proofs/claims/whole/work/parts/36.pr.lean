-- ===== the class's town is built: the table of calls =====
theorem s_fillBreaths {u a e : Nat} {v : Int32} {c0 : Nat → Int32} {post : (Nat → Int32) → Prop} (hu : u < 64) (ha : a ≤ 100) (he : e ≤ 100) (h : ∀ c, (∀ j, (∀ b, a ≤ b → b < e → b ≤ 18 → j ≠ b * 64 + u) → c j = c0 j) → (∀ b, a ≤ b → b < e → b ≤ 18 → c (b * 64 + u) = v) → post c) : w_X4_fillBreaths c0 (nI u) v (nI a) (nI e) post := by
  unfold w_X4_fillBreaths
  refine ⟨(min e 19 - a) + 1, ?_⟩
  refine pl_inv (M := fun f i (c : Nat → Int32) => w_X4_fillBreaths_L3 (nI u) v (nI e) post _ f (nI (a + i)) c) (fun i c => (∀ j, (∀ b, a ≤ b → b < a + i → j ≠ b * 64 + u) → c j = c0 j) ∧ (∀ b, a ≤ b → b < a + i → c (b * 64 + u) = v)) (fun f c hI => ?_) (fun f i c hi hI hM => ?_) c0 ⟨fun j _ => rfl, fun b h1 h2 => by omega⟩
  · obtain ⟨i1, i2⟩ := hI
    rw [w_X4_fillBreaths_L3, show (18 : Int32) = nI 18 from rfl, pa_leN (by omega) (by omega), pa_ltN (by omega) (by omega)]
    have hp : post c := h c (fun j hj => i1 j (fun b h1 h2 => hj b h1 (by omega) (by omega))) (fun b h1 h2 h3 => i2 b h1 (by omega))
    exact ⟨fun _ => hp, fun q => ⟨fun _ => hp, fun q2 => by omega⟩⟩
  · obtain ⟨i1, i2⟩ := hI
    rw [w_X4_fillBreaths_L3, show (18 : Int32) = nI 18 from rfl, pa_leN (by omega) (by omega), pa_ltN (by omega) (by omega)]
    refine ⟨fun q => by omega, fun _ => ⟨fun q => by omega, fun _ => ?_⟩⟩
    rw [show (64 : Int32) = nI 64 from rfl, pk_mul, nI_add, pa_cl (by omega), pa_s1]
    refine ⟨pa_vp (by omega) (by omega), hM _ ⟨fun j hj => ?_, fun b h1 h2 => ?_⟩⟩
    · rw [pk_un (hj (a + i) (by omega) (by omega))]
      exact i1 j (fun b h1 h2 => hj b h1 (by omega))
    · by_cases eb : b = a + i
      · subst eb; exact pk_us
      · rw [pk_un (by omega)]; exact i2 b h1 (by omega)
/-- the fold for a breath beside the fold without end -/
theorem pr_F {n : Nat} {kd : Nat → Nat} (u b : Nat) (hb : b ≤ 18) : ∀ L : List Nat, (∀ t, t ∈ L → kd t ≤ 2) → L.length ≤ 6 → n = n → (L.foldl (pt_st kd u b) (0, 0)).1 = (L.foldl (pt_st kd u 1000) (0, 0)).1 ∧ ((L.foldl (pt_st kd u 1000) (0, 0)).1 ≤ b → (L.foldl (pt_st kd u b) (0, 0)).2 = (L.foldl (pt_st kd u 1000) (0, 0)).2) ∧ (L.foldl (pt_st kd u 1000) (0, 0)).1 ≤ 3 * L.length := by
  intro L hk hl _
  have key : ∀ L : List Nat, (∀ t, t ∈ L → kd t ≤ 2) → ∀ s s' : Nat × Nat, s.1 = s'.1 → (s'.1 ≤ b → s.2 = s'.2) → s'.1 + 3 * L.length ≤ 1000 → (L.foldl (pt_st kd u b) s).1 = (L.foldl (pt_st kd u 1000) s').1 ∧ ((L.foldl (pt_st kd u 1000) s').1 ≤ b → (L.foldl (pt_st kd u b) s).2 = (L.foldl (pt_st kd u 1000) s').2) ∧ (L.foldl (pt_st kd u 1000) s').1 ≤ s'.1 + 3 * L.length := by
    intro L
    induction L with
    | nil => intro _ s s' h1 h2 _; exact ⟨h1, h2, by simp⟩
    | cons t L ih =>
      intro hk s s' h1 h2 h3
      have ht := hk t (List.mem_cons_self)
      rw [List.foldl_cons, List.foldl_cons]
      rw [List.length_cons] at h3 ⊢
      have e1 : (pt_st kd u b s t).1 = (pt_st kd u 1000 s' t).1 := by
        unfold pt_st; split <;> simp [h1]
      have e2 : (pt_st kd u 1000 s' t).1 ≤ s'.1 + 3 := by
        unfold pt_st; split <;> simp; omega
      have e4 : s'.1 ≤ (pt_st kd u 1000 s' t).1 := by
        unfold pt_st; split <;> simp
      have e3 : (pt_st kd u 1000 s' t).1 ≤ b → (pt_st kd u b s t).2 = (pt_st kd u 1000 s' t).2 := by
        intro w
        unfold pt_st at w ⊢
        split
        · rename_i hu
          rw [if_pos hu] at w
          simp only at w ⊢
          rw [h1, if_pos (by omega), if_pos (by omega), h2 (by omega)]
        · rename_i hu
          rw [if_neg hu] at w
          exact h2 w
      obtain ⟨j1, j2, j3⟩ := ih (fun t ht => hk t (List.mem_cons_of_mem _ ht)) _ _ e1 e3 (by omega)
      exact ⟨j1, j2, by omega⟩
  obtain ⟨a1, a2, a3⟩ := key L hk (0, 0) (0, 0) rfl (fun _ => rfl) (by simp; omega)
  exact ⟨a1, a2, by simpa using a3⟩
theorem pr_F64 {n : Nat} {kd : Nat → Nat} {u b : Nat} (hn : n < 7) : ∀ L : List Nat, (∀ t, t ∈ L → t < n) → (L.foldl (pt_st kd u b) (0, 0)).2 < 64 := by
  have key : ∀ L : List Nat, (∀ t, t ∈ L → t < n) → ∀ s : Nat × Nat, s.2 < 2 ^ 6 → (L.foldl (pt_st kd u b) s).2 < 2 ^ 6 := by
    intro L
    induction L with
    | nil => intro _ s hs; exact hs
    | cons t L ih =>
      intro hk s hs
      rw [List.foldl_cons]
      refine ih (fun t ht => hk t (List.mem_cons_of_mem _ ht)) _ ?_
      have ht := hk t (List.mem_cons_self)
      unfold pt_st
      split
      · simp only
        split
        · exact Nat.or_lt_two_pow hs (Nat.pow_lt_pow_right (by omega) (by omega))
        · exact hs
      · exact hs
  intro L hk
  exact key L hk (0, 0) (by decide)
theorem s_fillCalls {n u : Nat} {kd : Nat → Nat} {t_kinds t_order c0 : Nat → Int32} {post : (Nat → Int32) → Prop} (hn : n < 7) (hk : ∀ t, t < n → t_kinds t = nI (kd t) ∧ kd t ≤ 2) (ho : pq_h (pt_sq n kd) t_order) (hu : u < 64) (h : ∀ c, (∀ j, (∀ b, b ≤ 18 → j ≠ b * 64 + u) → c j = c0 j) → (∀ b, b ≤ 18 → c (b * 64 + u) = nI (pt_nm n kd u b)) → post c) : w_X4_fillCalls t_kinds t_order c0 (nI n) (nI u) post := by
  unfold w_X4_fillCalls
  have hlen := pq_sqlen n kd
  have hmem : ∀ i t, t ∈ (pt_sq n kd).take i → t < n := fun i t ht => by
    obtain ⟨j, hj⟩ := List.mem_iff_getElem?.mp (List.mem_of_mem_take ht)
    exact pq_sqm hj
  have hF : ∀ i b, b ≤ 18 → i ≤ n → _ := fun i b hb hi => pr_F (n := n) (kd := kd) u b hb ((pt_sq n kd).take i) (fun t ht => (hk t (hmem i t ht)).2) (by rw [List.length_take]; omega) rfl
  have h64 : ∀ i b, (((pt_sq n kd).take i).foldl (pt_st kd u b) (0, 0)).2 < 64 := fun i b => pr_F64 hn _ (hmem i)
  have hll : ∀ i, ((pt_sq n kd).take i).length ≤ i := fun i => by rw [List.length_take]; omega
  refine ⟨n + 1, ?_⟩
  refine pl_inv (M := fun f i (z : Int32 × Int32 × (Nat → Int32)) => w_X4_fillCalls_L7 (nI u) t_kinds t_order (nI n) post _ f z.1 z.2.1 (nI i) z.2.2) (fun i z => z.1 = nI (((pt_sq n kd).take i).foldl (pt_st kd u 1000) (0, 0)).2 ∧ z.2.1 = nI (((pt_sq n kd).take i).foldl (pt_st kd u 1000) (0, 0)).1 ∧ (∀ b, b ≤ 18 → b < (((pt_sq n kd).take i).foldl (pt_st kd u 1000) (0, 0)).1 → z.2.2 (b * 64 + u) = nI (((pt_sq n kd).take i).foldl (pt_st kd u b) (0, 0)).2) ∧ (∀ j, (∀ b, b ≤ 18 → j ≠ b * 64 + u) → z.2.2 j = c0 j)) (fun f z hI => ?_) (fun f i z hi hI hM => ?_) (0, 0, c0) ⟨rfl, rfl, fun b h1 h2 => by simp at h2, fun j _ => rfl⟩
  · obtain ⟨i1, i2, i3, i4⟩ := hI
    rw [w_X4_fillCalls_L7]
    refine ⟨fun _ => ?_, fun q => absurd (pa_le_ (Nat.le_refl _) (by omega)) q⟩
    obtain ⟨-, -, f3⟩ := hF n 0 (by omega) (Nat.le_refl n)
    have := hll n
    rw [i1, i2, show (19 : Int32) = nI 19 from rfl]
    refine s_fillBreaths hu (by omega) (by omega) (fun c c1 c2 => h c (fun j hj => ?_) (fun b hb => ?_))
    · rw [c1 j (fun b _ _ h3 => hj b h3)]; exact i4 j hj
    · obtain ⟨f1, f2, f3⟩ := hF n b hb (Nat.le_refl n)
      have et : (pt_sq n kd).take n = pt_sq n kd := List.take_of_length_le (by omega)
      rw [et] at f1 f2 f3 i3 c1 c2
      unfold pt_nm
      by_cases e : b < ((pt_sq n kd).foldl (pt_st kd u 1000) (0, 0)).1
      · rw [c1 _ (fun b' h1 h2 h3 => by omega)]; exact i3 b hb e
      · rw [c2 b (by omega) (by omega) hb, f2 (by omega)]
  · obtain ⟨i1, i2, i3, i4⟩ := hI
    rw [w_X4_fillCalls_L7]
    refine ⟨fun q => absurd q (pa_nle hi (by omega)), fun _ => ⟨fun q => absurd q (pa_nle (a := 6) (by omega) (by omega)), fun _ => ⟨pa_vp (by omega) (by omega), ?_⟩⟩⟩
    have hget : (pt_sq n kd)[i]? = some ((pt_sq n kd)[i]'(by omega)) := List.getElem?_eq_getElem (by omega)
    generalize (pt_sq n kd)[i]'(by omega) = t at hget
    have ht := pq_sqm hget
    obtain ⟨k1, k2⟩ := hk t ht
    have hst : ∀ b, ((pt_sq n kd).take (i + 1)).foldl (pt_st kd u b) (0, 0) = pt_st kd u b (((pt_sq n kd).take i).foldl (pt_st kd u b) (0, 0)) t := fun b => pd_fold_s _ _ hget
    rw [pa_cl (by omega), ho i t hget, s_has hu (by omega), pa_b0, pa_s1]
    refine ⟨fun q => hM _ ?_, fun q => ⟨pa_vp (by omega) (by omega), ?_⟩⟩
    · have e : ∀ b, ((pt_sq n kd).take (i + 1)).foldl (pt_st kd u b) (0, 0) = ((pt_sq n kd).take i).foldl (pt_st kd u b) (0, 0) := fun b => by
        rw [hst, pt_st, if_neg (by rw [q]; decide)]
      simp only [e]
      exact ⟨i1, i2, i3, i4⟩
    · rw [Bool.not_eq_false] at q
      obtain ⟨-, -, f3⟩ := hF i 0 (by omega) (by omega)
      have hl := hll i
      rw [pa_cl (by omega), k1, s_words, pa_s1, i2, nI_add, pa_shl t (by omega), i1, pa_or]
      refine s_fillBreaths hu (by omega) (by omega) (fun c c1 c2 => hM (nI ((((pt_sq n kd).take i).foldl (pt_st kd u 1000) (0, 0)).2 ||| 2 ^ t), nI ((((pt_sq n kd).take i).foldl (pt_st kd u 1000) (0, 0)).1 + (kd t + 1)), c) ⟨?_, ?_, fun b hb hlt => ?_, fun j hj => ?_⟩)
      · rw [hst, pt_st, if_pos q]; simp only; rw [if_pos (by omega)]
      · rw [hst, pt_st, if_pos q]
      · obtain ⟨f1, f2, -⟩ := hF i b hb (by omega)
        rw [hst, pt_st, if_pos q] at hlt
        simp only at hlt
        have e2 : (((pt_sq n kd).take (i + 1)).foldl (pt_st kd u b) (0, 0)).2 = (((pt_sq n kd).take i).foldl (pt_st kd u b) (0, 0)).2 := by
          rw [hst, pt_st, if_pos q]; simp only; rw [f1, if_neg (by omega)]
        rw [e2]
        show c (b * 64 + u) = _
        by_cases e : b < (((pt_sq n kd).take i).foldl (pt_st kd u 1000) (0, 0)).1
        · rw [c1 _ (fun b' h1 h2 h3 => by omega)]; exact i3 b hb e
        · rw [c2 b (by omega) (by omega) hb, f2 (by omega)]
      · show c j = c0 j
        rw [c1 j (fun b _ _ h3 => hj b h3)]; exact i4 j hj
theorem s_build {n fo : Nat} {kd dg fi ft : Nat → Nat} {x_kinds x_digits x_causes x_effects t_kinds t_digits t_caseRow t_weights t_order t_calls : Nat → Int32} {t_things t_caseCount : Int32} {t_caseSet : Int64} {post : (Nat → Int32) → (Nat → Int32) → (Nat → Int32) → (Nat → Int32) → (Nat → Int32) → (Nat → Int32) → Int32 → Int32 → Int64 → Prop} (hn : n < 7) (h0 : 0 < n) (hfo : fo ≤ 4)
    (hk : ∀ t, t < n → x_kinds t = nI (kd t) ∧ kd t ≤ 2) (hd : ∀ t, t < n → x_digits t = nI (dg t) ∧ 1 ≤ dg t ∧ dg t ≤ 9) (hf : ∀ f, f < fo → x_causes f = nI (fi f) ∧ x_effects f = nI (ft f) ∧ fi f < 6 ∧ ft f < 6)
    (h : ∀ tk td row wts o calls cnt, (∀ t, t < n → tk t = nI (kd t)) → (∀ t, t < n → td t = nI (dg t)) → pd_T n fo fi ft row cnt → (∀ x, pc_ic n fo fi ft x = true → wts x = nI (pe_wt n dg x)) → (∀ b, b ≤ 18 → ∀ u, u < 2 ^ n → calls (b * 64 + u) = nI (pt_nm n kd u b)) → post tk td row wts o calls (nI n) cnt (pd_sN (pc_ic n fo fi ft) 64)) :
    w_X4_build x_kinds x_digits x_causes x_effects (nI n) (nI fo) t_kinds t_digits t_caseRow t_weights t_order t_calls t_things t_caseCount t_caseSet post := by
  unfold w_X4_build
  have h64 := pa_p2 hn
  refine ⟨n + 1, ?_⟩
  refine pl_inv (M := fun f i (z : (Nat → Int32) × (Nat → Int32)) => w_X4_build_L10 x_kinds x_digits x_causes x_effects (nI n) (nI fo) t_caseRow t_weights t_order t_calls (nI n) t_caseCount t_caseSet post _ f (nI i) z.1 z.2) (fun i z => (∀ t, t < i → z.1 t = nI (kd t)) ∧ (∀ t, t < i → z.2 t = nI (dg t))) (fun f z hI => ?_) (fun f i z hi hI hM => ?_) (t_kinds, t_digits) ⟨fun t ht => by omega, fun t ht => by omega⟩
  · obtain ⟨i1, i2⟩ := hI
    rw [w_X4_build_L10]
    refine ⟨fun _ => ?_, fun q => absurd (pa_le_ (Nat.le_refl _) (by omega)) q⟩
    refine s_findCases (dg := dg) hn h0 hfo hf (fun t ht => ⟨i2 t ht, (hd t ht).2⟩) (fun row wts cnt c1 c2 => ?_)
    refine s_orderThings (kd := kd) hn (fun t ht => ⟨i1 t ht, (hk t ht).2⟩) (fun o ho => ?_)
    refine ⟨2 ^ n + 1, ?_⟩
    refine pl_inv (M := fun f i (c : Nat → Int32) => w_X4_build_L65 x_kinds x_digits x_causes x_effects (nI n) (nI fo) z.1 z.2 row wts o (nI n) cnt (pd_sN (pc_ic n fo fi ft) 64) post _ f (nI i) c) (fun i c => ∀ b, b ≤ 18 → ∀ u, u < i → c (b * 64 + u) = nI (pt_nm n kd u b)) (fun f c hJ => ?_) (fun f i c hi hJ hM => ?_) t_calls (fun b _ u hu => by omega)
    · rw [w_X4_build_L65, s_sets hn]
      exact ⟨fun _ => h _ _ _ _ _ _ _ i1 i2 c1 c2 hJ, fun q => absurd (pa_le_ (Nat.le_refl _) (by omega)) q⟩
    · rw [w_X4_build_L65, s_sets hn]
      refine ⟨fun q => absurd q (pa_nle hi (by omega)), fun _ => ⟨fun q => absurd q (pa_nle (a := 64) (by omega) (by omega)), fun _ => ?_⟩⟩
      refine s_fillCalls (kd := kd) hn (fun t ht => ⟨i1 t ht, (hk t ht).2⟩) ho (by omega) (fun c' c1 c2 => ?_)
      rw [pa_s1]
      refine hM c' (fun b hb u hu => ?_)
      by_cases e : u = i
      · subst e; exact c2 b hb
      · rw [c1 _ (fun b' hb' => by omega)]; exact hJ b hb u (by omega)
  · obtain ⟨i1, i2⟩ := hI
    rw [w_X4_build_L10]
    refine ⟨fun q => absurd q (pa_nle hi (by omega)), fun _ => ⟨fun q => absurd q (pa_nle (a := 6) (by omega) (by omega)), fun _ => ⟨pa_vp (by omega) (by omega), pa_vp (by omega) (by omega), pa_vp (by omega) (by omega), pa_vp (by omega) (by omega), ?_⟩⟩⟩
    rw [pa_cl (by omega), pa_s1]
    refine hM (_, _) ⟨fun t ht => ?_, fun t ht => ?_⟩
    · show upd z.1 i _ t = _
      by_cases e : t = i
      · subst e; rw [pk_us]; exact (hk t hi).1
      · rw [pk_un e]; exact i1 t (by omega)
    · show upd z.2 i _ t = _
      by_cases e : t = i
      · subst e; rw [pk_us]; exact (hd t hi).1
      · rw [pk_un e]; exact i2 t (by omega)
