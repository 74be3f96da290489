-- ===== calls: which are named =====
theorem xq_use1 {T : Type} {t_ : (T → Prop) → Prop} {r_ : T → Prop} (v : T) (h1 : ∀ K : T → Prop, K v → t_ K) (h2 : r_ v) : xq_j1 t_ r_ := h1 r_ h2
theorem xq_use0 {t_ : Prop → Prop} {r_ : Prop} (h1 : ∀ K : Prop, K → t_ K) (h2 : r_) : xq_j0 t_ r_ := h1 r_ h2
theorem pa_nle {a b : Nat} (h : b < a) (ha : a < 2147483648) : ¬ nI a ≤ nI b := by rw [pa_leN ha (by omega)]; omega
theorem pa_le_ {a b : Nat} (h : a ≤ b) (hb : b < 2147483648) : nI a ≤ nI b := by rw [pa_leN (by omega) hb]; exact h
theorem pa_b_eq (a b : Bool) : pa_b a = pa_b b ↔ a = b := by cases a <;> cases b <;> decide
def pt_st (kd : Nat → Nat) (u b : Nat) (s : Nat × Nat) (t : Nat) : Nat × Nat := if u.testBit t then (s.1 + (kd t + 1), if s.1 + (kd t + 1) ≤ b then s.2 ||| 2 ^ t else s.2) else s
def pt_in (kd : Nat → Nat) (u b p : Nat) (s : Nat × Nat) (t : Nat) : Nat × Nat := if (kd t == 2) = (p == 0) then pt_st kd u b s t else s
def pt_sq (n : Nat) (kd : Nat → Nat) : List Nat := (List.range n).filter (fun t => kd t == 2) ++ (List.range n).filter (fun t => !(kd t == 2))
def pt_nm (n : Nat) (kd : Nat → Nat) (u b : Nat) : Nat := ((pt_sq n kd).foldl (pt_st kd u b) (0, 0)).2
theorem pt_eq (n : Nat) (kd : Nat → Nat) (u b : Nat) (s : Nat × Nat) : (pt_sq n kd).foldl (pt_st kd u b) s = (List.range n).foldl (pt_in kd u b 1) ((List.range n).foldl (pt_in kd u b 0) s) := by
  unfold pt_sq
  rw [List.foldl_append, List.foldl_filter, List.foldl_filter]
  have e0 : (fun (x : Nat × Nat) (y : Nat) => if (kd y == 2) = true then pt_st kd u b x y else x) = pt_in kd u b 0 := by
    funext x y; unfold pt_in; simp
  have e1 : (fun (x : Nat × Nat) (y : Nat) => if (!(kd y == 2)) = true then pt_st kd u b x y else x) = pt_in kd u b 1 := by
    funext x y; unfold pt_in; cases h : (kd y == 2) <;> simp
  rw [e0, e1]
theorem pt_bd {kd : Nat → Nat} {u b p n : Nat} (hk : ∀ t, t < n → kd t ≤ 2) (s : Nat × Nat) : ∀ i, i ≤ n → ((List.range i).foldl (pt_in kd u b p) s).1 ≤ s.1 + 3 * i := by
  intro i
  induction i with
  | zero => intro _; simp
  | succ i ih =>
    intro hi
    rw [List.range_succ, List.foldl_append]
    have h1 := ih (by omega)
    have h2 := hk i (by omega)
    generalize (List.range i).foldl (pt_in kd u b p) s = z at h1 ⊢
    simp only [List.foldl_cons, List.foldl_nil, pt_in, pt_st]
    split
    · split <;> simp <;> omega
    · omega
theorem pt_step (kd : Nat → Nat) (u b p i : Nat) (s : Nat × Nat) : (List.range (i + 1)).foldl (pt_in kd u b p) s = pt_in kd u b p ((List.range i).foldl (pt_in kd u b p) s) i := by
  rw [List.range_succ, List.foldl_append]; rfl
theorem s_named_in {n x l b p : Nat} {kd : Nat → Nat} {n_kindOf : Nat → Int32} {post : Int32 → Prop} {kk : Int32 → Int32 → Int32 → Prop} (hn : n < 7) (hk : ∀ t, t < n → n_kindOf t = nI (kd t) ∧ kd t ≤ 2) (hl : l < 64) (hx : x < 64) (hb : b ≤ 18) (hp : p < 2) (s : Nat × Nat) (hs : s.1 ≤ 18)
    (h : kk (nI ((List.range n).foldl (pt_in kd (pa_un l x) b p) s).1) (nI ((List.range n).foldl (pt_in kd (pa_un l x) b p) s).2) (pa_b (decide (((List.range n).foldl (pt_in kd (pa_un l x) b p) s).1 ≤ b)))) :
    ∀ k i, i + k = n → w_X6_namedBy_L21 (nI x) (nI l) (nI b) (nI p) (nI n) n_kindOf post kk (k + 1) (nI ((List.range i).foldl (pt_in kd (pa_un l x) b p) s).1) (nI ((List.range i).foldl (pt_in kd (pa_un l x) b p) s).2) (pa_b (decide (((List.range i).foldl (pt_in kd (pa_un l x) b p) s).1 ≤ b))) (nI i) := by
  intro k
  induction k with
  | zero =>
    intro i hi
    have e : i = n := by omega
    subst e
    rw [w_X6_namedBy_L21]
    exact ⟨fun _ => h, fun q => absurd (pa_le_ (Nat.le_refl _) (by omega)) q⟩
  | succ k ih =>
    intro i hi
    have hin : i < n := by omega
    have hi6 : i < 6 := by omega
    have h2 := ih (i + 1) (by omega)
    rw [pt_step] at h2
    have hbd := pt_bd (u := pa_un l x) (b := b) (p := p) (fun t ht => (hk t ht).2) s i (by omega)
    generalize (List.range i).foldl (pt_in kd (pa_un l x) b p) s = z at h2 hbd ⊢
    have hki := hk i hin
    rw [w_X6_namedBy_L21]
    refine ⟨fun q => absurd q (pa_nle hin (by omega)), fun _ => ?_⟩
    have hu : (pa_un l x).testBit i = (l.testBit i && !x.testBit i) := pa_unb l hl x hx i hi6
    have ecl : (nI i).toNatClampNeg = i := pa_cl (by omega)
    rw [s_isIn hl hi6]
    generalize hnow : (l.testBit i && !x.testBit i && decide ((kd i == 2) = (p == 0))) = now
    refine xq_use1 (pa_b now) (fun K hK => ?_) ?_
    · refine ⟨fun q => ?_, fun q => ?_⟩
      · rw [pa_b0] at q
        rw [q] at hnow; simp at hnow; subst hnow; exact hK
      · rw [pa_bn] at q
        rw [s_isIn hx hi6]
        refine ⟨fun q2 => ?_, fun q2 => ?_⟩
        · rw [pa_bn] at q2
          rw [q2] at hnow; simp at hnow; subst hnow; exact hK
        · rw [pa_b0] at q2
          refine ⟨pa_vp hi6 (by omega), ?_⟩
          refine xq_use1 (pa_b (kd i == 2)) (fun K2 hK2 => (pa_1n (by rw [ecl, hki.1, show (2 : Int32) = nI 2 from rfl, pa_nIinj (by omega) (by omega)]; simp)).mpr hK2) ?_
          refine xq_use1 (pa_b (p == 0)) (fun K3 hK3 => (pa_1n (by rw [show (0 : Int32) = nI 0 from rfl, pa_nIinj (by omega) (by omega)]; simp)).mpr hK3) ?_
          refine (pa_1n ?_).mpr hK
          rw [pa_b_eq, ← hnow, q, q2]; simp
    · refine xq_use1 (nI (if now then kd i + 1 else 0)) (fun K hK => ?_) ?_
      · refine ⟨fun q => ?_, fun q => ?_⟩
        · rw [pa_b0] at q; subst q; exact hK
        · rw [pa_bn] at q; subst q
          refine ⟨pa_vp hi6 (by omega), ?_⟩
          rw [ecl, hki.1, pa_s1]; exact hK
      · have ew : nI z.1 + nI (if now then kd i + 1 else 0) = nI (z.1 + (if now then kd i + 1 else 0)) := nI_add _ _
        rw [ew]
        have hw : (if now then kd i + 1 else 0) ≤ 3 := by split <;> omega
        refine xq_use1 (pa_b (decide (z.1 + (if now then kd i + 1 else 0) ≤ b))) (fun K hK => ?_) ?_
        · refine ⟨fun q => ?_, fun q => ⟨fun q2 => ?_, fun q2 => ?_⟩⟩
          · rw [pa_b0] at q
            have : decide (z.1 + (if now then kd i + 1 else 0) ≤ b) = false := by simp at q ⊢; omega
            rw [this] at hK; exact hK
          · rw [pa_ltN (by omega) (by omega)] at q2
            have : decide (z.1 + (if now then kd i + 1 else 0) ≤ b) = false := by simp; omega
            rw [this] at hK; exact hK
          · rw [pa_ltN (by omega) (by omega)] at q2
            have : decide (z.1 + (if now then kd i + 1 else 0) ≤ b) = true := by simp; omega
            rw [this] at hK; exact hK
        · have e0 : nI z.2 ||| (0 : Int32) = nI z.2 := by rw [pa_zero, pa_or, Nat.or_zero]
          have e1 : nI z.2 ||| ((1 : Int32) <<< (nI i &&& 31)) = nI (z.2 ||| 2 ^ i) := by rw [pa_shl i (by omega), pa_or]
          rw [e0, e1, pa_s1]
          refine ⟨fun q => ?_, fun q => ⟨fun q2 => ?_, fun q2 => ?_⟩⟩
          · rw [pa_b0] at q; subst q
            have : pt_in kd (pa_un l x) b p z i = z := by
              unfold pt_in pt_st
              rw [hu]
              split
              · rename_i hh
                have : (l.testBit i && !x.testBit i) = false := by
                  simp only [hh, decide_true, Bool.and_true] at hnow; exact hnow
                rw [this]; simp
              · rfl
            rw [this] at h2
            simpa using h2
          · rw [pa_bn] at q; subst q
            rw [pa_b0] at q2
            have q2 : ¬ (z.1 + (kd i + 1) ≤ b) := by simpa using q2
            have hh : (kd i == 2) = (p == 0) := by simp only [Bool.and_eq_true, decide_eq_true_eq] at hnow; exact hnow.2
            have hu2 : (pa_un l x).testBit i = true := by rw [hu]; simp only [Bool.and_eq_true, decide_eq_true_eq] at hnow ⊢; exact hnow.1
            have : pt_in kd (pa_un l x) b p z i = (z.1 + (kd i + 1), z.2) := by
              unfold pt_in pt_st
              rw [if_pos hh, hu2, if_pos rfl, if_neg q2]
            rw [this] at h2
            simpa using h2
          · rw [pa_bn] at q; subst q
            rw [pa_bn] at q2
            have q2 : z.1 + (kd i + 1) ≤ b := by simpa using q2
            have hh : (kd i == 2) = (p == 0) := by simp only [Bool.and_eq_true, decide_eq_true_eq] at hnow; exact hnow.2
            have hu2 : (pa_un l x).testBit i = true := by rw [hu]; simp only [Bool.and_eq_true, decide_eq_true_eq] at hnow ⊢; exact hnow.1
            have : pt_in kd (pa_un l x) b p z i = (z.1 + (kd i + 1), z.2 ||| 2 ^ i) := by
              unfold pt_in pt_st
              rw [if_pos hh, hu2, if_pos rfl, if_pos q2]
            rw [this] at h2
            simpa using h2
theorem s_named {n x l b : Nat} {kd : Nat → Nat} {n_kindOf : Nat → Int32} {post : Int32 → Prop} (hn : n < 7) (hk : ∀ t, t < n → n_kindOf t = nI (kd t) ∧ kd t ≤ 2) (hl : l < 64) (hx : x < 64) (hb : b ≤ 18) (h : post (nI (pt_nm n kd (pa_un l x) b))) : w_X6_namedBy (nI n) n_kindOf (nI x) (nI l) (nI b) post := by
  unfold w_X6_namedBy
  unfold pt_nm at h
  rw [pt_eq] at h
  refine ⟨3, ?_⟩
  rw [w_X6_namedBy_L12]
  refine ⟨fun q => absurd q (by decide), fun _ => ⟨n + 1, ?_⟩⟩
  have hb0 := pt_bd (u := pa_un l x) (b := b) (p := 0) (fun t ht => (hk t ht).2) (0, 0) n (Nat.le_refl n)
  refine s_named_in (p := 0) hn hk hl hx hb (by omega) (0, 0) (by decide) ?_ n 0 (by omega)
  rw [w_X6_namedBy_L12]
  refine ⟨fun q => absurd q (by decide), fun _ => ⟨n + 1, ?_⟩⟩
  refine s_named_in (p := 1) hn hk hl hx hb (by omega) _ (by simp at hb0; omega) ?_ n 0 (by omega)
  rw [w_X6_namedBy_L12]
  exact ⟨fun _ => h, fun q => absurd (by decide) q⟩
theorem s_calledIn {n x h b l : Nat} {kd : Nat → Nat} {n_kindOf n_listOf n_breathOf : Nat → Int32} {post : Int32 → Prop} (hn : n < 7) (hk : ∀ t, t < n → n_kindOf t = nI (kd t) ∧ kd t ≤ 2) (hh : h < 6) (hl : n_listOf h = nI l) (hl6 : l < 64) (hb : n_breathOf h = nI b) (hb18 : b ≤ 18) (hx : x < 64) (hp : post (nI (pt_nm n kd (pa_un l x) b))) : w_X6_calledIn (nI n) n_kindOf n_listOf n_breathOf (nI x) (nI h) post := by
  unfold w_X6_calledIn
  rw [pa_cl (by omega), hl, hb]
  exact ⟨pa_vp hh (by omega), pa_vp hh (by omega), s_named hn hk hl6 hx hb18 hp⟩
-- the class's own table of calls
theorem s_callIn {n x l b : Nat} {kd : Nat → Nat} {t_calls : Nat → Int32} {post : Int32 → Prop} (hn : n < 7) (hc : ∀ b, b ≤ 18 → ∀ u, u < 2 ^ n → t_calls (b * 64 + u) = nI (pt_nm n kd u b)) (hl : l < 2 ^ n) (hx : x < 64) (hb : b ≤ 18) (h : post (nI (pt_nm n kd (pa_un l x) b))) : w_X4_callIn t_calls (nI x) (nI l) (nI b) post := by
  unfold w_X4_callIn
  have h64 := pa_p2 hn
  rw [s_isBreath, pa_nI _ (by omega)]
  have e : pa_b (decide ((0 : Int) ≤ (b : Int) ∧ (b : Int) ≤ 18)) = pa_b true := by rw [decide_eq_true (by omega)]
  rw [e]
  have eu : pa_un l x < 2 ^ n := pa_unlt hl
  refine ⟨fun q => absurd q (by decide), fun _ => ?_⟩
  rw [pa_un32 l (by omega) x hx, show (64 : Int32) = nI 64 from rfl, pk_mul, nI_add, pa_cl (by omega), hc b hb _ eu]
  exact ⟨pa_vp (by omega) (by omega), h⟩
theorem s_callOfHour {n x h b l : Nat} {kd : Nat → Nat} {t_calls u_lists u_breaths : Nat → Int32} {post : Int32 → Prop} (hn : n < 7) (hc : ∀ b, b ≤ 18 → ∀ u, u < 2 ^ n → t_calls (b * 64 + u) = nI (pt_nm n kd u b)) (hh : h < 6) (hl : u_lists h = nI l) (hl6 : l < 2 ^ n) (hb : u_breaths h = nI b) (hb18 : b ≤ 18) (hx : x < 64) (hp : post (nI (pt_nm n kd (pa_un l x) b))) : w_X5_callOfHour t_calls u_lists u_breaths (nI x) (nI h) post := by
  unfold w_X5_callOfHour
  rw [pa_cl (by omega), hl, hb]
  exact ⟨pa_vp hh (by omega), pa_vp hh (by omega), s_callIn hn hc hl6 hx hb18 hp⟩
