-- ===== the class's town is built =====
theorem s_allFollows {x fo : Nat} {fi ft : Nat → Nat} {x_causes x_effects : Nat → Int32} {post : Int32 → Prop} (hx : x < 64) (hfo : fo ≤ 4) (hf : ∀ f, f < fo → x_causes f = nI (fi f) ∧ x_effects f = nI (ft f) ∧ fi f < 6 ∧ ft f < 6) (h : post (pa_b ((List.range fo).all (pc_fo fo fi ft x)))) : w_X4_allFollows x_causes x_effects (nI fo) (nI x) post := by
  unfold w_X4_allFollows
  refine ⟨fo + 1, ?_⟩
  refine pl_inv (M := fun f i (_ : Unit) => w_X4_allFollows_L2 (nI x) x_causes x_effects (nI fo) post _ f (nI i)) (fun i _ => (List.range i).all (pc_fo fo fi ft x) = true) (fun f z hI => ?_) (fun f i z hi hI hM => ?_) () rfl
  · rw [w_X4_allFollows_L2]
    refine ⟨fun _ => ?_, fun q => absurd (pa_le_ (Nat.le_refl _) (by omega)) q⟩
    rw [hI] at h; exact h
  · rw [w_X4_allFollows_L2]
    obtain ⟨f1, f2, f3, f4⟩ := hf i hi
    refine ⟨fun q => absurd q (pa_nle hi (by omega)), fun _ => ⟨fun q => absurd q (pa_nle (a := 4) (by omega) (by omega)), fun _ => ⟨pa_vp (by omega) (by omega), ?_⟩⟩⟩
    rw [pa_cl (by omega), f1, s_has hx f3, pa_b0, pa_s1]
    have hstep : pc_fo fo fi ft x i = true → w_X4_allFollows_L2 (nI x) x_causes x_effects (nI fo) post (post 1) f (nI (i + 1)) := fun q => hM () (by rw [pc_all_s, hI, q]; rfl)
    refine ⟨fun q => hstep (by unfold pc_fo; rw [q]; rfl), fun q => ⟨pa_vp (by omega) (by omega), ?_⟩⟩
    rw [f2, s_has hx f4, pa_b0]
    refine ⟨fun q2 => hstep (by unfold pc_fo; rw [Bool.not_eq_false] at q2; rw [q2, Bool.or_true]), fun q2 => ?_⟩
    rw [Bool.not_eq_false] at q
    have : (List.range fo).all (pc_fo fo fi ft x) = false := pc_all_f (i := i + 1) (by omega) (by rw [pc_all_s]; unfold pc_fo; rw [q, q2]; simp)
    rw [this] at h; exact h
theorem pq_fs (P : Nat → Bool) (i : Nat) : (List.range (i + 1)).filter P = (List.range i).filter P ++ (if P i = true then [i] else []) := by
  rw [List.range_succ, List.filter_append]
  congr 1
  by_cases h : P i = true
  · rw [if_pos h]; simp [h]
  · rw [if_neg h]; simp [h]
theorem pq_fx (P : Nat → Bool) {i N : Nat} (h : i ≤ N) : ∃ r, (List.range N).filter P = (List.range i).filter P ++ r := by
  induction N with
  | zero => have : i = 0 := by omega
            subst this; exact ⟨[], by simp⟩
  | succ N ih =>
    by_cases e : i = N + 1
    · subst e; exact ⟨[], by simp⟩
    · obtain ⟨r, hr⟩ := ih (by omega)
      exact ⟨r ++ (if P N = true then [N] else []), by rw [pq_fs, hr, List.append_assoc]⟩
theorem pq_fl (P : Nat → Bool) (i : Nat) : ((List.range i).filter P).length ≤ i := by
  have := List.length_filter_le P (List.range i)
  rwa [List.length_range] at this
theorem pq_f0 (P : Nat → Bool) {i N : Nat} (h : i ≤ N) (hp : ∀ x, i ≤ x → P x = false) : (List.range N).filter P = (List.range i).filter P := by
  induction N with
  | zero => have : i = 0 := by omega
            subst this; rfl
  | succ N ih =>
    by_cases e : i = N + 1
    · subst e; rfl
    · rw [pq_fs, ih (by omega), hp N (by omega)]; simp
/-- a row that holds a list -/
def pq_h (L : List Nat) (f : Nat → Int32) : Prop := ∀ c x, L[c]? = some x → f c = nI x
theorem pq_hs {L : List Nat} {f : Nat → Int32} (h : pq_h L f) (x : Nat) : pq_h (L ++ [x]) (upd f L.length (nI x)) := by
  intro c y hy
  by_cases e : c = L.length
  · subst e
    rw [List.getElem?_append_right (Nat.le_refl _)] at hy
    simp at hy
    rw [pk_us, hy]
  · rw [pk_un e]
    have hc := (List.getElem?_eq_some_iff.mp hy).1
    rw [List.length_append] at hc
    simp at hc
    rw [List.getElem?_append_left (by omega)] at hy
    exact h c y hy
theorem s_findCases {n fo : Nat} {fi ft dg : Nat → Nat} {x_causes x_effects t_digits t_caseRow t_weights : Nat → Int32} {t_caseCount : Int32} {t_caseSet : Int64} {post : (Nat → Int32) → (Nat → Int32) → Int32 → Int64 → Prop} (hn : n < 7) (h0 : 0 < n) (hfo : fo ≤ 4) (hf : ∀ f, f < fo → x_causes f = nI (fi f) ∧ x_effects f = nI (ft f) ∧ fi f < 6 ∧ ft f < 6) (hd : ∀ t, t < n → t_digits t = nI (dg t) ∧ 1 ≤ dg t ∧ dg t ≤ 9)
    (h : ∀ row wts cnt, pd_T n fo fi ft row cnt → (∀ x, pc_ic n fo fi ft x = true → wts x = nI (pe_wt n dg x)) → post row wts cnt (pd_sN (pc_ic n fo fi ft) 64)) : w_X4_findCases x_causes x_effects (nI fo) t_digits t_caseRow t_weights (nI n) t_caseCount t_caseSet post := by
  unfold w_X4_findCases
  have h64 := pa_p2 hn
  refine ⟨2 ^ n + 1, ?_⟩
  refine pl_inv (M := fun f i (z : (Nat → Int32) × (Nat → Int32) × Int32 × Int64) => w_X4_findCases_L12 x_causes x_effects (nI fo) t_digits (nI n) post _ f (nI i) z.1 z.2.1 z.2.2.1 z.2.2.2) (fun i z => pq_h ((List.range i).filter (pc_ic n fo fi ft)) z.1 ∧ (∀ x, x < i → pc_ic n fo fi ft x = true → z.2.1 x = nI (pe_wt n dg x)) ∧ z.2.2.1 = nI ((List.range i).filter (pc_ic n fo fi ft)).length ∧ z.2.2.2 = pd_sN (pc_ic n fo fi ft) i) (fun f z hI => ?_) (fun f i z hi hI hM => ?_) (t_caseRow, t_weights, 0, 0) ⟨fun c x hx => by simp at hx, fun x hx => by omega, rfl, rfl⟩
  · obtain ⟨i1, i2, i3, i4⟩ := hI
    rw [w_X4_findCases_L12, s_sets hn]
    refine ⟨fun _ => ?_, fun q => absurd (pa_le_ (Nat.le_refl _) (by omega)) q⟩
    have hP : ∀ x, 2 ^ n ≤ x → pc_ic n fo fi ft x = false := fun x hx => by
      cases hc : pc_ic n fo fi ft x with
      | false => rfl
      | true => have := (pc_lt hc).1; omega
    have e1 : pd_cl n fo fi ft = (List.range (2 ^ n)).filter (pc_ic n fo fi ft) := pq_f0 _ h64 hP
    have e2 : pd_sN (pc_ic n fo fi ft) 64 = pd_sN (pc_ic n fo fi ft) (2 ^ n) := pd_sN_ext h64 hP
    rw [i4, ← e2]
    exact h _ _ _ ⟨by rw [i3, e1], by rw [e1]; exact i1⟩ (fun x hx => i2 x (pc_lt hx).1 hx)
  · obtain ⟨i1, i2, i3, i4⟩ := hI
    rw [w_X4_findCases_L12, s_sets hn]
    refine ⟨fun q => absurd q (pa_nle hi (by omega)), fun _ => ⟨fun q => absurd q (pa_nle (a := 64) (by omega) (by omega)), fun _ => ?_⟩⟩
    refine s_allFollows (by omega) hfo hf ?_
    have eP : pc_ic n fo fi ft i = (List.range fo).all (pc_fo fo fi ft i) := by
      unfold pc_ic; rw [decide_eq_true ⟨h0, hi⟩, Bool.true_and]
    rw [← eP, pa_b0]
    have hlen := pq_fl (pc_ic n fo fi ft) i
    refine ⟨fun q => ?_, fun q => ?_⟩
    · rw [pa_s1]
      refine hM z ⟨?_, fun x hx hp => i2 x ?_ hp, ?_, ?_⟩
      · rw [pq_fs, q]; simpa using i1
      · by_cases e : x = i
        · subst e; rw [q] at hp; cases hp
        · omega
      · rw [pq_fs, q, i3]; simp
      · rw [i4]; unfold pd_sN; rw [pd_range_s, q]; simp
    · rw [Bool.not_eq_false] at q
      rw [i3]
      refine ⟨pa_vp (by omega) (by omega), s_X4_weigh hn hd (by omega) ⟨pa_vp (by omega) (by omega), ?_⟩⟩
      rw [pa_cl (by omega), pa_cl (by omega), pa_s1, pa_s1]
      refine hM (_, _, _, _) ⟨?_, fun x hx hp => ?_, ?_, ?_⟩
      · rw [pq_fs, if_pos q]; exact pq_hs i1 i
      · by_cases e : x = i
        · subst e; exact pk_us
        · show upd z.2.1 i _ x = _
          rw [pk_un e]; exact i2 x (by omega) hp
      · rw [pq_fs, if_pos q, List.length_append]; rfl
      · rw [i4]; unfold pd_sN; rw [pd_range_s, if_pos q]; rfl
theorem s_ordL {n p : Nat} {kd : Nat → Nat} {pre : List Nat} {t_kinds o0 : Nat → Int32} {post : (Nat → Int32) → Prop} {kk : Int32 → (Nat → Int32) → Prop} (hn : n < 7) (hk : ∀ t, t < n → t_kinds t = nI (kd t) ∧ kd t ≤ 2) (hp : p < 2) (hpre : pq_h pre o0) (hlen : (pre ++ (List.range n).filter (fun t => (kd t == 2) == (p == 0))).length ≤ 6)
    (h : ∀ o, pq_h (pre ++ (List.range n).filter (fun t => (kd t == 2) == (p == 0))) o → kk (nI (pre ++ (List.range n).filter (fun t => (kd t == 2) == (p == 0))).length) o) : ∃ e, w_X4_orderThings_L11 (nI p) t_kinds (nI n) post kk e (nI pre.length) (0 : Int32) o0 := by
  refine ⟨n + 1, ?_⟩
  refine pl_inv (M := fun f i (z : Int32 × (Nat → Int32)) => w_X4_orderThings_L11 (nI p) t_kinds (nI n) post kk f z.1 (nI i) z.2) (fun i z => z.1 = nI (pre ++ (List.range i).filter (fun t => (kd t == 2) == (p == 0))).length ∧ pq_h (pre ++ (List.range i).filter (fun t => (kd t == 2) == (p == 0))) z.2) (fun f z hI => ?_) (fun f i z hi hI hM => ?_) (nI pre.length, o0) ⟨by rw [List.range_zero, List.filter_nil, List.append_nil], by simpa using hpre⟩
  · obtain ⟨i1, i2⟩ := hI
    rw [w_X4_orderThings_L11, i1]
    exact ⟨fun _ => h _ i2, fun q => absurd (pa_le_ (Nat.le_refl _) (by omega)) q⟩
  · obtain ⟨i1, i2⟩ := hI
    obtain ⟨k1, k2⟩ := hk i hi
    rw [w_X4_orderThings_L11, i1]
    obtain ⟨r, hr⟩ := pq_fx (fun t => (kd t == 2) == (p == 0)) (Nat.le_of_lt hi)
    have hl2 : (pre ++ (List.range i).filter (fun t => (kd t == 2) == (p == 0))).length + r.length ≤ 6 := by
      rw [hr, ← List.append_assoc, List.length_append] at hlen; exact hlen
    refine ⟨fun q => absurd q (pa_nle hi (by omega)), fun _ => ⟨fun q => ?_, fun q => ?_⟩⟩
    · rw [show (6 : Int32) = nI 6 from rfl, pa_leN (by omega) (by omega)] at q
      have : r = [] := List.length_eq_zero_iff.mp (by omega)
      subst this
      rw [List.append_nil] at hr
      rw [hr] at h
      exact h _ i2
    · rw [show (6 : Int32) = nI 6 from rfl, pa_leN (by omega) (by omega)] at q
      refine ⟨pa_vp (by omega) (by omega), ?_⟩
      rw [pa_cl (by omega), k1, show (2 : Int32) = nI 2 from rfl, pn_lit (by omega) (by omega)]
      refine xq_use1 (pa_b (kd i == 2)) (fun K hK => ⟨fun w => ?_, fun w => ?_⟩) (xq_use1 (pa_b (p == 0)) (fun K hK => ⟨fun w => ?_, fun w => ?_⟩) ?_)
      · rw [beq_eq_false_iff_ne.mpr w] at hK; exact hK
      · rw [beq_iff_eq.mpr w] at hK; exact hK
      · rw [pa_zero, pn_lit (by omega) (by omega)] at w; rw [beq_eq_false_iff_ne.mpr w] at hK; exact hK
      · rw [pa_zero, pn_lit (by omega) (by omega)] at w; rw [beq_iff_eq.mpr w] at hK; exact hK
      · rw [pa_b_eq, pa_s1]
        refine ⟨fun w => ?_, fun w => ⟨pa_vp (by omega) (by omega), ?_⟩⟩
        · have e : (List.range (i + 1)).filter (fun t => (kd t == 2) == (p == 0)) = (List.range i).filter (fun t => (kd t == 2) == (p == 0)) := by
            rw [pq_fs, if_neg (fun w2 => w (beq_iff_eq.mp w2)), List.append_nil]
          exact hM (nI (pre ++ (List.range i).filter (fun t => (kd t == 2) == (p == 0))).length, z.2) ⟨by rw [e], by rw [e]; exact i2⟩
        · have e : (List.range (i + 1)).filter (fun t => (kd t == 2) == (p == 0)) = (List.range i).filter (fun t => (kd t == 2) == (p == 0)) ++ [i] := by
            rw [pq_fs, if_pos (beq_iff_eq.mpr w)]
          rw [pa_cl (by omega), pa_s1]
          refine hM (nI ((pre ++ (List.range i).filter (fun t => (kd t == 2) == (p == 0))).length + 1), _) ⟨by rw [e, ← List.append_assoc, List.length_append (bs := [i])]; rfl, by rw [e, ← List.append_assoc]; exact pq_hs i2 i⟩
theorem pq_sqlen (n : Nat) (kd : Nat → Nat) : (pt_sq n kd).length = n := by
  unfold pt_sq
  rw [List.length_append]
  induction n with
  | zero => rfl
  | succ n ih =>
    rw [pq_fs, pq_fs, List.length_append, List.length_append]
    cases hh : (kd n == 2) <;> simp <;> omega
theorem pq_sqm {n : Nat} {kd : Nat → Nat} {i t : Nat} (h : (pt_sq n kd)[i]? = some t) : t < n := by
  have h1 := List.mem_of_getElem? h
  unfold pt_sq at h1
  rw [List.mem_append, List.mem_filter, List.mem_filter, List.mem_range] at h1
  rcases h1 with h | h
  · exact h.1
  · exact h.1
theorem s_orderThings {n : Nat} {kd : Nat → Nat} {t_kinds t_order : Nat → Int32} {post : (Nat → Int32) → Prop} (hn : n < 7) (hk : ∀ t, t < n → t_kinds t = nI (kd t) ∧ kd t ≤ 2) (h : ∀ o, pq_h (pt_sq n kd) o → post o) : w_X4_orderThings t_kinds t_order (nI n) post := by
  have hl := pq_sqlen n kd
  unfold pt_sq at hl
  have e0 : (fun t => (kd t == 2) == (0 == 0)) = (fun t => kd t == 2) := by
    funext t; cases (kd t == 2) <;> rfl
  have e1 : (fun t => (kd t == 2) == (1 == 0)) = (fun t => !(kd t == 2)) := by
    funext t; cases (kd t == 2) <;> rfl
  unfold w_X4_orderThings
  refine ⟨3, ?_⟩
  rw [w_X4_orderThings_L4]
  refine ⟨fun q => absurd q (by decide), fun _ => ?_⟩
  refine s_ordL (p := 0) (pre := []) hn hk (by omega) (fun c x hx => by simp at hx) (by rw [e0, List.nil_append]; have := pq_fl (fun t => kd t == 2) n; omega) (fun o ho => ?_)
  rw [e0, List.nil_append] at ho ⊢
  rw [w_X4_orderThings_L4]
  refine ⟨fun q => absurd q (by decide), fun _ => ?_⟩
  refine s_ordL (p := 1) (pre := (List.range n).filter (fun t => kd t == 2)) hn hk (by omega) ho (by rw [e1]; omega) (fun o2 ho2 => ?_)
  rw [e1] at ho2
  rw [w_X4_orderThings_L4]
  exact ⟨fun _ => h _ ho2, fun q => absurd (by decide) q⟩
