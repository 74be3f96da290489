-- ===== the text: the reference's reader =====
def pn_co (c : Nat → Int32) (N q : Nat) : Int32 := if q < N then c q else -9
theorem pn_add0 (x : Int32) : x + (0 : Int32) = x := by
  apply Int32.toBitVec_inj.mp; simp
theorem s_codeAt {A p N : Nat} {n_sheet : Nat → Int32} {post : Int32 → Prop} (hA : A + N ≤ 240) (hp : p ≤ N) (h : post (pn_co (fun p => n_sheet (A + p)) N p)) : w_X6_codeAt (nI p) n_sheet (nI A) (nI N) post := by
  unfold w_X6_codeAt
  unfold pn_co at h
  rw [pa_leN (by omega) (by omega), nI_add, pa_cl (by omega)]
  refine ⟨fun q => ?_, fun q => ⟨pa_vp (by omega) (by omega), ?_⟩⟩
  · rw [if_neg (by omega)] at h; exact h
  · rw [if_pos (by omega)] at h; exact h
theorem s_figure {A p N : Nat} {lo hi : Int32} {n_sheet : Nat → Int32} {post : Int32 → Int32 → Prop} (hA : A + N ≤ 240) (hp : p ≤ N)
    (h1 : lo.toInt ≤ (pn_co (fun p => n_sheet (A + p)) N p - 48).toInt ∧ (pn_co (fun p => n_sheet (A + p)) N p - 48).toInt ≤ hi.toInt → post (pn_co (fun p => n_sheet (A + p)) N p - 48) (nI (p + 1)))
    (h0 : ¬ (lo.toInt ≤ (pn_co (fun p => n_sheet (A + p)) N p - 48).toInt ∧ (pn_co (fun p => n_sheet (A + p)) N p - 48).toInt ≤ hi.toInt) → post (-9) (nI p)) : w_X6_figure (nI p) n_sheet (nI A) (nI N) lo hi post := by
  unfold w_X6_figure
  refine s_codeAt hA hp ?_
  rw [s_in, pa_i64, pa_i64, pa_i64, pa_b0]
  by_cases hh : lo.toInt ≤ (pn_co (fun p => n_sheet (A + p)) N p - 48).toInt ∧ (pn_co (fun p => n_sheet (A + p)) N p - 48).toInt ≤ hi.toInt
  · rw [decide_eq_true hh]
    refine xq_use1 1 (fun K hK => ⟨fun q => absurd q (by decide), fun _ => hK⟩) ⟨fun q => absurd q (by decide), fun _ => ?_⟩
    rw [pa_s1]; exact h1 hh
  · rw [decide_eq_false hh]
    refine xq_use1 0 (fun K hK => ⟨fun _ => hK, fun q => absurd rfl q⟩) ⟨fun _ => ?_, fun q => absurd rfl q⟩
    rw [pn_add0]; exact h0 hh
theorem pn_m9 : ((-9 : Int32) - 48).toInt = -57 := by decide
theorem pn_lst {c : Nat → Int32} {N q : Nat} (h : (0 : Int) ≤ (pn_co c N q - 48).toInt) : q < N := by
  unfold pn_co at h
  split at h
  · assumption
  · rw [pn_m9] at h; omega
theorem pn_cot {c : Nat → Int32} {N q : Nat} (h : q < N) : pn_co c N q = c q := by unfold pn_co; rw [if_pos h]
theorem pn_cof {c : Nat → Int32} {N q : Nat} (h : ¬ q < N) : pn_co c N q = -9 := by unfold pn_co; rw [if_neg h]
/-- a figure that is refused: a fault where it stands -/
theorem pn_Ff {c : Nat → Int32} {N q : Nat} {s : pn_S} (h : pn_run c q = some s) (hq : q ≤ N) (h1 : q < N → pn_step s (c q) = none) (h2 : ¬ pn_end s) : pn_F c N q := by
  by_cases e : q < N
  · exact Or.inl ⟨e, s, h, h1 e⟩
  · have : q = N := by omega
    subst this
    exact Or.inr ⟨rfl, s, h, h2⟩
theorem s_readsThing {A p N th : Nat} {k g i e : Nat → Nat} {n_sheet K D : Nat → Int32} {post : Int32 → Int32 → Int32 → (Nat → Int32) → (Nat → Int32) → Prop} (hA : A + N ≤ 240) (hp : p ≤ N)
    (hr : pn_run (fun p => n_sheet (A + p)) p = some (1, th, 0, k, g, i, e)) (hm : ∀ t, t < th → K t = nI (k t) ∧ D t = nI (g t)) (hn : 2 ≤ th → p < N ∧ n_sheet (A + p) ≠ 59)
    (h0 : ∀ q K D, q ≤ N → pn_F (fun p => n_sheet (A + p)) N q → post 0 (nI q) (nI th) K D)
    (h1 : ∀ k' g' K D, p + 2 ≤ N → pn_run (fun p => n_sheet (A + p)) (p + 2) = some (1, th + 1, 0, k', g', i, e) → (∀ t, t < th + 1 → K t = nI (k' t) ∧ D t = nI (g' t)) → post 1 (nI (p + 2)) (nI (th + 1)) K D) :
    w_X6_readsThing (nI p) (nI th) K D n_sheet (nI A) (nI N) post := by
  have hI := pn_runI _ _ hr
  have b2 : th ≤ 6 := hI.2.1
  unfold w_X6_readsThing
  refine s_codeAt hA hp ?_
  rw [show (6 : Int32) = nI 6 from rfl, pn_lit (by omega) (by omega)]
  by_cases ep : p < N
  · rw [pn_cot ep]
    have hst : pn_step (1, th, 0, k, g, i, e) (n_sheet (A + p)) = pn_st1 (n_sheet (A + p)) th 0 k g i e := rfl
    unfold pn_st1 at hst
    by_cases e59 : n_sheet (A + p) = 59
    · have hth : ¬ 2 ≤ th := fun w => (hn w).2 e59
      rw [if_pos e59, pn_stf, if_neg (by omega)] at hst
      have hF : pn_F (fun p => n_sheet (A + p)) N p := Or.inl ⟨ep, _, hr, hst⟩
      exact ⟨fun _ => h0 p _ _ hp hF, fun _ => ⟨fun q => absurd (e59.symm.trans q) (by decide), fun _ => ⟨fun q => absurd (e59.symm.trans q) (by decide), fun _ => ⟨fun q => absurd (e59.symm.trans q) (by decide), fun _ => h0 p _ _ hp hF⟩⟩⟩⟩
    · rw [if_neg e59] at hst
      by_cases hl : n_sheet (A + p) = 116 ∨ n_sheet (A + p) = 108 ∨ n_sheet (A + p) = 100
      · refine ⟨fun w => h0 p _ _ hp (Or.inl ⟨ep, _, hr, by rw [hst, if_neg (by omega)]⟩), fun w => ?_⟩
        rw [if_pos ⟨by omega, hl⟩] at hst
        have hr1 := (pn_runs hr).trans hst
        refine xq_use0 (fun K hK => ⟨fun _ => hK, fun z1 => ⟨fun _ => hK, fun z2 => ⟨fun _ => hK, fun z3 => ?_⟩⟩⟩) ?_
        · rcases hl with w | w | w
          · exact absurd w z1
          · exact absurd w z2
          · exact absurd w z3
        · rw [pa_s1]
          have hs2 : ∀ a, pn_step (2, th, 0, pn_up k th (pn_kd (n_sheet (A + p))), g, i, e) a = pn_st2 (a - 48) th 0 (pn_up k th (pn_kd (n_sheet (A + p)))) g i e := fun _ => rfl
          refine s_figure hA (by omega) (fun hh => ⟨fun _ => ?_, fun q => absurd (show (0 : Int32) ≤ _ from (pa_le 0 _).mpr (Int.le_trans (by decide) hh.1)) q⟩) (fun hh => ⟨fun q => absurd q (by decide), fun _ => h0 (p + 1) _ _ (by omega) (pn_Ff hr1 (by omega) (fun hq => ?_) (fun w => by rcases w with w | w <;> simp at w))⟩)
          · have hq : p + 1 < N := pn_lst (Int.le_trans (by decide) hh.1)
            rw [pn_cot hq] at hh ⊢
            have hs3 := hs2 (n_sheet (A + (p + 1)))
            unfold pn_st2 at hs3
            rw [if_pos ⟨by omega, hh.1, hh.2⟩] at hs3
            have hr2 := (pn_runs hr1).trans hs3
            refine xq_use1 (nI (pn_kd (n_sheet (A + p)))) (fun K2 hK2 => ⟨fun z1 => ⟨fun z2 => ?_, fun z2 => ?_⟩, fun z1 => ?_⟩) ⟨pa_vp (by omega) (by omega), pa_vp (by omega) (by omega), ?_⟩
            · unfold pn_kd at hK2; rw [if_neg z1, if_neg z2] at hK2; exact hK2
            · unfold pn_kd at hK2; rw [if_neg z1, if_pos z2] at hK2; exact hK2
            · unfold pn_kd at hK2; rw [if_pos z1] at hK2; exact hK2
            · rw [pa_cl (n := th) (by omega), pa_s1]
              refine h1 _ _ _ _ (by omega) hr2 (fun t ht => ?_)
              by_cases e1 : t = th
              · subst e1
                rw [pk_us, pk_us, pn_us, pn_us]
                refine ⟨rfl, ?_⟩
                rw [pa_eq, pa_nI _ (by have := hh.2; rw [show (9 : Int32).toInt = 9 from rfl] at this; omega)]
                have := hh.1; rw [show (1 : Int32).toInt = 1 from rfl] at this; omega
              · rw [pk_un e1, pk_un e1, pn_un _ _ e1, pn_un _ _ e1]; exact hm t (by omega)
          · rw [pn_cot hq] at hh
            rw [hs2, pn_st2, if_neg (fun w => hh w.2)]
      · rw [if_neg (fun w => hl w.2)] at hst
        have hF : pn_F (fun p => n_sheet (A + p)) N p := Or.inl ⟨ep, _, hr, hst⟩
        exact ⟨fun _ => h0 p _ _ hp hF, fun _ => ⟨fun w => absurd (Or.inl w) hl, fun _ => ⟨fun w => absurd (Or.inr (Or.inl w)) hl, fun _ => ⟨fun w => absurd (Or.inr (Or.inr w)) hl, fun _ => h0 p _ _ hp hF⟩⟩⟩⟩
  · rw [pn_cof ep]
    have hF : pn_F (fun p => n_sheet (A + p)) N p := pn_Ff hr hp (fun w => absurd w ep) (fun w => by
      rcases w with w | w
      · simp at w
      · exact ep (hn w.2).1)
    exact ⟨fun _ => h0 p _ _ hp hF, fun _ => ⟨fun q => absurd q (by decide), fun _ => ⟨fun q => absurd q (by decide), fun _ => ⟨fun q => absurd q (by decide), fun _ => h0 p _ _ hp hF⟩⟩⟩⟩
theorem pn_48 {x v : Int32} : x = 48 + v ↔ x - 48 = v := by
  rw [← Int32.toBitVec_inj, ← Int32.toBitVec_inj]
  simp only [Int32.toBitVec_add, Int32.toBitVec_sub]
  generalize x.toBitVec = a
  generalize v.toBitVec = b
  bv_omega
theorem pn_m1 {n : Nat} (h : 2 ≤ n) (h2 : n ≤ 6) : (nI n - 1).toInt = n - 1 := by
  have : n = 2 ∨ n = 3 ∨ n = 4 ∨ n = 5 ∨ n = 6 := by omega
  rcases this with rfl | rfl | rfl | rfl | rfl <;> decide
theorem s_readsFollow {A p N th fo d : Nat} {k g i e : Nat → Nat} {n_sheet I T : Nat → Int32} {post : Int32 → Int32 → Int32 → (Nat → Int32) → (Nat → Int32) → Prop} (hA : A + N ≤ 240) (hp : p < N)
    (hr : pn_run (fun p => n_sheet (A + p)) p = some (d, th, fo, k, g, i, e)) (hd : d = 5 ∨ d = 1 ∧ n_sheet (A + p) = 59) (hth : 2 ≤ th) (hm : ∀ f, f < fo → I f = nI (i f) ∧ T f = nI (e f))
    (h0 : ∀ q I T, q ≤ N → pn_F (fun p => n_sheet (A + p)) N q → post 0 (nI q) (nI fo) I T)
    (h1 : ∀ i' e' I T, p + 3 ≤ N → pn_run (fun p => n_sheet (A + p)) (p + 3) = some (5, th, fo + 1, k, g, i', e') → (∀ f, f < fo + 1 → I f = nI (i' f) ∧ T f = nI (e' f)) → post 1 (nI (p + 3)) (nI (fo + 1)) I T) :
    w_X6_readsFollow (nI p) (nI th) (nI fo) I T n_sheet (nI A) (nI N) post := by
  have hI := pn_runI _ _ hr
  have b2 : th ≤ 6 := hI.2.1
  have b3 : fo ≤ 4 := hI.2.2.1
  have hst : pn_step (d, th, fo, k, g, i, e) (n_sheet (A + p)) = if n_sheet (A + p) = 59 then pn_stf th fo k g i e else none := by
    rcases hd with rfl | ⟨rfl, h⟩
    · rfl
    · show pn_st1 _ _ _ _ _ _ _ = _
      unfold pn_st1; rw [if_pos h, if_pos h]
  unfold w_X6_readsFollow
  rw [show (4 : Int32) = nI 4 from rfl, pn_lit (by omega) (by omega)]
  refine ⟨fun w => h0 p _ _ (by omega) (Or.inl ⟨hp, _, hr, ?_⟩), fun w => s_codeAt hA (by omega) ?_⟩
  · rw [hst, pn_stf, if_neg (c := 2 ≤ th ∧ fo < 4) (by omega)]; split <;> rfl
  rw [pn_cot hp]
  refine ⟨fun e59 => ?_, fun e59 => h0 p _ _ (by omega) (Or.inl ⟨hp, _, hr, ?_⟩)⟩
  rotate_left
  · rw [hst, if_neg e59]
  rw [if_pos e59, pn_stf, if_pos (by omega)] at hst
  have hr1 := (pn_runs hr).trans hst
  have hth1 : (nI th - 1).toInt = th - 1 := pn_m1 hth (by omega)
  rw [pa_s1]
  have hs3 : ∀ a, pn_step (3, th, fo, k, g, i, e) a = pn_st3 (a - 48) th fo k g i e := fun _ => rfl
  refine s_figure hA (by omega) (fun hh => ?_) (fun hh => ⟨fun _ => h0 (p + 1) _ _ (by omega) (pn_Ff hr1 (by omega) (fun hq => ?_) (fun w => by rcases w with w | w <;> simp at w)), fun q => absurd (by decide) q⟩)
  rotate_left
  · rw [pn_cot hq] at hh
    rw [hth1, show (0 : Int32).toInt = 0 from rfl] at hh
    rw [hs3, pn_st3, if_neg (fun w => hh ⟨w.2.1, by omega⟩)]
  have hq : p + 1 < N := pn_lst hh.1
  rw [pn_cot hq] at hh ⊢
  rw [hth1, show (0 : Int32).toInt = 0 from rfl] at hh
  have hs3' := hs3 (n_sheet (A + (p + 1)))
  generalize n_sheet (A + (p + 1)) - 48 = v at hh hs3' ⊢
  unfold pn_st3 at hs3'
  rw [if_pos ⟨by omega, hh.1, by omega⟩] at hs3'
  have hr2 := (pn_runs hr1).trans hs3'
  have ev : v = nI v.toInt.toNat := by rw [pa_eq, pa_nI _ (by omega)]; omega
  refine ⟨fun q => absurd q (by rw [pa_l0]; omega), fun _ => s_codeAt hA (by omega) ?_⟩
  have hs4 : ∀ a, pn_step (4, th, fo, k, g, pn_up i fo v.toInt.toNat, e) a = pn_st4 (a - 48) th fo k g (pn_up i fo v.toInt.toNat) e := fun _ => rfl
  have hne : ¬ pn_end (4, th, fo, k, g, pn_up i fo v.toInt.toNat, e) := fun w => by rcases w with w | w <;> simp at w
  refine ⟨fun q1 => ?_, fun q1 => h0 (p + 2) _ _ (by omega) (pn_Ff hr2 (by omega) (fun hq => ?_) hne)⟩
  rotate_left
  · rw [pn_cot hq, pn_48] at q1
    rw [hs4, pn_st4, if_neg (fun w => w.2.2.2 (q1.trans (ev.trans (by rw [pn_us]))))]
  refine s_figure hA (by omega) (fun hh2 => ⟨fun _ => ?_, fun q => absurd (show (0 : Int32) ≤ _ from (pa_le 0 _).mpr (Int.le_trans (by decide) hh2.1)) q⟩) (fun hh2 => ⟨fun q => absurd q (by decide), fun _ => h0 (p + 2) _ _ (by omega) (pn_Ff hr2 (by omega) (fun hq => ?_) hne)⟩)
  · have hq2 : p + 2 < N := pn_lst hh2.1
    rw [pn_cot hq2, pn_48] at q1
    rw [pn_cot hq2] at hh2 ⊢
    rw [hth1, show (0 : Int32).toInt = 0 from rfl] at hh2
    have hs4' := hs4 (n_sheet (A + (p + 2)))
    generalize n_sheet (A + (p + 2)) - 48 = v2 at hh2 hs4' q1 ⊢
    unfold pn_st4 at hs4'
    rw [if_pos ⟨by omega, hh2.1, by omega, by rw [pn_us, ← ev]; exact q1⟩] at hs4'
    have hr3 := (pn_runs hr2).trans hs4'
    have ev2 : v2 = nI v2.toInt.toNat := by rw [pa_eq, pa_nI _ (by omega)]; omega
    refine ⟨pa_vp (by omega) (by omega), pa_vp (by omega) (by omega), ?_⟩
    rw [pa_cl (n := fo) (by omega), pa_s1]
    refine h1 _ _ _ _ (by omega) hr3 (fun f hf => ?_)
    by_cases e1 : f = fo
    · subst e1
      rw [pk_us, pk_us, pn_us, pn_us]; exact ⟨ev, ev2⟩
    · rw [pk_un e1, pk_un e1, pn_un _ _ e1, pn_un _ _ e1]; exact hm f (by omega)
  · rw [pn_cot hq] at hh2
    rw [hth1, show (0 : Int32).toInt = 0 from rfl] at hh2
    rw [hs4, pn_st4, if_neg (fun w => hh2 ⟨w.2.1, by omega⟩)]
theorem s_readsTown_L91 {A N th : Nat} {k g : Nat → Nat} {n_sheet K D : Nat → Int32} {post : Int32 → Int32 → Int32 → Int32 → (Nat → Int32) → (Nat → Int32) → (Nat → Int32) → (Nat → Int32) → Prop} {kk : Int32 → Int32 → Int32 → (Nat → Int32) → (Nat → Int32) → Prop} (hA : A + N ≤ 240) (hth : 2 ≤ th)
    (h0 : ∀ q fo I T, pn_F (fun p => n_sheet (A + p)) N q → kk 0 (nI q) fo I T)
    (h1 : ∀ d fo i e I T, pn_O (fun p => n_sheet (A + p)) N (d, th, fo, k, g, i, e) → (∀ f, f < fo → I f = nI (i f) ∧ T f = nI (e f)) → kk 1 (nI N) (nI fo) I T) :
    ∀ f p d fo i e I T, N + 2 ≤ f + p → p ≤ N → pn_run (fun p => n_sheet (A + p)) p = some (d, th, fo, k, g, i, e) → (d = 5 ∨ d = 1 ∧ (p < N → n_sheet (A + p) = 59)) → (∀ f, f < fo → I f = nI (i f) ∧ T f = nI (e f)) →
      w_X6_readsTown_L91 (nI A) (nI N) (nI th) K D n_sheet post kk f 1 (nI p) (nI fo) I T := by
  intro f
  induction f with
  | zero => intro p d fo i e I T h1 h2; omega
  | succ f ih =>
    intro p d fo i e I T hf hp hr hd hm
    rw [w_X6_readsTown_L91, pa_leN (by omega) (by omega)]
    refine ⟨fun q => absurd q (by decide), fun _ => ⟨fun q => ?_, fun q => ?_⟩⟩
    · have : p = N := by omega
      subst this
      exact h1 d fo i e I T ⟨hr, by rcases hd with h | h; exact Or.inl h; exact Or.inr ⟨h.1, hth⟩⟩ hm
    · refine s_readsFollow hA (by omega) hr (by rcases hd with h | h; exact Or.inl h; exact Or.inr ⟨h.1, h.2 (by omega)⟩) hth hm (fun q' I' T' hq' hF => ?_) (fun i' e' I' T' hp3 hr3 hm3 => ?_)
      · cases f with
        | zero => omega
        | succ f => rw [w_X6_readsTown_L91]; exact ⟨fun _ => h0 _ _ _ _ hF, fun w => absurd rfl w⟩
      · exact ih (p + 3) 5 (fo + 1) i' e' I' T' (by omega) hp3 hr3 (Or.inl rfl) hm3
theorem s_readsTown_L50 {A N : Nat} {i e : Nat → Nat} {n_sheet I T : Nat → Int32} {F : Int32} {post : Int32 → Int32 → Int32 → Int32 → (Nat → Int32) → (Nat → Int32) → (Nat → Int32) → (Nat → Int32) → Prop} {kk : Int32 → Int32 → Int32 → (Nat → Int32) → (Nat → Int32) → Prop} (hA : A + N ≤ 240)
    (h0 : ∀ q th K D, pn_F (fun p => n_sheet (A + p)) N q → kk 0 (nI q) th K D)
    (h1 : ∀ p th k g K D, p ≤ N → 2 ≤ th → pn_run (fun p => n_sheet (A + p)) p = some (1, th, 0, k, g, i, e) → (p < N → n_sheet (A + p) = 59) → (∀ t, t < th → K t = nI (k t) ∧ D t = nI (g t)) → kk 1 (nI p) (nI th) K D) :
    ∀ f p th k g K D, N + 2 ≤ f + p → p ≤ N → pn_run (fun p => n_sheet (A + p)) p = some (1, th, 0, k, g, i, e) → (∀ t, t < th → K t = nI (k t) ∧ D t = nI (g t)) →
      w_X6_readsTown_L50 (nI A) (nI N) F I T n_sheet post kk f 1 (nI p) (nI th) K D := by
  intro f
  induction f with
  | zero => intro p th k g K D h1 h2; omega
  | succ f ih =>
    intro p th k g K D hf hp hr hm
    have b2 : th ≤ 6 := (pn_runI _ _ hr).2.1
    rw [w_X6_readsTown_L50, show (2 : Int32) = nI 2 from rfl, pa_ltN (by omega) (by omega), pa_leN (by omega) (by omega)]
    refine ⟨fun q => absurd q (by decide), fun _ => ?_⟩
    have key : (2 ≤ th → p < N ∧ n_sheet (A + p) ≠ 59) → w_X6_readsThing (nI p) (nI th) K D n_sheet (nI A) (nI N) (fun (rr_14 : Int32) (cc_15 : Int32) (cc_16 : Int32) (cc_17 : Nat → Int32) (cc_18 : Nat → Int32) => w_X6_readsTown_L50 (nI A) (nI N) F I T n_sheet post kk f rr_14 cc_15 cc_16 cc_17 cc_18) := fun hn => by
      refine s_readsThing hA hp hr hm hn (fun q' K' D' hq' hF => ?_) (fun k' g' K' D' hp2 hr2 hm2 => ?_)
      · cases f with
        | zero => omega
        | succ f => rw [w_X6_readsTown_L50]; exact ⟨fun _ => h0 _ _ _ _ hF, fun w => absurd rfl w⟩
      · exact ih (p + 2) (th + 1) k' g' K' D' (by omega) hp2 hr2 hm2
    by_cases c1 : th < 2
    · exact xq_use0 (fun Q hQ => ⟨fun _ => hQ, fun w => absurd c1 w⟩) (key (fun w => by omega))
    · by_cases c2 : p < N
      · by_cases c3 : n_sheet (A + p) = 59
        · refine ⟨fun w => absurd w c1, fun _ => ⟨fun w => by omega, fun _ => s_codeAt hA hp ?_⟩⟩
          rw [pn_cot c2]
          exact ⟨fun _ => h1 p th k g K D hp (by omega) hr (fun _ => c3) hm, fun w => absurd c3 w⟩
        · refine xq_use0 (fun Q hQ => ⟨fun w => absurd w c1, fun _ => ⟨fun w => by omega, fun _ => s_codeAt hA hp ?_⟩⟩) (key (fun _ => ⟨c2, c3⟩))
          rw [pn_cot c2]
          exact ⟨fun w => absurd w c3, fun _ => hQ⟩
      · exact ⟨fun w => absurd w c1, fun _ => ⟨fun w => h1 p th k g K D hp (by omega) hr (fun w => absurd w c2) hm, fun w => absurd (by omega) w⟩⟩
theorem s_readsTown {A N : Nat} {n_sheet rK rD rI rT : Nat → Int32} {ra rt rf : Int32} {post : Int32 → Int32 → Int32 → Int32 → (Nat → Int32) → (Nat → Int32) → (Nat → Int32) → (Nat → Int32) → Prop} (hA : A + N ≤ 240)
    (h0 : ∀ p th fo K D I T, pn_F (fun p => n_sheet (A + p)) N p → post 0 (nI p) th fo K D I T)
    (h1 : ∀ d th fo k g i e K D I T, pn_O (fun p => n_sheet (A + p)) N (d, th, fo, k, g, i, e) → 2 ≤ th → th ≤ 6 → fo ≤ 4 → (∀ t, t < th → K t = nI (k t) ∧ D t = nI (g t)) → (∀ f, f < fo → I f = nI (i f) ∧ T f = nI (e f)) → post 1 (nI N) (nI th) (nI fo) K D I T) :
    w_X6_readsTown ra rt rf rK rD rI rT n_sheet (nI A) (nI N) post := by
  unfold w_X6_readsTown
  rw [pa_zero]
  refine s_codeAt hA (by omega) ?_
  have hr0 : pn_run (fun p => n_sheet (A + p)) 0 = some (0, 0, 0, fun _ => 0, fun _ => 0, fun _ => 0, fun _ => 0) := rfl
  have hs0 : ∀ a, pn_step (0, 0, 0, fun _ => 0, fun _ => 0, fun _ => 0, fun _ => 0) a = pn_st0 a 0 0 (fun _ => 0) (fun _ => 0) (fun _ => 0) (fun _ => 0) := fun _ => rfl
  have hl2 : ∀ q th K D, pn_F (fun p => n_sheet (A + p)) N q → ∃ e_91, w_X6_readsTown_L91 (nI A) (nI N) th K D n_sheet post (fun (xx_44 : Int32) (xx_45 : Int32) (xx_46 : Int32) (xx_47 : Nat → Int32) (xx_48 : Nat → Int32) => xq_z xx_44 ∧ post xx_44 xx_45 th xx_46 K D xx_47 xx_48) e_91 0 (nI q) (nI 0) rI rT := fun q th K D hF => by
    refine ⟨1, ?_⟩
    rw [w_X6_readsTown_L91]
    exact ⟨fun _ => ⟨pa_z false, h0 q th _ K D _ _ hF⟩, fun w => absurd rfl w⟩
  by_cases hc : 0 < N ∧ n_sheet (A + 0) = 119
  · rw [pn_cot hc.1]
    refine xq_use1 1 (fun Q hQ => ⟨fun w => absurd hc.2 w, fun _ => hQ⟩) (xq_use1 1 (fun Q hQ => ⟨fun w => absurd w (by decide), fun _ => hQ⟩) ?_)
    have hr1 := (pn_runs hr0).trans (hs0 (n_sheet (A + 0)))
    rw [pn_st0, if_pos hc.2] at hr1
    rw [show nI 0 + (1 : Int32) = nI 1 from rfl]
    refine ⟨N + 2, s_readsTown_L50 hA (fun q th K D hF => hl2 q th K D hF) (fun p th k g K D hp hth hr hc2 hm => ⟨N + 2, ?_⟩) (N + 2) 1 0 _ _ _ _ (by omega) (by omega) hr1 (fun t ht => by omega)⟩
    have b2 : th ≤ 6 := (pn_runI _ _ hr).2.1
    refine s_readsTown_L91 (k := k) (g := g) hA hth (fun q fo I T hF => ⟨pa_z false, h0 q _ _ K D _ _ hF⟩) (fun d fo i e I T hO hm2 => ⟨pa_z true, h1 d th fo k g i e K D I T hO hth b2 ?_ hm hm2⟩) (N + 2) p 1 0 _ _ rI rT (by omega) hp hr (Or.inr ⟨rfl, hc2⟩) (fun t ht => by omega)
    exact (pn_runI _ _ hO.1).2.2.1
  · have hF : pn_F (fun p => n_sheet (A + p)) N 0 := by
      refine pn_Ff hr0 (by omega) (fun w => ?_) (fun w => ?_)
      · rw [hs0, pn_st0, if_neg (fun w2 => hc ⟨w, w2⟩)]
      · rcases w with w | w <;> simp at w
    have hne : ¬ pn_co (fun p => n_sheet (A + p)) N 0 = 119 := fun w => by
      by_cases c : 0 < N
      · rw [pn_cot c] at w; exact hc ⟨c, w⟩
      · rw [pn_cof c] at w; exact absurd w (by decide)
    refine xq_use1 0 (fun Q hQ => ⟨fun _ => hQ, fun w => absurd w hne⟩) (xq_use1 0 (fun Q hQ => ⟨fun _ => hQ, fun w => absurd rfl w⟩) ?_)
    refine ⟨1, ?_⟩
    rw [w_X6_readsTown_L50]
    exact ⟨fun _ => hl2 0 _ _ _ hF, fun w => absurd rfl w⟩
theorem pn_cg {c c' : Nat → Int32} {N : Nat} (h : ∀ p, p < N → c p = c' p) : ∀ p, p ≤ N → pn_run c p = pn_run c' p := by
  intro p
  induction p with
  | zero => intro _; rfl
  | succ p ih => intro hp; rw [pn_run, pn_run, ih (by omega), h p (by omega)]
theorem pn_cF {c c' : Nat → Int32} {N p : Nat} (h : ∀ p, p < N → c p = c' p) (hF : pn_F c N p) : pn_F c' N p := by
  rcases hF with ⟨h1, s, h2, h3⟩ | ⟨h1, s, h2, h3⟩
  · exact Or.inl ⟨h1, s, by rw [← pn_cg h p (by omega)]; exact h2, by rw [← h p h1]; exact h3⟩
  · exact Or.inr ⟨h1, s, by rw [← pn_cg h N (Nat.le_refl N)]; exact h2, h3⟩
theorem pn_cO {c c' : Nat → Int32} {N : Nat} {s : pn_S} (h : ∀ p, p < N → c p = c' p) (hO : pn_O c N s) : pn_O c' N s :=
  ⟨by rw [← pn_cg h N (Nat.le_refl N)]; exact hO.1, hO.2⟩
