-- ===== the text: one automaton for both =====
theorem s_at {k q size : Nat} {s_sizes s_cells : Nat → Int32} {post : Int32 → Prop} (hk : k < 4) (hs : s_sizes k = nI size) (hq : q < size) (h60 : size ≤ 60) (h : post (s_cells (60 * k + q))) : w_X2_at s_sizes s_cells (nI k) (nI q) post := by
  unfold w_X2_at w_X2_isCell
  rw [pa_cl (n := k) (by omega), hs]
  refine ⟨fun z => ?_, fun _ => ⟨pa_vp hk (by omega), fun z => absurd z (pa_nle hq (by omega)), fun _ => ⟨fun z => absurd z (by decide), fun _ => ?_⟩⟩⟩
  · rw [pa_l0, pa_nI _ (by omega)] at z; omega
  · rw [show (60 : Int32) = nI 60 from rfl, pk_mul, nI_add, pa_cl (by omega), Nat.mul_comm k 60]
    exact ⟨pa_vp (by omega) (by omega), h⟩
abbrev pn_S : Type := Nat × Nat × Nat × (Nat → Nat) × (Nat → Nat) × (Nat → Nat) × (Nat → Nat)
def pn_up (f : Nat → Nat) (k v : Nat) : Nat → Nat := fun j => if j = k then v else f j
theorem pn_us (f : Nat → Nat) (k v : Nat) : pn_up f k v k = v := by simp [pn_up]
theorem pn_un (f : Nat → Nat) {k j : Nat} (v : Nat) (h : j ≠ k) : pn_up f k v j = f j := by simp [pn_up, h]
def pn_kd (a : Int32) : Nat := if a = 116 then 0 else if a = 108 then 1 else 2
def pn_st0 (a : Int32) (th fo : Nat) (k g i e : Nat → Nat) : Option pn_S := if a = 119 then some (1, th, fo, k, g, i, e) else none
def pn_stf (th fo : Nat) (k g i e : Nat → Nat) : Option pn_S := if 2 ≤ th ∧ fo < 4 then some (3, th, fo, k, g, i, e) else none
def pn_st1 (a : Int32) (th fo : Nat) (k g i e : Nat → Nat) : Option pn_S := if a = 59 then pn_stf th fo k g i e else if th < 6 ∧ (a = 116 ∨ a = 108 ∨ a = 100) then some (2, th, fo, pn_up k th (pn_kd a), g, i, e) else none
def pn_st2 (v : Int32) (th fo : Nat) (k g i e : Nat → Nat) : Option pn_S := if th < 6 ∧ 1 ≤ v.toInt ∧ v.toInt ≤ 9 then some (1, th + 1, fo, k, pn_up g th v.toInt.toNat, i, e) else none
def pn_st3 (v : Int32) (th fo : Nat) (k g i e : Nat → Nat) : Option pn_S := if fo < 4 ∧ 0 ≤ v.toInt ∧ v.toInt < th then some (4, th, fo, k, g, pn_up i fo v.toInt.toNat, e) else none
def pn_st4 (v : Int32) (th fo : Nat) (k g i e : Nat → Nat) : Option pn_S := if fo < 4 ∧ 0 ≤ v.toInt ∧ v.toInt < th ∧ v ≠ nI (i fo) then some (5, th, fo + 1, k, g, i, pn_up e fo v.toInt.toNat) else none
def pn_st5 (a : Int32) (th fo : Nat) (k g i e : Nat → Nat) : Option pn_S := if a = 59 then pn_stf th fo k g i e else none
def pn_step (s : pn_S) (a : Int32) : Option pn_S := match s with
  | (0, th, fo, k, g, i, e) => pn_st0 a th fo k g i e
  | (1, th, fo, k, g, i, e) => pn_st1 a th fo k g i e
  | (2, th, fo, k, g, i, e) => pn_st2 (a - 48) th fo k g i e
  | (3, th, fo, k, g, i, e) => pn_st3 (a - 48) th fo k g i e
  | (4, th, fo, k, g, i, e) => pn_st4 (a - 48) th fo k g i e
  | (_, th, fo, k, g, i, e) => pn_st5 a th fo k g i e
def pn_run (c : Nat → Int32) : Nat → Option pn_S
  | 0 => some (0, 0, 0, fun _ => 0, fun _ => 0, fun _ => 0, fun _ => 0)
  | p + 1 => match pn_run c p with
    | none => none
    | some s => pn_step s (c p)
def pn_end (s : pn_S) : Prop := s.1 = 5 ∨ (s.1 = 1 ∧ 2 ≤ s.2.1)
def pn_F (c : Nat → Int32) (N p : Nat) : Prop := (p < N ∧ ∃ s, pn_run c p = some s ∧ pn_step s (c p) = none) ∨ (p = N ∧ ∃ s, pn_run c N = some s ∧ ¬ pn_end s)
def pn_O (c : Nat → Int32) (N : Nat) (s : pn_S) : Prop := pn_run c N = some s ∧ pn_end s
theorem pn_runs {c : Nat → Int32} {p : Nat} {s : pn_S} (h : pn_run c p = some s) : pn_run c (p + 1) = pn_step s (c p) := by
  rw [pn_run, h]
theorem pn_none {c : Nat → Int32} {p q : Nat} (h : pn_run c p = none) (hq : p ≤ q) : pn_run c q = none := by
  induction q with
  | zero => have : p = 0 := by omega
            subst this; exact h
  | succ q ih =>
    by_cases e : p = q + 1
    · subst e; exact h
    · rw [pn_run, ih (by omega)]
theorem pn_FF {c : Nat → Int32} {N p p' : Nat} (h : pn_F c N p) (h' : pn_F c N p') : p = p' := by
  rcases h with ⟨h1, s, h2, h3⟩ | ⟨h1, s, h2, h3⟩ <;> rcases h' with ⟨h4, s', h5, h6⟩ | ⟨h4, s', h5, h6⟩
  · rcases Nat.lt_trichotomy p p' with g | g | g
    · rw [pn_none (p := p + 1) (by rw [pn_runs h2]; exact h3) (by omega)] at h5; cases h5
    · exact g
    · rw [pn_none (p := p' + 1) (by rw [pn_runs h5]; exact h6) (by omega)] at h2; cases h2
  · rw [pn_none (p := p + 1) (by rw [pn_runs h2]; exact h3) (by omega)] at h5; cases h5
  · rw [pn_none (p := p' + 1) (by rw [pn_runs h5]; exact h6) (by omega)] at h2; cases h2
  · omega
theorem pn_FO {c : Nat → Int32} {N p : Nat} {s : pn_S} (h : pn_F c N p) (h' : pn_O c N s) : False := by
  rcases h with ⟨h1, s', h2, h3⟩ | ⟨h1, s', h2, h3⟩
  · have := h'.1
    rw [pn_none (p := p + 1) (by rw [pn_runs h2]; exact h3) (by omega)] at this; cases this
  · have := h'.1
    rw [h2] at this; cases this
    exact h3 h'.2
theorem pn_OO {c : Nat → Int32} {N : Nat} {s s' : pn_S} (h : pn_O c N s) (h' : pn_O c N s') : s = s' := by
  have := h.1.symm.trans h'.1
  cases this; rfl
/-- what holds in every state that is come to -/
def pn_I (s : pn_S) : Prop := match s with
  | (d, th, fo, k, g, i, e) => d ≤ 5 ∧ th ≤ 6 ∧ fo ≤ 4 ∧ (d = 0 → th = 0) ∧ (d < 3 → fo = 0) ∧ (3 ≤ d → 2 ≤ th) ∧ (∀ t, t < th → k t ≤ 2 ∧ 1 ≤ g t ∧ g t ≤ 9) ∧ (d = 2 → k th ≤ 2) ∧ (∀ f, f < fo → i f < th ∧ e f < th) ∧ (d = 4 → i fo < th)
theorem pn_kdb (a : Int32) : pn_kd a ≤ 2 := by unfold pn_kd; split <;> (try split) <;> omega
theorem pn_stepI {s s' : pn_S} {a : Int32} (hI : pn_I s) (h : pn_step s a = some s') : pn_I s' := by
  obtain ⟨d, th, fo, k, g, i, e⟩ := s
  obtain ⟨h1, h2, h3, h4, h5, h6, h7, h8, h9, h10⟩ := hI
  have hd : d = 0 ∨ d = 1 ∨ d = 2 ∨ d = 3 ∨ d = 4 ∨ d = 5 := by omega
  have stf : pn_stf th fo k g i e = some s' → pn_I s' := by
    intro h
    unfold pn_stf at h
    split at h
    · rename_i hh
      cases h
      exact ⟨by omega, h2, h3, by omega, by omega, by omega, h7, by omega, h9, by omega⟩
    · cases h
  rcases hd with rfl | rfl | rfl | rfl | rfl | rfl
  · simp only [pn_step, pn_st0] at h
    split at h
    · cases h
      have := h4 rfl; subst this
      exact ⟨by omega, h2, h3, by omega, by omega, by omega, h7, by omega, h9, by omega⟩
    · cases h
  · simp only [pn_step, pn_st1] at h
    split at h
    · exact stf h
    · split at h
      · rename_i hh
        cases h
        refine ⟨by omega, h2, h3, by omega, by omega, by omega, fun t ht => ?_, fun _ => ?_, h9, by omega⟩
        · rw [pn_un _ _ (by omega)]; exact h7 t ht
        · rw [pn_us]; exact pn_kdb a
      · cases h
  · simp only [pn_step, pn_st2] at h
    split at h
    · rename_i hh
      cases h
      refine ⟨by omega, by omega, h3, by omega, by omega, by omega, fun t ht => ?_, by omega, fun f hf => ?_, by omega⟩
      · by_cases e1 : t = th
        · subst e1; rw [pn_us]; exact ⟨h8 rfl, by omega, by omega⟩
        · rw [pn_un _ _ e1]; exact h7 t (by omega)
      · have := h5 (by omega); omega
    · cases h
  · simp only [pn_step, pn_st3] at h
    split at h
    · rename_i hh
      cases h
      refine ⟨by omega, h2, h3, by omega, by omega, by omega, h7, by omega, fun f hf => ?_, fun _ => ?_⟩
      · rw [pn_un _ _ (by omega)]; exact h9 f hf
      · rw [pn_us]; omega
    · cases h
  · simp only [pn_step, pn_st4] at h
    split at h
    · rename_i hh
      cases h
      refine ⟨by omega, h2, by omega, by omega, by omega, by omega, h7, by omega, fun f hf => ?_, by omega⟩
      by_cases e1 : f = fo
      · subst e1; rw [pn_us]; exact ⟨h10 rfl, by omega⟩
      · rw [pn_un _ _ e1]; exact h9 f (by omega)
    · cases h
  · simp only [pn_step, pn_st5] at h
    split at h
    · exact stf h
    · cases h
theorem pn_runI {c : Nat → Int32} : ∀ p s, pn_run c p = some s → pn_I s := by
  intro p
  induction p with
  | zero =>
    intro s h
    cases h
    exact ⟨by omega, by omega, by omega, fun _ => rfl, fun _ => rfl, by omega, fun t ht => by omega, by omega, fun f hf => by omega, by omega⟩
  | succ p ih =>
    intro s h
    cases hp : pn_run c p with
    | none => rw [pn_run, hp] at h; cases h
    | some s0 =>
      rw [pn_runs hp] at h
      exact pn_stepI (ih s0 hp) h
/-- the class's reader in a state -/
def pn_R (s : pn_S) (xk xd xc xe : Nat → Int32) (xt xf xu : Int32) : Prop := match s with
  | (d, th, fo, k, g, i, e) => xu = nI d ∧ xt = nI th ∧ xf = nI fo ∧ (∀ t, t < th → xk t = nI (k t) ∧ xd t = nI (g t)) ∧ (d = 2 → xk th = nI (k th)) ∧ (∀ f, f < fo → xc f = nI (i f) ∧ xe f = nI (e f)) ∧ (d = 4 → xc fo = nI (i fo))
theorem pn_lit {d k : Nat} (hd : d < 100) (hk : k < 100) : nI d = nI k ↔ d = k := pa_nIinj (by omega) (by omega)
theorem s_begins {th fo : Nat} {xu : Int32} {post : Int32 → Int32 → Prop} (ht : th ≤ 6) (hf : fo ≤ 4) (h1 : 2 ≤ th ∧ fo < 4 → post 1 3) (h2 : ¬ (2 ≤ th ∧ fo < 4) → post 0 3) : w_X3_beginsFollowing (nI th) (nI fo) xu post := by
  unfold w_X3_beginsFollowing
  rw [show (2 : Int32) = nI 2 from rfl, pa_ltN (by omega) (by omega), show (4 : Int32) = nI 4 from rfl, pa_leN (by omega) (by omega)]
  exact ⟨fun q => h2 (by omega), fun q => ⟨fun q1 => h2 (by omega), fun q1 => h1 (by omega)⟩⟩
theorem s_goesOn {s : pn_S} {xk xd xc xe : Nat → Int32} {xt xf xu a : Int32} {post : Int32 → (Nat → Int32) → (Nat → Int32) → (Nat → Int32) → (Nat → Int32) → Int32 → Int32 → Int32 → Prop} (hI : pn_I s) (hR : pn_R s xk xd xc xe xt xf xu)
    (h0 : pn_step s a = none → ∀ xk xd xc xe xt xf xu, post 0 xk xd xc xe xt xf xu) (h1 : ∀ s', pn_step s a = some s' → ∀ xk xd xc xe xt xf xu, pn_R s' xk xd xc xe xt xf xu → post 1 xk xd xc xe xt xf xu) : w_X3_goesOn xk xd xc xe xt xf xu a post := by
  obtain ⟨d, th, fo, k, g, i, e⟩ := s
  obtain ⟨b1, b2, b3, b4, b5, b6, b7, b8, b9, b10⟩ := hI
  obtain ⟨rfl, rfl, rfl, r1, r2, r3, r4⟩ := hR
  unfold w_X3_goesOn
  have l0 : nI d = (0 : Int32) ↔ d = 0 := pn_lit (k := 0) (by omega) (by omega)
  have l1 : nI d = (1 : Int32) ↔ d = 1 := pn_lit (k := 1) (by omega) (by omega)
  have l2 : nI d = (2 : Int32) ↔ d = 2 := pn_lit (k := 2) (by omega) (by omega)
  have l3 : nI d = (3 : Int32) ↔ d = 3 := pn_lit (k := 3) (by omega) (by omega)
  have l4 : nI d = (4 : Int32) ↔ d = 4 := pn_lit (k := 4) (by omega) (by omega)
  rw [l0, l1, l2, l3, l4]
  refine ⟨fun q => ?_, fun q => ⟨fun q1 => ?_, fun q1 => ?_⟩, fun q => ?_, fun q => ?_, fun q => ?_, fun q0 q1 q2 q3 q4 => ⟨fun q5 => ?_, fun q5 => ?_⟩⟩
  · subst q
    have hs : pn_step (0, th, fo, k, g, i, e) a = pn_st0 a th fo k g i e := rfl
    unfold w_X3_startsWith
    unfold pn_st0 at hs
    refine ⟨fun z => ?_, fun z => ?_⟩
    · rw [if_neg z] at hs
      exact ⟨pa_z false, h0 hs _ _ _ _ _ _ _⟩
    · rw [if_pos z] at hs
      have := b4 rfl; subst this
      exact ⟨pa_z true, h1 _ hs _ _ _ _ _ _ _ ⟨rfl, rfl, rfl, fun t ht => by omega, by omega, r3, by omega⟩⟩
  · subst q
    have hs : pn_step (1, th, fo, k, g, i, e) a = pn_st1 a th fo k g i e := rfl
    unfold w_X3_namesKind
    unfold pn_st1 at hs
    rw [if_neg q1] at hs
    rw [show (6 : Int32) = nI 6 from rfl, pa_leN (by omega) (by omega)]
    refine ⟨fun z => ?_, fun z => ?_⟩
    · rw [if_neg (fun w => by omega)] at hs
      exact ⟨pa_z false, h0 hs _ _ _ _ _ _ _⟩
    · by_cases hl : a = 116 ∨ a = 108 ∨ a = 100
      · rw [if_pos ⟨by omega, hl⟩] at hs
        refine xq_use0 (fun K hK => ⟨fun _ => hK, fun z1 => ⟨fun _ => hK, fun z2 => ⟨fun _ => hK, fun z3 => ?_⟩⟩⟩) ?_
        · rcases hl with w | w | w
          · exact absurd w z1
          · exact absurd w z2
          · exact absurd w z3
        · refine xq_use1 (upd xk th (nI (pn_kd a))) (fun K hK => ⟨fun z1 => ?_, fun z1 => ⟨pa_vp (by omega) (by omega), ?_⟩⟩) ?_
          · refine xq_use1 (nI (pn_kd a)) (fun K2 hK2 => ⟨fun z2 => ?_, fun z2 => ?_⟩) ⟨pa_vp (by omega) (by omega), ?_⟩
            · unfold pn_kd at hK2; rw [if_neg z1, if_neg z2] at hK2; exact hK2
            · unfold pn_kd at hK2; rw [if_neg z1, if_pos z2] at hK2; exact hK2
            · rw [pa_cl (by omega)]; exact hK
          · rw [pa_cl (by omega)]
            unfold pn_kd at hK; rw [if_pos z1] at hK; exact hK
          · refine ⟨pa_z true, h1 _ hs _ _ _ _ _ _ _ ⟨rfl, rfl, rfl, fun t ht => ?_, fun _ => ?_, r3, by omega⟩⟩
            · rw [pk_un (by omega), pn_un _ _ (by omega)]; exact r1 t ht
            · rw [pk_us, pn_us]
      · rw [if_neg (fun w => hl w.2)] at hs
        refine ⟨fun w => absurd (Or.inl w) hl, fun _ => ⟨fun w => absurd (Or.inr (Or.inl w)) hl, fun _ => ⟨fun w => absurd (Or.inr (Or.inr w)) hl, fun _ => ⟨pa_z false, h0 hs _ _ _ _ _ _ _⟩⟩⟩⟩
  · subst q
    have hs : pn_step (1, th, fo, k, g, i, e) a = pn_st1 a th fo k g i e := rfl
    unfold pn_st1 pn_stf at hs
    rw [if_pos q1] at hs
    refine s_begins b2 b3 (fun w => ?_) (fun w => ?_)
    · rw [if_pos w] at hs
      exact ⟨pa_z true, h1 _ hs _ _ _ _ _ _ _ ⟨rfl, rfl, rfl, r1, by omega, r3, by omega⟩⟩
    · rw [if_neg w] at hs
      exact ⟨pa_z false, h0 hs _ _ _ _ _ _ _⟩
  · subst q
    have hs : pn_step (2, th, fo, k, g, i, e) a = pn_st2 (a - 48) th fo k g i e := rfl
    unfold pn_st2 at hs
    unfold w_X3_tellsChance
    generalize a - 48 = v at hs ⊢
    rw [show (6 : Int32) = nI 6 from rfl, pa_leN (by omega) (by omega), pa_lt v 1, pa_lt v 10, show (1 : Int32).toInt = 1 from rfl, show (10 : Int32).toInt = 10 from rfl]
    refine ⟨fun z => ?_, fun z => ⟨fun z1 => ?_, fun z1 => ⟨fun z2 => ⟨pa_vp (by omega) (by omega), ?_⟩, fun z2 => ?_⟩⟩⟩
    · rw [if_neg (fun w => by omega)] at hs
      exact ⟨pa_z false, h0 hs _ _ _ _ _ _ _⟩
    · rw [if_neg (fun w => by omega)] at hs
      exact ⟨pa_z false, h0 hs _ _ _ _ _ _ _⟩
    · rw [if_pos (by omega)] at hs
      rw [pa_cl (by omega), pa_s1]
      have ev : v = nI v.toInt.toNat := by rw [pa_eq, pa_nI _ (by omega)]; omega
      refine ⟨pa_z true, h1 _ hs _ _ _ _ _ _ _ ⟨rfl, rfl, rfl, fun t ht => ?_, by omega, r3, by omega⟩⟩
      by_cases e1 : t = th
      · subst e1
        rw [pk_us, pn_us]; exact ⟨r2 rfl, ev⟩
      · rw [pk_un e1, pn_un _ _ e1]; exact r1 t (by omega)
    · rw [if_neg (fun w => by omega)] at hs
      exact ⟨pa_z false, h0 hs _ _ _ _ _ _ _⟩
  · subst q
    have hs : pn_step (3, th, fo, k, g, i, e) a = pn_st3 (a - 48) th fo k g i e := rfl
    unfold pn_st3 at hs
    unfold w_X3_tellsCause
    generalize a - 48 = v at hs ⊢
    rw [show (4 : Int32) = nI 4 from rfl, pa_leN (by omega) (by omega), pa_l0 v, pa_lt v (nI th), pa_nI th (by omega)]
    refine ⟨fun z => ?_, fun z => ⟨fun z1 => ?_, fun z1 => ⟨fun z2 => ⟨pa_vp (by omega) (by omega), ?_⟩, fun z2 => ?_⟩⟩⟩
    · rw [if_neg (fun w => by omega)] at hs
      exact ⟨pa_z false, h0 hs _ _ _ _ _ _ _⟩
    · rw [if_neg (fun w => by omega)] at hs
      exact ⟨pa_z false, h0 hs _ _ _ _ _ _ _⟩
    · rw [if_pos (by omega)] at hs
      rw [pa_cl (by omega)]
      have ev : v = nI v.toInt.toNat := by rw [pa_eq, pa_nI _ (by omega)]; omega
      refine ⟨pa_z true, h1 _ hs _ _ _ _ _ _ _ ⟨rfl, rfl, rfl, r1, by omega, fun f hf => ?_, fun _ => ?_⟩⟩
      · rw [pk_un (by omega), pn_un _ _ (by omega)]; exact r3 f hf
      · rw [pk_us, pn_us]; exact ev
    · rw [if_neg (fun w => by omega)] at hs
      exact ⟨pa_z false, h0 hs _ _ _ _ _ _ _⟩
  · subst q
    have hs : pn_step (4, th, fo, k, g, i, e) a = pn_st4 (a - 48) th fo k g i e := rfl
    unfold pn_st4 at hs
    unfold w_X3_tellsEffect
    generalize a - 48 = v at hs ⊢
    rw [show (4 : Int32) = nI 4 from rfl, pa_leN (by omega) (by omega), pa_l0 v, pa_le (nI th) v, pa_nI th (by omega), pa_cl (n := fo) (by omega), r4 rfl]
    refine ⟨fun z => ?_, fun z => ⟨fun z1 => ?_, fun z1 => ⟨fun z2 => ?_, fun z2 => ⟨pa_vp (by omega) (by omega), fun z3 => ⟨pa_vp (by omega) (by omega), ?_⟩, fun z3 => ?_⟩⟩⟩⟩
    · rw [if_neg (fun w => by omega)] at hs
      exact ⟨pa_z false, h0 hs _ _ _ _ _ _ _⟩
    · rw [if_neg (fun w => by omega)] at hs
      exact ⟨pa_z false, h0 hs _ _ _ _ _ _ _⟩
    · rw [if_neg (fun w => by omega)] at hs
      exact ⟨pa_z false, h0 hs _ _ _ _ _ _ _⟩
    · rw [if_pos ⟨by omega, by omega, by omega, z3⟩] at hs
      have ev : v = nI v.toInt.toNat := by rw [pa_eq, pa_nI _ (by omega)]; omega
      rw [pa_s1]
      refine ⟨pa_z true, h1 _ hs _ _ _ _ _ _ _ ⟨rfl, rfl, rfl, r1, by omega, fun f hf => ?_, by omega⟩⟩
      by_cases e1 : f = fo
      · subst e1
        rw [pk_us, pn_us]; exact ⟨r4 rfl, ev⟩
      · rw [pk_un e1, pn_un _ _ e1]; exact r3 f (by omega)
    · rw [if_neg (fun w => w.2.2.2 z3)] at hs
      exact ⟨pa_z false, h0 hs _ _ _ _ _ _ _⟩
  · have hd : d = 5 := by omega
    subst hd
    have hs : pn_step (5, th, fo, k, g, i, e) a = pn_st5 a th fo k g i e := rfl
    unfold pn_st5 at hs
    rw [if_neg q5] at hs
    exact h0 hs _ _ _ _ _ _ _
  · have hd : d = 5 := by omega
    subst hd
    have hs : pn_step (5, th, fo, k, g, i, e) a = pn_st5 a th fo k g i e := rfl
    unfold pn_st5 pn_stf at hs
    rw [if_pos q5] at hs
    refine s_begins b2 b3 (fun w => ⟨fun z => absurd z (by decide), fun _ => ?_⟩) (fun w => ⟨fun _ => ?_, fun z => absurd rfl z⟩)
    · rw [if_pos w] at hs
      exact h1 _ hs _ _ _ _ _ _ _ ⟨rfl, rfl, rfl, r1, by omega, r3, by omega⟩
    · rw [if_neg w] at hs
      exact h0 hs _ _ _ _ _ _ _
theorem s_firstFault {k i size N : Nat} {s_sizes s_cells xk xd xc xe : Nat → Int32} {xt xf xu : Int32} {post : Int32 → (Nat → Int32) → (Nat → Int32) → (Nat → Int32) → (Nat → Int32) → Int32 → Int32 → Int32 → Prop} (hk : k < 4) (hs : s_sizes k = nI size) (h60 : size ≤ 60) (hN : i + N ≤ size)
    (h0 : ∀ p, pn_F (fun p => s_cells (60 * k + (i + p))) N p → p ≤ N → ∀ xk xd xc xe xt xf xu, post (nI p) xk xd xc xe xt xf xu) (h1 : ∀ s, pn_O (fun p => s_cells (60 * k + (i + p))) N s → ∀ xk xd xc xe xt xf xu, pn_R s xk xd xc xe xt xf xu → post (-1) xk xd xc xe xt xf xu) : w_X3_firstFault s_sizes s_cells xk xd xc xe xt xf xu (nI k) (nI i) (nI N) post := by
  unfold w_X3_firstFault
  refine ⟨N + 1, ?_⟩
  refine pl_inv (M := fun f p (z : (Nat → Int32) × (Nat → Int32) × (Nat → Int32) × (Nat → Int32) × Int32 × Int32 × Int32) => w_X3_firstFault_L18 (nI k) (nI i) (nI N) s_sizes s_cells post _ f (nI p) z.1 z.2.1 z.2.2.1 z.2.2.2.1 z.2.2.2.2.1 z.2.2.2.2.2.1 z.2.2.2.2.2.2) (fun p z => ∃ s, pn_run (fun p => s_cells (60 * k + (i + p))) p = some s ∧ pn_R s z.1 z.2.1 z.2.2.1 z.2.2.2.1 z.2.2.2.2.1 z.2.2.2.2.2.1 z.2.2.2.2.2.2) (fun f z hI => ?_) (fun f p z hp hI hM => ?_) (xk, xd, xc, xe, (0 : Int32), (0 : Int32), (0 : Int32)) ⟨_, rfl, rfl, rfl, rfl, fun t ht => by omega, by omega, fun f hf => by omega, by omega⟩
  · obtain ⟨s, hrun, hR⟩ := hI
    have hI := pn_runI N s hrun
    rw [w_X3_firstFault_L18]
    refine ⟨fun _ => ?_, fun q => absurd (pa_le_ (Nat.le_refl _) (by omega)) q⟩
    have hR2 := hR
    have hfin : (¬ pn_end s → post (nI N) z.1 z.2.1 z.2.2.1 z.2.2.2.1 z.2.2.2.2.1 z.2.2.2.2.2.1 z.2.2.2.2.2.2) ∧ (pn_end s → post (-1) z.1 z.2.1 z.2.2.1 z.2.2.2.1 z.2.2.2.2.1 z.2.2.2.2.2.1 z.2.2.2.2.2.2) := ⟨fun w => h0 N (Or.inr ⟨rfl, s, hrun, w⟩) (Nat.le_refl N) _ _ _ _ _ _ _, fun w => h1 s ⟨hrun, w⟩ _ _ _ _ _ _ _ hR2⟩
    obtain ⟨d, th, fo, k', g, i', e⟩ := s
    obtain ⟨b1, b2, -⟩ := hI
    obtain ⟨r1, r2, -⟩ := hR
    unfold w_X3_mayEnd
    rw [r1, r2] at hfin ⊢
    have l5 : nI d = (5 : Int32) ↔ d = 5 := pn_lit (k := 5) (by omega) (by omega)
    have l1 : nI d = (1 : Int32) ↔ d = 1 := pn_lit (k := 1) (by omega) (by omega)
    rw [l5, l1, show (2 : Int32) = nI 2 from rfl, pa_ltN (by omega) (by omega)]
    unfold pn_end at hfin
    simp only at hfin
    refine ⟨fun q => ⟨fun w => absurd w (by decide), fun _ => hfin.2 (Or.inl q)⟩, fun q => ⟨fun q1 => ⟨fun _ => hfin.1 (by omega), fun w => absurd rfl w⟩, fun q1 => ⟨fun q2 => ⟨fun _ => hfin.1 (by omega), fun w => absurd rfl w⟩, fun q2 => ⟨fun w => absurd w (by decide), fun _ => hfin.2 (Or.inr ⟨q1, by omega⟩)⟩⟩⟩⟩
  · obtain ⟨s, hrun, hR⟩ := hI
    have hI := pn_runI p s hrun
    rw [w_X3_firstFault_L18]
    refine ⟨fun q => absurd q (pa_nle hp (by omega)), fun _ => ⟨fun q => absurd q (pa_nle (a := 60) (by omega) (by omega)), fun _ => ?_⟩⟩
    rw [nI_add]
    refine s_at hk hs (by omega) h60 ?_
    refine s_goesOn hI hR (fun hst a1 a2 a3 a4 a5 a6 a7 => ⟨fun w => absurd rfl w, fun _ => h0 p (Or.inl ⟨hp, s, hrun, hst⟩) (by omega) _ _ _ _ _ _ _⟩) (fun s' hst a1 a2 a3 a4 a5 a6 a7 hR' => ⟨fun _ => ?_, fun w => absurd w (by decide)⟩)
    rw [pa_s1]
    exact hM (a1, a2, a3, a4, a5, a6, a7) ⟨s', by rw [pn_runs hrun]; exact hst, hR'⟩
