-- ===== a town is taken =====
theorem s_makeHours {l0 b0 e0 : Nat → Int32} {post : (Nat → Int32) → (Nat → Int32) → (Nat → Int32) → Prop} (h : ∀ l b e, (∀ h, h < 6 → l h = 0 ∧ b h = 9 ∧ e h = -9) → (∀ h, 6 ≤ h → e h = e0 h) → post l b e) : w_X5_makeHoursAnew l0 b0 e0 post := by
  unfold w_X5_makeHoursAnew
  refine ⟨6 + 1, ?_⟩
  refine pl_inv (M := fun f i (z : (Nat → Int32) × (Nat → Int32) × (Nat → Int32)) => w_X5_makeHoursAnew_L2 post _ f (nI i) z.1 z.2.1 z.2.2) (fun i z => (∀ h, h < i → z.1 h = 0 ∧ z.2.1 h = 9 ∧ z.2.2 h = -9) ∧ (∀ h, i ≤ h → z.2.2 h = e0 h)) (fun f z hI => ?_) (fun f i z hi hI hM => ?_) (l0, b0, e0) ⟨fun h hh => by omega, fun _ _ => rfl⟩
  · rw [w_X5_makeHoursAnew_L2]
    exact ⟨fun _ => h _ _ _ hI.1 hI.2, fun q => absurd (by decide) q⟩
  · rw [w_X5_makeHoursAnew_L2]
    refine ⟨fun q => absurd q (pa_nle (a := 6) (by omega) (by omega)), fun _ => ⟨pa_vp (by omega) (by omega), pa_vp (by omega) (by omega), pa_vp (by omega) (by omega), ?_⟩⟩
    rw [pa_cl (by omega), pa_s1]
    refine hM (_, _, _) ⟨fun h hh => ?_, fun h hh => ?_⟩
    · show upd z.1 i _ h = _ ∧ upd z.2.1 i _ h = _ ∧ upd z.2.2 i _ h = _
      by_cases e : h = i
      · subst e; rw [pk_us, pk_us, pk_us]; exact ⟨rfl, rfl, rfl⟩
      · rw [pk_un e, pk_un e, pk_un e]; exact hI.1 h (by omega)
    · show upd z.2.2 i _ h = _
      rw [pk_un (by omega)]; exact hI.2 h (by omega)
theorem s_town66 {n : Nat} {F fo ra rt rf R : Int32} {io to lo bo ho rK rD rI rT sz sl sh k0 d0 : Nat → Int32} {post : Int32 → Int32 → Int32 → (Nat → Int32) → (Nat → Int32) → Int32 → (Nat → Int32) → (Nat → Int32) → (Nat → Int32) → (Nat → Int32) → (Nat → Int32) → Int32 → Int32 → Int32 → (Nat → Int32) → (Nat → Int32) → (Nat → Int32) → (Nat → Int32) → Int32 → Prop} {kk : (Nat → Int32) → (Nat → Int32) → Prop} (hn : n ≤ 6)
    (h : ∀ k d, (∀ t, t < n → k t = rK t ∧ d t = rD t) → kk k d) : ∃ e, w_X6_town_L66 F (nI n) fo io to lo bo ho ra rt rf rK rD rI rT R sz sl sh post kk e 0 k0 d0 := by
  refine ⟨n + 1, ?_⟩
  refine pl_inv (M := fun f i (z : (Nat → Int32) × (Nat → Int32)) => w_X6_town_L66 F (nI n) fo io to lo bo ho ra rt rf rK rD rI rT R sz sl sh post kk f (nI i) z.1 z.2) (fun i z => ∀ t, t < i → z.1 t = rK t ∧ z.2 t = rD t) (fun f z hI => ?_) (fun f i z hi hI hM => ?_) (k0, d0) (fun t ht => by omega)
  · rw [w_X6_town_L66]
    exact ⟨fun _ => h _ _ hI, fun q => absurd (pa_le_ (Nat.le_refl _) (by omega)) q⟩
  · rw [w_X6_town_L66]
    have v := pa_vp (N := 6) (show i < 6 by omega) (by omega)
    refine ⟨fun q => absurd q (pa_nle hi (by omega)), fun _ => ⟨v, v, v, v, ?_⟩⟩
    rw [pa_cl (by omega), pa_s1]
    refine hM (_, _) (fun t ht => ?_)
    show upd z.1 i _ t = _ ∧ upd z.2 i _ t = _
    by_cases e : t = i
    · subst e; rw [pk_us, pk_us]; exact ⟨rfl, rfl⟩
    · rw [pk_un e, pk_un e]; exact hI t (by omega)
theorem s_town112 {n : Nat} {F th ra rt rf R : Int32} {io to lo bo ho rK rD rI rT sz sl sh k0 d0 : Nat → Int32} {post : Int32 → Int32 → Int32 → (Nat → Int32) → (Nat → Int32) → Int32 → (Nat → Int32) → (Nat → Int32) → (Nat → Int32) → (Nat → Int32) → (Nat → Int32) → Int32 → Int32 → Int32 → (Nat → Int32) → (Nat → Int32) → (Nat → Int32) → (Nat → Int32) → Int32 → Prop} {kk : (Nat → Int32) → (Nat → Int32) → Prop} (hn : n ≤ 4)
    (h : ∀ k d, (∀ t, t < n → k t = rI t ∧ d t = rT t) → kk k d) : ∃ e, w_X6_town_L112 F th io to (nI n) lo bo ho ra rt rf rK rD rI rT R sz sl sh post kk e 0 k0 d0 := by
  refine ⟨n + 1, ?_⟩
  refine pl_inv (M := fun f i (z : (Nat → Int32) × (Nat → Int32)) => w_X6_town_L112 F th io to (nI n) lo bo ho ra rt rf rK rD rI rT R sz sl sh post kk f (nI i) z.1 z.2) (fun i z => ∀ t, t < i → z.1 t = rI t ∧ z.2 t = rT t) (fun f z hI => ?_) (fun f i z hi hI hM => ?_) (k0, d0) (fun t ht => by omega)
  · rw [w_X6_town_L112]
    exact ⟨fun _ => h _ _ hI, fun q => absurd (pa_le_ (Nat.le_refl _) (by omega)) q⟩
  · rw [w_X6_town_L112]
    have v := pa_vp (N := 4) (show i < 4 by omega) (by omega)
    refine ⟨fun q => absurd q (pa_nle hi (by omega)), fun _ => ⟨v, v, v, v, ?_⟩⟩
    rw [pa_cl (by omega), pa_s1]
    refine hM (_, _) (fun t ht => ?_)
    show upd z.1 i _ t = _ ∧ upd z.2 i _ t = _
    by_cases e : t = i
    · subst e; rw [pk_us, pk_us]; exact ⟨rfl, rfl⟩
    · rw [pk_un e, pk_un e]; exact hI t (by omega)
theorem s_town158 {F th fo ra rt rf R : Int32} {ko dg io to rK rD rI rT sz sl sh l0 b0 e0 : Nat → Int32} {post : Int32 → Int32 → Int32 → (Nat → Int32) → (Nat → Int32) → Int32 → (Nat → Int32) → (Nat → Int32) → (Nat → Int32) → (Nat → Int32) → (Nat → Int32) → Int32 → Int32 → Int32 → (Nat → Int32) → (Nat → Int32) → (Nat → Int32) → (Nat → Int32) → Int32 → Prop} {kk : (Nat → Int32) → (Nat → Int32) → (Nat → Int32) → Prop}
    (h : ∀ l b e, (∀ h, h < 6 → l h = 0 ∧ b h = 9 ∧ e h = -9) → (∀ h, 6 ≤ h → e h = e0 h) → kk l b e) : ∃ e, w_X6_town_L158 F th ko dg fo io to ra rt rf rK rD rI rT R sz sl sh post kk e 0 l0 b0 e0 := by
  refine ⟨6 + 1, ?_⟩
  refine pl_inv (M := fun f i (z : (Nat → Int32) × (Nat → Int32) × (Nat → Int32)) => w_X6_town_L158 F th ko dg fo io to ra rt rf rK rD rI rT R sz sl sh post kk f (nI i) z.1 z.2.1 z.2.2) (fun i z => (∀ h, h < i → z.1 h = 0 ∧ z.2.1 h = 9 ∧ z.2.2 h = -9) ∧ (∀ h, i ≤ h → z.2.2 h = e0 h)) (fun f z hI => ?_) (fun f i z hi hI hM => ?_) (l0, b0, e0) ⟨fun h hh => by omega, fun _ _ => rfl⟩
  · rw [w_X6_town_L158]
    exact ⟨fun _ => h _ _ _ hI.1 hI.2, fun q => absurd (by decide) q⟩
  · rw [w_X6_town_L158]
    refine ⟨fun q => absurd q (pa_nle (a := 6) (by omega) (by omega)), fun _ => ⟨pa_vp (by omega) (by omega), pa_vp (by omega) (by omega), pa_vp (by omega) (by omega), ?_⟩⟩
    rw [pa_cl (by omega), pa_s1]
    refine hM (_, _, _) ⟨fun h hh => ?_, fun h hh => ?_⟩
    · show upd z.1 i _ h = _ ∧ upd z.2.1 i _ h = _ ∧ upd z.2.2 i _ h = _
      by_cases e : h = i
      · subst e; rw [pk_us, pk_us, pk_us]; exact ⟨rfl, rfl, rfl⟩
      · rw [pk_un e, pk_un e, pk_un e]; exact hI.1 h (by omega)
    · show upd z.2.2 i _ h = _
      rw [pk_un (by omega)]; exact hI.2 h (by omega)
theorem pw_nm1 {p : Nat} (h : p ≤ 60) : ¬ nI p = (-1 : Int32) := by
  rw [pa_eq, pa_nI _ (by omega), show (-1 : Int32).toInt = -1 from rfl]; omega
