-- ===== sheets: made, written, moved =====
theorem px_l (k i : Nat) : nI k * (60 : Int32) + nI i = nI (60 * k + i) := by
  rw [show (60 : Int32) = nI 60 from rfl, pk_mul, nI_add, Nat.mul_comm]
theorem px_r (k i : Nat) : (60 : Int32) * nI k + nI i = nI (60 * k + i) := by
  rw [show (60 : Int32) = nI 60 from rfl, pk_mul, nI_add]
theorem s_renew {k : Nat} {s_lanes s_sizes s_cells : Nat → Int32} {a2 a3 : Int32} {post : (Nat → Int32) → (Nat → Int32) → (Nat → Int32) → Prop} (hk : k < 4) (h : ∀ c, (∀ i, i < 60 → c (60 * k + i) = 0) → (∀ j, (∀ i, i < 60 → j ≠ 60 * k + i) → c j = s_cells j) → post (upd s_lanes k a2) (upd s_sizes k a3) c) : w_X2_renew s_lanes s_sizes s_cells (nI k) a2 a3 post := by
  unfold w_X2_renew
  rw [pa_cl (by omega)]
  refine ⟨pa_vp hk (by omega), pa_vp hk (by omega), 60 + 1, ?_⟩
  refine pl_inv (M := fun f i (c : Nat → Int32) => w_X2_renew_L17 (nI k) (upd s_lanes k a2) (upd s_sizes k a3) post _ f (nI i) c) (fun i c => (∀ j, j < i → c (60 * k + j) = 0) ∧ (∀ j, (∀ i, i < 60 → j ≠ 60 * k + i) → c j = s_cells j)) (fun f c hI => ?_) (fun f i c hi hI hM => ?_) s_cells ⟨fun j hj => by omega, fun _ _ => rfl⟩
  · rw [w_X2_renew_L17]
    exact ⟨fun _ => h _ hI.1 hI.2, fun q => absurd (by decide) q⟩
  · rw [w_X2_renew_L17]
    refine ⟨fun q => absurd q (pa_nle (a := 60) (by omega) (by omega)), fun _ => ?_⟩
    rw [px_l, pa_cl (by omega), pa_s1]
    refine ⟨pa_vp (by omega) (by omega), hM _ ⟨fun j hj => ?_, fun j hj => ?_⟩⟩
    · by_cases e : j = i
      · subst e; exact pk_us
      · rw [pk_un (by omega)]; exact hI.1 j (by omega)
    · rw [pk_un (hj i hi)]; exact hI.2 j hj
theorem s_sheet65 {k N : Nat} {F : Int32} {sz sl sh : Nat → Int32} {post : Int32 → Int32 → (Nat → Int32) → (Nat → Int32) → (Nat → Int32) → Prop} {kk : (Nat → Int32) → Prop} (hk : k < 4) (hN : N ≤ 60) (h : ∀ c, (∀ i, i < N → c (60 * k + i) = 0) → (∀ j, (∀ i, i < 60 → j ≠ 60 * k + i) → c j = sh j) → kk c) : ∃ e, w_X6_sheet_L65 (nI k) (nI N) F sz sl post kk e 0 sh := by
  refine ⟨N + 1, ?_⟩
  refine pl_inv (M := fun f i (c : Nat → Int32) => w_X6_sheet_L65 (nI k) (nI N) F sz sl post kk f (nI i) c) (fun i c => (∀ j, j < i → c (60 * k + j) = 0) ∧ (∀ j, (∀ i, i < 60 → j ≠ 60 * k + i) → c j = sh j)) (fun f c hI => ?_) (fun f i c hi hI hM => ?_) sh ⟨fun j hj => by omega, fun _ _ => rfl⟩
  · rw [w_X6_sheet_L65]
    exact ⟨fun _ => h _ hI.1 hI.2, fun q => absurd (pa_le_ (Nat.le_refl _) (by omega)) q⟩
  · rw [w_X6_sheet_L65]
    refine ⟨fun q => absurd q (pa_nle hi (by omega)), fun _ => ?_⟩
    rw [px_r, pa_cl (by omega), pa_s1]
    refine ⟨pa_vp (by omega) (by omega), hM _ ⟨fun j hj => ?_, fun j hj => ?_⟩⟩
    · by_cases e : j = i
      · subst e; exact pk_us
      · rw [pk_un (by omega)]; exact hI.1 j (by omega)
    · rw [pk_un (hj i (by omega))]; exact hI.2 j hj
/-- another sheet is as it was -/
theorem px_other {s_lanes s_sizes s_cells n_sheetSize n_sheetLane n_sheet s_lanes' s_sizes' s_cells' n_sheetSize' n_sheetLane' n_sheet' : Nat → Int32} {k : Nat} (h : iv_s1 s_lanes s_sizes s_cells n_sheetSize n_sheetLane n_sheet k) (e1 : s_lanes' k = s_lanes k) (e2 : s_sizes' k = s_sizes k) (e3 : n_sheetSize' k = n_sheetSize k) (e4 : n_sheetLane' k = n_sheetLane k) (e5 : ∀ i, i < 60 → s_cells' (60 * k + i) = s_cells (60 * k + i)) (e6 : ∀ i, i < 60 → n_sheet' (60 * k + i) = n_sheet (60 * k + i)) : iv_s1 s_lanes' s_sizes' s_cells' n_sheetSize' n_sheetLane' n_sheet' k := by
  unfold iv_s1
  rw [e1, e2, e3, e4]
  rcases h with h | ⟨la, sz, v1, v2, v3, v4, v5, v6, v7⟩
  · exact Or.inl h
  · exact Or.inr ⟨la, sz, v1, v2, v3, v4, v5, v6, fun i hi => by rw [e5 i (by omega), e6 i (by omega)]; exact v7 i hi⟩
theorem px_hands {k i N : Nat} {a3 a4 F : Int32} {sz sl sh h0 : Nat → Int32} {post : Int32 → Int32 → (Nat → Int32) → (Nat → Int32) → Prop} {kk : (Nat → Int32) → Prop} (hk : k < 4) (hN : i + N ≤ 60) (h : ∀ g, (∀ j, j < N → g j = sh (60 * k + (i + j))) → kk g) : ∃ e, w_X6_copy_L107 (nI k) (nI i) a3 a4 (nI N) F sz sl sh post kk e 0 h0 := by
  refine ⟨N + 1, ?_⟩
  refine pl_inv (M := fun f j (g : Nat → Int32) => w_X6_copy_L107 (nI k) (nI i) a3 a4 (nI N) F sz sl sh post kk f (nI j) g) (fun j g => ∀ t, t < j → g t = sh (60 * k + (i + t))) (fun f g hI => ?_) (fun f j g hj hI hM => ?_) h0 (fun t ht => by omega)
  · rw [w_X6_copy_L107]
    exact ⟨fun _ => h _ hI, fun q => absurd (pa_le_ (Nat.le_refl _) (by omega)) q⟩
  · rw [w_X6_copy_L107]
    refine ⟨fun q => absurd q (pa_nle hj (by omega)), fun _ => ?_⟩
    rw [pu_ad, pa_cl (by omega), pa_cl (by omega), pa_s1]
    refine ⟨pa_vp (by omega) (by omega), pa_vp (by omega) (by omega), hM _ (fun t ht => ?_)⟩
    by_cases e : t = j
    · subst e; exact pk_us
    · rw [pk_un e]; exact hI t (by omega)
theorem px_place {k i N : Nat} {F : Int32} {sz sl sh g : Nat → Int32} {post : Int32 → Int32 → (Nat → Int32) → (Nat → Int32) → Prop} {kk : (Nat → Int32) → Prop} (hk : k < 4) (hN : i + N ≤ 60) (h : ∀ c, (∀ j, j < N → c (60 * k + (i + j)) = g j) → (∀ j, (∀ t, t < N → j ≠ 60 * k + (i + t)) → c j = sh j) → kk c) : ∃ e, w_X6_copy_L144 (nI k) (nI i) (nI N) F sz sl g post kk e 0 sh := by
  refine ⟨N + 1, ?_⟩
  refine pl_inv (M := fun f j (c : Nat → Int32) => w_X6_copy_L144 (nI k) (nI i) (nI N) F sz sl g post kk f (nI j) c) (fun j c => (∀ t, t < j → c (60 * k + (i + t)) = g t) ∧ (∀ t, (∀ u, u < N → t ≠ 60 * k + (i + u)) → c t = sh t)) (fun f c hI => ?_) (fun f j c hj hI hM => ?_) sh ⟨fun t ht => by omega, fun _ _ => rfl⟩
  · rw [w_X6_copy_L144]
    exact ⟨fun _ => h _ hI.1 hI.2, fun q => absurd (pa_le_ (Nat.le_refl _) (by omega)) q⟩
  · rw [w_X6_copy_L144]
    refine ⟨fun q => absurd q (pa_nle hj (by omega)), fun _ => ?_⟩
    rw [pu_ad, pa_cl (by omega), pa_cl (by omega), pa_s1]
    refine ⟨pa_vp (by omega) (by omega), pa_vp (by omega) (by omega), hM _ ⟨fun t ht => ?_, fun t ht => ?_⟩⟩
    · by_cases e : t = j
      · subst e; exact pk_us
      · rw [pk_un (by omega)]; exact hI.1 t (by omega)
    · rw [pk_un (ht j hj)]; exact hI.2 t ht
theorem px_cpyI {f g : Nat → Int32} {a b n k : Nat} (h1 : b ≤ k) (h2 : k < b + n) : va_cpy f g a b n k = f (a + (k - b)) := if_pos ⟨h1, h2⟩
theorem px_cpyO {f g : Nat → Int32} {a b n k : Nat} (h : k < b ∨ b + n ≤ k) : va_cpy f g a b n k = g k := if_neg (by omega)
theorem s_move {k i o j N : Nat} {s_cells : Nat → Int32} {post : (Nat → Int32) → Prop} (hk : k < 4) (ho : o < 4) (hi : i + N ≤ 60) (hj : j + N ≤ 60) (h : ∀ c, (∀ t, t < N → c (60 * o + (j + t)) = s_cells (60 * k + (i + t))) → (∀ t, (∀ u, u < N → t ≠ 60 * o + (j + u)) → c t = s_cells t) → post c) : w_X2_move s_cells (nI k) (nI i) (nI o) (nI j) (nI N) post := by
  unfold w_X2_move
  rw [px_l, px_l, pa_cl (n := N) (by omega), pa_cl (n := 60 * k + i) (by omega), pa_cl (n := 60 * o + j) (by omega)]
  have z : ∀ m, m < 2147483648 → ¬ nI m < 0 := fun m hm q => by rw [pa_l0, pa_nI m hm] at q; omega
  refine ⟨z _ (by omega), z _ (by omega), z _ (by omega), by omega, by omega, h _ (fun t ht => ?_) (fun t ht => ?_)⟩
  · rw [px_cpyI (by omega) (by omega)]
    congr 1
    omega
  · refine px_cpyO ?_
    by_cases c1 : t < 60 * o + j
    · exact Or.inl c1
    · by_cases c2 : 60 * o + j + N ≤ t
      · exact Or.inr c2
      · exact absurd (by omega) (ht (t - (60 * o + j)) (by omega))
