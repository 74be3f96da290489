-- ===== parts, the class's side =====
theorem pl_inv {σ : Type} {M : Nat → Nat → σ → Prop} {N : Nat} (I : Nat → σ → Prop) (hx : ∀ f s, I N s → M (f + 1) N s) (hs : ∀ f i s, i < N → I i s → (∀ s', I (i + 1) s' → M f (i + 1) s') → M (f + 1) i s) (s : σ) (h0 : I 0 s) : M (N + 1) 0 s := by
  have key : ∀ k i s, i + k = N → I i s → M (k + 1) i s := by
    intro k
    induction k with
    | zero => intro i s hi h; have e : i = N := by omega
              subst e; exact hx 0 s h
    | succ k ih => intro i s hi h; exact hs (k + 1) i s (by omega) h (fun s' h' => ih (i + 1) s' (by omega) h')
  exact key N 0 s (by omega) h0
theorem pd_filt (P : Nat → Bool) : ∀ N c x, ((List.range N).filter P)[c]? = some x → ((List.range N).filter P).take c = (List.range x).filter P := by
  intro N
  induction N with
  | zero => intro c x h; simp at h
  | succ N ih =>
    intro c x h
    rw [List.range_succ, List.filter_append] at h ⊢
    by_cases hc : c < ((List.range N).filter P).length
    · rw [List.getElem?_append_left hc] at h
      rw [List.take_append_of_le_length (by omega)]
      exact ih c x h
    · rw [List.getElem?_append_right (by omega)] at h
      have h2 : (List.filter P [N]) = if P N = true then [N] else [] := by
        by_cases hp : P N = true <;> simp [hp]
      rw [h2] at h ⊢
      by_cases hp : P N = true
      · rw [if_pos hp] at h ⊢
        have h3 : c - ((List.range N).filter P).length < 1 := (List.getElem?_eq_some_iff.mp h).1
        have h4 : c = ((List.range N).filter P).length := by omega
        subst h4
        simp at h
        subst h
        simp
      · rw [if_neg hp] at h; simp at h
theorem pd_ear {n fo : Nat} {fi ft : Nat → Nat} {c x y : Nat} (h : (pd_cl n fo fi ft)[c]? = some x) : (pc_ic n fo fi ft y = true ∧ y < x) ↔ ∃ e, e < c ∧ (pd_cl n fo fi ft)[e]? = some y := by
  have h1 : (pd_cl n fo fi ft).take c = (List.range x).filter (pc_ic n fo fi ft) := pd_filt _ _ _ _ h
  have h2 : (pc_ic n fo fi ft y = true ∧ y < x) ↔ y ∈ (pd_cl n fo fi ft).take c := by
    rw [h1, List.mem_filter, List.mem_range]; exact ⟨fun z => ⟨z.2, z.1⟩, fun z => ⟨z.2, z.1⟩⟩
  rw [h2, List.mem_iff_getElem?]
  constructor
  · rintro ⟨e, he⟩
    rw [List.getElem?_take] at he
    by_cases hc : e < c
    · rw [if_pos hc] at he; exact ⟨e, hc, he⟩
    · rw [if_neg hc] at he; cases he
  · rintro ⟨e, hc, he⟩
    exact ⟨e, by rw [List.getElem?_take, if_pos hc]; exact he⟩
def ph_new (al : Nat → Nat → Bool) (ic : Nat → Bool) (x : Nat) : Bool := !((List.range x).any (fun y => ic y && al y x))
def ph_cf (al : Nat → Nat → Bool) (ic : Nat → Bool) (s x : Nat) : Nat := s + (if ph_new al ic x = true then 1 else 0)
/-- how many parts: cases with no like one ahead -/
def ph_ct (n fo : Nat) (fi ft : Nat → Nat) (al : Nat → Nat → Bool) : Nat := (List.range (2 ^ n)).foldl (fun s x => if pc_ic n fo fi ft x = true then ph_cf al (pc_ic n fo fi ft) s x else s) 0
def ph_k (key : Nat → Nat) : Nat → Nat → Bool := fun y x => key y == key x
theorem ph_newI {n fo : Nat} {fi ft : Nat → Nat} {c x : Nat} {key : Nat → Nat} (h : (pd_cl n fo fi ft)[c]? = some x) : ph_new (ph_k key) (pc_ic n fo fi ft) x = true ↔ ∀ e y, e < c → (pd_cl n fo fi ft)[e]? = some y → key y ≠ key x := by
  unfold ph_new ph_k
  rw [Bool.not_eq_true', List.any_eq_false]
  constructor
  · intro h1 e y he hy hk
    have h2 := (pd_ear h (y := y)).mpr ⟨e, he, hy⟩
    exact h1 y (List.mem_range.mpr h2.2) (by rw [h2.1, hk]; simp)
  · intro h1 y hy
    rw [List.mem_range] at hy
    intro h2
    rw [Bool.and_eq_true, beq_iff_eq] at h2
    obtain ⟨e, he, hye⟩ := (pd_ear h (y := y)).mp ⟨h2.1, hy⟩
    exact h1 e y he hye h2.2
theorem ph_ctb {al : Nat → Nat → Bool} {ic : Nat → Bool} (l : List Nat) : ∀ s, l.foldl (ph_cf al ic) s ≤ s + l.length := by
  induction l with
  | nil => intro s; simp
  | cons a l ih =>
    intro s
    have h1 := ih (ph_cf al ic s a)
    have h2 : ph_cf al ic s a ≤ s + 1 := by unfold ph_cf; split <;> omega
    simp only [List.foldl_cons, List.length_cons]
    omega
theorem ph_ctT {n fo : Nat} {fi ft : Nat → Nat} {al : Nat → Nat → Bool} (c : Nat) : ((pd_cl n fo fi ft).take c).foldl (ph_cf al (pc_ic n fo fi ft)) 0 ≤ c := by
  have h1 := ph_ctb (al := al) (ic := pc_ic n fo fi ft) ((pd_cl n fo fi ft).take c) 0
  have h2 : ((pd_cl n fo fi ft).take c).length ≤ c := List.length_take_le _ _
  omega
def ph_R (n fo : Nat) (fi ft : Nat → Nat) (key : Nat → Nat) (p : Nat → Int64) : Prop := ∀ c x, (pd_cl n fo fi ft)[c]? = some x → p c = lN (key x)
theorem s_begin {n fo : Nat} {fi ft : Nat → Nat} {p_callsOfCase : Nat → Int64} {p_cases : Int32} {post : (Nat → Int64) → Int32 → Prop} (h : ∀ g, ph_R n fo fi ft (fun _ => 0) g → post g (nI (pd_cl n fo fi ft).length)) : w_X0_begin (nI (pd_cl n fo fi ft).length) p_callsOfCase p_cases post := by
  unfold w_X0_begin
  have hlen := pd_len n fo fi ft
  have e : (if (64 : Int32) < nI (pd_cl n fo fi ft).length then (64 : Int32) else nI (pd_cl n fo fi ft).length) = nI (pd_cl n fo fi ft).length := by
    rw [if_neg]
    rw [show (64 : Int32) = nI 64 from rfl, pa_ltN (by omega) (by omega)]; omega
  rw [e]
  refine ⟨(pd_cl n fo fi ft).length + 1, ?_⟩
  refine pl_inv (M := fun f i s => w_X0_begin_L15 (nI (pd_cl n fo fi ft).length) (nI (pd_cl n fo fi ft).length) post _ f (nI i) s) (fun i s => ∀ c, c < i → s c = 0) (fun f s hI => ?_) (fun f i s hi hI hM => ?_) _ (fun c hc => by omega)
  · rw [w_X0_begin_L15]
    refine ⟨fun _ => h s (fun c x hx => hI c (List.getElem?_eq_some_iff.mp hx).1), fun q => absurd (pa_le_ (Nat.le_refl _) (by omega)) q⟩
  · rw [w_X0_begin_L15]
    refine ⟨fun q => absurd q (pa_nle hi (by omega)), fun _ => ⟨pa_vp (by omega) (by omega), ?_⟩⟩
    rw [pa_s1, pa_cl (by omega)]
    refine hM _ (fun c hc => ?_)
    by_cases ec : c = i
    · subst ec; exact pk_uLs
    · rw [pk_uLn ec]; exact hI c (by omega)
theorem ph_pack {k y : Nat} (hk : k < 2 ^ 56) (hy : y < 64) : ((lN k <<< (Int32.toInt64 (6 : Int32) &&& 63)) ||| (Int32.toInt64 (nI y))) = lN (k * 64 + y) := by
  rw [nI_l (by omega)]
  apply Int64.toBitVec_inj.mp
  show ((lN k <<< (Int32.toInt64 (6 : Int32) &&& 63)).toBitVec ||| BitVec.ofNat 64 y) = BitVec.ofNat 64 (k * 64 + y)
  rw [Int64.toBitVec_shiftLeft]
  have e : ((Int32.toInt64 (6 : Int32) &&& 63).toBitVec.smod 64) = 6#64 := by decide
  rw [e]
  apply BitVec.eq_of_toNat_eq
  show ((BitVec.ofNat 64 k <<< 6#64) ||| BitVec.ofNat 64 y).toNat = _
  have e2 : (BitVec.ofNat 64 (k * 64 + y)).toNat = k * 64 + y := by rw [BitVec.toNat_ofNat, Nat.mod_eq_of_lt (by omega)]
  have e3 : (BitVec.ofNat 64 k).toNat = k := by rw [BitVec.toNat_ofNat, Nat.mod_eq_of_lt (by omega)]
  have e4 : (BitVec.ofNat 64 y).toNat = y := by rw [BitVec.toNat_ofNat, Nat.mod_eq_of_lt (by omega)]
  rw [BitVec.toNat_or, BitVec.shiftLeft_eq', BitVec.toNat_shiftLeft, e2, e3, e4, show (6#64).toNat = 6 from rfl, Nat.shiftLeft_eq, Nat.mod_eq_of_lt (by omega)]
  have := Nat.two_pow_add_eq_or_of_lt (i := 6) (b := y) (by omega) k
  rw [show k * 2 ^ 6 = 2 ^ 6 * k from Nat.mul_comm _ _, ← this, Nat.mul_comm]
theorem s_splitBy {n fo l b : Nat} {fi ft kd : Nat → Nat} {key : Nat → Nat} {t_caseRow t_calls : Nat → Int32} {p_callsOfCase : Nat → Int64} {t_caseCount : Int32} {post : (Nat → Int64) → Prop} (hn : n < 7) (hT : pd_T n fo fi ft t_caseRow t_caseCount) (hc : ∀ b, b ≤ 18 → ∀ u, u < 2 ^ n → t_calls (b * 64 + u) = nI (pt_nm n kd u b)) (hl : l < 2 ^ n) (hb : b ≤ 18) (hk : ∀ x, key x < 2 ^ 56) (hR : ph_R n fo fi ft key p_callsOfCase)
    (h : ∀ g, ph_R n fo fi ft (fun x => key x * 64 + pt_nm n kd (pa_un l x) b) g → post g) : w_X0_splitBy t_caseRow t_calls p_callsOfCase (nI (pd_cl n fo fi ft).length) (nI l) (nI b) post := by
  unfold w_X0_splitBy
  obtain ⟨-, hrow⟩ := hT
  have hlen := pd_len n fo fi ft
  have h64 := pa_p2 hn
  refine ⟨(pd_cl n fo fi ft).length + 1, ?_⟩
  refine pl_inv (M := fun f i s => w_X0_splitBy_L3 (nI l) (nI b) t_caseRow t_calls (nI (pd_cl n fo fi ft).length) post _ f (nI i) s) (fun i s => ∀ c x, (pd_cl n fo fi ft)[c]? = some x → s c = if c < i then lN (key x * 64 + pt_nm n kd (pa_un l x) b) else lN (key x)) (fun f s hI => ?_) (fun f i s hi hI hM => ?_) _ (fun c x hx => by rw [if_neg (by omega)]; exact hR c x hx)
  · rw [w_X0_splitBy_L3]
    refine ⟨fun _ => h s (fun c x hx => ?_), fun q => absurd (pa_le_ (Nat.le_refl _) (by omega)) q⟩
    have := hI c x hx
    rwa [if_pos (List.getElem?_eq_some_iff.mp hx).1] at this
  · obtain ⟨x, hx⟩ := pd_get hi
    have hx2 := pd_mem hx
    rw [w_X0_splitBy_L3]
    refine ⟨fun q => absurd q (pa_nle hi (by omega)), fun _ => ⟨pa_vp (by omega) (by omega), pa_vp (by omega) (by omega), ?_⟩⟩
    rw [pa_cl (by omega), hrow i x hx]
    refine s_callIn hn hc hl hx2.2.1 hb ⟨pa_vp (by omega) (by omega), ?_⟩
    have hlt := pt_nm_lt n kd (pa_un l x) b
    have hsi := hI i x hx
    rw [if_neg (by omega)] at hsi
    rw [pa_s1, hsi, ph_pack (hk x) (by omega)]
    refine hM _ (fun c y hy => ?_)
    by_cases ec : c = i
    · subst ec
      rw [pk_uLs, if_pos (by omega)]
      rw [hx] at hy; cases hy; rfl
    · rw [pk_uLn ec, hI c y hy]
      by_cases h1 : c < i
      · rw [if_pos h1, if_pos (by omega)]
      · rw [if_neg h1, if_neg (by omega)]
theorem s_firstLike {p_callsOfCase : Nat → Int64} {c : Nat} {post : Int32 → Prop} (hc : c < 64) (h : ∀ e, e ≤ c → p_callsOfCase e = p_callsOfCase c → (∀ d, d < e → p_callsOfCase d ≠ p_callsOfCase c) → post (nI e)) : w_X0_firstLike p_callsOfCase (nI c) post := by
  unfold w_X0_firstLike
  refine ⟨c + 1, ?_⟩
  refine pl_inv (σ := Unit) (M := fun f i _ => w_X0_firstLike_L2 (nI c) p_callsOfCase post (post (nI c)) f (nI i)) (fun i _ => ∀ d, d < i → p_callsOfCase d ≠ p_callsOfCase c) (fun f s hI => ?_) (fun f i s hi hI hM => ?_) () (fun d hd => by omega)
  · rw [w_X0_firstLike_L2]
    exact ⟨fun _ => h c (Nat.le_refl c) rfl hI, fun q => absurd (pa_le_ (Nat.le_refl _) (by omega)) q⟩
  · rw [w_X0_firstLike_L2]
    refine ⟨fun q => absurd q (pa_nle hi (by omega)), fun _ => ⟨pa_vp (by omega) (by omega), pa_vp (by omega) (by omega), fun q => ?_, fun q => ?_⟩⟩
    · rw [pe_cmp0, pa_cl (by omega), pa_cl (by omega)] at q
      rw [pa_s1]
      refine hM () (fun d hd => ?_)
      by_cases e : d = i
      · subst e; exact q
      · exact hI d (by omega)
    · rw [pe_cmp0, pa_cl (by omega), pa_cl (by omega)] at q
      exact h i (by omega) q hI
/-- what the numbers of parts tell -/
def ph_G (n fo : Nat) (fi ft : Nat → Nat) (key : Nat → Nat) (c P : Nat) (f : Nat → Int32) : Prop := (∀ e, e < c → ∃ p, p < P ∧ f e = nI p) ∧ ∀ e e' x x', e < c → e' < c → (pd_cl n fo fi ft)[e]? = some x → (pd_cl n fo fi ft)[e']? = some x' → (f e = f e' ↔ key x = key x')
theorem s_number {n fo : Nat} {fi ft : Nat → Nat} {key : Nat → Nat} {p_callsOfCase : Nat → Int64} {p_partOfCase : Nat → Int32} {p_parts : Int32} {post : Int32 → (Nat → Int32) → Int32 → Prop} (hn : n < 7) (hk : ∀ x, key x < 2 ^ 62) (hR : ph_R n fo fi ft key p_callsOfCase)
    (h : ∀ f, ph_G n fo fi ft key (pd_cl n fo fi ft).length (ph_ct n fo fi ft (ph_k key)) f → ph_ct n fo fi ft (ph_k key) ≤ 64 → post (nI (ph_ct n fo fi ft (ph_k key))) f (nI (ph_ct n fo fi ft (ph_k key)))) : w_X0_number p_callsOfCase p_partOfCase (nI (pd_cl n fo fi ft).length) p_parts post := by
  unfold w_X0_number
  have hlen := pd_len n fo fi ft
  have hfin : ((pd_cl n fo fi ft).take (pd_cl n fo fi ft).length).foldl (ph_cf (ph_k key) (pc_ic n fo fi ft)) 0 = ph_ct n fo fi ft (ph_k key) := by
    rw [List.take_length, pd_both _ _ hn]; rfl
  have heq : ∀ c c' x x', (pd_cl n fo fi ft)[c]? = some x → (pd_cl n fo fi ft)[c']? = some x' → (p_callsOfCase c = p_callsOfCase c' ↔ key x = key x') := by
    intro c c' x x' h1 h2
    rw [hR c x h1, hR c' x' h2, pk_lEQ (by have := hk x; omega) (by have := hk x'; omega)]
  refine ⟨(pd_cl n fo fi ft).length + 1, ?_⟩
  refine pl_inv (M := fun f i (s : (Nat → Int32) × Int32) => w_X0_number_L7 p_callsOfCase (nI (pd_cl n fo fi ft).length) post _ f (nI i) s.1 s.2) (fun i s => s.2 = nI (((pd_cl n fo fi ft).take i).foldl (ph_cf (ph_k key) (pc_ic n fo fi ft)) 0) ∧ ph_G n fo fi ft key i (((pd_cl n fo fi ft).take i).foldl (ph_cf (ph_k key) (pc_ic n fo fi ft)) 0) s.1) (fun f s hI => ?_) (fun f i s hi hI hM => ?_) (p_partOfCase, (0 : Int32)) ⟨rfl, fun e he => by omega, fun e e' x x' he => by omega⟩
  · rw [w_X0_number_L7]
    refine ⟨fun _ => ?_, fun q => absurd (pa_le_ (Nat.le_refl _) (by omega)) q⟩
    have hb := ph_ctT (n := n) (fo := fo) (fi := fi) (ft := ft) (al := ph_k key) (pd_cl n fo fi ft).length
    rw [hfin] at hI hb
    rw [hI.1]
    exact h s.1 hI.2 (by omega)
  · obtain ⟨x, hx⟩ := pd_get hi
    have hnew := ph_newI (key := key) hx
    have hstep : ((pd_cl n fo fi ft).take (i + 1)).foldl (ph_cf (ph_k key) (pc_ic n fo fi ft)) 0 = ph_cf (ph_k key) (pc_ic n fo fi ft) (((pd_cl n fo fi ft).take i).foldl (ph_cf (ph_k key) (pc_ic n fo fi ft)) 0) x := pd_fold_s _ _ hx
    have hb := ph_ctT (n := n) (fo := fo) (fi := fi) (ft := ft) (al := ph_k key) i
    rw [hstep] at hM
    generalize ((pd_cl n fo fi ft).take i).foldl (ph_cf (ph_k key) (pc_ic n fo fi ft)) 0 = ct at hI hM hb
    obtain ⟨h1, h2, h3⟩ := hI
    obtain ⟨pa, pp⟩ := s
    simp only at h1 h2 h3
    subst h1
    rw [w_X0_number_L7]
    refine ⟨fun q => absurd q (pa_nle hi (by omega)), fun _ => ?_⟩
    refine s_firstLike (by omega) (fun e he hke hfirst => ?_)
    have hex : ∃ y, (pd_cl n fo fi ft)[e]? = some y := pd_get (by omega)
    obtain ⟨y, hy⟩ := hex
    refine ⟨fun q => ⟨pa_vp (by omega) (by omega), pa_vp (by omega) (by omega), ?_⟩, fun q => ⟨pa_vp (by omega) (by omega), ?_⟩⟩
    · rw [pa_nIinj (by omega) (by omega)] at q
      have hkey : key y = key x := (heq e i y x hy hx).mp hke
      have hn0 : ¬ ph_new (ph_k key) (pc_ic n fo fi ft) x = true := fun z => hnew.mp z e y (by omega) hy hkey
      have e1 : ph_cf (ph_k key) (pc_ic n fo fi ft) ct x = ct := by unfold ph_cf; rw [if_neg hn0]; rfl
      rw [e1] at hM
      rw [pa_s1, pa_cl (by omega), pa_cl (by omega)]
      refine hM (upd pa i (pa e), nI ct) ⟨rfl, fun d hd => ?_, fun d d' z z' hd hd' hz hz' => ?_⟩
      · by_cases ed : d = i
        · subst ed; simp only [pk_us]; exact h2 e (by omega)
        · simp only [pk_un ed]; exact h2 d (by omega)
      · by_cases ed : d = i
        · subst ed
          rw [hx] at hz; cases hz
          by_cases ed' : d' = d
          · subst ed'; rw [hx] at hz'; cases hz'; simp
          · simp only [pk_us, pk_un ed']
            rw [h3 e d' y z' (by omega) (by omega) hy hz', hkey]
        · by_cases ed' : d' = i
          · subst ed'
            rw [hx] at hz'; cases hz'
            simp only [pk_us, pk_un ed]
            rw [h3 d e z y (by omega) (by omega) hz hy, hkey]
          · simp only [pk_un ed, pk_un ed']
            exact h3 d d' z z' (by omega) (by omega) hz hz'
    · rw [pa_nIinj (by omega) (by omega)] at q
      subst q
      have hn1 : ph_new (ph_k key) (pc_ic n fo fi ft) x = true := hnew.mpr (fun d z hd hz hkz => hfirst d hd ((heq d e z x hz hx).mpr hkz))
      have e1 : ph_cf (ph_k key) (pc_ic n fo fi ft) ct x = ct + 1 := by unfold ph_cf; rw [if_pos hn1]
      rw [e1] at hM
      rw [pa_s1, pa_s1, pa_cl (by omega)]
      refine hM (upd pa e (nI ct), nI (ct + 1)) ⟨rfl, fun d hd => ?_, fun d d' z z' hd hd' hz hz' => ?_⟩
      · by_cases ed : d = e
        · subst ed; exact ⟨ct, by omega, pk_us⟩
        · obtain ⟨p, hp1, hp2⟩ := h2 d (by omega)
          exact ⟨p, by omega, by simp only [pk_un ed]; exact hp2⟩
      · have hne : ∀ d z, d < e → (pd_cl n fo fi ft)[d]? = some z → pa d ≠ nI ct ∧ key z ≠ key x := by
          intro d z hd hz
          obtain ⟨p, hp1, hp2⟩ := h2 d hd
          refine ⟨fun w => ?_, fun w => hfirst d hd ((heq d e z x hz hx).mpr w)⟩
          rw [hp2, pa_nIinj (by omega) (by omega)] at w; omega
        by_cases ed : d = e
        · subst ed
          rw [hx] at hz; cases hz
          by_cases ed' : d' = d
          · subst ed'; rw [hx] at hz'; cases hz'; simp
          · simp only [pk_us, pk_un ed']
            have := hne d' z' (by omega) hz'
            exact ⟨fun w => absurd w.symm this.1, fun w => absurd w.symm this.2⟩
        · by_cases ed' : d' = e
          · subst ed'
            rw [hx] at hz'; cases hz'
            simp only [pk_us, pk_un ed]
            have := hne d z (by omega) hz
            exact ⟨fun w => absurd w this.1, fun w => absurd w this.2⟩
          · simp only [pk_un ed, pk_un ed']
            exact h3 d d' z z' (by omega) (by omega) hz hz'
