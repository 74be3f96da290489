theorem yq_Pl {D : va_G} {a b : va_W} {H : Heap} (h : va_P D vwCl (a ++ b) H) : va_P D vwCl a H := fun k q hk => h k q (by
  have hl : k < a.length := (List.getElem?_eq_some_iff.mp hk).1
  rw [List.getElem?_append_left hl]; exact hk)
theorem yq_Pr {D : va_G} {a b : va_W} {H : Heap} (h : va_P D vwCl (a ++ b) H) : va_P D vwCl b H := fun k q hk => h (a.length + k) q (by
  rw [List.getElem?_append_right (Nat.le_add_right _ _), Nat.add_sub_cancel_left]; exact hk)
theorem yq_il {a b : va_W} {k : Nat} {q : Nat × va_E} (hk : a[k]? = some q) : (a ++ b)[k]? = some q := by
  have hl : k < a.length := (List.getElem?_eq_some_iff.mp hk).1
  rw [List.getElem?_append_left hl]; exact hk
theorem yq_ir {a b : va_W} {k : Nat} {q : Nat × va_E} (hk : b[k]? = some q) : (a ++ b)[a.length + k]? = some q := by
  rw [List.getElem?_append_right (Nat.le_add_right _ _), Nat.add_sub_cancel_left]; exact hk
theorem yq_len {a : va_W} {k : Nat} {q : Nat × va_E} (hk : a[k]? = some q) : k < a.length := (List.getElem?_eq_some_iff.mp hk).1
theorem yq_Dl {A : Nat → Prop} {a b : va_W} (h : va_D A (a ++ b)) : va_D A a := ⟨fun i j p q hp hq e => h.1 i j p q (yq_il hp) (yq_il hq) e, fun k q hk => h.2 k q (yq_il hk)⟩
theorem yq_Dr {A : Nat → Prop} {a b : va_W} (h : va_D A (a ++ b)) : va_D A b := ⟨fun i j p q hp hq e => by have := h.1 _ _ p q (yq_ir (a := a) hp) (yq_ir (a := a) hq) e; omega, fun k q hk => h.2 _ q (yq_ir (a := a) hk)⟩
theorem yq_joinR {D : va_G} {A : Nat → Prop} {a b b' : va_W} {H H1 : Heap} (hP : va_P D vwCl (a ++ b) H) (hD : va_D A (a ++ b)) (hF : ∀ q, va_A b H.size q → A q) (hk : ∀ q : Nat, q < H.size → ¬ va_A b H.size q → H1[q]? = H[q]?) (hP1 : va_P D vwCl b' H1) (hD1 : va_D (va_A b H.size) b') : va_P D vwCl (a ++ b') H1 ∧ va_D A (a ++ b') := by
  have ha : ∀ (k : Nat) (q : Nat × va_E), a[k]? = some q → q.1 < H.size ∧ ¬ va_A b H.size q.1 := by
    intro k q hq
    refine ⟨(yq_Pl hP k q hq).lt, fun h => ?_⟩
    rcases h with ⟨j, e, hj⟩ | h
    · have := hD.1 k (a.length + j) q (q.1, e) (yq_il hq) (yq_ir hj) rfl
      have := yq_len hq
      omega
    · exact absurd (yq_Pl hP k q hq).lt (Nat.not_lt.mpr h)
  refine ⟨((yq_Pl hP).kept (fun k q hq => hk q.1 (ha k q hq).1 (ha k q hq).2)).app hP1, (yq_Dl hD).app (hD1.weaken (fun _ q _ h => hF q.1 h)) (fun i j p q hp hq e => (ha i p hp).2 (by rw [e]; exact hD1.2 j q hq))⟩
theorem yq_joinL {D : va_G} {A : Nat → Prop} {a b a' : va_W} {H H1 : Heap} (hP : va_P D vwCl (a ++ b) H) (hD : va_D A (a ++ b)) (hF : ∀ q, va_A a H.size q → A q) (hk : ∀ q : Nat, q < H.size → ¬ va_A a H.size q → H1[q]? = H[q]?) (hP1 : va_P D vwCl a' H1) (hD1 : va_D (va_A a H.size) a') : va_P D vwCl (a' ++ b) H1 ∧ va_D A (a' ++ b) := by
  have ha : ∀ (k : Nat) (q : Nat × va_E), b[k]? = some q → q.1 < H.size ∧ ¬ va_A a H.size q.1 := by
    intro k q hq
    refine ⟨(yq_Pr hP k q hq).lt, fun h => ?_⟩
    rcases h with ⟨j, e, hj⟩ | h
    · have := hD.1 (a.length + k) j q (q.1, e) (yq_ir hq) (yq_il hj) rfl
      have := yq_len hj
      omega
    · exact absurd (yq_Pr hP k q hq).lt (Nat.not_lt.mpr h)
  refine ⟨hP1.app ((yq_Pr hP).kept (fun k q hq => hk q.1 (ha k q hq).1 (ha k q hq).2)), (hD1.weaken (fun _ q _ h => hF q.1 h)).app (yq_Dr hD) (fun i j p q hp hq e => (ha j q hq).2 (by rw [← e]; exact hD1.2 i p hp))⟩
theorem yq_arr {s : State} {args : Array Value} {ty : FieldType} (h : (Cond.arrayClass ty).before args s = true) (hp : ∀ C, ty ≠ .object C) : ∃ cA : ClassId, ArrOfT s cA ty ∧ va_RA s cA ty := by
  obtain ⟨cA, kA, comp, h1, h2, h3⟩ := Cond.arrayClass_spec h
  refine ⟨cA, fun n z => ⟨fun k h => (by cases h), kA, h2, comp, h3⟩, ?_⟩
  cases ty <;> first | exact h1 | exact absurd rfl (hp _)
section YQC
variable {p : Program} {l : Launch} {e : Env} {R : Room} {s : State} {m : MethodId} {args : Array Value} {below : List Frame} {meth : Method} {c : Code} {H : Heap} {locs : List Loc} {Q : State → Prop}
variable {pc : Nat} {ls : Array Slot} {rest st0 : List Value} {a : Array Value} {A : Nat → Prop} {H0 : Heap} {D : va_G} {tys : List (ClassId × FieldType)} {wl wr : va_W} {cells slots mc ms : Nat}
theorem yq_cRv {S : Type} {post : S → Prop} {wf : S → va_W} (hr : va_Run p l e R s m args below meth c H locs cells slots mc ms (F0 m pc ls st0) rest (va_Qv post (fun u => xq_B D tys (va_A wr H.size) (wf u)) (va_A wr H.size) a) (va_A wr H.size)) (hP : va_P D vwCl (wl ++ wr) H) (hD : va_D A (wl ++ wr)) (hS : va_S A H0 H locs) (hA : ∀ q, H0.size ≤ q → A q)
    (kk : ∀ (u : S) (H1 : Heap) (locs1 : List Loc), post u → va_P D vwCl (wl ++ wf u) H1 → va_D A (wl ++ wf u) → va_S A H0 H1 locs1 → W p l e R s m args below meth c H1 locs1 (cells + mc) (slots + ms) Q (F0 m (pc + 3) ls rest)) : W p l e R s m args below meth c H locs cells slots Q (F0 m pc ls st0) := by
  have hF := xq_free (yq_Dr hD) hS hA
  refine va_callv hr hS (fun q _ h => hF q h) hF (fun u t H1 locs1 ht hvm hw hB _ hk1 hS1 => ?_)
  obtain ⟨hP1, hK1, hD1⟩ := hB
  rw [ht] at hP1
  obtain ⟨h1, h2⟩ := yq_joinR hP hD hF hk1 hP1 hD1
  exact kk u H1 locs1 hw h1 h2 hS1
theorem yq_cRi {S : Type} {post : Int32 → S → Prop} {wf : S → va_W} (hr : va_Run p l e R s m args below meth c H locs cells slots 0 0 (F0 m pc ls st0) rest (va_Qi post (fun u => xq_B D tys (va_A wr H.size) (wf u)) (va_A wr H.size) a) (va_A wr H.size)) (hP : va_P D vwCl (wl ++ wr) H) (hD : va_D A (wl ++ wr)) (hS : va_S A H0 H locs) (hA : ∀ q, H0.size ≤ q → A q)
    (kk : ∀ (r : Int32) (u : S) (H1 : Heap) (locs1 : List Loc), post r u → va_P D vwCl (wl ++ wf u) H1 → va_D A (wl ++ wf u) → va_S A H0 H1 locs1 → W p l e R s m args below meth c H1 locs1 cells slots Q (F0 m (pc + 3) ls (.int r :: rest))) : W p l e R s m args below meth c H locs cells slots Q (F0 m pc ls st0) := by
  have hF := xq_free (yq_Dr hD) hS hA
  refine va_calli hr hS (fun q _ h => hF q h) hF (fun r u t H1 locs1 ht hvm hw hB _ hk1 hS1 => ?_)
  obtain ⟨hP1, hK1, hD1⟩ := hB
  rw [ht] at hP1
  obtain ⟨h1, h2⟩ := yq_joinR hP hD hF hk1 hP1 hD1
  exact kk r u H1 locs1 hw h1 h2 hS1
theorem yq_cRl {S : Type} {post : Int64 → S → Prop} {wf : S → va_W} (hr : va_Run p l e R s m args below meth c H locs cells slots 0 0 (F0 m pc ls st0) rest (va_Ql post (fun u => xq_B D tys (va_A wr H.size) (wf u)) (va_A wr H.size) a) (va_A wr H.size)) (hP : va_P D vwCl (wl ++ wr) H) (hD : va_D A (wl ++ wr)) (hS : va_S A H0 H locs) (hA : ∀ q, H0.size ≤ q → A q)
    (kk : ∀ (r : Int64) (u : S) (H1 : Heap) (locs1 : List Loc), post r u → va_P D vwCl (wl ++ wf u) H1 → va_D A (wl ++ wf u) → va_S A H0 H1 locs1 → W p l e R s m args below meth c H1 locs1 cells slots Q (F0 m (pc + 3) ls (.long r :: rest))) : W p l e R s m args below meth c H locs cells slots Q (F0 m pc ls st0) := by
  have hF := xq_free (yq_Dr hD) hS hA
  refine va_calll hr hS (fun q _ h => hF q h) hF (fun r u t H1 locs1 ht hvm hw hB _ hk1 hS1 => ?_)
  obtain ⟨hP1, hK1, hD1⟩ := hB
  rw [ht] at hP1
  obtain ⟨h1, h2⟩ := yq_joinR hP hD hF hk1 hP1 hD1
  exact kk r u H1 locs1 hw h1 h2 hS1
theorem yq_cLi {S : Type} {post : Int32 → S → Prop} {wf : S → va_W} (hr : va_Run p l e R s m args below meth c H locs cells slots 0 0 (F0 m pc ls st0) rest (va_Qi post (fun u => xq_B D tys (va_A wl H.size) (wf u)) (va_A wl H.size) a) (va_A wl H.size)) (hP : va_P D vwCl (wl ++ wr) H) (hD : va_D A (wl ++ wr)) (hS : va_S A H0 H locs) (hA : ∀ q, H0.size ≤ q → A q)
    (kk : ∀ (r : Int32) (u : S) (H1 : Heap) (locs1 : List Loc), post r u → va_P D vwCl (wf u ++ wr) H1 → va_D A (wf u ++ wr) → va_S A H0 H1 locs1 → W p l e R s m args below meth c H1 locs1 cells slots Q (F0 m (pc + 3) ls (.int r :: rest))) : W p l e R s m args below meth c H locs cells slots Q (F0 m pc ls st0) := by
  have hF := xq_free (yq_Dl hD) hS hA
  refine va_calli hr hS (fun q _ h => hF q h) hF (fun r u t H1 locs1 ht hvm hw hB _ hk1 hS1 => ?_)
  obtain ⟨hP1, hK1, hD1⟩ := hB
  rw [ht] at hP1
  obtain ⟨h1, h2⟩ := yq_joinL hP hD hF hk1 hP1 hD1
  exact kk r u H1 locs1 hw h1 h2 hS1
theorem yq_cLl {S : Type} {post : Int64 → S → Prop} {wf : S → va_W} (hr : va_Run p l e R s m args below meth c H locs cells slots 0 0 (F0 m pc ls st0) rest (va_Ql post (fun u => xq_B D tys (va_A wl H.size) (wf u)) (va_A wl H.size) a) (va_A wl H.size)) (hP : va_P D vwCl (wl ++ wr) H) (hD : va_D A (wl ++ wr)) (hS : va_S A H0 H locs) (hA : ∀ q, H0.size ≤ q → A q)
    (kk : ∀ (r : Int64) (u : S) (H1 : Heap) (locs1 : List Loc), post r u → va_P D vwCl (wf u ++ wr) H1 → va_D A (wf u ++ wr) → va_S A H0 H1 locs1 → W p l e R s m args below meth c H1 locs1 cells slots Q (F0 m (pc + 3) ls (.long r :: rest))) : W p l e R s m args below meth c H locs cells slots Q (F0 m pc ls st0) := by
  have hF := xq_free (yq_Dl hD) hS hA
  refine va_calll hr hS (fun q _ h => hF q h) hF (fun r u t H1 locs1 ht hvm hw hB _ hk1 hS1 => ?_)
  obtain ⟨hP1, hK1, hD1⟩ := hB
  rw [ht] at hP1
  obtain ⟨h1, h2⟩ := yq_joinL hP hD hF hk1 hP1 hD1
  exact kk r u H1 locs1 hw h1 h2 hS1
variable {cc : ByteArray} {ws : va_W} {cyI cyJ : ClassId}
theorem yq_newI (hx : p.tables.exec = Jvm.exec) (hb : c.code = cc) (harr : (Cond.arrayClass .int).before args s = true) (hK : va_K D vwCl [(cyI, .int), (cyJ, .long)] s) (hP : va_P D vwCl ws H) (hD : va_D A ws) (hS : va_S A H0 H locs) (hA : ∀ q, H0.size ≤ q → A q) {n : Int32} {N' : Nat} (hn : ¬ n < 0) (hN : n.toNatClampNeg = N') (hbytes : N' * componentBytes .int ≤ 536870912) (hcells : cells + 1 ≤ R.cells) (hslots : slots + N' ≤ R.slots) (hdg : decode cc pc = .ok (.newarray .int, 2))
    (kk : ∀ (q : Nat) (H1 : Heap), va_P D vwCl (ws ++ [(q, .inl (cyI, N', .inl (fun _ => 0)))]) H1 → va_D A (ws ++ [(q, .inl (cyI, N', .inl (fun _ => 0)))]) → va_S A H0 H1 locs → W p l e R s m args below meth c H1 locs (cells + 1) (slots + N') Q (F0 m (pc + 2) ls (.ref q :: rest))) : W p l e R s m args below meth c H locs cells slots Q (F0 m pc ls (.int n :: rest)) := by
  refine va_newa (atype := .int) (ty := .int) (a0 := (N', .inl (fun _ => 0))) hx hb harr rfl hK hP hD hS hA (fun _ => rfl) hn hN hbytes hcells hslots hdg (fun q cA H1 hK1 hP1 hD1 hS1 => ?_)
  have e : cA = cyI := by
    have h1 := (hK1.2 2 (cA, .int) rfl).2
    have h2 := (hK1.2 0 (cyI, .int) rfl).2
    exact Option.some.inj (h1.symm.trans h2)
  subst e
  exact kk q H1 hP1 hD1 hS1
theorem yq_newJ (hx : p.tables.exec = Jvm.exec) (hb : c.code = cc) (harr : (Cond.arrayClass .long).before args s = true) (hK : va_K D vwCl [(cyI, .int), (cyJ, .long)] s) (hP : va_P D vwCl ws H) (hD : va_D A ws) (hS : va_S A H0 H locs) (hA : ∀ q, H0.size ≤ q → A q) {n : Int32} {N' : Nat} (hn : ¬ n < 0) (hN : n.toNatClampNeg = N') (hbytes : N' * componentBytes .long ≤ 536870912) (hcells : cells + 1 ≤ R.cells) (hslots : slots + N' ≤ R.slots) (hdg : decode cc pc = .ok (.newarray .long, 2))
    (kk : ∀ (q : Nat) (H1 : Heap), va_P D vwCl (ws ++ [(q, .inl (cyJ, N', .inr (.inl (fun _ => 0))))]) H1 → va_D A (ws ++ [(q, .inl (cyJ, N', .inr (.inl (fun _ => 0))))]) → va_S A H0 H1 locs → W p l e R s m args below meth c H1 locs (cells + 1) (slots + N') Q (F0 m (pc + 2) ls (.ref q :: rest))) : W p l e R s m args below meth c H locs cells slots Q (F0 m pc ls (.int n :: rest)) := by
  refine va_newa (atype := .long) (ty := .long) (a0 := (N', .inr (.inl (fun _ => 0)))) hx hb harr rfl hK hP hD hS hA (fun _ => rfl) hn hN hbytes hcells hslots hdg (fun q cA H1 hK1 hP1 hD1 hS1 => ?_)
  have e : cA = cyJ := by
    have h1 := (hK1.2 2 (cA, .long) rfl).2
    have h2 := (hK1.2 1 (cyJ, .long) rfl).2
    exact Option.some.inj (h1.symm.trans h2)
  subst e
  exact kk q H1 hP1 hD1 hS1
end YQC
abbrev yq_R (f lo mc ms : Nat) : Room := { frames := f, cells := mc, slots := ms, locals := lo }
def yq_ad (l : List Nat) : Nat → Nat := fun k => l.getD k 0
theorem yq_M {l : Launch} {y : MethodName} {ws ws' : List Cond} {f lo mc ms : Nat} {cc : ByteArray} {maxL : Nat} {ret : Option FieldType} {D : va_G} {tys : List (ClassId × FieldType)} {w : va_W} {sz : Nat} {av : List Value} {QA : (Nat → Prop) → Array Value → State → Outcome → State → Prop}
    (hy : plainName y.cls = true) (hw : ws = Cond.code y cc maxL ret :: ws') (hn : (lg_sl av).length ≤ maxL)
    (body : ∀ (p : Program) (e : Env) (s : State) (m : MethodId) (args : Array Value) (below : List Frame) (meth : Method) (c : Code) (A : Nat → Prop) (ls : Array Slot) (Q : State → Prop), Q = MQ below (QA A) args s mc ms A → p.tables.exec = Jvm.exec → c.code = cc → meth.sig.returnType = ret → c.maxLocals = maxL → (∀ w' ∈ ws, w'.before args s = true) → s.vm.findClass y.cls = some m.cls → meth.locks = false → s.heap.size = sz → va_P D vwCl w s.heap → va_K D vwCl tys s → va_D A w → (∀ q : Nat, s.heap.size ≤ q → A q) → va_S A s.heap s.heap [] → xq_N s → lv_has ls maxL (lv_args 0 av) → meth.name = y.name → W p l e (yq_R f lo mc ms) s m args below meth c s.heap [] 0 0 Q (F0 m 0 ls [])) :
    Met l y ws (yq_R f lo mc ms) (va_Pc av (xq_P D tys w sz)) (QA (va_A w sz)) mc ms (va_A w sz) := by
  refine Met.ofW (cc := cc) (maxL := maxL) (ret := ret) hy hw ?_
  intro p e s m args below meth c s₁ B hml hv
  obtain ⟨rfl, hsz, hP, hK, hD0, hN⟩ := hv
  have hts := atoms_spec (ws := ws) B.pre
  have hown : s.vm.findClass y.cls = some m.cls := findClass_of_methodNamed B.named
  subst hsz
  have hD := hD0.self (sz := s.heap.size)
  have hA : ∀ q : Nat, s.heap.size ≤ q → va_A w s.heap.size q := fun q h => Or.inr h
  have hS : va_S (va_A w s.heap.size) s.heap s.heap [] := va_S.rf
  have hl := lv_entry av (n := maxL) hn
  rw [lg_entry_eq]
  exact body p e s m av.toArray below meth c (va_A w s.heap.size) _ _ rfl B.exec B.bytes B.returns hml hts hown B.notSynchronized rfl hP hK hD hA hS hN hl (name_of_methodNamed B.named B.method).1
