abbrev xq_R (f lo : Nat) : Room := { frames := f, cells := 0, slots := 0, locals := lo }
def xq_N (U : State) : Prop := va_Nw (.methodLinkNest RX4 61 yX5_isBreath RX5) U ∧ va_Nw (.methodLinkNest RX4 65 yX5_has RX5) U ∧ va_Nw (.methodLinkNest RX4 69 yX5_wordsOfKind RX5) U
theorem xq_N.warm {s U : State} (hW : s.WarmedH U.vm) (h : xq_N s) : xq_N U := ⟨va_Nw.warmM hW h.1, va_Nw.warmM hW h.2.1, va_Nw.warmM hW h.2.2⟩
theorem xq_N.same {s U : State} (hv : s.vm = U.vm) (h : xq_N s) : xq_N U := ⟨va_Nw.same rfl hv h.1, va_Nw.same rfl hv h.2.1, va_Nw.same rfl hv h.2.2⟩
def xq_P (D : va_G) (tys : List (ClassId × FieldType)) (w : va_W) (sz : Nat) (U : State) : Prop := U.heap.size = sz ∧ va_P D vwCl w U.heap ∧ va_K D vwCl tys U ∧ va_D (fun _ => True) w ∧ xq_N U
def xq_B (D : va_G) (tys : List (ClassId × FieldType)) (A : Nat → Prop) (w : va_W) (t : State) : Prop := va_P D vwCl w t.heap ∧ va_K D vwCl tys t ∧ va_D A w
def xq_z (v : Int32) : Prop := narrow .boolean (.int v) = .int v
theorem xq_fb {D : va_G} {tys : List (ClassId × FieldType)} {w : va_W} {sz : Nat} {av : List Value} : FrameBlind (va_Pc av (xq_P D tys w sz)) := fun a U g mk q => ⟨q.1, q.2.1, q.2.2.1, va_K.moved (u := U) (U := U.calling g mk a) (Vm.Alike.refl U.vm) q.2.2.2.1, q.2.2.2.2.1, xq_N.same (s := U) (U := U.calling g mk a) rfl q.2.2.2.2.2⟩
theorem xq_preV {s : State} {H : Heap} {C : String} {T : u_T} {N b ci q0 : Nat} {fs As : List Value} {A : Nat → Prop} {D : va_G} {tys : List (ClassId × FieldType)} {w : va_W} (hK : va_K D vwCl tys s) (hP : va_P D vwCl w H) (hD : va_D A w) (hN : xq_N s) (hc : vwCl[ci]? = some (C, T, N)) (he : w[q0]? = some (b, .inr (ci, fs))) : PreV s H C b (va_Pc (.ref b :: As) (xq_P D tys w H.size)) As :=
  ⟨xq_fb, va_recv hK hP hc he, fun U hU hW => ⟨rfl, by rw [hU], by rw [hU]; exact hP, va_K.moved hW.alike hK, hD.weaken (fun _ _ _ _ => trivial), hN.warm hW⟩⟩
theorem xq_preS {s : State} {H : Heap} {As : List Value} {A : Nat → Prop} {D : va_G} {tys : List (ClassId × FieldType)} {w : va_W} (hK : va_K D vwCl tys s) (hP : va_P D vwCl w H) (hD : va_D A w) (hN : xq_N s) : PreS s H (va_Pc As (xq_P D tys w H.size)) As :=
  ⟨xq_fb, fun U hU hW => ⟨rfl, by rw [hU], by rw [hU]; exact hP, va_K.moved hW.alike hK, hD.weaken (fun _ _ _ _ => trivial), hN.warm hW⟩⟩
theorem xq_M {l : Launch} {y : MethodName} {ws ws' : List Cond} {f lo : Nat} {cc : ByteArray} {maxL : Nat} {ret : Option FieldType} {D : va_G} {tys : List (ClassId × FieldType)} {w : va_W} {sz : Nat} {av : List Value} {QA : (Nat → Prop) → Array Value → State → Outcome → State → Prop}
    (hy : plainName y.cls = true) (hw : ws = Cond.code y cc maxL ret :: ws') (hn : (lg_sl av).length ≤ maxL)
    (body : ∀ (p : Program) (e : Env) (s : State) (m : MethodId) (args : Array Value) (below : List Frame) (meth : Method) (c : Code) (A : Nat → Prop) (ls : Array Slot) (Q : State → Prop), Q = MQ below (QA A) args s 0 0 A → p.tables.exec = Jvm.exec → c.code = cc → meth.sig.returnType = ret → c.maxLocals = maxL → (∀ w' ∈ ws, w'.before args s = true) → s.vm.findClass y.cls = some m.cls → meth.locks = false → s.heap.size = sz → va_P D vwCl w s.heap → va_K D vwCl tys s → va_D A w → (∀ q : Nat, s.heap.size ≤ q → A q) → va_S A s.heap s.heap [] → xq_N s → lv_has ls maxL (lv_args 0 av) → W p l e (xq_R f lo) s m args below meth c s.heap [] 0 0 Q (F0 m 0 ls [])) :
    Met l y ws (xq_R f lo) (va_Pc av (xq_P D tys w sz)) (QA (va_A w sz)) 0 0 (va_A w sz) := by
  refine Met.ofW (cc := cc) (maxL := maxL) (ret := ret) hy hw ?_
  intro p e s m args below meth c s₁ B hml hv
  obtain ⟨rfl, hsz, hP, hK, hD0, hN⟩ := hv
  have hts := atoms_spec (ws := ws) B.pre
  have hown : s.vm.findClass y.cls = some m.cls := findClass_of_methodNamed B.named
  subst hsz
  have hD := hD0.self (sz := s.heap.size)
  have hA : ∀ q : Nat, s.heap.size ≤ q → va_A w s.heap.size q := fun q h => Or.inr h
  have hS : va_S (va_A w s.heap.size) s.heap s.heap [] := va_S.rf
  have hl := lv_entry av (n := maxL) hn
  rw [lg_entry_eq]
  exact body p e s m av.toArray below meth c (va_A w s.heap.size) _ _ rfl B.exec B.bytes B.returns hml hts hown B.notSynchronized rfl hP hK hD hA hS hN hl
theorem xq_free {A0 : Nat → Prop} {ws : va_W} {H0 H : Heap} {locs : List Loc} (hD : va_D A0 ws) (hS : va_S A0 H0 H locs) (hA : ∀ q, H0.size ≤ q → A0 q) : ∀ q, va_A ws H.size q → A0 q := by
  intro q h
  rcases h with ⟨k, e, h⟩ | h
  · exact hD.2 k (q, e) h
  · exact hA q (Nat.le_trans hS.1 h)
section XQC
variable {p : Program} {l : Launch} {e : Env} {R : Room} {s : State} {m : MethodId} {args : Array Value} {below : List Frame} {meth : Method} {c : Code} {H : Heap} {locs : List Loc} {Q : State → Prop}
variable {pc : Nat} {ls : Array Slot} {rest st0 : List Value} {a : Array Value} {A : Nat → Prop} {H0 : Heap} {D : va_G} {tys : List (ClassId × FieldType)} {w : va_W} {cells slots : Nat}
theorem xq_ci {S : Type} {post : Int32 → S → Prop} {wf : S → va_W} (hr : va_Run p l e R s m args below meth c H locs cells slots 0 0 (F0 m pc ls st0) rest (va_Qi post (fun u => xq_B D tys (va_A w H.size) (wf u)) (va_A w H.size) a) (va_A w H.size)) (hD : va_D A w) (hS : va_S A H0 H locs) (hA : ∀ q, H0.size ≤ q → A q)
    (kk : ∀ (r : Int32) (u : S) (H1 : Heap) (locs1 : List Loc), post r u → va_P D vwCl (wf u) H1 → va_D A (wf u) → va_S A H0 H1 locs1 → W p l e R s m args below meth c H1 locs1 cells slots Q (F0 m (pc + 3) ls (.int r :: rest))) : W p l e R s m args below meth c H locs cells slots Q (F0 m pc ls st0) := by
  have hF := xq_free hD hS hA
  refine va_calli hr hS (fun q _ h => hF q h) hF (fun r u t H1 locs1 ht hvm hw hB _ _ hS1 => ?_)
  obtain ⟨hP1, hK1, hD1⟩ := hB
  rw [ht] at hP1
  exact kk r u H1 locs1 hw hP1 (hD1.weaken (fun k q _ h => hF q.1 h)) hS1
theorem xq_cl {S : Type} {post : Int64 → S → Prop} {wf : S → va_W} (hr : va_Run p l e R s m args below meth c H locs cells slots 0 0 (F0 m pc ls st0) rest (va_Ql post (fun u => xq_B D tys (va_A w H.size) (wf u)) (va_A w H.size) a) (va_A w H.size)) (hD : va_D A w) (hS : va_S A H0 H locs) (hA : ∀ q, H0.size ≤ q → A q)
    (kk : ∀ (r : Int64) (u : S) (H1 : Heap) (locs1 : List Loc), post r u → va_P D vwCl (wf u) H1 → va_D A (wf u) → va_S A H0 H1 locs1 → W p l e R s m args below meth c H1 locs1 cells slots Q (F0 m (pc + 3) ls (.long r :: rest))) : W p l e R s m args below meth c H locs cells slots Q (F0 m pc ls st0) := by
  have hF := xq_free hD hS hA
  refine va_calll hr hS (fun q _ h => hF q h) hF (fun r u t H1 locs1 ht hvm hw hB _ _ hS1 => ?_)
  obtain ⟨hP1, hK1, hD1⟩ := hB
  rw [ht] at hP1
  exact kk r u H1 locs1 hw hP1 (hD1.weaken (fun k q _ h => hF q.1 h)) hS1
theorem xq_cv {S : Type} {post : S → Prop} {wf : S → va_W} (hr : va_Run p l e R s m args below meth c H locs cells slots 0 0 (F0 m pc ls st0) rest (va_Qv post (fun u => xq_B D tys (va_A w H.size) (wf u)) (va_A w H.size) a) (va_A w H.size)) (hD : va_D A w) (hS : va_S A H0 H locs) (hA : ∀ q, H0.size ≤ q → A q)
    (kk : ∀ (u : S) (H1 : Heap) (locs1 : List Loc), post u → va_P D vwCl (wf u) H1 → va_D A (wf u) → va_S A H0 H1 locs1 → W p l e R s m args below meth c H1 locs1 cells slots Q (F0 m (pc + 3) ls rest)) : W p l e R s m args below meth c H locs cells slots Q (F0 m pc ls st0) := by
  have hF := xq_free hD hS hA
  refine va_callv hr hS (fun q _ h => hF q h) hF (fun u t H1 locs1 ht hvm hw hB _ _ hS1 => ?_)
  obtain ⟨hP1, hK1, hD1⟩ := hB
  rw [ht] at hP1
  exact kk u H1 locs1 hw hP1 (hD1.weaken (fun k q _ h => hF q.1 h)) hS1
variable {cc : ByteArray} {w1 : va_W}
theorem xq_ri {S : Type} {post : Int32 → S → Prop} {wf : S → va_W} {v : Int32} (hQ : Q = MQ below (va_Qi post (fun u => xq_B D tys A (wf u)) A) args s cells slots A) (hx : p.tables.exec = Jvm.exec) (hb : c.code = cc) (hr : meth.sig.returnType = some .int) (hP : va_P D vwCl w1 H) (hK : va_K D vwCl tys s) (hD : va_D A w1) (hS : va_S A s.heap H locs) (u : S) (hw : w1 = wf u) (h : post v u) (hdg : decode cc pc = .ok (.ireturn, 1)) (hlocks : meth.locks = false) : W p l e R s m args below meth c H locs cells slots Q (F0 m pc ls [.int v]) := by
  subst hQ
  subst hw
  exact W.iret hx hb hr (fun t ht hW => ⟨⟨v, u, rfl, h, by rw [ht]; exact hP, va_K.moved hW.alike hK, hD⟩, hS.F ht⟩) hS.2.2 hdg hlocks
theorem xq_rz {S : Type} {post : Int32 → S → Prop} {wf : S → va_W} {v : Int32} {ty : FieldType} (hQ : Q = MQ below (va_Qi post (fun u => xq_B D tys A (wf u)) A) args s cells slots A) (hx : p.tables.exec = Jvm.exec) (hb : c.code = cc) (hr : meth.sig.returnType = some ty) (hn : narrow ty (.int v) = .int v) (hP : va_P D vwCl w1 H) (hK : va_K D vwCl tys s) (hD : va_D A w1) (hS : va_S A s.heap H locs) (u : S) (hw : w1 = wf u) (h : post v u) (hdg : decode cc pc = .ok (.ireturn, 1)) (hlocks : meth.locks = false) : W p l e R s m args below meth c H locs cells slots Q (F0 m pc ls [.int v]) := by
  subst hQ
  subst hw
  exact W.zret hx hb hr hn (fun t ht hW => ⟨⟨v, u, rfl, h, by rw [ht]; exact hP, va_K.moved hW.alike hK, hD⟩, hS.F ht⟩) hS.2.2 hdg hlocks
theorem xq_rl {S : Type} {post : Int64 → S → Prop} {wf : S → va_W} {v : Int64} (hQ : Q = MQ below (va_Ql post (fun u => xq_B D tys A (wf u)) A) args s cells slots A) (hx : p.tables.exec = Jvm.exec) (hb : c.code = cc) (hr : meth.sig.returnType = some .long) (hP : va_P D vwCl w1 H) (hK : va_K D vwCl tys s) (hD : va_D A w1) (hS : va_S A s.heap H locs) (u : S) (hw : w1 = wf u) (h : post v u) (hdg : decode cc pc = .ok (.lreturn, 1)) (hlocks : meth.locks = false) : W p l e R s m args below meth c H locs cells slots Q (F0 m pc ls [.long v]) := by
  subst hQ
  subst hw
  exact W.lret hx hb hr (fun t ht hW => ⟨⟨v, u, rfl, h, by rw [ht]; exact hP, va_K.moved hW.alike hK, hD⟩, hS.F ht⟩) hS.2.2 hdg hlocks
theorem xq_rv {S : Type} {post : S → Prop} {wf : S → va_W} (hQ : Q = MQ below (va_Qv post (fun u => xq_B D tys A (wf u)) A) args s cells slots A) (hx : p.tables.exec = Jvm.exec) (hb : c.code = cc) (hr : meth.sig.returnType = none) (hP : va_P D vwCl w1 H) (hK : va_K D vwCl tys s) (hD : va_D A w1) (hS : va_S A s.heap H locs) (u : S) (hw : w1 = wf u) (h : post u) (hdg : decode cc pc = .ok (.return_, 1)) (hlocks : meth.locks = false) : W p l e R s m args below meth c H locs cells slots Q (F0 m pc ls []) := by
  subst hQ
  subst hw
  exact W.vret hx hb hr (fun t ht hW => ⟨⟨u, rfl, h, by rw [ht]; exact hP, va_K.moved hW.alike hK, hD⟩, hS.F ht⟩) hS.2.2 hdg hlocks
end XQC
def xq_j0 (t_ : (Prop) → Prop) (r_ : Prop) : Prop := t_ r_
theorem xq_j0_go {t_ : (Prop) → Prop} {r_ : Prop} {G : Prop} (X : Prop) (h : xq_j0 t_ r_) (s1 : r_ → X) (s2 : (r_ → X) → t_ r_ → G) : G := s2 s1 h
def xq_j1 {T0 : Type} (t_ : (T0 → Prop) → Prop) (r_ : T0 → Prop) : Prop := t_ r_
theorem xq_j1_go {T0 : Type} {t_ : (T0 → Prop) → Prop} {r_ : T0 → Prop} {G : Prop} (X : T0 → Prop) (h : xq_j1 t_ r_) (s1 : ∀ v0, r_ v0 → X v0) (s2 : (∀ v0, r_ v0 → X v0) → t_ r_ → G) : G := s2 s1 h
def xq_j2 {T0 T1 : Type} (t_ : (T0 → T1 → Prop) → Prop) (r_ : T0 → T1 → Prop) : Prop := t_ r_
theorem xq_j2_go {T0 T1 : Type} {t_ : (T0 → T1 → Prop) → Prop} {r_ : T0 → T1 → Prop} {G : Prop} (X : T0 → T1 → Prop) (h : xq_j2 t_ r_) (s1 : ∀ v0 v1, r_ v0 v1 → X v0 v1) (s2 : (∀ v0 v1, r_ v0 v1 → X v0 v1) → t_ r_ → G) : G := s2 s1 h
def xq_j3 {T0 T1 T2 : Type} (t_ : (T0 → T1 → T2 → Prop) → Prop) (r_ : T0 → T1 → T2 → Prop) : Prop := t_ r_
theorem xq_j3_go {T0 T1 T2 : Type} {t_ : (T0 → T1 → T2 → Prop) → Prop} {r_ : T0 → T1 → T2 → Prop} {G : Prop} (X : T0 → T1 → T2 → Prop) (h : xq_j3 t_ r_) (s1 : ∀ v0 v1 v2, r_ v0 v1 v2 → X v0 v1 v2) (s2 : (∀ v0 v1 v2, r_ v0 v1 v2 → X v0 v1 v2) → t_ r_ → G) : G := s2 s1 h
def xq_j4 {T0 T1 T2 T3 : Type} (t_ : (T0 → T1 → T2 → T3 → Prop) → Prop) (r_ : T0 → T1 → T2 → T3 → Prop) : Prop := t_ r_
theorem xq_j4_go {T0 T1 T2 T3 : Type} {t_ : (T0 → T1 → T2 → T3 → Prop) → Prop} {r_ : T0 → T1 → T2 → T3 → Prop} {G : Prop} (X : T0 → T1 → T2 → T3 → Prop) (h : xq_j4 t_ r_) (s1 : ∀ v0 v1 v2 v3, r_ v0 v1 v2 v3 → X v0 v1 v2 v3) (s2 : (∀ v0 v1 v2 v3, r_ v0 v1 v2 v3 → X v0 v1 v2 v3) → t_ r_ → G) : G := s2 s1 h
def xq_j5 {T0 T1 T2 T3 T4 : Type} (t_ : (T0 → T1 → T2 → T3 → T4 → Prop) → Prop) (r_ : T0 → T1 → T2 → T3 → T4 → Prop) : Prop := t_ r_
theorem xq_j5_go {T0 T1 T2 T3 T4 : Type} {t_ : (T0 → T1 → T2 → T3 → T4 → Prop) → Prop} {r_ : T0 → T1 → T2 → T3 → T4 → Prop} {G : Prop} (X : T0 → T1 → T2 → T3 → T4 → Prop) (h : xq_j5 t_ r_) (s1 : ∀ v0 v1 v2 v3 v4, r_ v0 v1 v2 v3 v4 → X v0 v1 v2 v3 v4) (s2 : (∀ v0 v1 v2 v3 v4, r_ v0 v1 v2 v3 v4 → X v0 v1 v2 v3 v4) → t_ r_ → G) : G := s2 s1 h
def xq_j6 {T0 T1 T2 T3 T4 T5 : Type} (t_ : (T0 → T1 → T2 → T3 → T4 → T5 → Prop) → Prop) (r_ : T0 → T1 → T2 → T3 → T4 → T5 → Prop) : Prop := t_ r_
theorem xq_j6_go {T0 T1 T2 T3 T4 T5 : Type} {t_ : (T0 → T1 → T2 → T3 → T4 → T5 → Prop) → Prop} {r_ : T0 → T1 → T2 → T3 → T4 → T5 → Prop} {G : Prop} (X : T0 → T1 → T2 → T3 → T4 → T5 → Prop) (h : xq_j6 t_ r_) (s1 : ∀ v0 v1 v2 v3 v4 v5, r_ v0 v1 v2 v3 v4 v5 → X v0 v1 v2 v3 v4 v5) (s2 : (∀ v0 v1 v2 v3 v4 v5, r_ v0 v1 v2 v3 v4 v5 → X v0 v1 v2 v3 v4 v5) → t_ r_ → G) : G := s2 s1 h
def xq_j7 {T0 T1 T2 T3 T4 T5 T6 : Type} (t_ : (T0 → T1 → T2 → T3 → T4 → T5 → T6 → Prop) → Prop) (r_ : T0 → T1 → T2 → T3 → T4 → T5 → T6 → Prop) : Prop := t_ r_
theorem xq_j7_go {T0 T1 T2 T3 T4 T5 T6 : Type} {t_ : (T0 → T1 → T2 → T3 → T4 → T5 → T6 → Prop) → Prop} {r_ : T0 → T1 → T2 → T3 → T4 → T5 → T6 → Prop} {G : Prop} (X : T0 → T1 → T2 → T3 → T4 → T5 → T6 → Prop) (h : xq_j7 t_ r_) (s1 : ∀ v0 v1 v2 v3 v4 v5 v6, r_ v0 v1 v2 v3 v4 v5 v6 → X v0 v1 v2 v3 v4 v5 v6) (s2 : (∀ v0 v1 v2 v3 v4 v5 v6, r_ v0 v1 v2 v3 v4 v5 v6 → X v0 v1 v2 v3 v4 v5 v6) → t_ r_ → G) : G := s2 s1 h
def xq_j8 {T0 T1 T2 T3 T4 T5 T6 T7 : Type} (t_ : (T0 → T1 → T2 → T3 → T4 → T5 → T6 → T7 → Prop) → Prop) (r_ : T0 → T1 → T2 → T3 → T4 → T5 → T6 → T7 → Prop) : Prop := t_ r_
theorem xq_j8_go {T0 T1 T2 T3 T4 T5 T6 T7 : Type} {t_ : (T0 → T1 → T2 → T3 → T4 → T5 → T6 → T7 → Prop) → Prop} {r_ : T0 → T1 → T2 → T3 → T4 → T5 → T6 → T7 → Prop} {G : Prop} (X : T0 → T1 → T2 → T3 → T4 → T5 → T6 → T7 → Prop) (h : xq_j8 t_ r_) (s1 : ∀ v0 v1 v2 v3 v4 v5 v6 v7, r_ v0 v1 v2 v3 v4 v5 v6 v7 → X v0 v1 v2 v3 v4 v5 v6 v7) (s2 : (∀ v0 v1 v2 v3 v4 v5 v6 v7, r_ v0 v1 v2 v3 v4 v5 v6 v7 → X v0 v1 v2 v3 v4 v5 v6 v7) → t_ r_ → G) : G := s2 s1 h
theorem xq_sw4 {x : Int32} (h0 : ¬ x = 0) (h1 : ¬ x = 1) (h2 : ¬ x = 2) (h3 : ¬ x = 3) : x.toInt < 0 ∨ 3 < x.toInt := by
  have f0 : x.toInt ≠ 0 := fun q => h0 (Int32.toInt_inj.mp q)
  have f1 : x.toInt ≠ 1 := fun q => h1 (Int32.toInt_inj.mp q)
  have f2 : x.toInt ≠ 2 := fun q => h2 (Int32.toInt_inj.mp q)
  have f3 : x.toInt ≠ 3 := fun q => h3 (Int32.toInt_inj.mp q)
  omega
theorem xq_sw5 {x : Int32} (h0 : ¬ x = 0) (h1 : ¬ x = 1) (h2 : ¬ x = 2) (h3 : ¬ x = 3) (h4 : ¬ x = 4) : x.toInt < 0 ∨ 4 < x.toInt := by
  have f0 : x.toInt ≠ 0 := fun q => h0 (Int32.toInt_inj.mp q)
  have f1 : x.toInt ≠ 1 := fun q => h1 (Int32.toInt_inj.mp q)
  have f2 : x.toInt ≠ 2 := fun q => h2 (Int32.toInt_inj.mp q)
  have f3 : x.toInt ≠ 3 := fun q => h3 (Int32.toInt_inj.mp q)
  have f4 : x.toInt ≠ 4 := fun q => h4 (Int32.toInt_inj.mp q)
  omega
def wc_u (cyI cyJ : ClassId) (aa : Nat → Nat) (s_lanes : Nat → Int32) (s_sizes : Nat → Int32) (s_cells : Nat → Int32) (x_kinds : Nat → Int32) (x_digits : Nat → Int32) (x_causes : Nat → Int32) (x_effects : Nat → Int32) (x_things : Int32) (x_follows : Int32) (x_due : Int32) (t_kinds : Nat → Int32) (t_digits : Nat → Int32) (t_caseRow : Nat → Int32) (t_weights : Nat → Int32) (t_order : Nat → Int32) (t_calls : Nat → Int32) (t_things : Int32) (t_caseCount : Int32) (t_caseSet : Int64) (p_callsOfCase : Nat → Int64) (p_partOfCase : Nat → Int32) (p_callsOfPart : Nat → Int64) (p_cases : Int32) (p_parts : Int32) (r_cases : Nat → Int32) (r_hours : Nat → Int32) (r_sets : Nat → Int32) (r_count : Int32) (u_lists : Nat → Int32) (u_breaths : Nat → Int32) (u_heard : Nat → Int32) (u_traced : Int32) (u_lastFault : Int32) : va_W := [(aa 0, .inr (5, [.ref (aa 1), .ref (aa 5), .ref (aa 10), .ref (aa 17), .ref (aa 21), .ref (aa 25), .ref (aa 26), .ref (aa 27), .int u_traced, .int u_lastFault])), (aa 1, .inr (2, [.ref (aa 2), .ref (aa 3), .ref (aa 4)])), (aa 2, .inl (cyI, 4, .inl s_lanes)), (aa 3, .inl (cyI, 4, .inl s_sizes)), (aa 4, .inl (cyI, 240, .inl s_cells)), (aa 5, .inr (3, [.ref (aa 6), .ref (aa 7), .ref (aa 8), .ref (aa 9), .int x_things, .int x_follows, .int x_due])), (aa 6, .inl (cyI, 6, .inl x_kinds)), (aa 7, .inl (cyI, 6, .inl x_digits)), (aa 8, .inl (cyI, 4, .inl x_causes)), (aa 9, .inl (cyI, 4, .inl x_effects)), (aa 10, .inr (4, [.ref (aa 11), .ref (aa 12), .ref (aa 13), .ref (aa 14), .ref (aa 15), .ref (aa 16), .int t_things, .int t_caseCount, .long t_caseSet])), (aa 11, .inl (cyI, 6, .inl t_kinds)), (aa 12, .inl (cyI, 6, .inl t_digits)), (aa 13, .inl (cyI, 64, .inl t_caseRow)), (aa 14, .inl (cyI, 64, .inl t_weights)), (aa 15, .inl (cyI, 6, .inl t_order)), (aa 16, .inl (cyI, 1216, .inl t_calls)), (aa 17, .inr (0, [.ref (aa 18), .ref (aa 19), .ref (aa 20), .int p_cases, .int p_parts])), (aa 18, .inl (cyJ, 64, .inr (.inl p_callsOfCase))), (aa 19, .inl (cyI, 64, .inl p_partOfCase)), (aa 20, .inl (cyJ, 64, .inr (.inl p_callsOfPart))), (aa 21, .inr (1, [.ref (aa 22), .ref (aa 23), .ref (aa 24), .int r_count])), (aa 22, .inl (cyI, 8, .inl r_cases)), (aa 23, .inl (cyI, 8, .inl r_hours)), (aa 24, .inl (cyI, 8, .inl r_sets)), (aa 25, .inl (cyI, 6, .inl u_lists)), (aa 26, .inl (cyI, 6, .inl u_breaths)), (aa 27, .inl (cyI, 6, .inl u_heard))]
def wm_u (cyI cyJ : ClassId) (ab : Nat → Nat) (n_fault : Int32) (n_things : Int32) (n_kindOf : Nat → Int32) (n_digitOf : Nat → Int32) (n_follows : Int32) (n_ifOf : Nat → Int32) (n_thenOf : Nat → Int32) (n_listOf : Nat → Int32) (n_breathOf : Nat → Int32) (n_heardOf : Nat → Int32) (n_readAt : Int32) (n_readThings : Int32) (n_readFollows : Int32) (n_readKind : Nat → Int32) (n_readDigit : Nat → Int32) (n_readIf : Nat → Int32) (n_readThen : Nat → Int32) (n_readings : Int32) (n_readingIn : Nat → Int32) (n_readingHour : Nat → Int32) (n_readingOf : Nat → Int32) (n_breathWas : Nat → Int32) (n_sheetSize : Nat → Int32) (n_sheetLane : Nat → Int32) (n_sheet : Nat → Int32) (n_hands : Nat → Int32) (n_traceNow : Int32) : va_W := [(ab 0, .inr (6, [.int n_fault, .int n_things, .ref (ab 1), .ref (ab 2), .int n_follows, .ref (ab 3), .ref (ab 4), .ref (ab 5), .ref (ab 6), .ref (ab 7), .int n_readAt, .int n_readThings, .int n_readFollows, .ref (ab 8), .ref (ab 9), .ref (ab 10), .ref (ab 11), .int n_readings, .ref (ab 12), .ref (ab 13), .ref (ab 14), .ref (ab 15), .ref (ab 16), .ref (ab 17), .ref (ab 18), .ref (ab 19), .int n_traceNow])), (ab 1, .inl (cyI, 6, .inl n_kindOf)), (ab 2, .inl (cyI, 6, .inl n_digitOf)), (ab 3, .inl (cyI, 4, .inl n_ifOf)), (ab 4, .inl (cyI, 4, .inl n_thenOf)), (ab 5, .inl (cyI, 6, .inl n_listOf)), (ab 6, .inl (cyI, 6, .inl n_breathOf)), (ab 7, .inl (cyI, 6, .inl n_heardOf)), (ab 8, .inl (cyI, 6, .inl n_readKind)), (ab 9, .inl (cyI, 6, .inl n_readDigit)), (ab 10, .inl (cyI, 4, .inl n_readIf)), (ab 11, .inl (cyI, 4, .inl n_readThen)), (ab 12, .inl (cyI, 8, .inl n_readingIn)), (ab 13, .inl (cyI, 8, .inl n_readingHour)), (ab 14, .inl (cyI, 8, .inl n_readingOf)), (ab 15, .inl (cyI, 6, .inl n_breathWas)), (ab 16, .inl (cyI, 4, .inl n_sheetSize)), (ab 17, .inl (cyI, 4, .inl n_sheetLane)), (ab 18, .inl (cyI, 240, .inl n_sheet)), (ab 19, .inl (cyI, 60, .inl n_hands))]
