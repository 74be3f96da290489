/-! THE CLAIM OUT OF ONE WALK OF THE LAW'S BODY. Your part is whole_start (and what it stands on); all else here is the same for every law, but numbers. -/
def R_law : String := "UnsaidCallsLaw"
def lw_P (b : Addr) (xs : List Int32) (args : Array Value) (s : State) : Prop := args = #[.ref b] ∧ s.IntsAt b xs ∧ xs.length ≤ 3072 ∧ (Jvm.Cond.and given_1 narrow_1).before args s = true
def lw_Q (_ : Array Value) (s : State) (o : Outcome) (t : State) : Prop := o = .returned (some (.int 1)) ∧ Framed s o t [] 48 2325
def lw_Z (below : List Frame) (a : Array Value) (s : State) : State → Prop := fun t => ∃ o, t.status = .running ∧ Ended t below o ∧ lw_Q a s o t
/-- the law's own end, with 1 on the stack, nothing written that was there before, its room as the claim has it -/
theorem lw_ret {p : Program} {l : Launch} {e : Env} {s : State} {m : MethodId} {below : List Frame} {meth : Method} {c : Code} {b : Nat} (hx : p.tables.exec = Jvm.exec) (hb : c.code = code) (hr : meth.sig.returnType = ret) (hlocks : meth.locks = false) {pc : Nat} {H : Heap} {ls : Array Slot} (hdg : decode code pc = .ok (.ireturn, 1)) : W p l e room_1 s m #[Value.ref b] below meth c H [] 48 2325 (lw_Z below #[Value.ref b] s) (F0 m pc ls [.int 1]) := by
  intro T hT X
  obtain ⟨fs, hret, hrun, hended, hW, hframe⟩ := X.leave (v := some (.int 1)) (hlocks := hlocks) (fun h => by rw [hr] at h; cases h)
  have hmeth' : T.vm.method? m = some meth := X.method'
  refine ⟨T.setFrames fs, ?_, .returned (some (.int 1)), hrun, hended, rfl, ⟨_, rfl⟩, hW, hframe⟩
  jvm_step X.here [X.here.top, hx, hb, hdg, hmeth', hr, ret, narrow_b1]
  (try refine ⟨rfl, ?_⟩); (try refine ⟨rfl, ?_⟩)
  first | (intro acts; rw [hret _ acts rfl rfl rfl]) | rw [hret _ _ rfl rfl rfl]
  exact Steps.refl _
/-- what holds at the law's entry: the machine, the code, the tables' words (any of lw_tbl by 'hts w (by decide +kernel)'), the script of L ints xs at the cell b, what the Statement gives of the start (any of its parts by flat_of_before) -/
def lw_At (p : Program) (s : State) (m : MethodId) (meth : Method) (c : Code) (b L : Nat) (xs : Nat → Int32) : Prop :=
  p.tables.exec = Jvm.exec ∧ c.code = code ∧ meth.sig.returnType = ret ∧ c.maxLocals = 4 ∧ s.vm.findClass R_law = some m.cls ∧ (∀ w ∈ lw_tbl, w.before #[Value.ref b] s = true) ∧ va_X b L xs s s.heap ∧ b < s.heap.size ∧ meth.locks = false ∧ (Jvm.Cond.and given_1 narrow_1).before #[Value.ref b] s = true
theorem yl_cmp (r : Int64) : lg_cmp r r = 0 := by
  unfold lg_cmp
  have h : ¬ r > r := by simp [GT.gt, Int64.lt_iff_toInt_lt]
  rw [if_neg h, if_pos rfl]
theorem yl_le6 {L i : Nat} (hL : L ≤ 3072) (hi : i ≤ L) (h : ¬ nI L - 6 < nI i) : i + 6 ≤ L := by
  rcases Nat.lt_or_ge i (L - 6 + 1) with q | q
  · rcases Nat.lt_or_ge L 6 with z | z
    · exfalso
      apply h
      have e : i = 0 := by omega
      subst e
      have e2 := pk_sub_toInt (a := L) (b := 6) (by omega) (by omega)
      rw [Int32.lt_iff_toInt_lt, nI_toInt (by omega)]
      show (nI L - nI 6).toInt < _
      rw [e2]; omega
    · omega
  · exfalso
    apply h
    have e2 := pk_sub_toInt (a := L) (b := 6) (by omega) (by omega)
    rw [Int32.lt_iff_toInt_lt, nI_toInt (by omega)]
    show (nI L - nI 6).toInt < _
    rw [e2]; omega
theorem yl_sw {x : Int32} (h_0 : ¬ x = 0) (h_1 : ¬ x = 1) (h_2 : ¬ x = 2) (h_3 : ¬ x = 3) (h_4 : ¬ x = 4) (h_5 : ¬ x = 5) (h_6 : ¬ x = 6) (h_7 : ¬ x = 7) (h_8 : ¬ x = 8) (h_9 : ¬ x = 9) (h_10 : ¬ x = 10) (h_11 : ¬ x = 11) (h_12 : ¬ x = 12) (h_13 : ¬ x = 13) (h_14 : ¬ x = 14) (h_15 : ¬ x = 15) (h_16 : ¬ x = 16) (h_17 : ¬ x = 17) (h_18 : ¬ x = 18) (h_19 : ¬ x = 19) (h_20 : ¬ x = 20) (h_21 : ¬ x = 21) (h_22 : ¬ x = 22) (h_23 : ¬ x = 23) (h_24 : ¬ x = 24) (h_25 : ¬ x = 25) (h_26 : ¬ x = 26) (h_27 : ¬ x = 27) (h_28 : ¬ x = 28) (h_29 : ¬ x = 29) (h_30 : ¬ x = 30) (h_31 : ¬ x = 31) : x.toInt < 0 ∨ 31 < x.toInt := by
  have f_0 : x.toInt ≠ 0 := fun q => h_0 (Int32.toInt_inj.mp q)
  have f_1 : x.toInt ≠ 1 := fun q => h_1 (Int32.toInt_inj.mp q)
  have f_2 : x.toInt ≠ 2 := fun q => h_2 (Int32.toInt_inj.mp q)
  have f_3 : x.toInt ≠ 3 := fun q => h_3 (Int32.toInt_inj.mp q)
  have f_4 : x.toInt ≠ 4 := fun q => h_4 (Int32.toInt_inj.mp q)
  have f_5 : x.toInt ≠ 5 := fun q => h_5 (Int32.toInt_inj.mp q)
  have f_6 : x.toInt ≠ 6 := fun q => h_6 (Int32.toInt_inj.mp q)
  have f_7 : x.toInt ≠ 7 := fun q => h_7 (Int32.toInt_inj.mp q)
  have f_8 : x.toInt ≠ 8 := fun q => h_8 (Int32.toInt_inj.mp q)
  have f_9 : x.toInt ≠ 9 := fun q => h_9 (Int32.toInt_inj.mp q)
  have f_10 : x.toInt ≠ 10 := fun q => h_10 (Int32.toInt_inj.mp q)
  have f_11 : x.toInt ≠ 11 := fun q => h_11 (Int32.toInt_inj.mp q)
  have f_12 : x.toInt ≠ 12 := fun q => h_12 (Int32.toInt_inj.mp q)
  have f_13 : x.toInt ≠ 13 := fun q => h_13 (Int32.toInt_inj.mp q)
  have f_14 : x.toInt ≠ 14 := fun q => h_14 (Int32.toInt_inj.mp q)
  have f_15 : x.toInt ≠ 15 := fun q => h_15 (Int32.toInt_inj.mp q)
  have f_16 : x.toInt ≠ 16 := fun q => h_16 (Int32.toInt_inj.mp q)
  have f_17 : x.toInt ≠ 17 := fun q => h_17 (Int32.toInt_inj.mp q)
  have f_18 : x.toInt ≠ 18 := fun q => h_18 (Int32.toInt_inj.mp q)
  have f_19 : x.toInt ≠ 19 := fun q => h_19 (Int32.toInt_inj.mp q)
  have f_20 : x.toInt ≠ 20 := fun q => h_20 (Int32.toInt_inj.mp q)
  have f_21 : x.toInt ≠ 21 := fun q => h_21 (Int32.toInt_inj.mp q)
  have f_22 : x.toInt ≠ 22 := fun q => h_22 (Int32.toInt_inj.mp q)
  have f_23 : x.toInt ≠ 23 := fun q => h_23 (Int32.toInt_inj.mp q)
  have f_24 : x.toInt ≠ 24 := fun q => h_24 (Int32.toInt_inj.mp q)
  have f_25 : x.toInt ≠ 25 := fun q => h_25 (Int32.toInt_inj.mp q)
  have f_26 : x.toInt ≠ 26 := fun q => h_26 (Int32.toInt_inj.mp q)
  have f_27 : x.toInt ≠ 27 := fun q => h_27 (Int32.toInt_inj.mp q)
  have f_28 : x.toInt ≠ 28 := fun q => h_28 (Int32.toInt_inj.mp q)
  have f_29 : x.toInt ≠ 29 := fun q => h_29 (Int32.toInt_inj.mp q)
  have f_30 : x.toInt ≠ 30 := fun q => h_30 (Int32.toInt_inj.mp q)
  have f_31 : x.toInt ≠ 31 := fun q => h_31 (Int32.toInt_inj.mp q)
  omega
