def w_J6_bitCount_0f7a4 (a_0 : Int32) (post : Int32 → Prop) : Prop := post ((((((((a_0 - (((Int32.toUInt32 a_0 >>> (Int32.toUInt32 (1 : Int32) &&& Int32.toUInt32 31)).toInt32) &&& (1431655765 : Int32))) &&& (858993459 : Int32)) + (((Int32.toUInt32 (a_0 - (((Int32.toUInt32 a_0 >>> (Int32.toUInt32 (1 : Int32) &&& Int32.toUInt32 31)).toInt32) &&& (1431655765 : Int32))) >>> (Int32.toUInt32 (2 : Int32) &&& Int32.toUInt32 31)).toInt32) &&& (858993459 : Int32))) + ((Int32.toUInt32 (((a_0 - (((Int32.toUInt32 a_0 >>> (Int32.toUInt32 (1 : Int32) &&& Int32.toUInt32 31)).toInt32) &&& (1431655765 : Int32))) &&& (858993459 : Int32)) + (((Int32.toUInt32 (a_0 - (((Int32.toUInt32 a_0 >>> (Int32.toUInt32 (1 : Int32) &&& Int32.toUInt32 31)).toInt32) &&& (1431655765 : Int32))) >>> (Int32.toUInt32 (2 : Int32) &&& Int32.toUInt32 31)).toInt32) &&& (858993459 : Int32))) >>> (Int32.toUInt32 (4 : Int32) &&& Int32.toUInt32 31)).toInt32)) &&& (252645135 : Int32)) + ((Int32.toUInt32 (((((a_0 - (((Int32.toUInt32 a_0 >>> (Int32.toUInt32 (1 : Int32) &&& Int32.toUInt32 31)).toInt32) &&& (1431655765 : Int32))) &&& (858993459 : Int32)) + (((Int32.toUInt32 (a_0 - (((Int32.toUInt32 a_0 >>> (Int32.toUInt32 (1 : Int32) &&& Int32.toUInt32 31)).toInt32) &&& (1431655765 : Int32))) >>> (Int32.toUInt32 (2 : Int32) &&& Int32.toUInt32 31)).toInt32) &&& (858993459 : Int32))) + ((Int32.toUInt32 (((a_0 - (((Int32.toUInt32 a_0 >>> (Int32.toUInt32 (1 : Int32) &&& Int32.toUInt32 31)).toInt32) &&& (1431655765 : Int32))) &&& (858993459 : Int32)) + (((Int32.toUInt32 (a_0 - (((Int32.toUInt32 a_0 >>> (Int32.toUInt32 (1 : Int32) &&& Int32.toUInt32 31)).toInt32) &&& (1431655765 : Int32))) >>> (Int32.toUInt32 (2 : Int32) &&& Int32.toUInt32 31)).toInt32) &&& (858993459 : Int32))) >>> (Int32.toUInt32 (4 : Int32) &&& Int32.toUInt32 31)).toInt32)) &&& (252645135 : Int32)) >>> (Int32.toUInt32 (8 : Int32) &&& Int32.toUInt32 31)).toInt32)) + ((Int32.toUInt32 ((((((a_0 - (((Int32.toUInt32 a_0 >>> (Int32.toUInt32 (1 : Int32) &&& Int32.toUInt32 31)).toInt32) &&& (1431655765 : Int32))) &&& (858993459 : Int32)) + (((Int32.toUInt32 (a_0 - (((Int32.toUInt32 a_0 >>> (Int32.toUInt32 (1 : Int32) &&& Int32.toUInt32 31)).toInt32) &&& (1431655765 : Int32))) >>> (Int32.toUInt32 (2 : Int32) &&& Int32.toUInt32 31)).toInt32) &&& (858993459 : Int32))) + ((Int32.toUInt32 (((a_0 - (((Int32.toUInt32 a_0 >>> (Int32.toUInt32 (1 : Int32) &&& Int32.toUInt32 31)).toInt32) &&& (1431655765 : Int32))) &&& (858993459 : Int32)) + (((Int32.toUInt32 (a_0 - (((Int32.toUInt32 a_0 >>> (Int32.toUInt32 (1 : Int32) &&& Int32.toUInt32 31)).toInt32) &&& (1431655765 : Int32))) >>> (Int32.toUInt32 (2 : Int32) &&& Int32.toUInt32 31)).toInt32) &&& (858993459 : Int32))) >>> (Int32.toUInt32 (4 : Int32) &&& Int32.toUInt32 31)).toInt32)) &&& (252645135 : Int32)) + ((Int32.toUInt32 (((((a_0 - (((Int32.toUInt32 a_0 >>> (Int32.toUInt32 (1 : Int32) &&& Int32.toUInt32 31)).toInt32) &&& (1431655765 : Int32))) &&& (858993459 : Int32)) + (((Int32.toUInt32 (a_0 - (((Int32.toUInt32 a_0 >>> (Int32.toUInt32 (1 : Int32) &&& Int32.toUInt32 31)).toInt32) &&& (1431655765 : Int32))) >>> (Int32.toUInt32 (2 : Int32) &&& Int32.toUInt32 31)).toInt32) &&& (858993459 : Int32))) + ((Int32.toUInt32 (((a_0 - (((Int32.toUInt32 a_0 >>> (Int32.toUInt32 (1 : Int32) &&& Int32.toUInt32 31)).toInt32) &&& (1431655765 : Int32))) &&& (858993459 : Int32)) + (((Int32.toUInt32 (a_0 - (((Int32.toUInt32 a_0 >>> (Int32.toUInt32 (1 : Int32) &&& Int32.toUInt32 31)).toInt32) &&& (1431655765 : Int32))) >>> (Int32.toUInt32 (2 : Int32) &&& Int32.toUInt32 31)).toInt32) &&& (858993459 : Int32))) >>> (Int32.toUInt32 (4 : Int32) &&& Int32.toUInt32 31)).toInt32)) &&& (252645135 : Int32)) >>> (Int32.toUInt32 (8 : Int32) &&& Int32.toUInt32 31)).toInt32)) >>> (Int32.toUInt32 (16 : Int32) &&& Int32.toUInt32 31)).toInt32)) &&& (63 : Int32))
set_option maxHeartbeats 4000000 in
set_option maxRecDepth 100000 in
theorem m_J6_bitCount_0f7a4 (l : Launch) (dC : Nat → ClassId) (dI : Nat → Nat → Nat) (cyI cyJ : ClassId) (ww : va_W) (sz : Nat) {a_0 : Int32} {post : Int32 → Prop} (h : w_J6_bitCount_0f7a4 a_0 post) : Met l yJ6_bitCount_0f7a4 wsJ6_bitCount_0f7a4 (xq_R 0 0) (va_Pc [.int a_0] (xq_P (dC, dI) [(cyI, .int), (cyJ, .long)] ww sz)) (va_Qi (fun (rr : Int32) (uu : Unit) => post rr ) (fun (uu : Unit) => xq_B (dC, dI) [(cyI, .int), (cyJ, .long)] (va_A ww sz) ww) (va_A ww sz)) 0 0 (va_A ww sz) := by
  refine xq_M (cc := cJ6_bitCount_0f7a4) (maxL := 1) (ret := (some .int)) (QA := fun A => va_Qi (fun (rr : Int32) (uu : Unit) => post rr ) (fun (uu : Unit) => xq_B (dC, dI) [(cyI, .int), (cyJ, .long)] A ww) A) (by decide) rfl (Nat.le_of_ble_eq_true rfl) ?_
  intro p e s m args below meth c A ls Q hQ hx hb hr hml hts hown hlocks hsz hP hK hD hA hS hN hl
  subst hsz
  have hl : lv_has ls 1 [(0, .int a_0)] := hl
  unfold w_J6_bitCount_0f7a4 at h
  refine lv_iload_n hx hb dJ6_bitCount_0f7a4_0 rfl (lv_at hl 0 rfl) ?_
  refine lv_iload_n hx hb dJ6_bitCount_0f7a4_1 rfl (lv_at hl 0 rfl) ?_
  refine lv_iconst (v := (1 : Int32)) hx hb dJ6_bitCount_0f7a4_2 (by decide) ?_
  refine lv_iushr (v := ((Int32.toUInt32 a_0 >>> (Int32.toUInt32 (1 : Int32) &&& Int32.toUInt32 31)).toInt32)) hx hb dJ6_bitCount_0f7a4_3 rfl ?_
  refine lv_ldcw (v := (1431655765 : Int32)) hx hb hown (hts (.constant RJ6 265 (1431655765)) (by decide +kernel)) dJ6_bitCount_0f7a4_4 ?_
  refine lv_iand hx hb dJ6_bitCount_0f7a4_7 ?_
  refine lv_isub hx hb dJ6_bitCount_0f7a4_8 ?_
  refine lv_istore_n (lv' := [(0, .int (a_0 - (((Int32.toUInt32 a_0 >>> (Int32.toUInt32 (1 : Int32) &&& Int32.toUInt32 31)).toInt32) &&& (1431655765 : Int32))))]) hx hb dJ6_bitCount_0f7a4_9 rfl hl (by decide) rfl (fun ls hl => ?_)
  refine lv_iload_n hx hb dJ6_bitCount_0f7a4_10 rfl (lv_at hl 0 rfl) ?_
  refine lv_ldcw (v := (858993459 : Int32)) hx hb hown (hts (.constant RJ6 266 (858993459)) (by decide +kernel)) dJ6_bitCount_0f7a4_11 ?_
  refine lv_iand hx hb dJ6_bitCount_0f7a4_14 ?_
  refine lv_iload_n hx hb dJ6_bitCount_0f7a4_15 rfl (lv_at hl 0 rfl) ?_
  refine lv_iconst (v := (2 : Int32)) hx hb dJ6_bitCount_0f7a4_16 (by decide) ?_
  refine lv_iushr (v := ((Int32.toUInt32 (a_0 - (((Int32.toUInt32 a_0 >>> (Int32.toUInt32 (1 : Int32) &&& Int32.toUInt32 31)).toInt32) &&& (1431655765 : Int32))) >>> (Int32.toUInt32 (2 : Int32) &&& Int32.toUInt32 31)).toInt32)) hx hb dJ6_bitCount_0f7a4_17 rfl ?_
  refine lv_ldcw (v := (858993459 : Int32)) hx hb hown (hts (.constant RJ6 266 (858993459)) (by decide +kernel)) dJ6_bitCount_0f7a4_18 ?_
  refine lv_iand hx hb dJ6_bitCount_0f7a4_21 ?_
  refine lv_iadd hx hb dJ6_bitCount_0f7a4_22 ?_
  refine lv_istore_n (lv' := [(0, .int (((a_0 - (((Int32.toUInt32 a_0 >>> (Int32.toUInt32 (1 : Int32) &&& Int32.toUInt32 31)).toInt32) &&& (1431655765 : Int32))) &&& (858993459 : Int32)) + (((Int32.toUInt32 (a_0 - (((Int32.toUInt32 a_0 >>> (Int32.toUInt32 (1 : Int32) &&& Int32.toUInt32 31)).toInt32) &&& (1431655765 : Int32))) >>> (Int32.toUInt32 (2 : Int32) &&& Int32.toUInt32 31)).toInt32) &&& (858993459 : Int32))))]) hx hb dJ6_bitCount_0f7a4_23 rfl hl (by decide) rfl (fun ls hl => ?_)
  refine lv_iload_n hx hb dJ6_bitCount_0f7a4_24 rfl (lv_at hl 0 rfl) ?_
  refine lv_iload_n hx hb dJ6_bitCount_0f7a4_25 rfl (lv_at hl 0 rfl) ?_
  refine lv_iconst (v := (4 : Int32)) hx hb dJ6_bitCount_0f7a4_26 (by decide) ?_
  refine lv_iushr (v := ((Int32.toUInt32 (((a_0 - (((Int32.toUInt32 a_0 >>> (Int32.toUInt32 (1 : Int32) &&& Int32.toUInt32 31)).toInt32) &&& (1431655765 : Int32))) &&& (858993459 : Int32)) + (((Int32.toUInt32 (a_0 - (((Int32.toUInt32 a_0 >>> (Int32.toUInt32 (1 : Int32) &&& Int32.toUInt32 31)).toInt32) &&& (1431655765 : Int32))) >>> (Int32.toUInt32 (2 : Int32) &&& Int32.toUInt32 31)).toInt32) &&& (858993459 : Int32))) >>> (Int32.toUInt32 (4 : Int32) &&& Int32.toUInt32 31)).toInt32)) hx hb dJ6_bitCount_0f7a4_27 rfl ?_
  refine lv_iadd hx hb dJ6_bitCount_0f7a4_28 ?_
  refine lv_ldcw (v := (252645135 : Int32)) hx hb hown (hts (.constant RJ6 267 (252645135)) (by decide +kernel)) dJ6_bitCount_0f7a4_29 ?_
  refine lv_iand hx hb dJ6_bitCount_0f7a4_32 ?_
  refine lv_istore_n (lv' := [(0, .int (((((a_0 - (((Int32.toUInt32 a_0 >>> (Int32.toUInt32 (1 : Int32) &&& Int32.toUInt32 31)).toInt32) &&& (1431655765 : Int32))) &&& (858993459 : Int32)) + (((Int32.toUInt32 (a_0 - (((Int32.toUInt32 a_0 >>> (Int32.toUInt32 (1 : Int32) &&& Int32.toUInt32 31)).toInt32) &&& (1431655765 : Int32))) >>> (Int32.toUInt32 (2 : Int32) &&& Int32.toUInt32 31)).toInt32) &&& (858993459 : Int32))) + ((Int32.toUInt32 (((a_0 - (((Int32.toUInt32 a_0 >>> (Int32.toUInt32 (1 : Int32) &&& Int32.toUInt32 31)).toInt32) &&& (1431655765 : Int32))) &&& (858993459 : Int32)) + (((Int32.toUInt32 (a_0 - (((Int32.toUInt32 a_0 >>> (Int32.toUInt32 (1 : Int32) &&& Int32.toUInt32 31)).toInt32) &&& (1431655765 : Int32))) >>> (Int32.toUInt32 (2 : Int32) &&& Int32.toUInt32 31)).toInt32) &&& (858993459 : Int32))) >>> (Int32.toUInt32 (4 : Int32) &&& Int32.toUInt32 31)).toInt32)) &&& (252645135 : Int32)))]) hx hb dJ6_bitCount_0f7a4_33 rfl hl (by decide) rfl (fun ls hl => ?_)
  refine lv_iload_n hx hb dJ6_bitCount_0f7a4_34 rfl (lv_at hl 0 rfl) ?_
  refine lv_iload_n hx hb dJ6_bitCount_0f7a4_35 rfl (lv_at hl 0 rfl) ?_
  refine lv_bipush (v := (8 : Int32)) hx hb dJ6_bitCount_0f7a4_36 (by decide) ?_
  refine lv_iushr (v := ((Int32.toUInt32 (((((a_0 - (((Int32.toUInt32 a_0 >>> (Int32.toUInt32 (1 : Int32) &&& Int32.toUInt32 31)).toInt32) &&& (1431655765 : Int32))) &&& (858993459 : Int32)) + (((Int32.toUInt32 (a_0 - (((Int32.toUInt32 a_0 >>> (Int32.toUInt32 (1 : Int32) &&& Int32.toUInt32 31)).toInt32) &&& (1431655765 : Int32))) >>> (Int32.toUInt32 (2 : Int32) &&& Int32.toUInt32 31)).toInt32) &&& (858993459 : Int32))) + ((Int32.toUInt32 (((a_0 - (((Int32.toUInt32 a_0 >>> (Int32.toUInt32 (1 : Int32) &&& Int32.toUInt32 31)).toInt32) &&& (1431655765 : Int32))) &&& (858993459 : Int32)) + (((Int32.toUInt32 (a_0 - (((Int32.toUInt32 a_0 >>> (Int32.toUInt32 (1 : Int32) &&& Int32.toUInt32 31)).toInt32) &&& (1431655765 : Int32))) >>> (Int32.toUInt32 (2 : Int32) &&& Int32.toUInt32 31)).toInt32) &&& (858993459 : Int32))) >>> (Int32.toUInt32 (4 : Int32) &&& Int32.toUInt32 31)).toInt32)) &&& (252645135 : Int32)) >>> (Int32.toUInt32 (8 : Int32) &&& Int32.toUInt32 31)).toInt32)) hx hb dJ6_bitCount_0f7a4_38 rfl ?_
  refine lv_iadd hx hb dJ6_bitCount_0f7a4_39 ?_
  refine lv_istore_n (lv' := [(0, .int ((((((a_0 - (((Int32.toUInt32 a_0 >>> (Int32.toUInt32 (1 : Int32) &&& Int32.toUInt32 31)).toInt32) &&& (1431655765 : Int32))) &&& (858993459 : Int32)) + (((Int32.toUInt32 (a_0 - (((Int32.toUInt32 a_0 >>> (Int32.toUInt32 (1 : Int32) &&& Int32.toUInt32 31)).toInt32) &&& (1431655765 : Int32))) >>> (Int32.toUInt32 (2 : Int32) &&& Int32.toUInt32 31)).toInt32) &&& (858993459 : Int32))) + ((Int32.toUInt32 (((a_0 - (((Int32.toUInt32 a_0 >>> (Int32.toUInt32 (1 : Int32) &&& Int32.toUInt32 31)).toInt32) &&& (1431655765 : Int32))) &&& (858993459 : Int32)) + (((Int32.toUInt32 (a_0 - (((Int32.toUInt32 a_0 >>> (Int32.toUInt32 (1 : Int32) &&& Int32.toUInt32 31)).toInt32) &&& (1431655765 : Int32))) >>> (Int32.toUInt32 (2 : Int32) &&& Int32.toUInt32 31)).toInt32) &&& (858993459 : Int32))) >>> (Int32.toUInt32 (4 : Int32) &&& Int32.toUInt32 31)).toInt32)) &&& (252645135 : Int32)) + ((Int32.toUInt32 (((((a_0 - (((Int32.toUInt32 a_0 >>> (Int32.toUInt32 (1 : Int32) &&& Int32.toUInt32 31)).toInt32) &&& (1431655765 : Int32))) &&& (858993459 : Int32)) + (((Int32.toUInt32 (a_0 - (((Int32.toUInt32 a_0 >>> (Int32.toUInt32 (1 : Int32) &&& Int32.toUInt32 31)).toInt32) &&& (1431655765 : Int32))) >>> (Int32.toUInt32 (2 : Int32) &&& Int32.toUInt32 31)).toInt32) &&& (858993459 : Int32))) + ((Int32.toUInt32 (((a_0 - (((Int32.toUInt32 a_0 >>> (Int32.toUInt32 (1 : Int32) &&& Int32.toUInt32 31)).toInt32) &&& (1431655765 : Int32))) &&& (858993459 : Int32)) + (((Int32.toUInt32 (a_0 - (((Int32.toUInt32 a_0 >>> (Int32.toUInt32 (1 : Int32) &&& Int32.toUInt32 31)).toInt32) &&& (1431655765 : Int32))) >>> (Int32.toUInt32 (2 : Int32) &&& Int32.toUInt32 31)).toInt32) &&& (858993459 : Int32))) >>> (Int32.toUInt32 (4 : Int32) &&& Int32.toUInt32 31)).toInt32)) &&& (252645135 : Int32)) >>> (Int32.toUInt32 (8 : Int32) &&& Int32.toUInt32 31)).toInt32)))]) hx hb dJ6_bitCount_0f7a4_40 rfl hl (by decide) rfl (fun ls hl => ?_)
  refine lv_iload_n hx hb dJ6_bitCount_0f7a4_41 rfl (lv_at hl 0 rfl) ?_
  refine lv_iload_n hx hb dJ6_bitCount_0f7a4_42 rfl (lv_at hl 0 rfl) ?_
  refine lv_bipush (v := (16 : Int32)) hx hb dJ6_bitCount_0f7a4_43 (by decide) ?_
  refine lv_iushr (v := ((Int32.toUInt32 ((((((a_0 - (((Int32.toUInt32 a_0 >>> (Int32.toUInt32 (1 : Int32) &&& Int32.toUInt32 31)).toInt32) &&& (1431655765 : Int32))) &&& (858993459 : Int32)) + (((Int32.toUInt32 (a_0 - (((Int32.toUInt32 a_0 >>> (Int32.toUInt32 (1 : Int32) &&& Int32.toUInt32 31)).toInt32) &&& (1431655765 : Int32))) >>> (Int32.toUInt32 (2 : Int32) &&& Int32.toUInt32 31)).toInt32) &&& (858993459 : Int32))) + ((Int32.toUInt32 (((a_0 - (((Int32.toUInt32 a_0 >>> (Int32.toUInt32 (1 : Int32) &&& Int32.toUInt32 31)).toInt32) &&& (1431655765 : Int32))) &&& (858993459 : Int32)) + (((Int32.toUInt32 (a_0 - (((Int32.toUInt32 a_0 >>> (Int32.toUInt32 (1 : Int32) &&& Int32.toUInt32 31)).toInt32) &&& (1431655765 : Int32))) >>> (Int32.toUInt32 (2 : Int32) &&& Int32.toUInt32 31)).toInt32) &&& (858993459 : Int32))) >>> (Int32.toUInt32 (4 : Int32) &&& Int32.toUInt32 31)).toInt32)) &&& (252645135 : Int32)) + ((Int32.toUInt32 (((((a_0 - (((Int32.toUInt32 a_0 >>> (Int32.toUInt32 (1 : Int32) &&& Int32.toUInt32 31)).toInt32) &&& (1431655765 : Int32))) &&& (858993459 : Int32)) + (((Int32.toUInt32 (a_0 - (((Int32.toUInt32 a_0 >>> (Int32.toUInt32 (1 : Int32) &&& Int32.toUInt32 31)).toInt32) &&& (1431655765 : Int32))) >>> (Int32.toUInt32 (2 : Int32) &&& Int32.toUInt32 31)).toInt32) &&& (858993459 : Int32))) + ((Int32.toUInt32 (((a_0 - (((Int32.toUInt32 a_0 >>> (Int32.toUInt32 (1 : Int32) &&& Int32.toUInt32 31)).toInt32) &&& (1431655765 : Int32))) &&& (858993459 : Int32)) + (((Int32.toUInt32 (a_0 - (((Int32.toUInt32 a_0 >>> (Int32.toUInt32 (1 : Int32) &&& Int32.toUInt32 31)).toInt32) &&& (1431655765 : Int32))) >>> (Int32.toUInt32 (2 : Int32) &&& Int32.toUInt32 31)).toInt32) &&& (858993459 : Int32))) >>> (Int32.toUInt32 (4 : Int32) &&& Int32.toUInt32 31)).toInt32)) &&& (252645135 : Int32)) >>> (Int32.toUInt32 (8 : Int32) &&& Int32.toUInt32 31)).toInt32)) >>> (Int32.toUInt32 (16 : Int32) &&& Int32.toUInt32 31)).toInt32)) hx hb dJ6_bitCount_0f7a4_45 rfl ?_
  refine lv_iadd hx hb dJ6_bitCount_0f7a4_46 ?_
  refine lv_istore_n (lv' := [(0, .int (((((((a_0 - (((Int32.toUInt32 a_0 >>> (Int32.toUInt32 (1 : Int32) &&& Int32.toUInt32 31)).toInt32) &&& (1431655765 : Int32))) &&& (858993459 : Int32)) + (((Int32.toUInt32 (a_0 - (((Int32.toUInt32 a_0 >>> (Int32.toUInt32 (1 : Int32) &&& Int32.toUInt32 31)).toInt32) &&& (1431655765 : Int32))) >>> (Int32.toUInt32 (2 : Int32) &&& Int32.toUInt32 31)).toInt32) &&& (858993459 : Int32))) + ((Int32.toUInt32 (((a_0 - (((Int32.toUInt32 a_0 >>> (Int32.toUInt32 (1 : Int32) &&& Int32.toUInt32 31)).toInt32) &&& (1431655765 : Int32))) &&& (858993459 : Int32)) + (((Int32.toUInt32 (a_0 - (((Int32.toUInt32 a_0 >>> (Int32.toUInt32 (1 : Int32) &&& Int32.toUInt32 31)).toInt32) &&& (1431655765 : Int32))) >>> (Int32.toUInt32 (2 : Int32) &&& Int32.toUInt32 31)).toInt32) &&& (858993459 : Int32))) >>> (Int32.toUInt32 (4 : Int32) &&& Int32.toUInt32 31)).toInt32)) &&& (252645135 : Int32)) + ((Int32.toUInt32 (((((a_0 - (((Int32.toUInt32 a_0 >>> (Int32.toUInt32 (1 : Int32) &&& Int32.toUInt32 31)).toInt32) &&& (1431655765 : Int32))) &&& (858993459 : Int32)) + (((Int32.toUInt32 (a_0 - (((Int32.toUInt32 a_0 >>> (Int32.toUInt32 (1 : Int32) &&& Int32.toUInt32 31)).toInt32) &&& (1431655765 : Int32))) >>> (Int32.toUInt32 (2 : Int32) &&& Int32.toUInt32 31)).toInt32) &&& (858993459 : Int32))) + ((Int32.toUInt32 (((a_0 - (((Int32.toUInt32 a_0 >>> (Int32.toUInt32 (1 : Int32) &&& Int32.toUInt32 31)).toInt32) &&& (1431655765 : Int32))) &&& (858993459 : Int32)) + (((Int32.toUInt32 (a_0 - (((Int32.toUInt32 a_0 >>> (Int32.toUInt32 (1 : Int32) &&& Int32.toUInt32 31)).toInt32) &&& (1431655765 : Int32))) >>> (Int32.toUInt32 (2 : Int32) &&& Int32.toUInt32 31)).toInt32) &&& (858993459 : Int32))) >>> (Int32.toUInt32 (4 : Int32) &&& Int32.toUInt32 31)).toInt32)) &&& (252645135 : Int32)) >>> (Int32.toUInt32 (8 : Int32) &&& Int32.toUInt32 31)).toInt32)) + ((Int32.toUInt32 ((((((a_0 - (((Int32.toUInt32 a_0 >>> (Int32.toUInt32 (1 : Int32) &&& Int32.toUInt32 31)).toInt32) &&& (1431655765 : Int32))) &&& (858993459 : Int32)) + (((Int32.toUInt32 (a_0 - (((Int32.toUInt32 a_0 >>> (Int32.toUInt32 (1 : Int32) &&& Int32.toUInt32 31)).toInt32) &&& (1431655765 : Int32))) >>> (Int32.toUInt32 (2 : Int32) &&& Int32.toUInt32 31)).toInt32) &&& (858993459 : Int32))) + ((Int32.toUInt32 (((a_0 - (((Int32.toUInt32 a_0 >>> (Int32.toUInt32 (1 : Int32) &&& Int32.toUInt32 31)).toInt32) &&& (1431655765 : Int32))) &&& (858993459 : Int32)) + (((Int32.toUInt32 (a_0 - (((Int32.toUInt32 a_0 >>> (Int32.toUInt32 (1 : Int32) &&& Int32.toUInt32 31)).toInt32) &&& (1431655765 : Int32))) >>> (Int32.toUInt32 (2 : Int32) &&& Int32.toUInt32 31)).toInt32) &&& (858993459 : Int32))) >>> (Int32.toUInt32 (4 : Int32) &&& Int32.toUInt32 31)).toInt32)) &&& (252645135 : Int32)) + ((Int32.toUInt32 (((((a_0 - (((Int32.toUInt32 a_0 >>> (Int32.toUInt32 (1 : Int32) &&& Int32.toUInt32 31)).toInt32) &&& (1431655765 : Int32))) &&& (858993459 : Int32)) + (((Int32.toUInt32 (a_0 - (((Int32.toUInt32 a_0 >>> (Int32.toUInt32 (1 : Int32) &&& Int32.toUInt32 31)).toInt32) &&& (1431655765 : Int32))) >>> (Int32.toUInt32 (2 : Int32) &&& Int32.toUInt32 31)).toInt32) &&& (858993459 : Int32))) + ((Int32.toUInt32 (((a_0 - (((Int32.toUInt32 a_0 >>> (Int32.toUInt32 (1 : Int32) &&& Int32.toUInt32 31)).toInt32) &&& (1431655765 : Int32))) &&& (858993459 : Int32)) + (((Int32.toUInt32 (a_0 - (((Int32.toUInt32 a_0 >>> (Int32.toUInt32 (1 : Int32) &&& Int32.toUInt32 31)).toInt32) &&& (1431655765 : Int32))) >>> (Int32.toUInt32 (2 : Int32) &&& Int32.toUInt32 31)).toInt32) &&& (858993459 : Int32))) >>> (Int32.toUInt32 (4 : Int32) &&& Int32.toUInt32 31)).toInt32)) &&& (252645135 : Int32)) >>> (Int32.toUInt32 (8 : Int32) &&& Int32.toUInt32 31)).toInt32)) >>> (Int32.toUInt32 (16 : Int32) &&& Int32.toUInt32 31)).toInt32)))]) hx hb dJ6_bitCount_0f7a4_47 rfl hl (by decide) rfl (fun ls hl => ?_)
  refine lv_iload_n hx hb dJ6_bitCount_0f7a4_48 rfl (lv_at hl 0 rfl) ?_
  refine lv_bipush (v := (63 : Int32)) hx hb dJ6_bitCount_0f7a4_49 (by decide) ?_
  refine lv_iand hx hb dJ6_bitCount_0f7a4_51 ?_
  exact xq_ri hQ hx hb hr hP hK hD hS () rfl h dJ6_bitCount_0f7a4_52 hlocks
def w_X0_begin_L15  (t_caseCount : Int32) (p_cases : Int32) (post : (Nat → Int64) → Int32 → Prop) (kk : (Nat → Int64) → Prop) : Nat → Int32 → (Nat → Int64) → Prop
  | 0, _, _ => False
  | f_15 + 1, a_2, p_callsOfCase => (p_cases ≤ a_2 → (kk p_callsOfCase)) ∧ (¬ p_cases ≤ a_2 → ((vp_in a_2 64) ∧ (w_X0_begin_L15 t_caseCount p_cases post kk f_15 (a_2 + (1 : Int32)) (vp_updL p_callsOfCase a_2.toNatClampNeg (0 : Int64)))))
def w_X0_begin (t_caseCount : Int32) (p_callsOfCase : Nat → Int64) (p_cases : Int32) (post : (Nat → Int64) → Int32 → Prop) : Prop := ∃ e_15, w_X0_begin_L15 t_caseCount (if (64 : Int32) < t_caseCount then (64 : Int32) else t_caseCount) post (fun (xx_5 : Nat → Int64) => post xx_5 (if (64 : Int32) < t_caseCount then (64 : Int32) else t_caseCount)) e_15 (0 : Int32) p_callsOfCase
set_option maxHeartbeats 4000000 in
set_option maxRecDepth 100000 in
theorem m_X0_begin (l : Launch) (dC : Nat → ClassId) (dI : Nat → Nat → Nat) (cyI cyJ : ClassId) (aa : Nat → Nat) (sz : Nat) {s_lanes : Nat → Int32} {s_sizes : Nat → Int32} {s_cells : Nat → Int32} {x_kinds : Nat → Int32} {x_digits : Nat → Int32} {x_causes : Nat → Int32} {x_effects : Nat → Int32} {x_things : Int32} {x_follows : Int32} {x_due : Int32} {t_kinds : Nat → Int32} {t_digits : Nat → Int32} {t_caseRow : Nat → Int32} {t_weights : Nat → Int32} {t_order : Nat → Int32} {t_calls : Nat → Int32} {t_things : Int32} {t_caseCount : Int32} {t_caseSet : Int64} {p_callsOfCase : Nat → Int64} {p_partOfCase : Nat → Int32} {p_callsOfPart : Nat → Int64} {p_cases : Int32} {p_parts : Int32} {r_cases : Nat → Int32} {r_hours : Nat → Int32} {r_sets : Nat → Int32} {r_count : Int32} {u_lists : Nat → Int32} {u_breaths : Nat → Int32} {u_heard : Nat → Int32} {u_traced : Int32} {u_lastFault : Int32} {post : (Nat → Int64) → Int32 → Prop} (h : w_X0_begin t_caseCount p_callsOfCase p_cases post) : Met l yX0_begin wsX0_begin (xq_R 1 21) (va_Pc [.ref (aa 17), .ref (aa 10)] (xq_P (dC, dI) [(cyI, .int), (cyJ, .long)] (wc_u cyI cyJ aa s_lanes s_sizes s_cells x_kinds x_digits x_causes x_effects x_things x_follows x_due t_kinds t_digits t_caseRow t_weights t_order t_calls t_things t_caseCount t_caseSet p_callsOfCase p_partOfCase p_callsOfPart p_cases p_parts r_cases r_hours r_sets r_count u_lists u_breaths u_heard u_traced u_lastFault) sz)) (va_Qv (fun (uu : (Nat → Int64) × Int32) => post uu.1 uu.2) (fun (uu : (Nat → Int64) × Int32) => xq_B (dC, dI) [(cyI, .int), (cyJ, .long)] (va_A (wc_u cyI cyJ aa s_lanes s_sizes s_cells x_kinds x_digits x_causes x_effects x_things x_follows x_due t_kinds t_digits t_caseRow t_weights t_order t_calls t_things t_caseCount t_caseSet p_callsOfCase p_partOfCase p_callsOfPart p_cases p_parts r_cases r_hours r_sets r_count u_lists u_breaths u_heard u_traced u_lastFault) sz) (wc_u cyI cyJ aa s_lanes s_sizes s_cells x_kinds x_digits x_causes x_effects x_things x_follows x_due t_kinds t_digits t_caseRow t_weights t_order t_calls t_things t_caseCount t_caseSet uu.1 p_partOfCase p_callsOfPart uu.2 p_parts r_cases r_hours r_sets r_count u_lists u_breaths u_heard u_traced u_lastFault)) (va_A (wc_u cyI cyJ aa s_lanes s_sizes s_cells x_kinds x_digits x_causes x_effects x_things x_follows x_due t_kinds t_digits t_caseRow t_weights t_order t_calls t_things t_caseCount t_caseSet p_callsOfCase p_partOfCase p_callsOfPart p_cases p_parts r_cases r_hours r_sets r_count u_lists u_breaths u_heard u_traced u_lastFault) sz)) 0 0 (va_A (wc_u cyI cyJ aa s_lanes s_sizes s_cells x_kinds x_digits x_causes x_effects x_things x_follows x_due t_kinds t_digits t_caseRow t_weights t_order t_calls t_things t_caseCount t_caseSet p_callsOfCase p_partOfCase p_callsOfPart p_cases p_parts r_cases r_hours r_sets r_count u_lists u_breaths u_heard u_traced u_lastFault) sz) := by
  refine xq_M (cc := cX0_begin) (maxL := 3) (ret := none) (QA := fun A => va_Qv (fun (uu : (Nat → Int64) × Int32) => post uu.1 uu.2) (fun (uu : (Nat → Int64) × Int32) => xq_B (dC, dI) [(cyI, .int), (cyJ, .long)] A (wc_u cyI cyJ aa s_lanes s_sizes s_cells x_kinds x_digits x_causes x_effects x_things x_follows x_due t_kinds t_digits t_caseRow t_weights t_order t_calls t_things t_caseCount t_caseSet uu.1 p_partOfCase p_callsOfPart uu.2 p_parts r_cases r_hours r_sets r_count u_lists u_breaths u_heard u_traced u_lastFault)) A) (by decide) rfl (Nat.le_of_ble_eq_true rfl) ?_
  intro p e s m args below meth c A ls Q hQ hx hb hr hml hts hown hlocks hsz hP hK hD hA hS hN hl
  subst hsz
  have hl : lv_has ls 3 [(0, .ref (aa 17)), (1, .ref (aa 10))] := hl
  have hi_X0 : ∀ w ∈ wsX00, w ∈ wsX0_begin := fun _ h => List.mem_cons_of_mem _ (List.mem_append_right _ h)
  have hi_X4 : ∀ w ∈ wsX40, w ∈ wsX0_begin := fun _ h => List.mem_cons_of_mem _ (List.mem_append_left _ (List.mem_append_right _ h))
  have fl_9 := hts (.fieldLink RX0 9 "UnsaidCalls$Parting" "callsOfCase" "[J") (by decide +kernel)
  have fl_22 := hts (.fieldLink RX0 22 "UnsaidCalls$Town" "caseCount" "I") (by decide +kernel)
  have fl_34 := hts (.fieldLink RX0 34 "UnsaidCalls$Parting" "cases" "I") (by decide +kernel)
  unfold w_X0_begin at h
  refine lv_aload_n hx hb dX0_begin_0 rfl (lv_at hl 0 rfl) ?_
  refine lv_aload_n hx hb dX0_begin_1 rfl (lv_at hl 1 rfl) ?_
  refine va_get (D := (dC, dI)) (ci := 4) (v := .int t_caseCount) (C := RX4) (T := TX4) (N := 9) hx hb hts hi_X4 hown hK hP 10 rfl rfl 7 (by decide) fl_22 (fun _ h9 => h9) rfl dX0_begin_2 ?_
  refine lv_bipush (v := (64 : Int32)) hx hb dX0_begin_5 (by decide) ?_
  refine va_mmin hx hb (by rw [hml]; exact hl.1.symm) hown (hts (.methodLink RX0 28 Lib.Math.min.name) (by decide +kernel)) (hts (.static Lib.Math.min.name) (by decide +kernel)) (hts (.initialized "java/lang/Math") (by decide +kernel)) (hts (.code Lib.Math.min.name Lib.Math.min.code 2 (some .int)) (by decide +kernel)) (Nat.le_of_ble_eq_true rfl) (Nat.le_of_ble_eq_true rfl) (Nat.zero_le _) (Nat.zero_le _) dX0_begin_7 ?_
  refine va_put (D := (dC, dI)) (ci := 0) (v := .int (if (64 : Int32) < t_caseCount then (64 : Int32) else t_caseCount)) (ty := .int) (C := RX0) (T := TX0) (N := 5) hx hb hts hi_X0 tyX0 tyX0_ok nmX0 hown hK hP hD hS 17 rfl rfl 3 (by decide) fl_34 (fun _ h9 => h9) rfl (by decide +kernel) rfl rfl (Nat.le_of_ble_eq_true rfl) dX0_begin_10 (fun H locs hP hD hS => ?_)
  have hP : va_P (dC, dI) vwCl (wc_u cyI cyJ aa s_lanes s_sizes s_cells x_kinds x_digits x_causes x_effects x_things x_follows x_due t_kinds t_digits t_caseRow t_weights t_order t_calls t_things t_caseCount t_caseSet p_callsOfCase p_partOfCase p_callsOfPart (if (64 : Int32) < t_caseCount then (64 : Int32) else t_caseCount) p_parts r_cases r_hours r_sets r_count u_lists u_breaths u_heard u_traced u_lastFault) H := hP
  have hD : va_D A (wc_u cyI cyJ aa s_lanes s_sizes s_cells x_kinds x_digits x_causes x_effects x_things x_follows x_due t_kinds t_digits t_caseRow t_weights t_order t_calls t_things t_caseCount t_caseSet p_callsOfCase p_partOfCase p_callsOfPart (if (64 : Int32) < t_caseCount then (64 : Int32) else t_caseCount) p_parts r_cases r_hours r_sets r_count u_lists u_breaths u_heard u_traced u_lastFault) := hD
  refine lv_iconst (v := (0 : Int32)) hx hb dX0_begin_13 (by decide) ?_
  refine lv_istore_n (lv' := [(2, .int (0 : Int32)), (0, .ref (aa 17)), (1, .ref (aa 10))]) hx hb dX0_begin_14 rfl hl (by decide) rfl (fun ls hl => ?_)
  obtain ⟨ni, h⟩ := h
  have lp_15 : ∀ (kk : (Nat → Int64) → Prop), (∀ (xx_5 : Nat → Int64) (H : Heap) (locs : List Loc) (ls : Array Slot), va_P (dC, dI) vwCl (wc_u cyI cyJ aa s_lanes s_sizes s_cells x_kinds x_digits x_causes x_effects x_things x_follows x_due t_kinds t_digits t_caseRow t_weights t_order t_calls t_things t_caseCount t_caseSet xx_5 p_partOfCase p_callsOfPart (if (64 : Int32) < t_caseCount then (64 : Int32) else t_caseCount) p_parts r_cases r_hours r_sets r_count u_lists u_breaths u_heard u_traced u_lastFault) H → va_D A (wc_u cyI cyJ aa s_lanes s_sizes s_cells x_kinds x_digits x_causes x_effects x_things x_follows x_due t_kinds t_digits t_caseRow t_weights t_order t_calls t_things t_caseCount t_caseSet xx_5 p_partOfCase p_callsOfPart (if (64 : Int32) < t_caseCount then (64 : Int32) else t_caseCount) p_parts r_cases r_hours r_sets r_count u_lists u_breaths u_heard u_traced u_lastFault) → va_S A s.heap H locs → lv_has ls 3 [] → kk xx_5 → W p l e (xq_R 1 21) s m args below meth c H locs 0 0 Q (F0 m 36 ls [])) → ∀ (ni : Nat) (aa_3 : Int32) (cc_4 : Nat → Int64) (H : Heap) (locs : List Loc) (ls : Array Slot), va_P (dC, dI) vwCl (wc_u cyI cyJ aa s_lanes s_sizes s_cells x_kinds x_digits x_causes x_effects x_things x_follows x_due t_kinds t_digits t_caseRow t_weights t_order t_calls t_things t_caseCount t_caseSet cc_4 p_partOfCase p_callsOfPart (if (64 : Int32) < t_caseCount then (64 : Int32) else t_caseCount) p_parts r_cases r_hours r_sets r_count u_lists u_breaths u_heard u_traced u_lastFault) H → va_D A (wc_u cyI cyJ aa s_lanes s_sizes s_cells x_kinds x_digits x_causes x_effects x_things x_follows x_due t_kinds t_digits t_caseRow t_weights t_order t_calls t_things t_caseCount t_caseSet cc_4 p_partOfCase p_callsOfPart (if (64 : Int32) < t_caseCount then (64 : Int32) else t_caseCount) p_parts r_cases r_hours r_sets r_count u_lists u_breaths u_heard u_traced u_lastFault) → va_S A s.heap H locs → lv_has ls 3 [(0, .ref (aa 17)), (2, .int aa_3)] → w_X0_begin_L15 t_caseCount (if (64 : Int32) < t_caseCount then (64 : Int32) else t_caseCount) post kk ni aa_3 cc_4 → W p l e (xq_R 1 21) s m args below meth c H locs 0 0 Q (F0 m 15 ls []) := by
    intro kk kx ni
    induction ni with
    | zero => intros; exact False.elim (by assumption)
    | succ ni ih =>
      intro aa_3 cc_4 H locs ls hP hD hS hl h
      rw [w_X0_begin_L15] at h
      refine lv_iload_n hx hb dX0_begin_15 rfl (lv_at hl 1 rfl) ?_
      refine lv_aload_n hx hb dX0_begin_16 rfl (lv_at hl 0 rfl) ?_
      refine va_get (D := (dC, dI)) (ci := 0) (v := .int (if (64 : Int32) < t_caseCount then (64 : Int32) else t_caseCount)) (C := RX0) (T := TX0) (N := 5) hx hb hts hi_X0 hown hK hP 17 rfl rfl 3 (by decide) fl_34 (fun _ h9 => h9) rfl dX0_begin_17 ?_
      refine lv_icmp_ge (tgt := 36) hx hb dX0_begin_20 (by decide) (fun hc_7 => ?_) (fun hc_7 => ?_)
      · have h := h.1 hc_7
        exact kx cc_4 _ _ _ hP hD hS (lv_sub hl [] rfl) h
      · have h := h.2 hc_7
        refine lv_aload_n hx hb dX0_begin_23 rfl (lv_at hl 0 rfl) ?_
        refine va_get (D := (dC, dI)) (ci := 0) (v := .ref (aa 18)) (C := RX0) (T := TX0) (N := 5) hx hb hts hi_X0 hown hK hP 17 rfl rfl 0 (by decide) fl_9 (fun _ h9 => h9) rfl dX0_begin_24 ?_
        refine lv_iload_n hx hb dX0_begin_27 rfl (lv_at hl 1 rfl) ?_
        refine lv_lconst (v := (0 : Int64)) hx hb dX0_begin_28 (by decide) ?_
        obtain ⟨hv_6, h⟩ := h
        refine va_last hx hb hK hP hD hS 18 1 rfl rfl hv_6 dX0_begin_29 (fun H locs hP hD hS => ?_)
        have hP : va_P (dC, dI) vwCl (wc_u cyI cyJ aa s_lanes s_sizes s_cells x_kinds x_digits x_causes x_effects x_things x_follows x_due t_kinds t_digits t_caseRow t_weights t_order t_calls t_things t_caseCount t_caseSet (vp_updL cc_4 aa_3.toNatClampNeg (0 : Int64)) p_partOfCase p_callsOfPart (if (64 : Int32) < t_caseCount then (64 : Int32) else t_caseCount) p_parts r_cases r_hours r_sets r_count u_lists u_breaths u_heard u_traced u_lastFault) H := hP
        have hD : va_D A (wc_u cyI cyJ aa s_lanes s_sizes s_cells x_kinds x_digits x_causes x_effects x_things x_follows x_due t_kinds t_digits t_caseRow t_weights t_order t_calls t_things t_caseCount t_caseSet (vp_updL cc_4 aa_3.toNatClampNeg (0 : Int64)) p_partOfCase p_callsOfPart (if (64 : Int32) < t_caseCount then (64 : Int32) else t_caseCount) p_parts r_cases r_hours r_sets r_count u_lists u_breaths u_heard u_traced u_lastFault) := hD
        refine lv_iinc (v := (aa_3 + (1 : Int32))) (lv' := [(2, .int (aa_3 + (1 : Int32))), (0, .ref (aa 17))]) hx hb dX0_begin_30 hl (k := 1) rfl rfl (by decide) rfl (fun ls hl => ?_)
        refine lv_goto (tgt := 15) hx hb dX0_begin_33 (by decide) ?_
        exact ih (aa_3 + (1 : Int32)) (vp_updL cc_4 aa_3.toNatClampNeg (0 : Int64)) _ _ _ hP hD hS (lv_sub hl [1, 0] rfl) h
  refine lp_15 _ (fun xx_5 H locs ls hP hD hS hl h => ?_) ni (0 : Int32) p_callsOfCase _ _ _ hP hD hS (lv_sub hl [1, 0] rfl) h
  exact xq_rv hQ hx hb hr hP hK hD hS (xx_5, (if (64 : Int32) < t_caseCount then (64 : Int32) else t_caseCount)) rfl h dX0_begin_36 hlocks
def w_X5_isBreath (a_0 : Int32) (post : Int32 → Prop) : Prop := (a_0 < 0 → (post (0 : Int32))) ∧ (¬ a_0 < 0 → (((18 : Int32) < a_0 → (post (0 : Int32))) ∧ (¬ (18 : Int32) < a_0 → (post (1 : Int32)))))
set_option maxHeartbeats 4000000 in
set_option maxRecDepth 100000 in
theorem m_X5_isBreath (l : Launch) (dC : Nat → ClassId) (dI : Nat → Nat → Nat) (cyI cyJ : ClassId) (ww : va_W) (sz : Nat) {a_0 : Int32} {post : Int32 → Prop} (h : w_X5_isBreath a_0 post) : Met l yX5_isBreath wsX5_isBreath (xq_R 0 0) (va_Pc [.int a_0] (xq_P (dC, dI) [(cyI, .int), (cyJ, .long)] ww sz)) (va_Qi (fun (rr : Int32) (uu : Unit) => post rr ) (fun (uu : Unit) => xq_B (dC, dI) [(cyI, .int), (cyJ, .long)] (va_A ww sz) ww) (va_A ww sz)) 0 0 (va_A ww sz) := by
  refine xq_M (cc := cX5_isBreath) (maxL := 1) (ret := (some .boolean)) (QA := fun A => va_Qi (fun (rr : Int32) (uu : Unit) => post rr ) (fun (uu : Unit) => xq_B (dC, dI) [(cyI, .int), (cyJ, .long)] A ww) A) (by decide) rfl (Nat.le_of_ble_eq_true rfl) ?_
  intro p e s m args below meth c A ls Q hQ hx hb hr hml hts hown hlocks hsz hP hK hD hA hS hN hl
  subst hsz
  have hl : lv_has ls 1 [(0, .int a_0)] := hl
  unfold w_X5_isBreath at h
  refine lv_iload_n hx hb dX5_isBreath_0 rfl (lv_at hl 0 rfl) ?_
  refine lv_if_lt (tgt := 14) hx hb dX5_isBreath_1 (by decide) (fun hc_2 => ?_) (fun hc_2 => ?_)
  · have h := h.1 hc_2
    refine lv_iconst (v := (0 : Int32)) hx hb dX5_isBreath_14 (by decide) ?_
    exact xq_rz hQ hx hb hr (by decide) hP hK hD hS () rfl h dX5_isBreath_15 hlocks
  · have h := h.2 hc_2
    refine lv_iload_n hx hb dX5_isBreath_4 rfl (lv_at hl 0 rfl) ?_
    refine lv_bipush (v := (18 : Int32)) hx hb dX5_isBreath_5 (by decide) ?_
    refine lv_icmp_gt (tgt := 14) hx hb dX5_isBreath_7 (by decide) (fun hc_1 => ?_) (fun hc_1 => ?_)
    · have h := h.1 hc_1
      refine lv_iconst (v := (0 : Int32)) hx hb dX5_isBreath_14 (by decide) ?_
      exact xq_rz hQ hx hb hr (by decide) hP hK hD hS () rfl h dX5_isBreath_15 hlocks
    · have h := h.2 hc_1
      refine lv_iconst (v := (1 : Int32)) hx hb dX5_isBreath_10 (by decide) ?_
      refine lv_goto (tgt := 15) hx hb dX5_isBreath_11 (by decide) ?_
      exact xq_rz hQ hx hb hr (by decide) hP hK hD hS () rfl h dX5_isBreath_15 hlocks
def w_X4_callIn (t_calls : Nat → Int32) (a_1 : Int32) (a_2 : Int32) (a_3 : Int32) (post : Int32 → Prop) : Prop := w_X5_isBreath a_3 (fun (rr_1 : Int32) => (rr_1 = 0 → (post (0 : Int32))) ∧ (¬ rr_1 = 0 → ((vp_in ((a_3 * (64 : Int32)) + ((a_2 &&& (a_1 ^^^ (-1 : Int32))) &&& (63 : Int32))) 1216) ∧ (post (t_calls ((a_3 * (64 : Int32)) + ((a_2 &&& (a_1 ^^^ (-1 : Int32))) &&& (63 : Int32))).toNatClampNeg)))))
set_option maxHeartbeats 4000000 in
set_option maxRecDepth 100000 in
theorem m_X4_callIn (l : Launch) (dC : Nat → ClassId) (dI : Nat → Nat → Nat) (cyI cyJ : ClassId) (aa : Nat → Nat) (sz : Nat) {s_lanes : Nat → Int32} {s_sizes : Nat → Int32} {s_cells : Nat → Int32} {x_kinds : Nat → Int32} {x_digits : Nat → Int32} {x_causes : Nat → Int32} {x_effects : Nat → Int32} {x_things : Int32} {x_follows : Int32} {x_due : Int32} {t_kinds : Nat → Int32} {t_digits : Nat → Int32} {t_caseRow : Nat → Int32} {t_weights : Nat → Int32} {t_order : Nat → Int32} {t_calls : Nat → Int32} {t_things : Int32} {t_caseCount : Int32} {t_caseSet : Int64} {p_callsOfCase : Nat → Int64} {p_partOfCase : Nat → Int32} {p_callsOfPart : Nat → Int64} {p_cases : Int32} {p_parts : Int32} {r_cases : Nat → Int32} {r_hours : Nat → Int32} {r_sets : Nat → Int32} {r_count : Int32} {u_lists : Nat → Int32} {u_breaths : Nat → Int32} {u_heard : Nat → Int32} {u_traced : Int32} {u_lastFault : Int32} {a_1 : Int32} {a_2 : Int32} {a_3 : Int32} {post : Int32 → Prop} (h : w_X4_callIn t_calls a_1 a_2 a_3 post) : Met l yX4_callIn wsX4_callIn (xq_R 1 20) (va_Pc [.ref (aa 10), .int a_1, .int a_2, .int a_3] (xq_P (dC, dI) [(cyI, .int), (cyJ, .long)] (wc_u cyI cyJ aa s_lanes s_sizes s_cells x_kinds x_digits x_causes x_effects x_things x_follows x_due t_kinds t_digits t_caseRow t_weights t_order t_calls t_things t_caseCount t_caseSet p_callsOfCase p_partOfCase p_callsOfPart p_cases p_parts r_cases r_hours r_sets r_count u_lists u_breaths u_heard u_traced u_lastFault) sz)) (va_Qi (fun (rr : Int32) (uu : Unit) => post rr ) (fun (uu : Unit) => xq_B (dC, dI) [(cyI, .int), (cyJ, .long)] (va_A (wc_u cyI cyJ aa s_lanes s_sizes s_cells x_kinds x_digits x_causes x_effects x_things x_follows x_due t_kinds t_digits t_caseRow t_weights t_order t_calls t_things t_caseCount t_caseSet p_callsOfCase p_partOfCase p_callsOfPart p_cases p_parts r_cases r_hours r_sets r_count u_lists u_breaths u_heard u_traced u_lastFault) sz) (wc_u cyI cyJ aa s_lanes s_sizes s_cells x_kinds x_digits x_causes x_effects x_things x_follows x_due t_kinds t_digits t_caseRow t_weights t_order t_calls t_things t_caseCount t_caseSet p_callsOfCase p_partOfCase p_callsOfPart p_cases p_parts r_cases r_hours r_sets r_count u_lists u_breaths u_heard u_traced u_lastFault)) (va_A (wc_u cyI cyJ aa s_lanes s_sizes s_cells x_kinds x_digits x_causes x_effects x_things x_follows x_due t_kinds t_digits t_caseRow t_weights t_order t_calls t_things t_caseCount t_caseSet p_callsOfCase p_partOfCase p_callsOfPart p_cases p_parts r_cases r_hours r_sets r_count u_lists u_breaths u_heard u_traced u_lastFault) sz)) 0 0 (va_A (wc_u cyI cyJ aa s_lanes s_sizes s_cells x_kinds x_digits x_causes x_effects x_things x_follows x_due t_kinds t_digits t_caseRow t_weights t_order t_calls t_things t_caseCount t_caseSet p_callsOfCase p_partOfCase p_callsOfPart p_cases p_parts r_cases r_hours r_sets r_count u_lists u_breaths u_heard u_traced u_lastFault) sz) := by
  refine xq_M (cc := cX4_callIn) (maxL := 4) (ret := (some .int)) (QA := fun A => va_Qi (fun (rr : Int32) (uu : Unit) => post rr ) (fun (uu : Unit) => xq_B (dC, dI) [(cyI, .int), (cyJ, .long)] A (wc_u cyI cyJ aa s_lanes s_sizes s_cells x_kinds x_digits x_causes x_effects x_things x_follows x_due t_kinds t_digits t_caseRow t_weights t_order t_calls t_things t_caseCount t_caseSet p_callsOfCase p_partOfCase p_callsOfPart p_cases p_parts r_cases r_hours r_sets r_count u_lists u_breaths u_heard u_traced u_lastFault)) A) (by decide) rfl (Nat.le_of_ble_eq_true rfl) ?_
  intro p e s m args below meth c A ls Q hQ hx hb hr hml hts hown hlocks hsz hP hK hD hA hS hN hl
  subst hsz
  have hl : lv_has ls 4 [(0, .ref (aa 10)), (1, .int a_1), (2, .int a_2), (3, .int a_3)] := hl
  have hi_X4 : ∀ w ∈ wsX40, w ∈ wsX4_callIn := fun _ h => List.mem_cons_of_mem _ (List.mem_append_right _ h)
  have fl_27 := hts (.fieldLink RX4 27 "UnsaidCalls$Town" "calls" "[I") (by decide +kernel)
  unfold w_X4_callIn at h
  refine lv_iload_n hx hb dX4_callIn_0 rfl (lv_at hl 3 rfl) ?_
  refine xq_ci (va_runSN (As := [.int a_3]) (rest := []) ⟨hx, hb, hml, hown, hts⟩ (m_X5_isBreath l dC dI cyI cyJ (wc_u cyI cyJ aa s_lanes s_sizes s_cells x_kinds x_digits x_causes x_effects x_things x_follows x_due t_kinds t_digits t_caseRow t_weights t_order t_calls t_things t_caseCount t_caseSet p_callsOfCase p_partOfCase p_callsOfPart p_cases p_parts r_cases r_hours r_sets r_count u_lists u_breaths u_heard u_traced u_lastFault) s.heap.size h) ⟨va_cnB 1 hts ggX4_callIn_X5_isBreath rfl rfl rfl hN.1 (hts (.initialized RX5) (by decide +kernel)) (by decide +kernel) ⟨Nat.le_of_ble_eq_true rfl, Nat.le_of_ble_eq_true rfl⟩, hts (.static yX5_isBreath) (by decide +kernel), trivial⟩ (xq_preS hK hP hD hN) rfl rfl hl.1 rfl (lv_room (Nat.le_of_ble_eq_true rfl)) dX4_callIn_1 ⟨Nat.le_refl _, Nat.le_refl _⟩) hD hS hA (fun rr_1 uu H locs h hP hD hS => ?_)
  have hP : va_P (dC, dI) vwCl (wc_u cyI cyJ aa s_lanes s_sizes s_cells x_kinds x_digits x_causes x_effects x_things x_follows x_due t_kinds t_digits t_caseRow t_weights t_order t_calls t_things t_caseCount t_caseSet p_callsOfCase p_partOfCase p_callsOfPart p_cases p_parts r_cases r_hours r_sets r_count u_lists u_breaths u_heard u_traced u_lastFault) H := hP
  have hD : va_D A (wc_u cyI cyJ aa s_lanes s_sizes s_cells x_kinds x_digits x_causes x_effects x_things x_follows x_due t_kinds t_digits t_caseRow t_weights t_order t_calls t_things t_caseCount t_caseSet p_callsOfCase p_partOfCase p_callsOfPart p_cases p_parts r_cases r_hours r_sets r_count u_lists u_breaths u_heard u_traced u_lastFault) := hD
  refine lv_if_eq (tgt := 28) hx hb dX4_callIn_4 (by decide) (fun hc_3 => ?_) (fun hc_3 => ?_)
  · have h := h.1 hc_3
    refine lv_iconst (v := (0 : Int32)) hx hb dX4_callIn_28 (by decide) ?_
    exact xq_ri hQ hx hb hr hP hK hD hS () rfl h dX4_callIn_29 hlocks
  · have h := h.2 hc_3
    refine lv_aload_n hx hb dX4_callIn_7 rfl (lv_at hl 0 rfl) ?_
    refine va_get (D := (dC, dI)) (ci := 4) (v := .ref (aa 16)) (C := RX4) (T := TX4) (N := 9) hx hb hts hi_X4 hown hK hP 10 rfl rfl 5 (by decide) fl_27 (fun _ h9 => h9) rfl dX4_callIn_8 ?_
    refine lv_iload_n hx hb dX4_callIn_11 rfl (lv_at hl 3 rfl) ?_
    refine lv_bipush (v := (64 : Int32)) hx hb dX4_callIn_12 (by decide) ?_
    refine lv_imul hx hb dX4_callIn_14 ?_
    refine lv_iload_n hx hb dX4_callIn_15 rfl (lv_at hl 2 rfl) ?_
    refine lv_iload_n hx hb dX4_callIn_16 rfl (lv_at hl 1 rfl) ?_
    refine lv_iconst (v := (-1 : Int32)) hx hb dX4_callIn_17 (by decide) ?_
    refine lv_ixor hx hb dX4_callIn_18 ?_
    refine lv_iand hx hb dX4_callIn_19 ?_
    refine lv_bipush (v := (63 : Int32)) hx hb dX4_callIn_20 (by decide) ?_
    refine lv_iand hx hb dX4_callIn_22 ?_
    refine lv_iadd hx hb dX4_callIn_23 ?_
    obtain ⟨hv_2, h⟩ := h
    refine va_iald hx hb hK hP 16 0 rfl rfl hv_2 dX4_callIn_24 ?_
    refine lv_goto (tgt := 29) hx hb dX4_callIn_25 (by decide) ?_
    exact xq_ri hQ hx hb hr hP hK hD hS () rfl h dX4_callIn_29 hlocks
def w_X0_countWith_L3 (a_2 : Int32) (a_3 : Int32) (t_caseRow : Nat → Int32) (t_calls : Nat → Int32) (p_partOfCase : Nat → Int32) (p_cases : Int32) (p_parts : Int32) (post : Int32 → (Nat → Int64) → Prop) (kk : (Nat → Int64) → Prop) : Nat → Int32 → (Nat → Int64) → Prop
  | 0, _, _ => False
  | f_3 + 1, a_4, p_callsOfPart => (p_parts ≤ a_4 → (kk p_callsOfPart)) ∧ (¬ p_parts ≤ a_4 → ((vp_in a_4 64) ∧ (w_X0_countWith_L3 a_2 a_3 t_caseRow t_calls p_partOfCase p_cases p_parts post kk f_3 (a_4 + (1 : Int32)) (vp_updL p_callsOfPart a_4.toNatClampNeg (0 : Int64)))))
def w_X0_countWith_L32 (a_2 : Int32) (a_3 : Int32) (t_caseRow : Nat → Int32) (t_calls : Nat → Int32) (p_partOfCase : Nat → Int32) (p_cases : Int32) (p_parts : Int32) (post : Int32 → (Nat → Int64) → Prop) (kk : Int32 → (Nat → Int64) → Prop) : Nat → Int32 → Int32 → (Nat → Int64) → Prop
  | 0, _, _, _ => False
  | f_32 + 1, a_4, a_5, p_callsOfPart => (p_cases ≤ a_5 → (kk a_4 p_callsOfPart)) ∧ (¬ p_cases ≤ a_5 → ((vp_in a_5 64) ∧ (w_X4_callIn t_calls (t_caseRow a_5.toNatClampNeg) a_2 a_3 (fun (rr_7 : Int32) => (vp_in a_5 64) ∧ ((vp_in (p_partOfCase a_5.toNatClampNeg) 64) ∧ ((¬ (lg_cmp ((p_callsOfPart (p_partOfCase a_5.toNatClampNeg).toNatClampNeg) &&& ((1 : Int64) <<< (Int32.toInt64 rr_7 &&& 63))) (0 : Int64)) = 0 → (w_X0_countWith_L32 a_2 a_3 t_caseRow t_calls p_partOfCase p_cases p_parts post kk f_32 a_4 (a_5 + (1 : Int32)) p_callsOfPart)) ∧ ((lg_cmp ((p_callsOfPart (p_partOfCase a_5.toNatClampNeg).toNatClampNeg) &&& ((1 : Int64) <<< (Int32.toInt64 rr_7 &&& 63))) (0 : Int64)) = 0 → ((vp_in (p_partOfCase a_5.toNatClampNeg) 64) ∧ ((vp_in (p_partOfCase a_5.toNatClampNeg) 64) ∧ (w_X0_countWith_L32 a_2 a_3 t_caseRow t_calls p_partOfCase p_cases p_parts post kk f_32 (a_4 + (1 : Int32)) (a_5 + (1 : Int32)) (vp_updL p_callsOfPart (p_partOfCase a_5.toNatClampNeg).toNatClampNeg ((p_callsOfPart (p_partOfCase a_5.toNatClampNeg).toNatClampNeg) ||| ((1 : Int64) <<< (Int32.toInt64 rr_7 &&& 63))))))))))))))
def w_X0_countWith (t_caseRow : Nat → Int32) (t_calls : Nat → Int32) (p_partOfCase : Nat → Int32) (p_callsOfPart : Nat → Int64) (p_cases : Int32) (p_parts : Int32) (a_2 : Int32) (a_3 : Int32) (post : Int32 → (Nat → Int64) → Prop) : Prop := ∃ e_3, w_X0_countWith_L3 a_2 a_3 t_caseRow t_calls p_partOfCase p_cases p_parts post (fun (xx_5 : Nat → Int64) => ∃ e_32, w_X0_countWith_L32 a_2 a_3 t_caseRow t_calls p_partOfCase p_cases p_parts post (fun (xx_18 : Int32) (xx_19 : Nat → Int64) => post xx_18 xx_19) e_32 (0 : Int32) (0 : Int32) xx_5) e_3 (0 : Int32) p_callsOfPart
set_option maxHeartbeats 4000000 in
set_option maxRecDepth 100000 in
theorem m_X0_countWith (l : Launch) (dC : Nat → ClassId) (dI : Nat → Nat → Nat) (cyI cyJ : ClassId) (aa : Nat → Nat) (sz : Nat) {s_lanes : Nat → Int32} {s_sizes : Nat → Int32} {s_cells : Nat → Int32} {x_kinds : Nat → Int32} {x_digits : Nat → Int32} {x_causes : Nat → Int32} {x_effects : Nat → Int32} {x_things : Int32} {x_follows : Int32} {x_due : Int32} {t_kinds : Nat → Int32} {t_digits : Nat → Int32} {t_caseRow : Nat → Int32} {t_weights : Nat → Int32} {t_order : Nat → Int32} {t_calls : Nat → Int32} {t_things : Int32} {t_caseCount : Int32} {t_caseSet : Int64} {p_callsOfCase : Nat → Int64} {p_partOfCase : Nat → Int32} {p_callsOfPart : Nat → Int64} {p_cases : Int32} {p_parts : Int32} {r_cases : Nat → Int32} {r_hours : Nat → Int32} {r_sets : Nat → Int32} {r_count : Int32} {u_lists : Nat → Int32} {u_breaths : Nat → Int32} {u_heard : Nat → Int32} {u_traced : Int32} {u_lastFault : Int32} {a_2 : Int32} {a_3 : Int32} {post : Int32 → (Nat → Int64) → Prop} (h : w_X0_countWith t_caseRow t_calls p_partOfCase p_callsOfPart p_cases p_parts a_2 a_3 post) : Met l yX0_countWith wsX0_countWith (xq_R 2 43) (va_Pc [.ref (aa 17), .ref (aa 10), .int a_2, .int a_3] (xq_P (dC, dI) [(cyI, .int), (cyJ, .long)] (wc_u cyI cyJ aa s_lanes s_sizes s_cells x_kinds x_digits x_causes x_effects x_things x_follows x_due t_kinds t_digits t_caseRow t_weights t_order t_calls t_things t_caseCount t_caseSet p_callsOfCase p_partOfCase p_callsOfPart p_cases p_parts r_cases r_hours r_sets r_count u_lists u_breaths u_heard u_traced u_lastFault) sz)) (va_Qi (fun (rr : Int32) (uu : (Nat → Int64)) => post rr uu) (fun (uu : (Nat → Int64)) => xq_B (dC, dI) [(cyI, .int), (cyJ, .long)] (va_A (wc_u cyI cyJ aa s_lanes s_sizes s_cells x_kinds x_digits x_causes x_effects x_things x_follows x_due t_kinds t_digits t_caseRow t_weights t_order t_calls t_things t_caseCount t_caseSet p_callsOfCase p_partOfCase p_callsOfPart p_cases p_parts r_cases r_hours r_sets r_count u_lists u_breaths u_heard u_traced u_lastFault) sz) (wc_u cyI cyJ aa s_lanes s_sizes s_cells x_kinds x_digits x_causes x_effects x_things x_follows x_due t_kinds t_digits t_caseRow t_weights t_order t_calls t_things t_caseCount t_caseSet p_callsOfCase p_partOfCase uu p_cases p_parts r_cases r_hours r_sets r_count u_lists u_breaths u_heard u_traced u_lastFault)) (va_A (wc_u cyI cyJ aa s_lanes s_sizes s_cells x_kinds x_digits x_causes x_effects x_things x_follows x_due t_kinds t_digits t_caseRow t_weights t_order t_calls t_things t_caseCount t_caseSet p_callsOfCase p_partOfCase p_callsOfPart p_cases p_parts r_cases r_hours r_sets r_count u_lists u_breaths u_heard u_traced u_lastFault) sz)) 0 0 (va_A (wc_u cyI cyJ aa s_lanes s_sizes s_cells x_kinds x_digits x_causes x_effects x_things x_follows x_due t_kinds t_digits t_caseRow t_weights t_order t_calls t_things t_caseCount t_caseSet p_callsOfCase p_partOfCase p_callsOfPart p_cases p_parts r_cases r_hours r_sets r_count u_lists u_breaths u_heard u_traced u_lastFault) sz) := by
  refine xq_M (cc := cX0_countWith) (maxL := 9) (ret := (some .int)) (QA := fun A => va_Qi (fun (rr : Int32) (uu : (Nat → Int64)) => post rr uu) (fun (uu : (Nat → Int64)) => xq_B (dC, dI) [(cyI, .int), (cyJ, .long)] A (wc_u cyI cyJ aa s_lanes s_sizes s_cells x_kinds x_digits x_causes x_effects x_things x_follows x_due t_kinds t_digits t_caseRow t_weights t_order t_calls t_things t_caseCount t_caseSet p_callsOfCase p_partOfCase uu p_cases p_parts r_cases r_hours r_sets r_count u_lists u_breaths u_heard u_traced u_lastFault)) A) (by decide) rfl (Nat.le_of_ble_eq_true rfl) ?_
  intro p e s m args below meth c A ls Q hQ hx hb hr hml hts hown hlocks hsz hP hK hD hA hS hN hl
  subst hsz
  have hl : lv_has ls 9 [(0, .ref (aa 17)), (1, .ref (aa 10)), (2, .int a_2), (3, .int a_3)] := hl
  have hi_X0 : ∀ w ∈ wsX00, w ∈ wsX0_countWith := fun _ h => List.mem_cons_of_mem _ (List.mem_append_left _ (List.mem_append_right _ h))
  have hi_X4 : ∀ w ∈ wsX40, w ∈ wsX0_countWith := fun _ h => List.mem_cons_of_mem _ (List.mem_append_right _ h)
  have fl_15 := hts (.fieldLink RX0 15 "UnsaidCalls$Parting" "partOfCase" "[I") (by decide +kernel)
  have fl_19 := hts (.fieldLink RX0 19 "UnsaidCalls$Parting" "callsOfPart" "[J") (by decide +kernel)
  have fl_34 := hts (.fieldLink RX0 34 "UnsaidCalls$Parting" "cases" "I") (by decide +kernel)
  have fl_37 := hts (.fieldLink RX0 37 "UnsaidCalls$Town" "caseRow" "[I") (by decide +kernel)
  have fl_44 := hts (.fieldLink RX0 44 "UnsaidCalls$Parting" "parts" "I") (by decide +kernel)
  unfold w_X0_countWith at h
  refine lv_iconst (v := (0 : Int32)) hx hb dX0_countWith_0 (by decide) ?_
  refine lv_istore (lv' := [(4, .int (0 : Int32)), (0, .ref (aa 17)), (1, .ref (aa 10)), (2, .int a_2), (3, .int a_3)]) hx hb dX0_countWith_1 hl (by decide) rfl (fun ls hl => ?_)
  obtain ⟨ni, h⟩ := h
  have lp_3 : ∀ (kk : (Nat → Int64) → Prop), (∀ (xx_5 : Nat → Int64) (H : Heap) (locs : List Loc) (ls : Array Slot), va_P (dC, dI) vwCl (wc_u cyI cyJ aa s_lanes s_sizes s_cells x_kinds x_digits x_causes x_effects x_things x_follows x_due t_kinds t_digits t_caseRow t_weights t_order t_calls t_things t_caseCount t_caseSet p_callsOfCase p_partOfCase xx_5 p_cases p_parts r_cases r_hours r_sets r_count u_lists u_breaths u_heard u_traced u_lastFault) H → va_D A (wc_u cyI cyJ aa s_lanes s_sizes s_cells x_kinds x_digits x_causes x_effects x_things x_follows x_due t_kinds t_digits t_caseRow t_weights t_order t_calls t_things t_caseCount t_caseSet p_callsOfCase p_partOfCase xx_5 p_cases p_parts r_cases r_hours r_sets r_count u_lists u_breaths u_heard u_traced u_lastFault) → va_S A s.heap H locs → lv_has ls 9 [(0, .ref (aa 17)), (1, .ref (aa 10)), (2, .int a_2), (3, .int a_3)] → kk xx_5 → W p l e (xq_R 2 43) s m args below meth c H locs 0 0 Q (F0 m 26 ls [])) → ∀ (ni : Nat) (aa_3 : Int32) (cc_4 : Nat → Int64) (H : Heap) (locs : List Loc) (ls : Array Slot), va_P (dC, dI) vwCl (wc_u cyI cyJ aa s_lanes s_sizes s_cells x_kinds x_digits x_causes x_effects x_things x_follows x_due t_kinds t_digits t_caseRow t_weights t_order t_calls t_things t_caseCount t_caseSet p_callsOfCase p_partOfCase cc_4 p_cases p_parts r_cases r_hours r_sets r_count u_lists u_breaths u_heard u_traced u_lastFault) H → va_D A (wc_u cyI cyJ aa s_lanes s_sizes s_cells x_kinds x_digits x_causes x_effects x_things x_follows x_due t_kinds t_digits t_caseRow t_weights t_order t_calls t_things t_caseCount t_caseSet p_callsOfCase p_partOfCase cc_4 p_cases p_parts r_cases r_hours r_sets r_count u_lists u_breaths u_heard u_traced u_lastFault) → va_S A s.heap H locs → lv_has ls 9 [(0, .ref (aa 17)), (1, .ref (aa 10)), (2, .int a_2), (3, .int a_3), (4, .int aa_3)] → w_X0_countWith_L3 a_2 a_3 t_caseRow t_calls p_partOfCase p_cases p_parts post kk ni aa_3 cc_4 → W p l e (xq_R 2 43) s m args below meth c H locs 0 0 Q (F0 m 3 ls []) := by
    intro kk kx ni
    induction ni with
    | zero => intros; exact False.elim (by assumption)
    | succ ni ih =>
      intro aa_3 cc_4 H locs ls hP hD hS hl h
      rw [w_X0_countWith_L3] at h
      refine lv_iload hx hb dX0_countWith_3 (lv_at hl 4 rfl) ?_
      refine lv_aload_n hx hb dX0_countWith_5 rfl (lv_at hl 0 rfl) ?_
      refine va_get (D := (dC, dI)) (ci := 0) (v := .int p_parts) (C := RX0) (T := TX0) (N := 5) hx hb hts hi_X0 hown hK hP 17 rfl rfl 4 (by decide) fl_44 (fun _ h9 => h9) rfl dX0_countWith_6 ?_
      refine lv_icmp_ge (tgt := 26) hx hb dX0_countWith_9 (by decide) (fun hc_30 => ?_) (fun hc_30 => ?_)
      · have h := h.1 hc_30
        exact kx cc_4 _ _ _ hP hD hS (lv_sub hl [0, 1, 2, 3] rfl) h
      · have h := h.2 hc_30
        refine lv_aload_n hx hb dX0_countWith_12 rfl (lv_at hl 0 rfl) ?_
        refine va_get (D := (dC, dI)) (ci := 0) (v := .ref (aa 20)) (C := RX0) (T := TX0) (N := 5) hx hb hts hi_X0 hown hK hP 17 rfl rfl 2 (by decide) fl_19 (fun _ h9 => h9) rfl dX0_countWith_13 ?_
        refine lv_iload hx hb dX0_countWith_16 (lv_at hl 4 rfl) ?_
        refine lv_lconst (v := (0 : Int64)) hx hb dX0_countWith_18 (by decide) ?_
        obtain ⟨hv_29, h⟩ := h
        refine va_last hx hb hK hP hD hS 20 1 rfl rfl hv_29 dX0_countWith_19 (fun H locs hP hD hS => ?_)
        have hP : va_P (dC, dI) vwCl (wc_u cyI cyJ aa s_lanes s_sizes s_cells x_kinds x_digits x_causes x_effects x_things x_follows x_due t_kinds t_digits t_caseRow t_weights t_order t_calls t_things t_caseCount t_caseSet p_callsOfCase p_partOfCase (vp_updL cc_4 aa_3.toNatClampNeg (0 : Int64)) p_cases p_parts r_cases r_hours r_sets r_count u_lists u_breaths u_heard u_traced u_lastFault) H := hP
        have hD : va_D A (wc_u cyI cyJ aa s_lanes s_sizes s_cells x_kinds x_digits x_causes x_effects x_things x_follows x_due t_kinds t_digits t_caseRow t_weights t_order t_calls t_things t_caseCount t_caseSet p_callsOfCase p_partOfCase (vp_updL cc_4 aa_3.toNatClampNeg (0 : Int64)) p_cases p_parts r_cases r_hours r_sets r_count u_lists u_breaths u_heard u_traced u_lastFault) := hD
        refine lv_iinc (v := (aa_3 + (1 : Int32))) (lv' := [(4, .int (aa_3 + (1 : Int32))), (0, .ref (aa 17)), (1, .ref (aa 10)), (2, .int a_2), (3, .int a_3)]) hx hb dX0_countWith_20 hl (k := 4) rfl rfl (by decide) rfl (fun ls hl => ?_)
        refine lv_goto (tgt := 3) hx hb dX0_countWith_23 (by decide) ?_
        exact ih (aa_3 + (1 : Int32)) (vp_updL cc_4 aa_3.toNatClampNeg (0 : Int64)) _ _ _ hP hD hS (lv_sub hl [1, 2, 3, 4, 0] rfl) h
  refine lp_3 _ (fun xx_5 H locs ls hP hD hS hl h => ?_) ni (0 : Int32) p_callsOfPart _ _ _ hP hD hS (lv_sub hl [1, 2, 3, 4, 0] rfl) h
  refine lv_iconst (v := (0 : Int32)) hx hb dX0_countWith_26 (by decide) ?_
  refine lv_istore (lv' := [(4, .int (0 : Int32)), (0, .ref (aa 17)), (1, .ref (aa 10)), (2, .int a_2), (3, .int a_3)]) hx hb dX0_countWith_27 hl (by decide) rfl (fun ls hl => ?_)
  refine lv_iconst (v := (0 : Int32)) hx hb dX0_countWith_29 (by decide) ?_
  refine lv_istore (lv' := [(5, .int (0 : Int32)), (4, .int (0 : Int32)), (0, .ref (aa 17)), (1, .ref (aa 10)), (2, .int a_2), (3, .int a_3)]) hx hb dX0_countWith_30 hl (by decide) rfl (fun ls hl => ?_)
  obtain ⟨ni, h⟩ := h
  have lp_32 : ∀ (kk : Int32 → (Nat → Int64) → Prop), (∀ (xx_18 : Int32) (xx_19 : Nat → Int64) (H : Heap) (locs : List Loc) (ls : Array Slot), va_P (dC, dI) vwCl (wc_u cyI cyJ aa s_lanes s_sizes s_cells x_kinds x_digits x_causes x_effects x_things x_follows x_due t_kinds t_digits t_caseRow t_weights t_order t_calls t_things t_caseCount t_caseSet p_callsOfCase p_partOfCase xx_19 p_cases p_parts r_cases r_hours r_sets r_count u_lists u_breaths u_heard u_traced u_lastFault) H → va_D A (wc_u cyI cyJ aa s_lanes s_sizes s_cells x_kinds x_digits x_causes x_effects x_things x_follows x_due t_kinds t_digits t_caseRow t_weights t_order t_calls t_things t_caseCount t_caseSet p_callsOfCase p_partOfCase xx_19 p_cases p_parts r_cases r_hours r_sets r_count u_lists u_breaths u_heard u_traced u_lastFault) → va_S A s.heap H locs → lv_has ls 9 [(4, .int xx_18)] → kk xx_18 xx_19 → W p l e (xq_R 2 43) s m args below meth c H locs 0 0 Q (F0 m 103 ls [])) → ∀ (ni : Nat) (aa_15 : Int32) (aa_16 : Int32) (cc_17 : Nat → Int64) (H : Heap) (locs : List Loc) (ls : Array Slot), va_P (dC, dI) vwCl (wc_u cyI cyJ aa s_lanes s_sizes s_cells x_kinds x_digits x_causes x_effects x_things x_follows x_due t_kinds t_digits t_caseRow t_weights t_order t_calls t_things t_caseCount t_caseSet p_callsOfCase p_partOfCase cc_17 p_cases p_parts r_cases r_hours r_sets r_count u_lists u_breaths u_heard u_traced u_lastFault) H → va_D A (wc_u cyI cyJ aa s_lanes s_sizes s_cells x_kinds x_digits x_causes x_effects x_things x_follows x_due t_kinds t_digits t_caseRow t_weights t_order t_calls t_things t_caseCount t_caseSet p_callsOfCase p_partOfCase cc_17 p_cases p_parts r_cases r_hours r_sets r_count u_lists u_breaths u_heard u_traced u_lastFault) → va_S A s.heap H locs → lv_has ls 9 [(0, .ref (aa 17)), (1, .ref (aa 10)), (2, .int a_2), (3, .int a_3), (4, .int aa_15), (5, .int aa_16)] → w_X0_countWith_L32 a_2 a_3 t_caseRow t_calls p_partOfCase p_cases p_parts post kk ni aa_15 aa_16 cc_17 → W p l e (xq_R 2 43) s m args below meth c H locs 0 0 Q (F0 m 32 ls []) := by
    intro kk kx ni
    induction ni with
    | zero => intros; exact False.elim (by assumption)
    | succ ni ih =>
      intro aa_15 aa_16 cc_17 H locs ls hP hD hS hl h
      rw [w_X0_countWith_L32] at h
      refine lv_iload hx hb dX0_countWith_32 (lv_at hl 5 rfl) ?_
      refine lv_aload_n hx hb dX0_countWith_34 rfl (lv_at hl 0 rfl) ?_
      refine va_get (D := (dC, dI)) (ci := 0) (v := .int p_cases) (C := RX0) (T := TX0) (N := 5) hx hb hts hi_X0 hown hK hP 17 rfl rfl 3 (by decide) fl_34 (fun _ h9 => h9) rfl dX0_countWith_35 ?_
      refine lv_icmp_ge (tgt := 103) hx hb dX0_countWith_38 (by decide) (fun hc_28 => ?_) (fun hc_28 => ?_)
      · have h := h.1 hc_28
        exact kx aa_15 cc_17 _ _ _ hP hD hS (lv_sub hl [4] rfl) h
      · have h := h.2 hc_28
        refine lv_lconst (v := (1 : Int64)) hx hb dX0_countWith_41 (by decide) ?_
        refine lv_aload_n hx hb dX0_countWith_42 rfl (lv_at hl 1 rfl) ?_
        refine lv_aload_n hx hb dX0_countWith_43 rfl (lv_at hl 1 rfl) ?_
        refine va_get (D := (dC, dI)) (ci := 4) (v := .ref (aa 13)) (C := RX4) (T := TX4) (N := 9) hx hb hts hi_X4 hown hK hP 10 rfl rfl 2 (by decide) fl_37 (fun _ h9 => h9) rfl dX0_countWith_44 ?_
        refine lv_iload hx hb dX0_countWith_47 (lv_at hl 5 rfl) ?_
        obtain ⟨hv_20, h⟩ := h
        refine va_iald hx hb hK hP 13 0 rfl rfl hv_20 dX0_countWith_49 ?_
        refine lv_iload_n hx hb dX0_countWith_50 rfl (lv_at hl 2 rfl) ?_
        refine lv_iload_n hx hb dX0_countWith_51 rfl (lv_at hl 3 rfl) ?_
        refine xq_ci (va_runV (As := [.int (t_caseRow aa_16.toNatClampNeg), .int a_2, .int a_3]) (rest := [.long (1 : Int64)]) ⟨hx, hb, hml, hown, hts⟩ (m_X4_callIn l dC dI cyI cyJ aa H.size h) (cwV 3 hts gX0_countWith_X4_callIn rfl rfl rfl (by decide +kernel) ⟨Nat.le_of_ble_eq_true rfl, Nat.le_of_ble_eq_true rfl⟩) (xq_preV hK hP hD hN (ci := 4) (q0 := 10) rfl rfl) rfl rfl hl.1 rfl (lv_room (Nat.le_of_ble_eq_true rfl)) dX0_countWith_52 ⟨Nat.le_refl _, Nat.le_refl _⟩) hD hS hA (fun rr_21 uu H locs h hP hD hS => ?_)
        have hP : va_P (dC, dI) vwCl (wc_u cyI cyJ aa s_lanes s_sizes s_cells x_kinds x_digits x_causes x_effects x_things x_follows x_due t_kinds t_digits t_caseRow t_weights t_order t_calls t_things t_caseCount t_caseSet p_callsOfCase p_partOfCase cc_17 p_cases p_parts r_cases r_hours r_sets r_count u_lists u_breaths u_heard u_traced u_lastFault) H := hP
        have hD : va_D A (wc_u cyI cyJ aa s_lanes s_sizes s_cells x_kinds x_digits x_causes x_effects x_things x_follows x_due t_kinds t_digits t_caseRow t_weights t_order t_calls t_things t_caseCount t_caseSet p_callsOfCase p_partOfCase cc_17 p_cases p_parts r_cases r_hours r_sets r_count u_lists u_breaths u_heard u_traced u_lastFault) := hD
        refine lv_lshl (v := ((1 : Int64) <<< (Int32.toInt64 rr_21 &&& 63))) hx hb dX0_countWith_55 rfl ?_
        refine lv_lstore (lv' := [(6, .long ((1 : Int64) <<< (Int32.toInt64 rr_21 &&& 63))), (0, .ref (aa 17)), (1, .ref (aa 10)), (2, .int a_2), (3, .int a_3), (4, .int aa_15), (5, .int aa_16)]) hx hb dX0_countWith_56 hl (by decide) rfl (fun ls hl => ?_)
        refine lv_aload_n hx hb dX0_countWith_58 rfl (lv_at hl 1 rfl) ?_
        refine va_get (D := (dC, dI)) (ci := 0) (v := .ref (aa 19)) (C := RX0) (T := TX0) (N := 5) hx hb hts hi_X0 hown hK hP 17 rfl rfl 1 (by decide) fl_15 (fun _ h9 => h9) rfl dX0_countWith_59 ?_
        refine lv_iload hx hb dX0_countWith_62 (lv_at hl 6 rfl) ?_
        obtain ⟨hv_22, h⟩ := h
        refine va_iald hx hb hK hP 19 0 rfl rfl hv_22 dX0_countWith_64 ?_
        refine lv_istore (lv' := [(8, .int (p_partOfCase aa_16.toNatClampNeg)), (6, .long ((1 : Int64) <<< (Int32.toInt64 rr_21 &&& 63))), (0, .ref (aa 17)), (1, .ref (aa 10)), (2, .int a_2), (3, .int a_3), (4, .int aa_15), (5, .int aa_16)]) hx hb dX0_countWith_65 hl (by decide) rfl (fun ls hl => ?_)
        refine lv_aload_n hx hb dX0_countWith_67 rfl (lv_at hl 2 rfl) ?_
        refine va_get (D := (dC, dI)) (ci := 0) (v := .ref (aa 20)) (C := RX0) (T := TX0) (N := 5) hx hb hts hi_X0 hown hK hP 17 rfl rfl 2 (by decide) fl_19 (fun _ h9 => h9) rfl dX0_countWith_68 ?_
        refine lv_iload hx hb dX0_countWith_71 (lv_at hl 0 rfl) ?_
        obtain ⟨hv_23, h⟩ := h
        refine va_lald hx hb hK hP 20 1 rfl rfl hv_23 dX0_countWith_73 ?_
        refine lv_lload hx hb dX0_countWith_74 (lv_at hl 1 rfl) ?_
        refine lv_land hx hb dX0_countWith_76 ?_
        refine lv_lconst (v := (0 : Int64)) hx hb dX0_countWith_77 (by decide) ?_
        refine W.lcmp hx hb dX0_countWith_78 ?_
        refine lv_if_ne (tgt := 97) hx hb dX0_countWith_79 (by decide) (fun hc_26 => ?_) (fun hc_26 => ?_)
        · have h := h.1 hc_26
          refine lv_iinc (v := (aa_16 + (1 : Int32))) (lv' := [(5, .int (aa_16 + (1 : Int32))), (8, .int (p_partOfCase aa_16.toNatClampNeg)), (6, .long ((1 : Int64) <<< (Int32.toInt64 rr_21 &&& 63))), (0, .ref (aa 17)), (1, .ref (aa 10)), (2, .int a_2), (3, .int a_3), (4, .int aa_15)]) hx hb dX0_countWith_97 hl (k := 7) rfl rfl (by decide) rfl (fun ls hl => ?_)
          refine lv_goto (tgt := 32) hx hb dX0_countWith_100 (by decide) ?_
          exact ih aa_15 (aa_16 + (1 : Int32)) cc_17 _ _ _ hP hD hS (lv_sub hl [3, 4, 5, 6, 7, 0] rfl) h
        · have h := h.2 hc_26
          refine lv_aload_n hx hb dX0_countWith_82 rfl (lv_at hl 2 rfl) ?_
          refine va_get (D := (dC, dI)) (ci := 0) (v := .ref (aa 20)) (C := RX0) (T := TX0) (N := 5) hx hb hts hi_X0 hown hK hP 17 rfl rfl 2 (by decide) fl_19 (fun _ h9 => h9) rfl dX0_countWith_83 ?_
          refine lv_iload hx hb dX0_countWith_86 (lv_at hl 0 rfl) ?_
          refine lv_dup2_11 hx hb dX0_countWith_88 rfl rfl ?_
          obtain ⟨hv_24, h⟩ := h
          refine va_lald hx hb hK hP 20 1 rfl rfl hv_24 dX0_countWith_89 ?_
          refine lv_lload hx hb dX0_countWith_90 (lv_at hl 1 rfl) ?_
          refine lv_lor hx hb dX0_countWith_92 ?_
          obtain ⟨hv_25, h⟩ := h
          refine va_last hx hb hK hP hD hS 20 1 rfl rfl hv_25 dX0_countWith_93 (fun H locs hP hD hS => ?_)
          have hP : va_P (dC, dI) vwCl (wc_u cyI cyJ aa s_lanes s_sizes s_cells x_kinds x_digits x_causes x_effects x_things x_follows x_due t_kinds t_digits t_caseRow t_weights t_order t_calls t_things t_caseCount t_caseSet p_callsOfCase p_partOfCase (vp_updL cc_17 (p_partOfCase aa_16.toNatClampNeg).toNatClampNeg ((cc_17 (p_partOfCase aa_16.toNatClampNeg).toNatClampNeg) ||| ((1 : Int64) <<< (Int32.toInt64 rr_21 &&& 63)))) p_cases p_parts r_cases r_hours r_sets r_count u_lists u_breaths u_heard u_traced u_lastFault) H := hP
          have hD : va_D A (wc_u cyI cyJ aa s_lanes s_sizes s_cells x_kinds x_digits x_causes x_effects x_things x_follows x_due t_kinds t_digits t_caseRow t_weights t_order t_calls t_things t_caseCount t_caseSet p_callsOfCase p_partOfCase (vp_updL cc_17 (p_partOfCase aa_16.toNatClampNeg).toNatClampNeg ((cc_17 (p_partOfCase aa_16.toNatClampNeg).toNatClampNeg) ||| ((1 : Int64) <<< (Int32.toInt64 rr_21 &&& 63)))) p_cases p_parts r_cases r_hours r_sets r_count u_lists u_breaths u_heard u_traced u_lastFault) := hD
          refine lv_iinc (v := (aa_15 + (1 : Int32))) (lv' := [(4, .int (aa_15 + (1 : Int32))), (8, .int (p_partOfCase aa_16.toNatClampNeg)), (6, .long ((1 : Int64) <<< (Int32.toInt64 rr_21 &&& 63))), (0, .ref (aa 17)), (1, .ref (aa 10)), (2, .int a_2), (3, .int a_3), (5, .int aa_16)]) hx hb dX0_countWith_94 hl (k := 6) rfl rfl (by decide) rfl (fun ls hl => ?_)
          refine lv_iinc (v := (aa_16 + (1 : Int32))) (lv' := [(5, .int (aa_16 + (1 : Int32))), (4, .int (aa_15 + (1 : Int32))), (8, .int (p_partOfCase aa_16.toNatClampNeg)), (6, .long ((1 : Int64) <<< (Int32.toInt64 rr_21 &&& 63))), (0, .ref (aa 17)), (1, .ref (aa 10)), (2, .int a_2), (3, .int a_3)]) hx hb dX0_countWith_97 hl (k := 7) rfl rfl (by decide) rfl (fun ls hl => ?_)
          refine lv_goto (tgt := 32) hx hb dX0_countWith_100 (by decide) ?_
          exact ih (aa_15 + (1 : Int32)) (aa_16 + (1 : Int32)) (vp_updL cc_17 (p_partOfCase aa_16.toNatClampNeg).toNatClampNeg ((cc_17 (p_partOfCase aa_16.toNatClampNeg).toNatClampNeg) ||| ((1 : Int64) <<< (Int32.toInt64 rr_21 &&& 63)))) _ _ _ hP hD hS (lv_sub hl [4, 5, 6, 7, 1, 0] rfl) h
  refine lp_32 _ (fun xx_18 xx_19 H locs ls hP hD hS hl h => ?_) ni (0 : Int32) (0 : Int32) xx_5 _ _ _ hP hD hS (lv_sub hl [2, 3, 4, 5, 1, 0] rfl) h
  refine lv_iload hx hb dX0_countWith_103 (lv_at hl 0 rfl) ?_
  exact xq_ri hQ hx hb hr hP hK hD hS xx_19 rfl h dX0_countWith_105 hlocks
def w_X0_firstLike_L2 (a_1 : Int32) (p_callsOfCase : Nat → Int64) (post : Int32 → Prop) (kk : Prop) : Nat → Int32 → Prop
  | 0, _ => False
  | f_2 + 1, a_2 => (a_1 ≤ a_2 → (kk)) ∧ (¬ a_1 ≤ a_2 → ((vp_in a_2 64) ∧ ((vp_in a_1 64) ∧ ((¬ (lg_cmp (p_callsOfCase a_2.toNatClampNeg) (p_callsOfCase a_1.toNatClampNeg)) = 0 → (w_X0_firstLike_L2 a_1 p_callsOfCase post kk f_2 (a_2 + (1 : Int32)))) ∧ ((lg_cmp (p_callsOfCase a_2.toNatClampNeg) (p_callsOfCase a_1.toNatClampNeg)) = 0 → (post a_2))))))
def w_X0_firstLike (p_callsOfCase : Nat → Int64) (a_1 : Int32) (post : Int32 → Prop) : Prop := ∃ e_2, w_X0_firstLike_L2 a_1 p_callsOfCase post (post a_1) e_2 (0 : Int32)
set_option maxHeartbeats 4000000 in
set_option maxRecDepth 100000 in
theorem m_X0_firstLike (l : Launch) (dC : Nat → ClassId) (dI : Nat → Nat → Nat) (cyI cyJ : ClassId) (aa : Nat → Nat) (sz : Nat) {s_lanes : Nat → Int32} {s_sizes : Nat → Int32} {s_cells : Nat → Int32} {x_kinds : Nat → Int32} {x_digits : Nat → Int32} {x_causes : Nat → Int32} {x_effects : Nat → Int32} {x_things : Int32} {x_follows : Int32} {x_due : Int32} {t_kinds : Nat → Int32} {t_digits : Nat → Int32} {t_caseRow : Nat → Int32} {t_weights : Nat → Int32} {t_order : Nat → Int32} {t_calls : Nat → Int32} {t_things : Int32} {t_caseCount : Int32} {t_caseSet : Int64} {p_callsOfCase : Nat → Int64} {p_partOfCase : Nat → Int32} {p_callsOfPart : Nat → Int64} {p_cases : Int32} {p_parts : Int32} {r_cases : Nat → Int32} {r_hours : Nat → Int32} {r_sets : Nat → Int32} {r_count : Int32} {u_lists : Nat → Int32} {u_breaths : Nat → Int32} {u_heard : Nat → Int32} {u_traced : Int32} {u_lastFault : Int32} {a_1 : Int32} {post : Int32 → Prop} (h : w_X0_firstLike p_callsOfCase a_1 post) : Met l yX0_firstLike wsX0_firstLike (xq_R 0 0) (va_Pc [.ref (aa 17), .int a_1] (xq_P (dC, dI) [(cyI, .int), (cyJ, .long)] (wc_u cyI cyJ aa s_lanes s_sizes s_cells x_kinds x_digits x_causes x_effects x_things x_follows x_due t_kinds t_digits t_caseRow t_weights t_order t_calls t_things t_caseCount t_caseSet p_callsOfCase p_partOfCase p_callsOfPart p_cases p_parts r_cases r_hours r_sets r_count u_lists u_breaths u_heard u_traced u_lastFault) sz)) (va_Qi (fun (rr : Int32) (uu : Unit) => post rr ) (fun (uu : Unit) => xq_B (dC, dI) [(cyI, .int), (cyJ, .long)] (va_A (wc_u cyI cyJ aa s_lanes s_sizes s_cells x_kinds x_digits x_causes x_effects x_things x_follows x_due t_kinds t_digits t_caseRow t_weights t_order t_calls t_things t_caseCount t_caseSet p_callsOfCase p_partOfCase p_callsOfPart p_cases p_parts r_cases r_hours r_sets r_count u_lists u_breaths u_heard u_traced u_lastFault) sz) (wc_u cyI cyJ aa s_lanes s_sizes s_cells x_kinds x_digits x_causes x_effects x_things x_follows x_due t_kinds t_digits t_caseRow t_weights t_order t_calls t_things t_caseCount t_caseSet p_callsOfCase p_partOfCase p_callsOfPart p_cases p_parts r_cases r_hours r_sets r_count u_lists u_breaths u_heard u_traced u_lastFault)) (va_A (wc_u cyI cyJ aa s_lanes s_sizes s_cells x_kinds x_digits x_causes x_effects x_things x_follows x_due t_kinds t_digits t_caseRow t_weights t_order t_calls t_things t_caseCount t_caseSet p_callsOfCase p_partOfCase p_callsOfPart p_cases p_parts r_cases r_hours r_sets r_count u_lists u_breaths u_heard u_traced u_lastFault) sz)) 0 0 (va_A (wc_u cyI cyJ aa s_lanes s_sizes s_cells x_kinds x_digits x_causes x_effects x_things x_follows x_due t_kinds t_digits t_caseRow t_weights t_order t_calls t_things t_caseCount t_caseSet p_callsOfCase p_partOfCase p_callsOfPart p_cases p_parts r_cases r_hours r_sets r_count u_lists u_breaths u_heard u_traced u_lastFault) sz) := by
  refine xq_M (cc := cX0_firstLike) (maxL := 3) (ret := (some .int)) (QA := fun A => va_Qi (fun (rr : Int32) (uu : Unit) => post rr ) (fun (uu : Unit) => xq_B (dC, dI) [(cyI, .int), (cyJ, .long)] A (wc_u cyI cyJ aa s_lanes s_sizes s_cells x_kinds x_digits x_causes x_effects x_things x_follows x_due t_kinds t_digits t_caseRow t_weights t_order t_calls t_things t_caseCount t_caseSet p_callsOfCase p_partOfCase p_callsOfPart p_cases p_parts r_cases r_hours r_sets r_count u_lists u_breaths u_heard u_traced u_lastFault)) A) (by decide) rfl (Nat.le_of_ble_eq_true rfl) ?_
  intro p e s m args below meth c A ls Q hQ hx hb hr hml hts hown hlocks hsz hP hK hD hA hS hN hl
  subst hsz
  have hl : lv_has ls 3 [(0, .ref (aa 17)), (1, .int a_1)] := hl
  have hi_X0 : ∀ w ∈ wsX00, w ∈ wsX0_firstLike := fun _ h => List.mem_cons_of_mem _ (List.mem_append_right _ h)
  have fl_9 := hts (.fieldLink RX0 9 "UnsaidCalls$Parting" "callsOfCase" "[J") (by decide +kernel)
  unfold w_X0_firstLike at h
  refine lv_iconst (v := (0 : Int32)) hx hb dX0_firstLike_0 (by decide) ?_
  refine lv_istore_n (lv' := [(2, .int (0 : Int32)), (0, .ref (aa 17)), (1, .int a_1)]) hx hb dX0_firstLike_1 rfl hl (by decide) rfl (fun ls hl => ?_)
  obtain ⟨ni, h⟩ := h
  have lp_2 : ∀ (kk : Prop), (∀  (H : Heap) (locs : List Loc) (ls : Array Slot), va_P (dC, dI) vwCl (wc_u cyI cyJ aa s_lanes s_sizes s_cells x_kinds x_digits x_causes x_effects x_things x_follows x_due t_kinds t_digits t_caseRow t_weights t_order t_calls t_things t_caseCount t_caseSet p_callsOfCase p_partOfCase p_callsOfPart p_cases p_parts r_cases r_hours r_sets r_count u_lists u_breaths u_heard u_traced u_lastFault) H → va_D A (wc_u cyI cyJ aa s_lanes s_sizes s_cells x_kinds x_digits x_causes x_effects x_things x_follows x_due t_kinds t_digits t_caseRow t_weights t_order t_calls t_things t_caseCount t_caseSet p_callsOfCase p_partOfCase p_callsOfPart p_cases p_parts r_cases r_hours r_sets r_count u_lists u_breaths u_heard u_traced u_lastFault) → va_S A s.heap H locs → lv_has ls 3 [(1, .int a_1)] → kk → W p l e (xq_R 0 0) s m args below meth c H locs 0 0 Q (F0 m 31 ls [])) → ∀ (ni : Nat) (aa_5 : Int32) (H : Heap) (locs : List Loc) (ls : Array Slot), va_P (dC, dI) vwCl (wc_u cyI cyJ aa s_lanes s_sizes s_cells x_kinds x_digits x_causes x_effects x_things x_follows x_due t_kinds t_digits t_caseRow t_weights t_order t_calls t_things t_caseCount t_caseSet p_callsOfCase p_partOfCase p_callsOfPart p_cases p_parts r_cases r_hours r_sets r_count u_lists u_breaths u_heard u_traced u_lastFault) H → va_D A (wc_u cyI cyJ aa s_lanes s_sizes s_cells x_kinds x_digits x_causes x_effects x_things x_follows x_due t_kinds t_digits t_caseRow t_weights t_order t_calls t_things t_caseCount t_caseSet p_callsOfCase p_partOfCase p_callsOfPart p_cases p_parts r_cases r_hours r_sets r_count u_lists u_breaths u_heard u_traced u_lastFault) → va_S A s.heap H locs → lv_has ls 3 [(0, .ref (aa 17)), (1, .int a_1), (2, .int aa_5)] → w_X0_firstLike_L2 a_1 p_callsOfCase post kk ni aa_5 → W p l e (xq_R 0 0) s m args below meth c H locs 0 0 Q (F0 m 2 ls []) := by
    intro kk kx ni
    induction ni with
    | zero => intros; exact False.elim (by assumption)
    | succ ni ih =>
      intro aa_5 H locs ls hP hD hS hl h
      rw [w_X0_firstLike_L2] at h
      refine lv_iload_n hx hb dX0_firstLike_2 rfl (lv_at hl 2 rfl) ?_
      refine lv_iload_n hx hb dX0_firstLike_3 rfl (lv_at hl 1 rfl) ?_
      refine lv_icmp_ge (tgt := 31) hx hb dX0_firstLike_4 (by decide) (fun hc_9 => ?_) (fun hc_9 => ?_)
      · have h := h.1 hc_9
        exact kx  _ _ _ hP hD hS (lv_sub hl [1] rfl) h
      · have h := h.2 hc_9
        refine lv_aload_n hx hb dX0_firstLike_7 rfl (lv_at hl 0 rfl) ?_
        refine va_get (D := (dC, dI)) (ci := 0) (v := .ref (aa 18)) (C := RX0) (T := TX0) (N := 5) hx hb hts hi_X0 hown hK hP 17 rfl rfl 0 (by decide) fl_9 (fun _ h9 => h9) rfl dX0_firstLike_8 ?_
        refine lv_iload_n hx hb dX0_firstLike_11 rfl (lv_at hl 2 rfl) ?_
        obtain ⟨hv_6, h⟩ := h
        refine va_lald hx hb hK hP 18 1 rfl rfl hv_6 dX0_firstLike_12 ?_
        refine lv_aload_n hx hb dX0_firstLike_13 rfl (lv_at hl 0 rfl) ?_
        refine va_get (D := (dC, dI)) (ci := 0) (v := .ref (aa 18)) (C := RX0) (T := TX0) (N := 5) hx hb hts hi_X0 hown hK hP 17 rfl rfl 0 (by decide) fl_9 (fun _ h9 => h9) rfl dX0_firstLike_14 ?_
        refine lv_iload_n hx hb dX0_firstLike_17 rfl (lv_at hl 1 rfl) ?_
        obtain ⟨hv_7, h⟩ := h
        refine va_lald hx hb hK hP 18 1 rfl rfl hv_7 dX0_firstLike_18 ?_
        refine W.lcmp hx hb dX0_firstLike_19 ?_
        refine lv_if_ne (tgt := 25) hx hb dX0_firstLike_20 (by decide) (fun hc_8 => ?_) (fun hc_8 => ?_)
        · have h := h.1 hc_8
          refine lv_iinc (v := (aa_5 + (1 : Int32))) (lv' := [(2, .int (aa_5 + (1 : Int32))), (0, .ref (aa 17)), (1, .int a_1)]) hx hb dX0_firstLike_25 hl (k := 2) rfl rfl (by decide) rfl (fun ls hl => ?_)
          refine lv_goto (tgt := 2) hx hb dX0_firstLike_28 (by decide) ?_
          exact ih (aa_5 + (1 : Int32)) _ _ _ hP hD hS (lv_sub hl [1, 2, 0] rfl) h
        · have h := h.2 hc_8
          refine lv_iload_n hx hb dX0_firstLike_23 rfl (lv_at hl 2 rfl) ?_
          exact xq_ri hQ hx hb hr hP hK hD hS () rfl h dX0_firstLike_24 hlocks
  refine lp_2 _ (fun  H locs ls hP hD hS hl h => ?_) ni (0 : Int32) _ _ _ hP hD hS (lv_sub hl [1, 2, 0] rfl) h
  refine lv_iload_n hx hb dX0_firstLike_31 rfl (lv_at hl 0 rfl) ?_
  exact xq_ri hQ hx hb hr hP hK hD hS () rfl h dX0_firstLike_32 hlocks
def w_X0_number_L7  (p_callsOfCase : Nat → Int64) (p_cases : Int32) (post : Int32 → (Nat → Int32) → Int32 → Prop) (kk : (Nat → Int32) → Int32 → Prop) : Nat → Int32 → (Nat → Int32) → Int32 → Prop
  | 0, _, _, _ => False
  | f_7 + 1, a_1, p_partOfCase, p_parts => (p_cases ≤ a_1 → (kk p_partOfCase p_parts)) ∧ (¬ p_cases ≤ a_1 → (w_X0_firstLike p_callsOfCase a_1 (fun (rr_1 : Int32) => (¬ rr_1 = a_1 → ((vp_in rr_1 64) ∧ ((vp_in a_1 64) ∧ (w_X0_number_L7 p_callsOfCase p_cases post kk f_7 (a_1 + (1 : Int32)) (upd p_partOfCase a_1.toNatClampNeg (p_partOfCase rr_1.toNatClampNeg)) p_parts)))) ∧ (rr_1 = a_1 → ((vp_in a_1 64) ∧ (w_X0_number_L7 p_callsOfCase p_cases post kk f_7 (a_1 + (1 : Int32)) (upd p_partOfCase a_1.toNatClampNeg p_parts) (p_parts + (1 : Int32))))))))
def w_X0_number (p_callsOfCase : Nat → Int64) (p_partOfCase : Nat → Int32) (p_cases : Int32) (p_parts : Int32) (post : Int32 → (Nat → Int32) → Int32 → Prop) : Prop := ∃ e_7, w_X0_number_L7 p_callsOfCase p_cases post (fun (xx_11 : Nat → Int32) (xx_12 : Int32) => post xx_12 xx_11 xx_12) e_7 (0 : Int32) p_partOfCase (0 : Int32)
set_option maxHeartbeats 4000000 in
set_option maxRecDepth 100000 in
theorem m_X0_number (l : Launch) (dC : Nat → ClassId) (dI : Nat → Nat → Nat) (cyI cyJ : ClassId) (aa : Nat → Nat) (sz : Nat) {s_lanes : Nat → Int32} {s_sizes : Nat → Int32} {s_cells : Nat → Int32} {x_kinds : Nat → Int32} {x_digits : Nat → Int32} {x_causes : Nat → Int32} {x_effects : Nat → Int32} {x_things : Int32} {x_follows : Int32} {x_due : Int32} {t_kinds : Nat → Int32} {t_digits : Nat → Int32} {t_caseRow : Nat → Int32} {t_weights : Nat → Int32} {t_order : Nat → Int32} {t_calls : Nat → Int32} {t_things : Int32} {t_caseCount : Int32} {t_caseSet : Int64} {p_callsOfCase : Nat → Int64} {p_partOfCase : Nat → Int32} {p_callsOfPart : Nat → Int64} {p_cases : Int32} {p_parts : Int32} {r_cases : Nat → Int32} {r_hours : Nat → Int32} {r_sets : Nat → Int32} {r_count : Int32} {u_lists : Nat → Int32} {u_breaths : Nat → Int32} {u_heard : Nat → Int32} {u_traced : Int32} {u_lastFault : Int32} {post : Int32 → (Nat → Int32) → Int32 → Prop} (h : w_X0_number p_callsOfCase p_partOfCase p_cases p_parts post) : Met l yX0_number wsX0_number (xq_R 1 22) (va_Pc [.ref (aa 17)] (xq_P (dC, dI) [(cyI, .int), (cyJ, .long)] (wc_u cyI cyJ aa s_lanes s_sizes s_cells x_kinds x_digits x_causes x_effects x_things x_follows x_due t_kinds t_digits t_caseRow t_weights t_order t_calls t_things t_caseCount t_caseSet p_callsOfCase p_partOfCase p_callsOfPart p_cases p_parts r_cases r_hours r_sets r_count u_lists u_breaths u_heard u_traced u_lastFault) sz)) (va_Qi (fun (rr : Int32) (uu : (Nat → Int32) × Int32) => post rr uu.1 uu.2) (fun (uu : (Nat → Int32) × Int32) => xq_B (dC, dI) [(cyI, .int), (cyJ, .long)] (va_A (wc_u cyI cyJ aa s_lanes s_sizes s_cells x_kinds x_digits x_causes x_effects x_things x_follows x_due t_kinds t_digits t_caseRow t_weights t_order t_calls t_things t_caseCount t_caseSet p_callsOfCase p_partOfCase p_callsOfPart p_cases p_parts r_cases r_hours r_sets r_count u_lists u_breaths u_heard u_traced u_lastFault) sz) (wc_u cyI cyJ aa s_lanes s_sizes s_cells x_kinds x_digits x_causes x_effects x_things x_follows x_due t_kinds t_digits t_caseRow t_weights t_order t_calls t_things t_caseCount t_caseSet p_callsOfCase uu.1 p_callsOfPart p_cases uu.2 r_cases r_hours r_sets r_count u_lists u_breaths u_heard u_traced u_lastFault)) (va_A (wc_u cyI cyJ aa s_lanes s_sizes s_cells x_kinds x_digits x_causes x_effects x_things x_follows x_due t_kinds t_digits t_caseRow t_weights t_order t_calls t_things t_caseCount t_caseSet p_callsOfCase p_partOfCase p_callsOfPart p_cases p_parts r_cases r_hours r_sets r_count u_lists u_breaths u_heard u_traced u_lastFault) sz)) 0 0 (va_A (wc_u cyI cyJ aa s_lanes s_sizes s_cells x_kinds x_digits x_causes x_effects x_things x_follows x_due t_kinds t_digits t_caseRow t_weights t_order t_calls t_things t_caseCount t_caseSet p_callsOfCase p_partOfCase p_callsOfPart p_cases p_parts r_cases r_hours r_sets r_count u_lists u_breaths u_heard u_traced u_lastFault) sz) := by
  refine xq_M (cc := cX0_number) (maxL := 3) (ret := (some .int)) (QA := fun A => va_Qi (fun (rr : Int32) (uu : (Nat → Int32) × Int32) => post rr uu.1 uu.2) (fun (uu : (Nat → Int32) × Int32) => xq_B (dC, dI) [(cyI, .int), (cyJ, .long)] A (wc_u cyI cyJ aa s_lanes s_sizes s_cells x_kinds x_digits x_causes x_effects x_things x_follows x_due t_kinds t_digits t_caseRow t_weights t_order t_calls t_things t_caseCount t_caseSet p_callsOfCase uu.1 p_callsOfPart p_cases uu.2 r_cases r_hours r_sets r_count u_lists u_breaths u_heard u_traced u_lastFault)) A) (by decide) rfl (Nat.le_of_ble_eq_true rfl) ?_
  intro p e s m args below meth c A ls Q hQ hx hb hr hml hts hown hlocks hsz hP hK hD hA hS hN hl
  subst hsz
  have hl : lv_has ls 3 [(0, .ref (aa 17))] := hl
  have hi_X0 : ∀ w ∈ wsX00, w ∈ wsX0_number := fun _ h => List.mem_cons_of_mem _ (List.mem_append_right _ h)
  have fl_15 := hts (.fieldLink RX0 15 "UnsaidCalls$Parting" "partOfCase" "[I") (by decide +kernel)
  have fl_34 := hts (.fieldLink RX0 34 "UnsaidCalls$Parting" "cases" "I") (by decide +kernel)
  have fl_44 := hts (.fieldLink RX0 44 "UnsaidCalls$Parting" "parts" "I") (by decide +kernel)
  unfold w_X0_number at h
  refine lv_aload_n hx hb dX0_number_0 rfl (lv_at hl 0 rfl) ?_
  refine lv_iconst (v := (0 : Int32)) hx hb dX0_number_1 (by decide) ?_
  refine va_put (D := (dC, dI)) (ci := 0) (v := .int (0 : Int32)) (ty := .int) (C := RX0) (T := TX0) (N := 5) hx hb hts hi_X0 tyX0 tyX0_ok nmX0 hown hK hP hD hS 17 rfl rfl 4 (by decide) fl_44 (fun _ h9 => h9) rfl (by decide +kernel) rfl rfl (Nat.le_of_ble_eq_true rfl) dX0_number_2 (fun H locs hP hD hS => ?_)
  have hP : va_P (dC, dI) vwCl (wc_u cyI cyJ aa s_lanes s_sizes s_cells x_kinds x_digits x_causes x_effects x_things x_follows x_due t_kinds t_digits t_caseRow t_weights t_order t_calls t_things t_caseCount t_caseSet p_callsOfCase p_partOfCase p_callsOfPart p_cases (0 : Int32) r_cases r_hours r_sets r_count u_lists u_breaths u_heard u_traced u_lastFault) H := hP
  have hD : va_D A (wc_u cyI cyJ aa s_lanes s_sizes s_cells x_kinds x_digits x_causes x_effects x_things x_follows x_due t_kinds t_digits t_caseRow t_weights t_order t_calls t_things t_caseCount t_caseSet p_callsOfCase p_partOfCase p_callsOfPart p_cases (0 : Int32) r_cases r_hours r_sets r_count u_lists u_breaths u_heard u_traced u_lastFault) := hD
  refine lv_iconst (v := (0 : Int32)) hx hb dX0_number_5 (by decide) ?_
  refine lv_istore_n (lv' := [(1, .int (0 : Int32)), (0, .ref (aa 17))]) hx hb dX0_number_6 rfl hl (by decide) rfl (fun ls hl => ?_)
  obtain ⟨ni, h⟩ := h
  have lp_7 : ∀ (kk : (Nat → Int32) → Int32 → Prop), (∀ (xx_11 : Nat → Int32) (xx_12 : Int32) (H : Heap) (locs : List Loc) (ls : Array Slot), va_P (dC, dI) vwCl (wc_u cyI cyJ aa s_lanes s_sizes s_cells x_kinds x_digits x_causes x_effects x_things x_follows x_due t_kinds t_digits t_caseRow t_weights t_order t_calls t_things t_caseCount t_caseSet p_callsOfCase xx_11 p_callsOfPart p_cases xx_12 r_cases r_hours r_sets r_count u_lists u_breaths u_heard u_traced u_lastFault) H → va_D A (wc_u cyI cyJ aa s_lanes s_sizes s_cells x_kinds x_digits x_causes x_effects x_things x_follows x_due t_kinds t_digits t_caseRow t_weights t_order t_calls t_things t_caseCount t_caseSet p_callsOfCase xx_11 p_callsOfPart p_cases xx_12 r_cases r_hours r_sets r_count u_lists u_breaths u_heard u_traced u_lastFault) → va_S A s.heap H locs → lv_has ls 3 [(0, .ref (aa 17))] → kk xx_11 xx_12 → W p l e (xq_R 1 22) s m args below meth c H locs 0 0 Q (F0 m 67 ls [])) → ∀ (ni : Nat) (aa_8 : Int32) (cc_9 : Nat → Int32) (cc_10 : Int32) (H : Heap) (locs : List Loc) (ls : Array Slot), va_P (dC, dI) vwCl (wc_u cyI cyJ aa s_lanes s_sizes s_cells x_kinds x_digits x_causes x_effects x_things x_follows x_due t_kinds t_digits t_caseRow t_weights t_order t_calls t_things t_caseCount t_caseSet p_callsOfCase cc_9 p_callsOfPart p_cases cc_10 r_cases r_hours r_sets r_count u_lists u_breaths u_heard u_traced u_lastFault) H → va_D A (wc_u cyI cyJ aa s_lanes s_sizes s_cells x_kinds x_digits x_causes x_effects x_things x_follows x_due t_kinds t_digits t_caseRow t_weights t_order t_calls t_things t_caseCount t_caseSet p_callsOfCase cc_9 p_callsOfPart p_cases cc_10 r_cases r_hours r_sets r_count u_lists u_breaths u_heard u_traced u_lastFault) → va_S A s.heap H locs → lv_has ls 3 [(0, .ref (aa 17)), (1, .int aa_8)] → w_X0_number_L7 p_callsOfCase p_cases post kk ni aa_8 cc_9 cc_10 → W p l e (xq_R 1 22) s m args below meth c H locs 0 0 Q (F0 m 7 ls []) := by
    intro kk kx ni
    induction ni with
    | zero => intros; exact False.elim (by assumption)
    | succ ni ih =>
      intro aa_8 cc_9 cc_10 H locs ls hP hD hS hl h
      rw [w_X0_number_L7] at h
      refine lv_iload_n hx hb dX0_number_7 rfl (lv_at hl 1 rfl) ?_
      refine lv_aload_n hx hb dX0_number_8 rfl (lv_at hl 0 rfl) ?_
      refine va_get (D := (dC, dI)) (ci := 0) (v := .int p_cases) (C := RX0) (T := TX0) (N := 5) hx hb hts hi_X0 hown hK hP 17 rfl rfl 3 (by decide) fl_34 (fun _ h9 => h9) rfl dX0_number_9 ?_
      refine lv_icmp_ge (tgt := 67) hx hb dX0_number_12 (by decide) (fun hc_19 => ?_) (fun hc_19 => ?_)
      · have h := h.1 hc_19
        exact kx cc_9 cc_10 _ _ _ hP hD hS (lv_sub hl [0] rfl) h
      · have h := h.2 hc_19
        refine lv_aload_n hx hb dX0_number_15 rfl (lv_at hl 0 rfl) ?_
        refine lv_iload_n hx hb dX0_number_16 rfl (lv_at hl 1 rfl) ?_
        refine xq_ci (va_runV (As := [.int aa_8]) (rest := []) ⟨hx, hb, hml, hown, hts⟩ (m_X0_firstLike l dC dI cyI cyJ aa H.size h) (cwV 1 hts gX0_number_X0_firstLike rfl rfl rfl (by decide +kernel) ⟨Nat.le_of_ble_eq_true rfl, Nat.le_of_ble_eq_true rfl⟩) (xq_preV hK hP hD hN (ci := 0) (q0 := 17) rfl rfl) rfl rfl hl.1 rfl (lv_room (Nat.le_of_ble_eq_true rfl)) dX0_number_17 ⟨Nat.le_refl _, Nat.le_refl _⟩) hD hS hA (fun rr_13 uu H locs h hP hD hS => ?_)
        have hP : va_P (dC, dI) vwCl (wc_u cyI cyJ aa s_lanes s_sizes s_cells x_kinds x_digits x_causes x_effects x_things x_follows x_due t_kinds t_digits t_caseRow t_weights t_order t_calls t_things t_caseCount t_caseSet p_callsOfCase cc_9 p_callsOfPart p_cases cc_10 r_cases r_hours r_sets r_count u_lists u_breaths u_heard u_traced u_lastFault) H := hP
        have hD : va_D A (wc_u cyI cyJ aa s_lanes s_sizes s_cells x_kinds x_digits x_causes x_effects x_things x_follows x_due t_kinds t_digits t_caseRow t_weights t_order t_calls t_things t_caseCount t_caseSet p_callsOfCase cc_9 p_callsOfPart p_cases cc_10 r_cases r_hours r_sets r_count u_lists u_breaths u_heard u_traced u_lastFault) := hD
        refine lv_istore_n (lv' := [(2, .int rr_13), (0, .ref (aa 17)), (1, .int aa_8)]) hx hb dX0_number_20 rfl hl (by decide) rfl (fun ls hl => ?_)
        refine lv_iload_n hx hb dX0_number_21 rfl (lv_at hl 0 rfl) ?_
        refine lv_iload_n hx hb dX0_number_22 rfl (lv_at hl 2 rfl) ?_
        refine lv_icmp_ne (tgt := 49) hx hb dX0_number_23 (by decide) (fun hc_17 => ?_) (fun hc_17 => ?_)
        · have h := h.1 hc_17
          refine lv_aload_n hx hb dX0_number_49 rfl (lv_at hl 1 rfl) ?_
          refine va_get (D := (dC, dI)) (ci := 0) (v := .ref (aa 19)) (C := RX0) (T := TX0) (N := 5) hx hb hts hi_X0 hown hK hP 17 rfl rfl 1 (by decide) fl_15 (fun _ h9 => h9) rfl dX0_number_50 ?_
          refine lv_iload_n hx hb dX0_number_53 rfl (lv_at hl 2 rfl) ?_
          refine lv_aload_n hx hb dX0_number_54 rfl (lv_at hl 1 rfl) ?_
          refine va_get (D := (dC, dI)) (ci := 0) (v := .ref (aa 19)) (C := RX0) (T := TX0) (N := 5) hx hb hts hi_X0 hown hK hP 17 rfl rfl 1 (by decide) fl_15 (fun _ h9 => h9) rfl dX0_number_55 ?_
          refine lv_iload_n hx hb dX0_number_58 rfl (lv_at hl 0 rfl) ?_
          obtain ⟨hv_14, h⟩ := h
          refine va_iald hx hb hK hP 19 0 rfl rfl hv_14 dX0_number_59 ?_
          obtain ⟨hv_15, h⟩ := h
          refine va_iast hx hb hK hP hD hS 19 0 rfl rfl hv_15 dX0_number_60 (fun H locs hP hD hS => ?_)
          have hP : va_P (dC, dI) vwCl (wc_u cyI cyJ aa s_lanes s_sizes s_cells x_kinds x_digits x_causes x_effects x_things x_follows x_due t_kinds t_digits t_caseRow t_weights t_order t_calls t_things t_caseCount t_caseSet p_callsOfCase (upd cc_9 aa_8.toNatClampNeg (cc_9 rr_13.toNatClampNeg)) p_callsOfPart p_cases cc_10 r_cases r_hours r_sets r_count u_lists u_breaths u_heard u_traced u_lastFault) H := hP
          have hD : va_D A (wc_u cyI cyJ aa s_lanes s_sizes s_cells x_kinds x_digits x_causes x_effects x_things x_follows x_due t_kinds t_digits t_caseRow t_weights t_order t_calls t_things t_caseCount t_caseSet p_callsOfCase (upd cc_9 aa_8.toNatClampNeg (cc_9 rr_13.toNatClampNeg)) p_callsOfPart p_cases cc_10 r_cases r_hours r_sets r_count u_lists u_breaths u_heard u_traced u_lastFault) := hD
          refine lv_iinc (v := (aa_8 + (1 : Int32))) (lv' := [(1, .int (aa_8 + (1 : Int32))), (2, .int rr_13), (0, .ref (aa 17))]) hx hb dX0_number_61 hl (k := 2) rfl rfl (by decide) rfl (fun ls hl => ?_)
          refine lv_goto (tgt := 7) hx hb dX0_number_64 (by decide) ?_
          exact ih (aa_8 + (1 : Int32)) (upd cc_9 aa_8.toNatClampNeg (cc_9 rr_13.toNatClampNeg)) cc_10 _ _ _ hP hD hS (lv_sub hl [2, 0] rfl) h
        · have h := h.2 hc_17
          refine lv_aload_n hx hb dX0_number_26 rfl (lv_at hl 1 rfl) ?_
          refine va_get (D := (dC, dI)) (ci := 0) (v := .ref (aa 19)) (C := RX0) (T := TX0) (N := 5) hx hb hts hi_X0 hown hK hP 17 rfl rfl 1 (by decide) fl_15 (fun _ h9 => h9) rfl dX0_number_27 ?_
          refine lv_iload_n hx hb dX0_number_30 rfl (lv_at hl 2 rfl) ?_
          refine lv_aload_n hx hb dX0_number_31 rfl (lv_at hl 1 rfl) ?_
          refine va_get (D := (dC, dI)) (ci := 0) (v := .int cc_10) (C := RX0) (T := TX0) (N := 5) hx hb hts hi_X0 hown hK hP 17 rfl rfl 4 (by decide) fl_44 (fun _ h9 => h9) rfl dX0_number_32 ?_
          obtain ⟨hv_16, h⟩ := h
          refine va_iast hx hb hK hP hD hS 19 0 rfl rfl hv_16 dX0_number_35 (fun H locs hP hD hS => ?_)
          have hP : va_P (dC, dI) vwCl (wc_u cyI cyJ aa s_lanes s_sizes s_cells x_kinds x_digits x_causes x_effects x_things x_follows x_due t_kinds t_digits t_caseRow t_weights t_order t_calls t_things t_caseCount t_caseSet p_callsOfCase (upd cc_9 aa_8.toNatClampNeg cc_10) p_callsOfPart p_cases cc_10 r_cases r_hours r_sets r_count u_lists u_breaths u_heard u_traced u_lastFault) H := hP
          have hD : va_D A (wc_u cyI cyJ aa s_lanes s_sizes s_cells x_kinds x_digits x_causes x_effects x_things x_follows x_due t_kinds t_digits t_caseRow t_weights t_order t_calls t_things t_caseCount t_caseSet p_callsOfCase (upd cc_9 aa_8.toNatClampNeg cc_10) p_callsOfPart p_cases cc_10 r_cases r_hours r_sets r_count u_lists u_breaths u_heard u_traced u_lastFault) := hD
          refine lv_aload_n hx hb dX0_number_36 rfl (lv_at hl 1 rfl) ?_
          refine lv_dup hx hb dX0_number_37 rfl ?_
          refine va_get (D := (dC, dI)) (ci := 0) (v := .int cc_10) (C := RX0) (T := TX0) (N := 5) hx hb hts hi_X0 hown hK hP 17 rfl rfl 4 (by decide) fl_44 (fun _ h9 => h9) rfl dX0_number_38 ?_
          refine lv_iconst (v := (1 : Int32)) hx hb dX0_number_41 (by decide) ?_
          refine lv_iadd hx hb dX0_number_42 ?_
          refine va_put (D := (dC, dI)) (ci := 0) (v := .int (cc_10 + (1 : Int32))) (ty := .int) (C := RX0) (T := TX0) (N := 5) hx hb hts hi_X0 tyX0 tyX0_ok nmX0 hown hK hP hD hS 17 rfl rfl 4 (by decide) fl_44 (fun _ h9 => h9) rfl (by decide +kernel) rfl rfl (Nat.le_of_ble_eq_true rfl) dX0_number_43 (fun H locs hP hD hS => ?_)
          have hP : va_P (dC, dI) vwCl (wc_u cyI cyJ aa s_lanes s_sizes s_cells x_kinds x_digits x_causes x_effects x_things x_follows x_due t_kinds t_digits t_caseRow t_weights t_order t_calls t_things t_caseCount t_caseSet p_callsOfCase (upd cc_9 aa_8.toNatClampNeg cc_10) p_callsOfPart p_cases (cc_10 + (1 : Int32)) r_cases r_hours r_sets r_count u_lists u_breaths u_heard u_traced u_lastFault) H := hP
          have hD : va_D A (wc_u cyI cyJ aa s_lanes s_sizes s_cells x_kinds x_digits x_causes x_effects x_things x_follows x_due t_kinds t_digits t_caseRow t_weights t_order t_calls t_things t_caseCount t_caseSet p_callsOfCase (upd cc_9 aa_8.toNatClampNeg cc_10) p_callsOfPart p_cases (cc_10 + (1 : Int32)) r_cases r_hours r_sets r_count u_lists u_breaths u_heard u_traced u_lastFault) := hD
          refine lv_goto (tgt := 61) hx hb dX0_number_46 (by decide) ?_
          refine lv_iinc (v := (aa_8 + (1 : Int32))) (lv' := [(1, .int (aa_8 + (1 : Int32))), (2, .int rr_13), (0, .ref (aa 17))]) hx hb dX0_number_61 hl (k := 2) rfl rfl (by decide) rfl (fun ls hl => ?_)
          refine lv_goto (tgt := 7) hx hb dX0_number_64 (by decide) ?_
          exact ih (aa_8 + (1 : Int32)) (upd cc_9 aa_8.toNatClampNeg cc_10) (cc_10 + (1 : Int32)) _ _ _ hP hD hS (lv_sub hl [2, 0] rfl) h
  refine lp_7 _ (fun xx_11 xx_12 H locs ls hP hD hS hl h => ?_) ni (0 : Int32) p_partOfCase (0 : Int32) _ _ _ hP hD hS (lv_sub hl [1, 0] rfl) h
  refine lv_aload_n hx hb dX0_number_67 rfl (lv_at hl 0 rfl) ?_
  refine va_get (D := (dC, dI)) (ci := 0) (v := .int xx_12) (C := RX0) (T := TX0) (N := 5) hx hb hts hi_X0 hown hK hP 17 rfl rfl 4 (by decide) fl_44 (fun _ h9 => h9) rfl dX0_number_68 ?_
  exact xq_ri hQ hx hb hr hP hK hD hS (xx_11, xx_12) rfl h dX0_number_71 hlocks
def w_X0_splitBy_L3 (a_2 : Int32) (a_3 : Int32) (t_caseRow : Nat → Int32) (t_calls : Nat → Int32) (p_cases : Int32) (post : (Nat → Int64) → Prop) (kk : (Nat → Int64) → Prop) : Nat → Int32 → (Nat → Int64) → Prop
  | 0, _, _ => False
  | f_3 + 1, a_4, p_callsOfCase => (p_cases ≤ a_4 → (kk p_callsOfCase)) ∧ (¬ p_cases ≤ a_4 → ((vp_in a_4 64) ∧ ((vp_in a_4 64) ∧ (w_X4_callIn t_calls (t_caseRow a_4.toNatClampNeg) a_2 a_3 (fun (rr_3 : Int32) => (vp_in a_4 64) ∧ (w_X0_splitBy_L3 a_2 a_3 t_caseRow t_calls p_cases post kk f_3 (a_4 + (1 : Int32)) (vp_updL p_callsOfCase a_4.toNatClampNeg (((p_callsOfCase a_4.toNatClampNeg) <<< (Int32.toInt64 (6 : Int32) &&& 63)) ||| (Int32.toInt64 rr_3)))))))))
def w_X0_splitBy (t_caseRow : Nat → Int32) (t_calls : Nat → Int32) (p_callsOfCase : Nat → Int64) (p_cases : Int32) (a_2 : Int32) (a_3 : Int32) (post : (Nat → Int64) → Prop) : Prop := ∃ e_3, w_X0_splitBy_L3 a_2 a_3 t_caseRow t_calls p_cases post (fun (xx_9 : Nat → Int64) => post xx_9) e_3 (0 : Int32) p_callsOfCase
set_option maxHeartbeats 4000000 in
set_option maxRecDepth 100000 in
theorem m_X0_splitBy (l : Launch) (dC : Nat → ClassId) (dI : Nat → Nat → Nat) (cyI cyJ : ClassId) (aa : Nat → Nat) (sz : Nat) {s_lanes : Nat → Int32} {s_sizes : Nat → Int32} {s_cells : Nat → Int32} {x_kinds : Nat → Int32} {x_digits : Nat → Int32} {x_causes : Nat → Int32} {x_effects : Nat → Int32} {x_things : Int32} {x_follows : Int32} {x_due : Int32} {t_kinds : Nat → Int32} {t_digits : Nat → Int32} {t_caseRow : Nat → Int32} {t_weights : Nat → Int32} {t_order : Nat → Int32} {t_calls : Nat → Int32} {t_things : Int32} {t_caseCount : Int32} {t_caseSet : Int64} {p_callsOfCase : Nat → Int64} {p_partOfCase : Nat → Int32} {p_callsOfPart : Nat → Int64} {p_cases : Int32} {p_parts : Int32} {r_cases : Nat → Int32} {r_hours : Nat → Int32} {r_sets : Nat → Int32} {r_count : Int32} {u_lists : Nat → Int32} {u_breaths : Nat → Int32} {u_heard : Nat → Int32} {u_traced : Int32} {u_lastFault : Int32} {a_2 : Int32} {a_3 : Int32} {post : (Nat → Int64) → Prop} (h : w_X0_splitBy t_caseRow t_calls p_callsOfCase p_cases a_2 a_3 post) : Met l yX0_splitBy wsX0_splitBy (xq_R 2 43) (va_Pc [.ref (aa 17), .ref (aa 10), .int a_2, .int a_3] (xq_P (dC, dI) [(cyI, .int), (cyJ, .long)] (wc_u cyI cyJ aa s_lanes s_sizes s_cells x_kinds x_digits x_causes x_effects x_things x_follows x_due t_kinds t_digits t_caseRow t_weights t_order t_calls t_things t_caseCount t_caseSet p_callsOfCase p_partOfCase p_callsOfPart p_cases p_parts r_cases r_hours r_sets r_count u_lists u_breaths u_heard u_traced u_lastFault) sz)) (va_Qv (fun (uu : (Nat → Int64)) => post uu) (fun (uu : (Nat → Int64)) => xq_B (dC, dI) [(cyI, .int), (cyJ, .long)] (va_A (wc_u cyI cyJ aa s_lanes s_sizes s_cells x_kinds x_digits x_causes x_effects x_things x_follows x_due t_kinds t_digits t_caseRow t_weights t_order t_calls t_things t_caseCount t_caseSet p_callsOfCase p_partOfCase p_callsOfPart p_cases p_parts r_cases r_hours r_sets r_count u_lists u_breaths u_heard u_traced u_lastFault) sz) (wc_u cyI cyJ aa s_lanes s_sizes s_cells x_kinds x_digits x_causes x_effects x_things x_follows x_due t_kinds t_digits t_caseRow t_weights t_order t_calls t_things t_caseCount t_caseSet uu p_partOfCase p_callsOfPart p_cases p_parts r_cases r_hours r_sets r_count u_lists u_breaths u_heard u_traced u_lastFault)) (va_A (wc_u cyI cyJ aa s_lanes s_sizes s_cells x_kinds x_digits x_causes x_effects x_things x_follows x_due t_kinds t_digits t_caseRow t_weights t_order t_calls t_things t_caseCount t_caseSet p_callsOfCase p_partOfCase p_callsOfPart p_cases p_parts r_cases r_hours r_sets r_count u_lists u_breaths u_heard u_traced u_lastFault) sz)) 0 0 (va_A (wc_u cyI cyJ aa s_lanes s_sizes s_cells x_kinds x_digits x_causes x_effects x_things x_follows x_due t_kinds t_digits t_caseRow t_weights t_order t_calls t_things t_caseCount t_caseSet p_callsOfCase p_partOfCase p_callsOfPart p_cases p_parts r_cases r_hours r_sets r_count u_lists u_breaths u_heard u_traced u_lastFault) sz) := by
  refine xq_M (cc := cX0_splitBy) (maxL := 5) (ret := none) (QA := fun A => va_Qv (fun (uu : (Nat → Int64)) => post uu) (fun (uu : (Nat → Int64)) => xq_B (dC, dI) [(cyI, .int), (cyJ, .long)] A (wc_u cyI cyJ aa s_lanes s_sizes s_cells x_kinds x_digits x_causes x_effects x_things x_follows x_due t_kinds t_digits t_caseRow t_weights t_order t_calls t_things t_caseCount t_caseSet uu p_partOfCase p_callsOfPart p_cases p_parts r_cases r_hours r_sets r_count u_lists u_breaths u_heard u_traced u_lastFault)) A) (by decide) rfl (Nat.le_of_ble_eq_true rfl) ?_
  intro p e s m args below meth c A ls Q hQ hx hb hr hml hts hown hlocks hsz hP hK hD hA hS hN hl
  subst hsz
  have hl : lv_has ls 5 [(0, .ref (aa 17)), (1, .ref (aa 10)), (2, .int a_2), (3, .int a_3)] := hl
  have hi_X0 : ∀ w ∈ wsX00, w ∈ wsX0_splitBy := fun _ h => List.mem_cons_of_mem _ (List.mem_append_left _ (List.mem_append_right _ h))
  have hi_X4 : ∀ w ∈ wsX40, w ∈ wsX0_splitBy := fun _ h => List.mem_cons_of_mem _ (List.mem_append_right _ h)
  have fl_9 := hts (.fieldLink RX0 9 "UnsaidCalls$Parting" "callsOfCase" "[J") (by decide +kernel)
  have fl_34 := hts (.fieldLink RX0 34 "UnsaidCalls$Parting" "cases" "I") (by decide +kernel)
  have fl_37 := hts (.fieldLink RX0 37 "UnsaidCalls$Town" "caseRow" "[I") (by decide +kernel)
  unfold w_X0_splitBy at h
  refine lv_iconst (v := (0 : Int32)) hx hb dX0_splitBy_0 (by decide) ?_
  refine lv_istore (lv' := [(4, .int (0 : Int32)), (0, .ref (aa 17)), (1, .ref (aa 10)), (2, .int a_2), (3, .int a_3)]) hx hb dX0_splitBy_1 hl (by decide) rfl (fun ls hl => ?_)
  obtain ⟨ni, h⟩ := h
  have lp_3 : ∀ (kk : (Nat → Int64) → Prop), (∀ (xx_9 : Nat → Int64) (H : Heap) (locs : List Loc) (ls : Array Slot), va_P (dC, dI) vwCl (wc_u cyI cyJ aa s_lanes s_sizes s_cells x_kinds x_digits x_causes x_effects x_things x_follows x_due t_kinds t_digits t_caseRow t_weights t_order t_calls t_things t_caseCount t_caseSet xx_9 p_partOfCase p_callsOfPart p_cases p_parts r_cases r_hours r_sets r_count u_lists u_breaths u_heard u_traced u_lastFault) H → va_D A (wc_u cyI cyJ aa s_lanes s_sizes s_cells x_kinds x_digits x_causes x_effects x_things x_follows x_due t_kinds t_digits t_caseRow t_weights t_order t_calls t_things t_caseCount t_caseSet xx_9 p_partOfCase p_callsOfPart p_cases p_parts r_cases r_hours r_sets r_count u_lists u_breaths u_heard u_traced u_lastFault) → va_S A s.heap H locs → lv_has ls 5 [] → kk xx_9 → W p l e (xq_R 2 43) s m args below meth c H locs 0 0 Q (F0 m 50 ls [])) → ∀ (ni : Nat) (aa_7 : Int32) (cc_8 : Nat → Int64) (H : Heap) (locs : List Loc) (ls : Array Slot), va_P (dC, dI) vwCl (wc_u cyI cyJ aa s_lanes s_sizes s_cells x_kinds x_digits x_causes x_effects x_things x_follows x_due t_kinds t_digits t_caseRow t_weights t_order t_calls t_things t_caseCount t_caseSet cc_8 p_partOfCase p_callsOfPart p_cases p_parts r_cases r_hours r_sets r_count u_lists u_breaths u_heard u_traced u_lastFault) H → va_D A (wc_u cyI cyJ aa s_lanes s_sizes s_cells x_kinds x_digits x_causes x_effects x_things x_follows x_due t_kinds t_digits t_caseRow t_weights t_order t_calls t_things t_caseCount t_caseSet cc_8 p_partOfCase p_callsOfPart p_cases p_parts r_cases r_hours r_sets r_count u_lists u_breaths u_heard u_traced u_lastFault) → va_S A s.heap H locs → lv_has ls 5 [(0, .ref (aa 17)), (1, .ref (aa 10)), (2, .int a_2), (3, .int a_3), (4, .int aa_7)] → w_X0_splitBy_L3 a_2 a_3 t_caseRow t_calls p_cases post kk ni aa_7 cc_8 → W p l e (xq_R 2 43) s m args below meth c H locs 0 0 Q (F0 m 3 ls []) := by
    intro kk kx ni
    induction ni with
    | zero => intros; exact False.elim (by assumption)
    | succ ni ih =>
      intro aa_7 cc_8 H locs ls hP hD hS hl h
      rw [w_X0_splitBy_L3] at h
      refine lv_iload hx hb dX0_splitBy_3 (lv_at hl 4 rfl) ?_
      refine lv_aload_n hx hb dX0_splitBy_5 rfl (lv_at hl 0 rfl) ?_
      refine va_get (D := (dC, dI)) (ci := 0) (v := .int p_cases) (C := RX0) (T := TX0) (N := 5) hx hb hts hi_X0 hown hK hP 17 rfl rfl 3 (by decide) fl_34 (fun _ h9 => h9) rfl dX0_splitBy_6 ?_
      refine lv_icmp_ge (tgt := 50) hx hb dX0_splitBy_9 (by decide) (fun hc_15 => ?_) (fun hc_15 => ?_)
      · have h := h.1 hc_15
        exact kx cc_8 _ _ _ hP hD hS (lv_sub hl [] rfl) h
      · have h := h.2 hc_15
        refine lv_aload_n hx hb dX0_splitBy_12 rfl (lv_at hl 0 rfl) ?_
        refine va_get (D := (dC, dI)) (ci := 0) (v := .ref (aa 18)) (C := RX0) (T := TX0) (N := 5) hx hb hts hi_X0 hown hK hP 17 rfl rfl 0 (by decide) fl_9 (fun _ h9 => h9) rfl dX0_splitBy_13 ?_
        refine lv_iload hx hb dX0_splitBy_16 (lv_at hl 4 rfl) ?_
        refine lv_aload_n hx hb dX0_splitBy_18 rfl (lv_at hl 0 rfl) ?_
        refine va_get (D := (dC, dI)) (ci := 0) (v := .ref (aa 18)) (C := RX0) (T := TX0) (N := 5) hx hb hts hi_X0 hown hK hP 17 rfl rfl 0 (by decide) fl_9 (fun _ h9 => h9) rfl dX0_splitBy_19 ?_
        refine lv_iload hx hb dX0_splitBy_22 (lv_at hl 4 rfl) ?_
        obtain ⟨hv_10, h⟩ := h
        refine va_lald hx hb hK hP 18 1 rfl rfl hv_10 dX0_splitBy_24 ?_
        refine lv_bipush (v := (6 : Int32)) hx hb dX0_splitBy_25 (by decide) ?_
        refine lv_lshl (v := ((cc_8 aa_7.toNatClampNeg) <<< (Int32.toInt64 (6 : Int32) &&& 63))) hx hb dX0_splitBy_27 rfl ?_
        refine lv_aload_n hx hb dX0_splitBy_28 rfl (lv_at hl 1 rfl) ?_
        refine lv_aload_n hx hb dX0_splitBy_29 rfl (lv_at hl 1 rfl) ?_
        refine va_get (D := (dC, dI)) (ci := 4) (v := .ref (aa 13)) (C := RX4) (T := TX4) (N := 9) hx hb hts hi_X4 hown hK hP 10 rfl rfl 2 (by decide) fl_37 (fun _ h9 => h9) rfl dX0_splitBy_30 ?_
        refine lv_iload hx hb dX0_splitBy_33 (lv_at hl 4 rfl) ?_
        obtain ⟨hv_11, h⟩ := h
        refine va_iald hx hb hK hP 13 0 rfl rfl hv_11 dX0_splitBy_35 ?_
        refine lv_iload_n hx hb dX0_splitBy_36 rfl (lv_at hl 2 rfl) ?_
        refine lv_iload_n hx hb dX0_splitBy_37 rfl (lv_at hl 3 rfl) ?_
        refine xq_ci (va_runV (As := [.int (t_caseRow aa_7.toNatClampNeg), .int a_2, .int a_3]) (rest := [.long ((cc_8 aa_7.toNatClampNeg) <<< (Int32.toInt64 (6 : Int32) &&& 63)), .int aa_7, .ref (aa 18)]) ⟨hx, hb, hml, hown, hts⟩ (m_X4_callIn l dC dI cyI cyJ aa H.size h) (cwV 3 hts gX0_splitBy_X4_callIn rfl rfl rfl (by decide +kernel) ⟨Nat.le_of_ble_eq_true rfl, Nat.le_of_ble_eq_true rfl⟩) (xq_preV hK hP hD hN (ci := 4) (q0 := 10) rfl rfl) rfl rfl hl.1 rfl (lv_room (Nat.le_of_ble_eq_true rfl)) dX0_splitBy_38 ⟨Nat.le_refl _, Nat.le_refl _⟩) hD hS hA (fun rr_12 uu H locs h hP hD hS => ?_)
        have hP : va_P (dC, dI) vwCl (wc_u cyI cyJ aa s_lanes s_sizes s_cells x_kinds x_digits x_causes x_effects x_things x_follows x_due t_kinds t_digits t_caseRow t_weights t_order t_calls t_things t_caseCount t_caseSet cc_8 p_partOfCase p_callsOfPart p_cases p_parts r_cases r_hours r_sets r_count u_lists u_breaths u_heard u_traced u_lastFault) H := hP
        have hD : va_D A (wc_u cyI cyJ aa s_lanes s_sizes s_cells x_kinds x_digits x_causes x_effects x_things x_follows x_due t_kinds t_digits t_caseRow t_weights t_order t_calls t_things t_caseCount t_caseSet cc_8 p_partOfCase p_callsOfPart p_cases p_parts r_cases r_hours r_sets r_count u_lists u_breaths u_heard u_traced u_lastFault) := hD
        refine lv_i2l (v := (Int32.toInt64 rr_12)) hx hb dX0_splitBy_41 rfl ?_
        refine lv_lor hx hb dX0_splitBy_42 ?_
        obtain ⟨hv_13, h⟩ := h
        refine va_last hx hb hK hP hD hS 18 1 rfl rfl hv_13 dX0_splitBy_43 (fun H locs hP hD hS => ?_)
        have hP : va_P (dC, dI) vwCl (wc_u cyI cyJ aa s_lanes s_sizes s_cells x_kinds x_digits x_causes x_effects x_things x_follows x_due t_kinds t_digits t_caseRow t_weights t_order t_calls t_things t_caseCount t_caseSet (vp_updL cc_8 aa_7.toNatClampNeg (((cc_8 aa_7.toNatClampNeg) <<< (Int32.toInt64 (6 : Int32) &&& 63)) ||| (Int32.toInt64 rr_12))) p_partOfCase p_callsOfPart p_cases p_parts r_cases r_hours r_sets r_count u_lists u_breaths u_heard u_traced u_lastFault) H := hP
        have hD : va_D A (wc_u cyI cyJ aa s_lanes s_sizes s_cells x_kinds x_digits x_causes x_effects x_things x_follows x_due t_kinds t_digits t_caseRow t_weights t_order t_calls t_things t_caseCount t_caseSet (vp_updL cc_8 aa_7.toNatClampNeg (((cc_8 aa_7.toNatClampNeg) <<< (Int32.toInt64 (6 : Int32) &&& 63)) ||| (Int32.toInt64 rr_12))) p_partOfCase p_callsOfPart p_cases p_parts r_cases r_hours r_sets r_count u_lists u_breaths u_heard u_traced u_lastFault) := hD
        refine lv_iinc (v := (aa_7 + (1 : Int32))) (lv' := [(4, .int (aa_7 + (1 : Int32))), (0, .ref (aa 17)), (1, .ref (aa 10)), (2, .int a_2), (3, .int a_3)]) hx hb dX0_splitBy_44 hl (k := 4) rfl rfl (by decide) rfl (fun ls hl => ?_)
        refine lv_goto (tgt := 3) hx hb dX0_splitBy_47 (by decide) ?_
        exact ih (aa_7 + (1 : Int32)) (vp_updL cc_8 aa_7.toNatClampNeg (((cc_8 aa_7.toNatClampNeg) <<< (Int32.toInt64 (6 : Int32) &&& 63)) ||| (Int32.toInt64 rr_12))) _ _ _ hP hD hS (lv_sub hl [1, 2, 3, 4, 0] rfl) h
  refine lp_3 _ (fun xx_9 H locs ls hP hD hS hl h => ?_) ni (0 : Int32) p_callsOfCase _ _ _ hP hD hS (lv_sub hl [1, 2, 3, 4, 0] rfl) h
  exact xq_rv hQ hx hb hr hP hK hD hS xx_9 rfl h dX0_splitBy_50 hlocks
def w_X1_allow_L3 (a_2 : Int32) (a_3 : Int32) (a_4 : Int32) (t_calls : Nat → Int32) (r_cases : Nat → Int32) (r_hours : Nat → Int32) (r_sets : Nat → Int32) (r_count : Int32) (post : Int32 → Prop) (kk : Prop) : Nat → Int32 → Prop
  | 0, _ => False
  | f_3 + 1, a_5 => (r_count ≤ a_5 → (kk)) ∧ (¬ r_count ≤ a_5 → (((8 : Int32) ≤ a_5 → (kk)) ∧ (¬ (8 : Int32) ≤ a_5 → ((vp_in a_5 8) ∧ ((¬ (r_hours a_5.toNatClampNeg) = a_3 → (w_X1_allow_L3 a_2 a_3 a_4 t_calls r_cases r_hours r_sets r_count post kk f_3 (a_5 + (1 : Int32)))) ∧ ((r_hours a_5.toNatClampNeg) = a_3 → ((vp_in a_5 8) ∧ (w_X4_callIn t_calls (r_cases a_5.toNatClampNeg) a_2 a_4 (fun (rr_3 : Int32) => (vp_in a_5 8) ∧ ((rr_3 = (r_sets a_5.toNatClampNeg) → (w_X1_allow_L3 a_2 a_3 a_4 t_calls r_cases r_hours r_sets r_count post kk f_3 (a_5 + (1 : Int32)))) ∧ (¬ rr_3 = (r_sets a_5.toNatClampNeg) → (post (0 : Int32)))))))))))))
def w_X1_allow (t_calls : Nat → Int32) (r_cases : Nat → Int32) (r_hours : Nat → Int32) (r_sets : Nat → Int32) (r_count : Int32) (a_2 : Int32) (a_3 : Int32) (a_4 : Int32) (post : Int32 → Prop) : Prop := ∃ e_3, w_X1_allow_L3 a_2 a_3 a_4 t_calls r_cases r_hours r_sets r_count post (post (1 : Int32)) e_3 (0 : Int32)
set_option maxHeartbeats 4000000 in
set_option maxRecDepth 100000 in
theorem m_X1_allow (l : Launch) (dC : Nat → ClassId) (dI : Nat → Nat → Nat) (cyI cyJ : ClassId) (aa : Nat → Nat) (sz : Nat) {s_lanes : Nat → Int32} {s_sizes : Nat → Int32} {s_cells : Nat → Int32} {x_kinds : Nat → Int32} {x_digits : Nat → Int32} {x_causes : Nat → Int32} {x_effects : Nat → Int32} {x_things : Int32} {x_follows : Int32} {x_due : Int32} {t_kinds : Nat → Int32} {t_digits : Nat → Int32} {t_caseRow : Nat → Int32} {t_weights : Nat → Int32} {t_order : Nat → Int32} {t_calls : Nat → Int32} {t_things : Int32} {t_caseCount : Int32} {t_caseSet : Int64} {p_callsOfCase : Nat → Int64} {p_partOfCase : Nat → Int32} {p_callsOfPart : Nat → Int64} {p_cases : Int32} {p_parts : Int32} {r_cases : Nat → Int32} {r_hours : Nat → Int32} {r_sets : Nat → Int32} {r_count : Int32} {u_lists : Nat → Int32} {u_breaths : Nat → Int32} {u_heard : Nat → Int32} {u_traced : Int32} {u_lastFault : Int32} {a_2 : Int32} {a_3 : Int32} {a_4 : Int32} {post : Int32 → Prop} (h : w_X1_allow t_calls r_cases r_hours r_sets r_count a_2 a_3 a_4 post) : Met l yX1_allow wsX1_allow (xq_R 2 43) (va_Pc [.ref (aa 21), .ref (aa 10), .int a_2, .int a_3, .int a_4] (xq_P (dC, dI) [(cyI, .int), (cyJ, .long)] (wc_u cyI cyJ aa s_lanes s_sizes s_cells x_kinds x_digits x_causes x_effects x_things x_follows x_due t_kinds t_digits t_caseRow t_weights t_order t_calls t_things t_caseCount t_caseSet p_callsOfCase p_partOfCase p_callsOfPart p_cases p_parts r_cases r_hours r_sets r_count u_lists u_breaths u_heard u_traced u_lastFault) sz)) (va_Qi (fun (rr : Int32) (uu : Unit) => post rr ) (fun (uu : Unit) => xq_B (dC, dI) [(cyI, .int), (cyJ, .long)] (va_A (wc_u cyI cyJ aa s_lanes s_sizes s_cells x_kinds x_digits x_causes x_effects x_things x_follows x_due t_kinds t_digits t_caseRow t_weights t_order t_calls t_things t_caseCount t_caseSet p_callsOfCase p_partOfCase p_callsOfPart p_cases p_parts r_cases r_hours r_sets r_count u_lists u_breaths u_heard u_traced u_lastFault) sz) (wc_u cyI cyJ aa s_lanes s_sizes s_cells x_kinds x_digits x_causes x_effects x_things x_follows x_due t_kinds t_digits t_caseRow t_weights t_order t_calls t_things t_caseCount t_caseSet p_callsOfCase p_partOfCase p_callsOfPart p_cases p_parts r_cases r_hours r_sets r_count u_lists u_breaths u_heard u_traced u_lastFault)) (va_A (wc_u cyI cyJ aa s_lanes s_sizes s_cells x_kinds x_digits x_causes x_effects x_things x_follows x_due t_kinds t_digits t_caseRow t_weights t_order t_calls t_things t_caseCount t_caseSet p_callsOfCase p_partOfCase p_callsOfPart p_cases p_parts r_cases r_hours r_sets r_count u_lists u_breaths u_heard u_traced u_lastFault) sz)) 0 0 (va_A (wc_u cyI cyJ aa s_lanes s_sizes s_cells x_kinds x_digits x_causes x_effects x_things x_follows x_due t_kinds t_digits t_caseRow t_weights t_order t_calls t_things t_caseCount t_caseSet p_callsOfCase p_partOfCase p_callsOfPart p_cases p_parts r_cases r_hours r_sets r_count u_lists u_breaths u_heard u_traced u_lastFault) sz) := by
  refine xq_M (cc := cX1_allow) (maxL := 6) (ret := (some .boolean)) (QA := fun A => va_Qi (fun (rr : Int32) (uu : Unit) => post rr ) (fun (uu : Unit) => xq_B (dC, dI) [(cyI, .int), (cyJ, .long)] A (wc_u cyI cyJ aa s_lanes s_sizes s_cells x_kinds x_digits x_causes x_effects x_things x_follows x_due t_kinds t_digits t_caseRow t_weights t_order t_calls t_things t_caseCount t_caseSet p_callsOfCase p_partOfCase p_callsOfPart p_cases p_parts r_cases r_hours r_sets r_count u_lists u_breaths u_heard u_traced u_lastFault)) A) (by decide) rfl (Nat.le_of_ble_eq_true rfl) ?_
  intro p e s m args below meth c A ls Q hQ hx hb hr hml hts hown hlocks hsz hP hK hD hA hS hN hl
  subst hsz
  have hl : lv_has ls 6 [(0, .ref (aa 21)), (1, .ref (aa 10)), (2, .int a_2), (3, .int a_3), (4, .int a_4)] := hl
  have hi_X1 : ∀ w ∈ wsX10, w ∈ wsX1_allow := fun _ h => List.mem_cons_of_mem _ (List.mem_append_left _ (List.mem_append_right _ h))
  have fl_9 := hts (.fieldLink RX1 9 "UnsaidCalls$Readings" "cases" "[I") (by decide +kernel)
  have fl_15 := hts (.fieldLink RX1 15 "UnsaidCalls$Readings" "hours" "[I") (by decide +kernel)
  have fl_18 := hts (.fieldLink RX1 18 "UnsaidCalls$Readings" "sets" "[I") (by decide +kernel)
  have fl_21 := hts (.fieldLink RX1 21 "UnsaidCalls$Readings" "count" "I") (by decide +kernel)
  unfold w_X1_allow at h
  refine lv_iconst (v := (0 : Int32)) hx hb dX1_allow_0 (by decide) ?_
  refine lv_istore (lv' := [(5, .int (0 : Int32)), (0, .ref (aa 21)), (1, .ref (aa 10)), (2, .int a_2), (3, .int a_3), (4, .int a_4)]) hx hb dX1_allow_1 hl (by decide) rfl (fun ls hl => ?_)
  obtain ⟨ni, h⟩ := h
  have lp_3 : ∀ (kk : Prop), (∀  (H : Heap) (locs : List Loc) (ls : Array Slot), va_P (dC, dI) vwCl (wc_u cyI cyJ aa s_lanes s_sizes s_cells x_kinds x_digits x_causes x_effects x_things x_follows x_due t_kinds t_digits t_caseRow t_weights t_order t_calls t_things t_caseCount t_caseSet p_callsOfCase p_partOfCase p_callsOfPart p_cases p_parts r_cases r_hours r_sets r_count u_lists u_breaths u_heard u_traced u_lastFault) H → va_D A (wc_u cyI cyJ aa s_lanes s_sizes s_cells x_kinds x_digits x_causes x_effects x_things x_follows x_due t_kinds t_digits t_caseRow t_weights t_order t_calls t_things t_caseCount t_caseSet p_callsOfCase p_partOfCase p_callsOfPart p_cases p_parts r_cases r_hours r_sets r_count u_lists u_breaths u_heard u_traced u_lastFault) → va_S A s.heap H locs → lv_has ls 6 [] → kk → W p l e (xq_R 2 43) s m args below meth c H locs 0 0 Q (F0 m 62 ls [])) → ∀ (ni : Nat) (aa_10 : Int32) (H : Heap) (locs : List Loc) (ls : Array Slot), va_P (dC, dI) vwCl (wc_u cyI cyJ aa s_lanes s_sizes s_cells x_kinds x_digits x_causes x_effects x_things x_follows x_due t_kinds t_digits t_caseRow t_weights t_order t_calls t_things t_caseCount t_caseSet p_callsOfCase p_partOfCase p_callsOfPart p_cases p_parts r_cases r_hours r_sets r_count u_lists u_breaths u_heard u_traced u_lastFault) H → va_D A (wc_u cyI cyJ aa s_lanes s_sizes s_cells x_kinds x_digits x_causes x_effects x_things x_follows x_due t_kinds t_digits t_caseRow t_weights t_order t_calls t_things t_caseCount t_caseSet p_callsOfCase p_partOfCase p_callsOfPart p_cases p_parts r_cases r_hours r_sets r_count u_lists u_breaths u_heard u_traced u_lastFault) → va_S A s.heap H locs → lv_has ls 6 [(0, .ref (aa 21)), (1, .ref (aa 10)), (2, .int a_2), (3, .int a_3), (4, .int a_4), (5, .int aa_10)] → w_X1_allow_L3 a_2 a_3 a_4 t_calls r_cases r_hours r_sets r_count post kk ni aa_10 → W p l e (xq_R 2 43) s m args below meth c H locs 0 0 Q (F0 m 3 ls []) := by
    intro kk kx ni
    induction ni with
    | zero => intros; exact False.elim (by assumption)
    | succ ni ih =>
      intro aa_10 H locs ls hP hD hS hl h
      rw [w_X1_allow_L3] at h
      refine lv_iload hx hb dX1_allow_3 (lv_at hl 5 rfl) ?_
      refine lv_aload_n hx hb dX1_allow_5 rfl (lv_at hl 0 rfl) ?_
      refine va_get (D := (dC, dI)) (ci := 1) (v := .int r_count) (C := RX1) (T := TX1) (N := 4) hx hb hts hi_X1 hown hK hP 21 rfl rfl 3 (by decide) fl_21 (fun _ h9 => h9) rfl dX1_allow_6 ?_
      refine lv_icmp_ge (tgt := 62) hx hb dX1_allow_9 (by decide) (fun hc_19 => ?_) (fun hc_19 => ?_)
      · have h := h.1 hc_19
        exact kx  _ _ _ hP hD hS (lv_sub hl [] rfl) h
      · have h := h.2 hc_19
        refine lv_iload hx hb dX1_allow_12 (lv_at hl 5 rfl) ?_
        refine lv_bipush (v := (8 : Int32)) hx hb dX1_allow_14 (by decide) ?_
        refine lv_icmp_ge (tgt := 62) hx hb dX1_allow_16 (by decide) (fun hc_18 => ?_) (fun hc_18 => ?_)
        · have h := h.1 hc_18
          exact kx  _ _ _ hP hD hS (lv_sub hl [] rfl) h
        · have h := h.2 hc_18
          refine lv_aload_n hx hb dX1_allow_19 rfl (lv_at hl 0 rfl) ?_
          refine va_get (D := (dC, dI)) (ci := 1) (v := .ref (aa 23)) (C := RX1) (T := TX1) (N := 4) hx hb hts hi_X1 hown hK hP 21 rfl rfl 1 (by decide) fl_15 (fun _ h9 => h9) rfl dX1_allow_20 ?_
          refine lv_iload hx hb dX1_allow_23 (lv_at hl 5 rfl) ?_
          obtain ⟨hv_11, h⟩ := h
          refine va_iald hx hb hK hP 23 0 rfl rfl hv_11 dX1_allow_25 ?_
          refine lv_iload_n hx hb dX1_allow_26 rfl (lv_at hl 3 rfl) ?_
          refine lv_icmp_ne (tgt := 56) hx hb dX1_allow_27 (by decide) (fun hc_17 => ?_) (fun hc_17 => ?_)
          · have h := h.1 hc_17
            refine lv_iinc (v := (aa_10 + (1 : Int32))) (lv' := [(5, .int (aa_10 + (1 : Int32))), (0, .ref (aa 21)), (1, .ref (aa 10)), (2, .int a_2), (3, .int a_3), (4, .int a_4)]) hx hb dX1_allow_56 hl (k := 5) rfl rfl (by decide) rfl (fun ls hl => ?_)
            refine lv_goto (tgt := 3) hx hb dX1_allow_59 (by decide) ?_
            exact ih (aa_10 + (1 : Int32)) _ _ _ hP hD hS (lv_sub hl [1, 2, 3, 4, 5, 0] rfl) h
          · have h := h.2 hc_17
            refine lv_aload_n hx hb dX1_allow_30 rfl (lv_at hl 1 rfl) ?_
            refine lv_aload_n hx hb dX1_allow_31 rfl (lv_at hl 0 rfl) ?_
            refine va_get (D := (dC, dI)) (ci := 1) (v := .ref (aa 22)) (C := RX1) (T := TX1) (N := 4) hx hb hts hi_X1 hown hK hP 21 rfl rfl 0 (by decide) fl_9 (fun _ h9 => h9) rfl dX1_allow_32 ?_
            refine lv_iload hx hb dX1_allow_35 (lv_at hl 5 rfl) ?_
            obtain ⟨hv_12, h⟩ := h
            refine va_iald hx hb hK hP 22 0 rfl rfl hv_12 dX1_allow_37 ?_
            refine lv_iload_n hx hb dX1_allow_38 rfl (lv_at hl 2 rfl) ?_
            refine lv_iload hx hb dX1_allow_39 (lv_at hl 4 rfl) ?_
            refine xq_ci (va_runV (As := [.int (r_cases aa_10.toNatClampNeg), .int a_2, .int a_4]) (rest := []) ⟨hx, hb, hml, hown, hts⟩ (m_X4_callIn l dC dI cyI cyJ aa H.size h) (cwV 3 hts gX1_allow_X4_callIn rfl rfl rfl (by decide +kernel) ⟨Nat.le_of_ble_eq_true rfl, Nat.le_of_ble_eq_true rfl⟩) (xq_preV hK hP hD hN (ci := 4) (q0 := 10) rfl rfl) rfl rfl hl.1 rfl (lv_room (Nat.le_of_ble_eq_true rfl)) dX1_allow_41 ⟨Nat.le_refl _, Nat.le_refl _⟩) hD hS hA (fun rr_13 uu H locs h hP hD hS => ?_)
            have hP : va_P (dC, dI) vwCl (wc_u cyI cyJ aa s_lanes s_sizes s_cells x_kinds x_digits x_causes x_effects x_things x_follows x_due t_kinds t_digits t_caseRow t_weights t_order t_calls t_things t_caseCount t_caseSet p_callsOfCase p_partOfCase p_callsOfPart p_cases p_parts r_cases r_hours r_sets r_count u_lists u_breaths u_heard u_traced u_lastFault) H := hP
            have hD : va_D A (wc_u cyI cyJ aa s_lanes s_sizes s_cells x_kinds x_digits x_causes x_effects x_things x_follows x_due t_kinds t_digits t_caseRow t_weights t_order t_calls t_things t_caseCount t_caseSet p_callsOfCase p_partOfCase p_callsOfPart p_cases p_parts r_cases r_hours r_sets r_count u_lists u_breaths u_heard u_traced u_lastFault) := hD
            refine lv_aload_n hx hb dX1_allow_44 rfl (lv_at hl 0 rfl) ?_
            refine va_get (D := (dC, dI)) (ci := 1) (v := .ref (aa 24)) (C := RX1) (T := TX1) (N := 4) hx hb hts hi_X1 hown hK hP 21 rfl rfl 2 (by decide) fl_18 (fun _ h9 => h9) rfl dX1_allow_45 ?_
            refine lv_iload hx hb dX1_allow_48 (lv_at hl 5 rfl) ?_
            obtain ⟨hv_14, h⟩ := h
            refine va_iald hx hb hK hP 24 0 rfl rfl hv_14 dX1_allow_50 ?_
            refine lv_icmp_eq (tgt := 56) hx hb dX1_allow_51 (by decide) (fun hc_15 => ?_) (fun hc_15 => ?_)
            · have h := h.1 hc_15
              refine lv_iinc (v := (aa_10 + (1 : Int32))) (lv' := [(5, .int (aa_10 + (1 : Int32))), (0, .ref (aa 21)), (1, .ref (aa 10)), (2, .int a_2), (3, .int a_3), (4, .int a_4)]) hx hb dX1_allow_56 hl (k := 5) rfl rfl (by decide) rfl (fun ls hl => ?_)
              refine lv_goto (tgt := 3) hx hb dX1_allow_59 (by decide) ?_
              exact ih (aa_10 + (1 : Int32)) _ _ _ hP hD hS (lv_sub hl [1, 2, 3, 4, 5, 0] rfl) h
            · have h := h.2 hc_15
              refine lv_iconst (v := (0 : Int32)) hx hb dX1_allow_54 (by decide) ?_
              exact xq_rz hQ hx hb hr (by decide) hP hK hD hS () rfl h dX1_allow_55 hlocks
  refine lp_3 _ (fun  H locs ls hP hD hS hl h => ?_) ni (0 : Int32) _ _ _ hP hD hS (lv_sub hl [1, 2, 3, 4, 5, 0] rfl) h
  refine lv_iconst (v := (1 : Int32)) hx hb dX1_allow_62 (by decide) ?_
  exact xq_rz hQ hx hb hr (by decide) hP hK hD hS () rfl h dX1_allow_63 hlocks
def w_X1_take (r_cases : Nat → Int32) (r_hours : Nat → Int32) (r_sets : Nat → Int32) (r_count : Int32) (a_1 : Int32) (a_2 : Int32) (a_3 : Int32) (post : Int32 → (Nat → Int32) → (Nat → Int32) → (Nat → Int32) → Int32 → Prop) : Prop := ((8 : Int32) ≤ r_count → (post r_count r_cases r_hours r_sets r_count)) ∧ (¬ (8 : Int32) ≤ r_count → ((vp_in r_count 8) ∧ ((vp_in r_count 8) ∧ ((vp_in r_count 8) ∧ (post r_count (upd r_cases r_count.toNatClampNeg a_1) (upd r_hours r_count.toNatClampNeg a_2) (upd r_sets r_count.toNatClampNeg a_3) (r_count + (1 : Int32)))))))
set_option maxHeartbeats 4000000 in
set_option maxRecDepth 100000 in
theorem m_X1_take (l : Launch) (dC : Nat → ClassId) (dI : Nat → Nat → Nat) (cyI cyJ : ClassId) (aa : Nat → Nat) (sz : Nat) {s_lanes : Nat → Int32} {s_sizes : Nat → Int32} {s_cells : Nat → Int32} {x_kinds : Nat → Int32} {x_digits : Nat → Int32} {x_causes : Nat → Int32} {x_effects : Nat → Int32} {x_things : Int32} {x_follows : Int32} {x_due : Int32} {t_kinds : Nat → Int32} {t_digits : Nat → Int32} {t_caseRow : Nat → Int32} {t_weights : Nat → Int32} {t_order : Nat → Int32} {t_calls : Nat → Int32} {t_things : Int32} {t_caseCount : Int32} {t_caseSet : Int64} {p_callsOfCase : Nat → Int64} {p_partOfCase : Nat → Int32} {p_callsOfPart : Nat → Int64} {p_cases : Int32} {p_parts : Int32} {r_cases : Nat → Int32} {r_hours : Nat → Int32} {r_sets : Nat → Int32} {r_count : Int32} {u_lists : Nat → Int32} {u_breaths : Nat → Int32} {u_heard : Nat → Int32} {u_traced : Int32} {u_lastFault : Int32} {a_1 : Int32} {a_2 : Int32} {a_3 : Int32} {post : Int32 → (Nat → Int32) → (Nat → Int32) → (Nat → Int32) → Int32 → Prop} (h : w_X1_take r_cases r_hours r_sets r_count a_1 a_2 a_3 post) : Met l yX1_take wsX1_take (xq_R 0 0) (va_Pc [.ref (aa 21), .int a_1, .int a_2, .int a_3] (xq_P (dC, dI) [(cyI, .int), (cyJ, .long)] (wc_u cyI cyJ aa s_lanes s_sizes s_cells x_kinds x_digits x_causes x_effects x_things x_follows x_due t_kinds t_digits t_caseRow t_weights t_order t_calls t_things t_caseCount t_caseSet p_callsOfCase p_partOfCase p_callsOfPart p_cases p_parts r_cases r_hours r_sets r_count u_lists u_breaths u_heard u_traced u_lastFault) sz)) (va_Qi (fun (rr : Int32) (uu : (Nat → Int32) × (Nat → Int32) × (Nat → Int32) × Int32) => post rr uu.1 uu.2.1 uu.2.2.1 uu.2.2.2) (fun (uu : (Nat → Int32) × (Nat → Int32) × (Nat → Int32) × Int32) => xq_B (dC, dI) [(cyI, .int), (cyJ, .long)] (va_A (wc_u cyI cyJ aa s_lanes s_sizes s_cells x_kinds x_digits x_causes x_effects x_things x_follows x_due t_kinds t_digits t_caseRow t_weights t_order t_calls t_things t_caseCount t_caseSet p_callsOfCase p_partOfCase p_callsOfPart p_cases p_parts r_cases r_hours r_sets r_count u_lists u_breaths u_heard u_traced u_lastFault) sz) (wc_u cyI cyJ aa s_lanes s_sizes s_cells x_kinds x_digits x_causes x_effects x_things x_follows x_due t_kinds t_digits t_caseRow t_weights t_order t_calls t_things t_caseCount t_caseSet p_callsOfCase p_partOfCase p_callsOfPart p_cases p_parts uu.1 uu.2.1 uu.2.2.1 uu.2.2.2 u_lists u_breaths u_heard u_traced u_lastFault)) (va_A (wc_u cyI cyJ aa s_lanes s_sizes s_cells x_kinds x_digits x_causes x_effects x_things x_follows x_due t_kinds t_digits t_caseRow t_weights t_order t_calls t_things t_caseCount t_caseSet p_callsOfCase p_partOfCase p_callsOfPart p_cases p_parts r_cases r_hours r_sets r_count u_lists u_breaths u_heard u_traced u_lastFault) sz)) 0 0 (va_A (wc_u cyI cyJ aa s_lanes s_sizes s_cells x_kinds x_digits x_causes x_effects x_things x_follows x_due t_kinds t_digits t_caseRow t_weights t_order t_calls t_things t_caseCount t_caseSet p_callsOfCase p_partOfCase p_callsOfPart p_cases p_parts r_cases r_hours r_sets r_count u_lists u_breaths u_heard u_traced u_lastFault) sz) := by
  refine xq_M (cc := cX1_take) (maxL := 5) (ret := (some .int)) (QA := fun A => va_Qi (fun (rr : Int32) (uu : (Nat → Int32) × (Nat → Int32) × (Nat → Int32) × Int32) => post rr uu.1 uu.2.1 uu.2.2.1 uu.2.2.2) (fun (uu : (Nat → Int32) × (Nat → Int32) × (Nat → Int32) × Int32) => xq_B (dC, dI) [(cyI, .int), (cyJ, .long)] A (wc_u cyI cyJ aa s_lanes s_sizes s_cells x_kinds x_digits x_causes x_effects x_things x_follows x_due t_kinds t_digits t_caseRow t_weights t_order t_calls t_things t_caseCount t_caseSet p_callsOfCase p_partOfCase p_callsOfPart p_cases p_parts uu.1 uu.2.1 uu.2.2.1 uu.2.2.2 u_lists u_breaths u_heard u_traced u_lastFault)) A) (by decide) rfl (Nat.le_of_ble_eq_true rfl) ?_
  intro p e s m args below meth c A ls Q hQ hx hb hr hml hts hown hlocks hsz hP hK hD hA hS hN hl
  subst hsz
  have hl : lv_has ls 5 [(0, .ref (aa 21)), (1, .int a_1), (2, .int a_2), (3, .int a_3)] := hl
  have hi_X1 : ∀ w ∈ wsX10, w ∈ wsX1_take := fun _ h => List.mem_cons_of_mem _ (List.mem_append_right _ h)
  have fl_9 := hts (.fieldLink RX1 9 "UnsaidCalls$Readings" "cases" "[I") (by decide +kernel)
  have fl_15 := hts (.fieldLink RX1 15 "UnsaidCalls$Readings" "hours" "[I") (by decide +kernel)
  have fl_18 := hts (.fieldLink RX1 18 "UnsaidCalls$Readings" "sets" "[I") (by decide +kernel)
  have fl_21 := hts (.fieldLink RX1 21 "UnsaidCalls$Readings" "count" "I") (by decide +kernel)
  unfold w_X1_take at h
  refine lv_aload_n hx hb dX1_take_0 rfl (lv_at hl 0 rfl) ?_
  refine va_get (D := (dC, dI)) (ci := 1) (v := .int r_count) (C := RX1) (T := TX1) (N := 4) hx hb hts hi_X1 hown hK hP 21 rfl rfl 3 (by decide) fl_21 (fun _ h9 => h9) rfl dX1_take_1 ?_
  refine lv_istore (lv' := [(4, .int r_count), (0, .ref (aa 21)), (1, .int a_1), (2, .int a_2), (3, .int a_3)]) hx hb dX1_take_4 hl (by decide) rfl (fun ls hl => ?_)
  refine lv_iload hx hb dX1_take_6 (lv_at hl 0 rfl) ?_
  refine lv_bipush (v := (8 : Int32)) hx hb dX1_take_8 (by decide) ?_
  refine lv_icmp_ge (tgt := 47) hx hb dX1_take_10 (by decide) (fun hc_4 => ?_) (fun hc_4 => ?_)
  · have h := h.1 hc_4
    refine lv_iload hx hb dX1_take_47 (lv_at hl 0 rfl) ?_
    exact xq_ri hQ hx hb hr hP hK hD hS (r_cases, r_hours, r_sets, r_count) rfl h dX1_take_49 hlocks
  · have h := h.2 hc_4
    refine lv_aload_n hx hb dX1_take_13 rfl (lv_at hl 1 rfl) ?_
    refine va_get (D := (dC, dI)) (ci := 1) (v := .ref (aa 22)) (C := RX1) (T := TX1) (N := 4) hx hb hts hi_X1 hown hK hP 21 rfl rfl 0 (by decide) fl_9 (fun _ h9 => h9) rfl dX1_take_14 ?_
    refine lv_iload hx hb dX1_take_17 (lv_at hl 0 rfl) ?_
    refine lv_iload_n hx hb dX1_take_19 rfl (lv_at hl 2 rfl) ?_
    obtain ⟨hv_1, h⟩ := h
    refine va_iast hx hb hK hP hD hS 22 0 rfl rfl hv_1 dX1_take_20 (fun H locs hP hD hS => ?_)
    have hP : va_P (dC, dI) vwCl (wc_u cyI cyJ aa s_lanes s_sizes s_cells x_kinds x_digits x_causes x_effects x_things x_follows x_due t_kinds t_digits t_caseRow t_weights t_order t_calls t_things t_caseCount t_caseSet p_callsOfCase p_partOfCase p_callsOfPart p_cases p_parts (upd r_cases r_count.toNatClampNeg a_1) r_hours r_sets r_count u_lists u_breaths u_heard u_traced u_lastFault) H := hP
    have hD : va_D A (wc_u cyI cyJ aa s_lanes s_sizes s_cells x_kinds x_digits x_causes x_effects x_things x_follows x_due t_kinds t_digits t_caseRow t_weights t_order t_calls t_things t_caseCount t_caseSet p_callsOfCase p_partOfCase p_callsOfPart p_cases p_parts (upd r_cases r_count.toNatClampNeg a_1) r_hours r_sets r_count u_lists u_breaths u_heard u_traced u_lastFault) := hD
    refine lv_aload_n hx hb dX1_take_21 rfl (lv_at hl 1 rfl) ?_
    refine va_get (D := (dC, dI)) (ci := 1) (v := .ref (aa 23)) (C := RX1) (T := TX1) (N := 4) hx hb hts hi_X1 hown hK hP 21 rfl rfl 1 (by decide) fl_15 (fun _ h9 => h9) rfl dX1_take_22 ?_
    refine lv_iload hx hb dX1_take_25 (lv_at hl 0 rfl) ?_
    refine lv_iload_n hx hb dX1_take_27 rfl (lv_at hl 3 rfl) ?_
    obtain ⟨hv_2, h⟩ := h
    refine va_iast hx hb hK hP hD hS 23 0 rfl rfl hv_2 dX1_take_28 (fun H locs hP hD hS => ?_)
    have hP : va_P (dC, dI) vwCl (wc_u cyI cyJ aa s_lanes s_sizes s_cells x_kinds x_digits x_causes x_effects x_things x_follows x_due t_kinds t_digits t_caseRow t_weights t_order t_calls t_things t_caseCount t_caseSet p_callsOfCase p_partOfCase p_callsOfPart p_cases p_parts (upd r_cases r_count.toNatClampNeg a_1) (upd r_hours r_count.toNatClampNeg a_2) r_sets r_count u_lists u_breaths u_heard u_traced u_lastFault) H := hP
    have hD : va_D A (wc_u cyI cyJ aa s_lanes s_sizes s_cells x_kinds x_digits x_causes x_effects x_things x_follows x_due t_kinds t_digits t_caseRow t_weights t_order t_calls t_things t_caseCount t_caseSet p_callsOfCase p_partOfCase p_callsOfPart p_cases p_parts (upd r_cases r_count.toNatClampNeg a_1) (upd r_hours r_count.toNatClampNeg a_2) r_sets r_count u_lists u_breaths u_heard u_traced u_lastFault) := hD
    refine lv_aload_n hx hb dX1_take_29 rfl (lv_at hl 1 rfl) ?_
    refine va_get (D := (dC, dI)) (ci := 1) (v := .ref (aa 24)) (C := RX1) (T := TX1) (N := 4) hx hb hts hi_X1 hown hK hP 21 rfl rfl 2 (by decide) fl_18 (fun _ h9 => h9) rfl dX1_take_30 ?_
    refine lv_iload hx hb dX1_take_33 (lv_at hl 0 rfl) ?_
    refine lv_iload_n hx hb dX1_take_35 rfl (lv_at hl 4 rfl) ?_
    obtain ⟨hv_3, h⟩ := h
    refine va_iast hx hb hK hP hD hS 24 0 rfl rfl hv_3 dX1_take_36 (fun H locs hP hD hS => ?_)
    have hP : va_P (dC, dI) vwCl (wc_u cyI cyJ aa s_lanes s_sizes s_cells x_kinds x_digits x_causes x_effects x_things x_follows x_due t_kinds t_digits t_caseRow t_weights t_order t_calls t_things t_caseCount t_caseSet p_callsOfCase p_partOfCase p_callsOfPart p_cases p_parts (upd r_cases r_count.toNatClampNeg a_1) (upd r_hours r_count.toNatClampNeg a_2) (upd r_sets r_count.toNatClampNeg a_3) r_count u_lists u_breaths u_heard u_traced u_lastFault) H := hP
    have hD : va_D A (wc_u cyI cyJ aa s_lanes s_sizes s_cells x_kinds x_digits x_causes x_effects x_things x_follows x_due t_kinds t_digits t_caseRow t_weights t_order t_calls t_things t_caseCount t_caseSet p_callsOfCase p_partOfCase p_callsOfPart p_cases p_parts (upd r_cases r_count.toNatClampNeg a_1) (upd r_hours r_count.toNatClampNeg a_2) (upd r_sets r_count.toNatClampNeg a_3) r_count u_lists u_breaths u_heard u_traced u_lastFault) := hD
    refine lv_aload_n hx hb dX1_take_37 rfl (lv_at hl 1 rfl) ?_
    refine lv_dup hx hb dX1_take_38 rfl ?_
    refine va_get (D := (dC, dI)) (ci := 1) (v := .int r_count) (C := RX1) (T := TX1) (N := 4) hx hb hts hi_X1 hown hK hP 21 rfl rfl 3 (by decide) fl_21 (fun _ h9 => h9) rfl dX1_take_39 ?_
    refine lv_iconst (v := (1 : Int32)) hx hb dX1_take_42 (by decide) ?_
    refine lv_iadd hx hb dX1_take_43 ?_
    refine va_put (D := (dC, dI)) (ci := 1) (v := .int (r_count + (1 : Int32))) (ty := .int) (C := RX1) (T := TX1) (N := 4) hx hb hts hi_X1 tyX1 tyX1_ok nmX1 hown hK hP hD hS 21 rfl rfl 3 (by decide) fl_21 (fun _ h9 => h9) rfl (by decide +kernel) rfl rfl (Nat.le_of_ble_eq_true rfl) dX1_take_44 (fun H locs hP hD hS => ?_)
    have hP : va_P (dC, dI) vwCl (wc_u cyI cyJ aa s_lanes s_sizes s_cells x_kinds x_digits x_causes x_effects x_things x_follows x_due t_kinds t_digits t_caseRow t_weights t_order t_calls t_things t_caseCount t_caseSet p_callsOfCase p_partOfCase p_callsOfPart p_cases p_parts (upd r_cases r_count.toNatClampNeg a_1) (upd r_hours r_count.toNatClampNeg a_2) (upd r_sets r_count.toNatClampNeg a_3) (r_count + (1 : Int32)) u_lists u_breaths u_heard u_traced u_lastFault) H := hP
    have hD : va_D A (wc_u cyI cyJ aa s_lanes s_sizes s_cells x_kinds x_digits x_causes x_effects x_things x_follows x_due t_kinds t_digits t_caseRow t_weights t_order t_calls t_things t_caseCount t_caseSet p_callsOfCase p_partOfCase p_callsOfPart p_cases p_parts (upd r_cases r_count.toNatClampNeg a_1) (upd r_hours r_count.toNatClampNeg a_2) (upd r_sets r_count.toNatClampNeg a_3) (r_count + (1 : Int32)) u_lists u_breaths u_heard u_traced u_lastFault) := hD
    refine lv_iload hx hb dX1_take_47 (lv_at hl 0 rfl) ?_
    exact xq_ri hQ hx hb hr hP hK hD hS ((upd r_cases r_count.toNatClampNeg a_1), (upd r_hours r_count.toNatClampNeg a_2), (upd r_sets r_count.toNatClampNeg a_3), (r_count + (1 : Int32))) rfl h dX1_take_49 hlocks
def w_X2_isCell (s_sizes : Nat → Int32) (a_1 : Int32) (a_2 : Int32) (post : Int32 → Prop) : Prop := (a_2 < 0 → (post (0 : Int32))) ∧ (¬ a_2 < 0 → ((vp_in a_1 4) ∧ (((s_sizes a_1.toNatClampNeg) ≤ a_2 → (post (0 : Int32))) ∧ (¬ (s_sizes a_1.toNatClampNeg) ≤ a_2 → (post (1 : Int32))))))
set_option maxHeartbeats 4000000 in
set_option maxRecDepth 100000 in
theorem m_X2_isCell (l : Launch) (dC : Nat → ClassId) (dI : Nat → Nat → Nat) (cyI cyJ : ClassId) (aa : Nat → Nat) (sz : Nat) {s_lanes : Nat → Int32} {s_sizes : Nat → Int32} {s_cells : Nat → Int32} {x_kinds : Nat → Int32} {x_digits : Nat → Int32} {x_causes : Nat → Int32} {x_effects : Nat → Int32} {x_things : Int32} {x_follows : Int32} {x_due : Int32} {t_kinds : Nat → Int32} {t_digits : Nat → Int32} {t_caseRow : Nat → Int32} {t_weights : Nat → Int32} {t_order : Nat → Int32} {t_calls : Nat → Int32} {t_things : Int32} {t_caseCount : Int32} {t_caseSet : Int64} {p_callsOfCase : Nat → Int64} {p_partOfCase : Nat → Int32} {p_callsOfPart : Nat → Int64} {p_cases : Int32} {p_parts : Int32} {r_cases : Nat → Int32} {r_hours : Nat → Int32} {r_sets : Nat → Int32} {r_count : Int32} {u_lists : Nat → Int32} {u_breaths : Nat → Int32} {u_heard : Nat → Int32} {u_traced : Int32} {u_lastFault : Int32} {a_1 : Int32} {a_2 : Int32} {post : Int32 → Prop} (h : w_X2_isCell s_sizes a_1 a_2 post) : Met l yX2_isCell wsX2_isCell (xq_R 0 0) (va_Pc [.ref (aa 1), .int a_1, .int a_2] (xq_P (dC, dI) [(cyI, .int), (cyJ, .long)] (wc_u cyI cyJ aa s_lanes s_sizes s_cells x_kinds x_digits x_causes x_effects x_things x_follows x_due t_kinds t_digits t_caseRow t_weights t_order t_calls t_things t_caseCount t_caseSet p_callsOfCase p_partOfCase p_callsOfPart p_cases p_parts r_cases r_hours r_sets r_count u_lists u_breaths u_heard u_traced u_lastFault) sz)) (va_Qi (fun (rr : Int32) (uu : Unit) => post rr ) (fun (uu : Unit) => xq_B (dC, dI) [(cyI, .int), (cyJ, .long)] (va_A (wc_u cyI cyJ aa s_lanes s_sizes s_cells x_kinds x_digits x_causes x_effects x_things x_follows x_due t_kinds t_digits t_caseRow t_weights t_order t_calls t_things t_caseCount t_caseSet p_callsOfCase p_partOfCase p_callsOfPart p_cases p_parts r_cases r_hours r_sets r_count u_lists u_breaths u_heard u_traced u_lastFault) sz) (wc_u cyI cyJ aa s_lanes s_sizes s_cells x_kinds x_digits x_causes x_effects x_things x_follows x_due t_kinds t_digits t_caseRow t_weights t_order t_calls t_things t_caseCount t_caseSet p_callsOfCase p_partOfCase p_callsOfPart p_cases p_parts r_cases r_hours r_sets r_count u_lists u_breaths u_heard u_traced u_lastFault)) (va_A (wc_u cyI cyJ aa s_lanes s_sizes s_cells x_kinds x_digits x_causes x_effects x_things x_follows x_due t_kinds t_digits t_caseRow t_weights t_order t_calls t_things t_caseCount t_caseSet p_callsOfCase p_partOfCase p_callsOfPart p_cases p_parts r_cases r_hours r_sets r_count u_lists u_breaths u_heard u_traced u_lastFault) sz)) 0 0 (va_A (wc_u cyI cyJ aa s_lanes s_sizes s_cells x_kinds x_digits x_causes x_effects x_things x_follows x_due t_kinds t_digits t_caseRow t_weights t_order t_calls t_things t_caseCount t_caseSet p_callsOfCase p_partOfCase p_callsOfPart p_cases p_parts r_cases r_hours r_sets r_count u_lists u_breaths u_heard u_traced u_lastFault) sz) := by
  refine xq_M (cc := cX2_isCell) (maxL := 3) (ret := (some .boolean)) (QA := fun A => va_Qi (fun (rr : Int32) (uu : Unit) => post rr ) (fun (uu : Unit) => xq_B (dC, dI) [(cyI, .int), (cyJ, .long)] A (wc_u cyI cyJ aa s_lanes s_sizes s_cells x_kinds x_digits x_causes x_effects x_things x_follows x_due t_kinds t_digits t_caseRow t_weights t_order t_calls t_things t_caseCount t_caseSet p_callsOfCase p_partOfCase p_callsOfPart p_cases p_parts r_cases r_hours r_sets r_count u_lists u_breaths u_heard u_traced u_lastFault)) A) (by decide) rfl (Nat.le_of_ble_eq_true rfl) ?_
  intro p e s m args below meth c A ls Q hQ hx hb hr hml hts hown hlocks hsz hP hK hD hA hS hN hl
  subst hsz
  have hl : lv_has ls 3 [(0, .ref (aa 1)), (1, .int a_1), (2, .int a_2)] := hl
  have hi_X2 : ∀ w ∈ wsX20, w ∈ wsX2_isCell := fun _ h => List.mem_cons_of_mem _ (List.mem_append_right _ h)
  have fl_15 := hts (.fieldLink RX2 15 "UnsaidCalls$Sheets" "sizes" "[I") (by decide +kernel)
  unfold w_X2_isCell at h
  refine lv_iload_n hx hb dX2_isCell_0 rfl (lv_at hl 2 rfl) ?_
  refine lv_if_lt (tgt := 18) hx hb dX2_isCell_1 (by decide) (fun hc_3 => ?_) (fun hc_3 => ?_)
  · have h := h.1 hc_3
    refine lv_iconst (v := (0 : Int32)) hx hb dX2_isCell_18 (by decide) ?_
    exact xq_rz hQ hx hb hr (by decide) hP hK hD hS () rfl h dX2_isCell_19 hlocks
  · have h := h.2 hc_3
    refine lv_iload_n hx hb dX2_isCell_4 rfl (lv_at hl 2 rfl) ?_
    refine lv_aload_n hx hb dX2_isCell_5 rfl (lv_at hl 0 rfl) ?_
    refine va_get (D := (dC, dI)) (ci := 2) (v := .ref (aa 3)) (C := RX2) (T := TX2) (N := 3) hx hb hts hi_X2 hown hK hP 1 rfl rfl 1 (by decide) fl_15 (fun _ h9 => h9) rfl dX2_isCell_6 ?_
    refine lv_iload_n hx hb dX2_isCell_9 rfl (lv_at hl 1 rfl) ?_
    obtain ⟨hv_1, h⟩ := h
    refine va_iald hx hb hK hP 3 0 rfl rfl hv_1 dX2_isCell_10 ?_
    refine lv_icmp_ge (tgt := 18) hx hb dX2_isCell_11 (by decide) (fun hc_2 => ?_) (fun hc_2 => ?_)
    · have h := h.1 hc_2
      refine lv_iconst (v := (0 : Int32)) hx hb dX2_isCell_18 (by decide) ?_
      exact xq_rz hQ hx hb hr (by decide) hP hK hD hS () rfl h dX2_isCell_19 hlocks
    · have h := h.2 hc_2
      refine lv_iconst (v := (1 : Int32)) hx hb dX2_isCell_14 (by decide) ?_
      refine lv_goto (tgt := 19) hx hb dX2_isCell_15 (by decide) ?_
      exact xq_rz hQ hx hb hr (by decide) hP hK hD hS () rfl h dX2_isCell_19 hlocks
def w_X2_at (s_sizes : Nat → Int32) (s_cells : Nat → Int32) (a_1 : Int32) (a_2 : Int32) (post : Int32 → Prop) : Prop := w_X2_isCell s_sizes a_1 a_2 (fun (rr_1 : Int32) => (rr_1 = 0 → (post (0 : Int32))) ∧ (¬ rr_1 = 0 → ((vp_in ((a_1 * (60 : Int32)) + a_2) 240) ∧ (post (s_cells ((a_1 * (60 : Int32)) + a_2).toNatClampNeg)))))
set_option maxHeartbeats 4000000 in
set_option maxRecDepth 100000 in
theorem m_X2_at (l : Launch) (dC : Nat → ClassId) (dI : Nat → Nat → Nat) (cyI cyJ : ClassId) (aa : Nat → Nat) (sz : Nat) {s_lanes : Nat → Int32} {s_sizes : Nat → Int32} {s_cells : Nat → Int32} {x_kinds : Nat → Int32} {x_digits : Nat → Int32} {x_causes : Nat → Int32} {x_effects : Nat → Int32} {x_things : Int32} {x_follows : Int32} {x_due : Int32} {t_kinds : Nat → Int32} {t_digits : Nat → Int32} {t_caseRow : Nat → Int32} {t_weights : Nat → Int32} {t_order : Nat → Int32} {t_calls : Nat → Int32} {t_things : Int32} {t_caseCount : Int32} {t_caseSet : Int64} {p_callsOfCase : Nat → Int64} {p_partOfCase : Nat → Int32} {p_callsOfPart : Nat → Int64} {p_cases : Int32} {p_parts : Int32} {r_cases : Nat → Int32} {r_hours : Nat → Int32} {r_sets : Nat → Int32} {r_count : Int32} {u_lists : Nat → Int32} {u_breaths : Nat → Int32} {u_heard : Nat → Int32} {u_traced : Int32} {u_lastFault : Int32} {a_1 : Int32} {a_2 : Int32} {post : Int32 → Prop} (h : w_X2_at s_sizes s_cells a_1 a_2 post) : Met l yX2_at wsX2_at (xq_R 1 22) (va_Pc [.ref (aa 1), .int a_1, .int a_2] (xq_P (dC, dI) [(cyI, .int), (cyJ, .long)] (wc_u cyI cyJ aa s_lanes s_sizes s_cells x_kinds x_digits x_causes x_effects x_things x_follows x_due t_kinds t_digits t_caseRow t_weights t_order t_calls t_things t_caseCount t_caseSet p_callsOfCase p_partOfCase p_callsOfPart p_cases p_parts r_cases r_hours r_sets r_count u_lists u_breaths u_heard u_traced u_lastFault) sz)) (va_Qi (fun (rr : Int32) (uu : Unit) => post rr ) (fun (uu : Unit) => xq_B (dC, dI) [(cyI, .int), (cyJ, .long)] (va_A (wc_u cyI cyJ aa s_lanes s_sizes s_cells x_kinds x_digits x_causes x_effects x_things x_follows x_due t_kinds t_digits t_caseRow t_weights t_order t_calls t_things t_caseCount t_caseSet p_callsOfCase p_partOfCase p_callsOfPart p_cases p_parts r_cases r_hours r_sets r_count u_lists u_breaths u_heard u_traced u_lastFault) sz) (wc_u cyI cyJ aa s_lanes s_sizes s_cells x_kinds x_digits x_causes x_effects x_things x_follows x_due t_kinds t_digits t_caseRow t_weights t_order t_calls t_things t_caseCount t_caseSet p_callsOfCase p_partOfCase p_callsOfPart p_cases p_parts r_cases r_hours r_sets r_count u_lists u_breaths u_heard u_traced u_lastFault)) (va_A (wc_u cyI cyJ aa s_lanes s_sizes s_cells x_kinds x_digits x_causes x_effects x_things x_follows x_due t_kinds t_digits t_caseRow t_weights t_order t_calls t_things t_caseCount t_caseSet p_callsOfCase p_partOfCase p_callsOfPart p_cases p_parts r_cases r_hours r_sets r_count u_lists u_breaths u_heard u_traced u_lastFault) sz)) 0 0 (va_A (wc_u cyI cyJ aa s_lanes s_sizes s_cells x_kinds x_digits x_causes x_effects x_things x_follows x_due t_kinds t_digits t_caseRow t_weights t_order t_calls t_things t_caseCount t_caseSet p_callsOfCase p_partOfCase p_callsOfPart p_cases p_parts r_cases r_hours r_sets r_count u_lists u_breaths u_heard u_traced u_lastFault) sz) := by
  refine xq_M (cc := cX2_at) (maxL := 3) (ret := (some .int)) (QA := fun A => va_Qi (fun (rr : Int32) (uu : Unit) => post rr ) (fun (uu : Unit) => xq_B (dC, dI) [(cyI, .int), (cyJ, .long)] A (wc_u cyI cyJ aa s_lanes s_sizes s_cells x_kinds x_digits x_causes x_effects x_things x_follows x_due t_kinds t_digits t_caseRow t_weights t_order t_calls t_things t_caseCount t_caseSet p_callsOfCase p_partOfCase p_callsOfPart p_cases p_parts r_cases r_hours r_sets r_count u_lists u_breaths u_heard u_traced u_lastFault)) A) (by decide) rfl (Nat.le_of_ble_eq_true rfl) ?_
  intro p e s m args below meth c A ls Q hQ hx hb hr hml hts hown hlocks hsz hP hK hD hA hS hN hl
  subst hsz
  have hl : lv_has ls 3 [(0, .ref (aa 1)), (1, .int a_1), (2, .int a_2)] := hl
  have hi_X2 : ∀ w ∈ wsX20, w ∈ wsX2_at := fun _ h => List.mem_cons_of_mem _ (List.mem_append_right _ h)
  have fl_18 := hts (.fieldLink RX2 18 "UnsaidCalls$Sheets" "cells" "[I") (by decide +kernel)
  unfold w_X2_at at h
  refine lv_aload_n hx hb dX2_at_0 rfl (lv_at hl 0 rfl) ?_
  refine lv_iload_n hx hb dX2_at_1 rfl (lv_at hl 1 rfl) ?_
  refine lv_iload_n hx hb dX2_at_2 rfl (lv_at hl 2 rfl) ?_
  refine xq_ci (va_runV (As := [.int a_1, .int a_2]) (rest := []) ⟨hx, hb, hml, hown, hts⟩ (m_X2_isCell l dC dI cyI cyJ aa s.heap.size h) (cwV 2 hts gX2_at_X2_isCell rfl rfl rfl (by decide +kernel) ⟨Nat.le_of_ble_eq_true rfl, Nat.le_of_ble_eq_true rfl⟩) (xq_preV hK hP hD hN (ci := 2) (q0 := 1) rfl rfl) rfl rfl hl.1 rfl (lv_room (Nat.le_of_ble_eq_true rfl)) dX2_at_3 ⟨Nat.le_refl _, Nat.le_refl _⟩) hD hS hA (fun rr_1 uu H locs h hP hD hS => ?_)
  have hP : va_P (dC, dI) vwCl (wc_u cyI cyJ aa s_lanes s_sizes s_cells x_kinds x_digits x_causes x_effects x_things x_follows x_due t_kinds t_digits t_caseRow t_weights t_order t_calls t_things t_caseCount t_caseSet p_callsOfCase p_partOfCase p_callsOfPart p_cases p_parts r_cases r_hours r_sets r_count u_lists u_breaths u_heard u_traced u_lastFault) H := hP
  have hD : va_D A (wc_u cyI cyJ aa s_lanes s_sizes s_cells x_kinds x_digits x_causes x_effects x_things x_follows x_due t_kinds t_digits t_caseRow t_weights t_order t_calls t_things t_caseCount t_caseSet p_callsOfCase p_partOfCase p_callsOfPart p_cases p_parts r_cases r_hours r_sets r_count u_lists u_breaths u_heard u_traced u_lastFault) := hD
  refine lv_if_eq (tgt := 23) hx hb dX2_at_6 (by decide) (fun hc_3 => ?_) (fun hc_3 => ?_)
  · have h := h.1 hc_3
    refine lv_iconst (v := (0 : Int32)) hx hb dX2_at_23 (by decide) ?_
    exact xq_ri hQ hx hb hr hP hK hD hS () rfl h dX2_at_24 hlocks
  · have h := h.2 hc_3
    refine lv_aload_n hx hb dX2_at_9 rfl (lv_at hl 0 rfl) ?_
    refine va_get (D := (dC, dI)) (ci := 2) (v := .ref (aa 4)) (C := RX2) (T := TX2) (N := 3) hx hb hts hi_X2 hown hK hP 1 rfl rfl 2 (by decide) fl_18 (fun _ h9 => h9) rfl dX2_at_10 ?_
    refine lv_iload_n hx hb dX2_at_13 rfl (lv_at hl 1 rfl) ?_
    refine lv_bipush (v := (60 : Int32)) hx hb dX2_at_14 (by decide) ?_
    refine lv_imul hx hb dX2_at_16 ?_
    refine lv_iload_n hx hb dX2_at_17 rfl (lv_at hl 2 rfl) ?_
    refine lv_iadd hx hb dX2_at_18 ?_
    obtain ⟨hv_2, h⟩ := h
    refine va_iald hx hb hK hP 4 0 rfl rfl hv_2 dX2_at_19 ?_
    refine lv_goto (tgt := 24) hx hb dX2_at_20 (by decide) ?_
    exact xq_ri hQ hx hb hr hP hK hD hS () rfl h dX2_at_24 hlocks
def w_X2_drop (s_lanes : Nat → Int32) (s_sizes : Nat → Int32) (a_1 : Int32) (post : (Nat → Int32) → (Nat → Int32) → Prop) : Prop := (vp_in a_1 4) ∧ ((vp_in a_1 4) ∧ (post (upd s_lanes a_1.toNatClampNeg (-1 : Int32)) (upd s_sizes a_1.toNatClampNeg (0 : Int32))))
set_option maxHeartbeats 4000000 in
set_option maxRecDepth 100000 in
theorem m_X2_drop (l : Launch) (dC : Nat → ClassId) (dI : Nat → Nat → Nat) (cyI cyJ : ClassId) (aa : Nat → Nat) (sz : Nat) {s_lanes : Nat → Int32} {s_sizes : Nat → Int32} {s_cells : Nat → Int32} {x_kinds : Nat → Int32} {x_digits : Nat → Int32} {x_causes : Nat → Int32} {x_effects : Nat → Int32} {x_things : Int32} {x_follows : Int32} {x_due : Int32} {t_kinds : Nat → Int32} {t_digits : Nat → Int32} {t_caseRow : Nat → Int32} {t_weights : Nat → Int32} {t_order : Nat → Int32} {t_calls : Nat → Int32} {t_things : Int32} {t_caseCount : Int32} {t_caseSet : Int64} {p_callsOfCase : Nat → Int64} {p_partOfCase : Nat → Int32} {p_callsOfPart : Nat → Int64} {p_cases : Int32} {p_parts : Int32} {r_cases : Nat → Int32} {r_hours : Nat → Int32} {r_sets : Nat → Int32} {r_count : Int32} {u_lists : Nat → Int32} {u_breaths : Nat → Int32} {u_heard : Nat → Int32} {u_traced : Int32} {u_lastFault : Int32} {a_1 : Int32} {post : (Nat → Int32) → (Nat → Int32) → Prop} (h : w_X2_drop s_lanes s_sizes a_1 post) : Met l yX2_drop wsX2_drop (xq_R 0 0) (va_Pc [.ref (aa 1), .int a_1] (xq_P (dC, dI) [(cyI, .int), (cyJ, .long)] (wc_u cyI cyJ aa s_lanes s_sizes s_cells x_kinds x_digits x_causes x_effects x_things x_follows x_due t_kinds t_digits t_caseRow t_weights t_order t_calls t_things t_caseCount t_caseSet p_callsOfCase p_partOfCase p_callsOfPart p_cases p_parts r_cases r_hours r_sets r_count u_lists u_breaths u_heard u_traced u_lastFault) sz)) (va_Qv (fun (uu : (Nat → Int32) × (Nat → Int32)) => post uu.1 uu.2) (fun (uu : (Nat → Int32) × (Nat → Int32)) => xq_B (dC, dI) [(cyI, .int), (cyJ, .long)] (va_A (wc_u cyI cyJ aa s_lanes s_sizes s_cells x_kinds x_digits x_causes x_effects x_things x_follows x_due t_kinds t_digits t_caseRow t_weights t_order t_calls t_things t_caseCount t_caseSet p_callsOfCase p_partOfCase p_callsOfPart p_cases p_parts r_cases r_hours r_sets r_count u_lists u_breaths u_heard u_traced u_lastFault) sz) (wc_u cyI cyJ aa uu.1 uu.2 s_cells x_kinds x_digits x_causes x_effects x_things x_follows x_due t_kinds t_digits t_caseRow t_weights t_order t_calls t_things t_caseCount t_caseSet p_callsOfCase p_partOfCase p_callsOfPart p_cases p_parts r_cases r_hours r_sets r_count u_lists u_breaths u_heard u_traced u_lastFault)) (va_A (wc_u cyI cyJ aa s_lanes s_sizes s_cells x_kinds x_digits x_causes x_effects x_things x_follows x_due t_kinds t_digits t_caseRow t_weights t_order t_calls t_things t_caseCount t_caseSet p_callsOfCase p_partOfCase p_callsOfPart p_cases p_parts r_cases r_hours r_sets r_count u_lists u_breaths u_heard u_traced u_lastFault) sz)) 0 0 (va_A (wc_u cyI cyJ aa s_lanes s_sizes s_cells x_kinds x_digits x_causes x_effects x_things x_follows x_due t_kinds t_digits t_caseRow t_weights t_order t_calls t_things t_caseCount t_caseSet p_callsOfCase p_partOfCase p_callsOfPart p_cases p_parts r_cases r_hours r_sets r_count u_lists u_breaths u_heard u_traced u_lastFault) sz) := by
  refine xq_M (cc := cX2_drop) (maxL := 2) (ret := none) (QA := fun A => va_Qv (fun (uu : (Nat → Int32) × (Nat → Int32)) => post uu.1 uu.2) (fun (uu : (Nat → Int32) × (Nat → Int32)) => xq_B (dC, dI) [(cyI, .int), (cyJ, .long)] A (wc_u cyI cyJ aa uu.1 uu.2 s_cells x_kinds x_digits x_causes x_effects x_things x_follows x_due t_kinds t_digits t_caseRow t_weights t_order t_calls t_things t_caseCount t_caseSet p_callsOfCase p_partOfCase p_callsOfPart p_cases p_parts r_cases r_hours r_sets r_count u_lists u_breaths u_heard u_traced u_lastFault)) A) (by decide) rfl (Nat.le_of_ble_eq_true rfl) ?_
  intro p e s m args below meth c A ls Q hQ hx hb hr hml hts hown hlocks hsz hP hK hD hA hS hN hl
  subst hsz
  have hl : lv_has ls 2 [(0, .ref (aa 1)), (1, .int a_1)] := hl
  have hi_X2 : ∀ w ∈ wsX20, w ∈ wsX2_drop := fun _ h => List.mem_cons_of_mem _ (List.mem_append_right _ h)
  have fl_9 := hts (.fieldLink RX2 9 "UnsaidCalls$Sheets" "lanes" "[I") (by decide +kernel)
  have fl_15 := hts (.fieldLink RX2 15 "UnsaidCalls$Sheets" "sizes" "[I") (by decide +kernel)
  unfold w_X2_drop at h
  refine lv_aload_n hx hb dX2_drop_0 rfl (lv_at hl 0 rfl) ?_
  refine va_get (D := (dC, dI)) (ci := 2) (v := .ref (aa 2)) (C := RX2) (T := TX2) (N := 3) hx hb hts hi_X2 hown hK hP 1 rfl rfl 0 (by decide) fl_9 (fun _ h9 => h9) rfl dX2_drop_1 ?_
  refine lv_iload_n hx hb dX2_drop_4 rfl (lv_at hl 1 rfl) ?_
  refine lv_iconst (v := (-1 : Int32)) hx hb dX2_drop_5 (by decide) ?_
  obtain ⟨hv_1, h⟩ := h
  refine va_iast hx hb hK hP hD hS 2 0 rfl rfl hv_1 dX2_drop_6 (fun H locs hP hD hS => ?_)
  have hP : va_P (dC, dI) vwCl (wc_u cyI cyJ aa (upd s_lanes a_1.toNatClampNeg (-1 : Int32)) s_sizes s_cells x_kinds x_digits x_causes x_effects x_things x_follows x_due t_kinds t_digits t_caseRow t_weights t_order t_calls t_things t_caseCount t_caseSet p_callsOfCase p_partOfCase p_callsOfPart p_cases p_parts r_cases r_hours r_sets r_count u_lists u_breaths u_heard u_traced u_lastFault) H := hP
  have hD : va_D A (wc_u cyI cyJ aa (upd s_lanes a_1.toNatClampNeg (-1 : Int32)) s_sizes s_cells x_kinds x_digits x_causes x_effects x_things x_follows x_due t_kinds t_digits t_caseRow t_weights t_order t_calls t_things t_caseCount t_caseSet p_callsOfCase p_partOfCase p_callsOfPart p_cases p_parts r_cases r_hours r_sets r_count u_lists u_breaths u_heard u_traced u_lastFault) := hD
  refine lv_aload_n hx hb dX2_drop_7 rfl (lv_at hl 0 rfl) ?_
  refine va_get (D := (dC, dI)) (ci := 2) (v := .ref (aa 3)) (C := RX2) (T := TX2) (N := 3) hx hb hts hi_X2 hown hK hP 1 rfl rfl 1 (by decide) fl_15 (fun _ h9 => h9) rfl dX2_drop_8 ?_
  refine lv_iload_n hx hb dX2_drop_11 rfl (lv_at hl 1 rfl) ?_
  refine lv_iconst (v := (0 : Int32)) hx hb dX2_drop_12 (by decide) ?_
  obtain ⟨hv_2, h⟩ := h
  refine va_iast hx hb hK hP hD hS 3 0 rfl rfl hv_2 dX2_drop_13 (fun H locs hP hD hS => ?_)
  have hP : va_P (dC, dI) vwCl (wc_u cyI cyJ aa (upd s_lanes a_1.toNatClampNeg (-1 : Int32)) (upd s_sizes a_1.toNatClampNeg (0 : Int32)) s_cells x_kinds x_digits x_causes x_effects x_things x_follows x_due t_kinds t_digits t_caseRow t_weights t_order t_calls t_things t_caseCount t_caseSet p_callsOfCase p_partOfCase p_callsOfPart p_cases p_parts r_cases r_hours r_sets r_count u_lists u_breaths u_heard u_traced u_lastFault) H := hP
  have hD : va_D A (wc_u cyI cyJ aa (upd s_lanes a_1.toNatClampNeg (-1 : Int32)) (upd s_sizes a_1.toNatClampNeg (0 : Int32)) s_cells x_kinds x_digits x_causes x_effects x_things x_follows x_due t_kinds t_digits t_caseRow t_weights t_order t_calls t_things t_caseCount t_caseSet p_callsOfCase p_partOfCase p_callsOfPart p_cases p_parts r_cases r_hours r_sets r_count u_lists u_breaths u_heard u_traced u_lastFault) := hD
  exact xq_rv hQ hx hb hr hP hK hD hS ((upd s_lanes a_1.toNatClampNeg (-1 : Int32)), (upd s_sizes a_1.toNatClampNeg (0 : Int32))) rfl h dX2_drop_14 hlocks
def w_X2_hasCells (s_sizes : Nat → Int32) (a_1 : Int32) (a_2 : Int32) (a_3 : Int32) (post : Int32 → Prop) : Prop := (a_3 < 0 → (post (0 : Int32))) ∧ (¬ a_3 < 0 → ((a_2 < 0 → (post (0 : Int32))) ∧ (¬ a_2 < 0 → ((vp_in a_1 4) ∧ (((s_sizes a_1.toNatClampNeg) < a_2 → (post (0 : Int32))) ∧ (¬ (s_sizes a_1.toNatClampNeg) < a_2 → ((vp_in a_1 4) ∧ ((((s_sizes a_1.toNatClampNeg) - a_2) < a_3 → (post (0 : Int32))) ∧ (¬ ((s_sizes a_1.toNatClampNeg) - a_2) < a_3 → (post (1 : Int32)))))))))))
set_option maxHeartbeats 4000000 in
set_option maxRecDepth 100000 in
theorem m_X2_hasCells (l : Launch) (dC : Nat → ClassId) (dI : Nat → Nat → Nat) (cyI cyJ : ClassId) (aa : Nat → Nat) (sz : Nat) {s_lanes : Nat → Int32} {s_sizes : Nat → Int32} {s_cells : Nat → Int32} {x_kinds : Nat → Int32} {x_digits : Nat → Int32} {x_causes : Nat → Int32} {x_effects : Nat → Int32} {x_things : Int32} {x_follows : Int32} {x_due : Int32} {t_kinds : Nat → Int32} {t_digits : Nat → Int32} {t_caseRow : Nat → Int32} {t_weights : Nat → Int32} {t_order : Nat → Int32} {t_calls : Nat → Int32} {t_things : Int32} {t_caseCount : Int32} {t_caseSet : Int64} {p_callsOfCase : Nat → Int64} {p_partOfCase : Nat → Int32} {p_callsOfPart : Nat → Int64} {p_cases : Int32} {p_parts : Int32} {r_cases : Nat → Int32} {r_hours : Nat → Int32} {r_sets : Nat → Int32} {r_count : Int32} {u_lists : Nat → Int32} {u_breaths : Nat → Int32} {u_heard : Nat → Int32} {u_traced : Int32} {u_lastFault : Int32} {a_1 : Int32} {a_2 : Int32} {a_3 : Int32} {post : Int32 → Prop} (h : w_X2_hasCells s_sizes a_1 a_2 a_3 post) : Met l yX2_hasCells wsX2_hasCells (xq_R 0 0) (va_Pc [.ref (aa 1), .int a_1, .int a_2, .int a_3] (xq_P (dC, dI) [(cyI, .int), (cyJ, .long)] (wc_u cyI cyJ aa s_lanes s_sizes s_cells x_kinds x_digits x_causes x_effects x_things x_follows x_due t_kinds t_digits t_caseRow t_weights t_order t_calls t_things t_caseCount t_caseSet p_callsOfCase p_partOfCase p_callsOfPart p_cases p_parts r_cases r_hours r_sets r_count u_lists u_breaths u_heard u_traced u_lastFault) sz)) (va_Qi (fun (rr : Int32) (uu : Unit) => post rr ) (fun (uu : Unit) => xq_B (dC, dI) [(cyI, .int), (cyJ, .long)] (va_A (wc_u cyI cyJ aa s_lanes s_sizes s_cells x_kinds x_digits x_causes x_effects x_things x_follows x_due t_kinds t_digits t_caseRow t_weights t_order t_calls t_things t_caseCount t_caseSet p_callsOfCase p_partOfCase p_callsOfPart p_cases p_parts r_cases r_hours r_sets r_count u_lists u_breaths u_heard u_traced u_lastFault) sz) (wc_u cyI cyJ aa s_lanes s_sizes s_cells x_kinds x_digits x_causes x_effects x_things x_follows x_due t_kinds t_digits t_caseRow t_weights t_order t_calls t_things t_caseCount t_caseSet p_callsOfCase p_partOfCase p_callsOfPart p_cases p_parts r_cases r_hours r_sets r_count u_lists u_breaths u_heard u_traced u_lastFault)) (va_A (wc_u cyI cyJ aa s_lanes s_sizes s_cells x_kinds x_digits x_causes x_effects x_things x_follows x_due t_kinds t_digits t_caseRow t_weights t_order t_calls t_things t_caseCount t_caseSet p_callsOfCase p_partOfCase p_callsOfPart p_cases p_parts r_cases r_hours r_sets r_count u_lists u_breaths u_heard u_traced u_lastFault) sz)) 0 0 (va_A (wc_u cyI cyJ aa s_lanes s_sizes s_cells x_kinds x_digits x_causes x_effects x_things x_follows x_due t_kinds t_digits t_caseRow t_weights t_order t_calls t_things t_caseCount t_caseSet p_callsOfCase p_partOfCase p_callsOfPart p_cases p_parts r_cases r_hours r_sets r_count u_lists u_breaths u_heard u_traced u_lastFault) sz) := by
  refine xq_M (cc := cX2_hasCells) (maxL := 4) (ret := (some .boolean)) (QA := fun A => va_Qi (fun (rr : Int32) (uu : Unit) => post rr ) (fun (uu : Unit) => xq_B (dC, dI) [(cyI, .int), (cyJ, .long)] A (wc_u cyI cyJ aa s_lanes s_sizes s_cells x_kinds x_digits x_causes x_effects x_things x_follows x_due t_kinds t_digits t_caseRow t_weights t_order t_calls t_things t_caseCount t_caseSet p_callsOfCase p_partOfCase p_callsOfPart p_cases p_parts r_cases r_hours r_sets r_count u_lists u_breaths u_heard u_traced u_lastFault)) A) (by decide) rfl (Nat.le_of_ble_eq_true rfl) ?_
  intro p e s m args below meth c A ls Q hQ hx hb hr hml hts hown hlocks hsz hP hK hD hA hS hN hl
  subst hsz
  have hl : lv_has ls 4 [(0, .ref (aa 1)), (1, .int a_1), (2, .int a_2), (3, .int a_3)] := hl
  have hi_X2 : ∀ w ∈ wsX20, w ∈ wsX2_hasCells := fun _ h => List.mem_cons_of_mem _ (List.mem_append_right _ h)
  have fl_15 := hts (.fieldLink RX2 15 "UnsaidCalls$Sheets" "sizes" "[I") (by decide +kernel)
  unfold w_X2_hasCells at h
  refine lv_iload_n hx hb dX2_hasCells_0 rfl (lv_at hl 3 rfl) ?_
  refine lv_if_lt (tgt := 34) hx hb dX2_hasCells_1 (by decide) (fun hc_6 => ?_) (fun hc_6 => ?_)
  · have h := h.1 hc_6
    refine lv_iconst (v := (0 : Int32)) hx hb dX2_hasCells_34 (by decide) ?_
    exact xq_rz hQ hx hb hr (by decide) hP hK hD hS () rfl h dX2_hasCells_35 hlocks
  · have h := h.2 hc_6
    refine lv_iload_n hx hb dX2_hasCells_4 rfl (lv_at hl 2 rfl) ?_
    refine lv_if_lt (tgt := 34) hx hb dX2_hasCells_5 (by decide) (fun hc_5 => ?_) (fun hc_5 => ?_)
    · have h := h.1 hc_5
      refine lv_iconst (v := (0 : Int32)) hx hb dX2_hasCells_34 (by decide) ?_
      exact xq_rz hQ hx hb hr (by decide) hP hK hD hS () rfl h dX2_hasCells_35 hlocks
    · have h := h.2 hc_5
      refine lv_iload_n hx hb dX2_hasCells_8 rfl (lv_at hl 2 rfl) ?_
      refine lv_aload_n hx hb dX2_hasCells_9 rfl (lv_at hl 0 rfl) ?_
      refine va_get (D := (dC, dI)) (ci := 2) (v := .ref (aa 3)) (C := RX2) (T := TX2) (N := 3) hx hb hts hi_X2 hown hK hP 1 rfl rfl 1 (by decide) fl_15 (fun _ h9 => h9) rfl dX2_hasCells_10 ?_
      refine lv_iload_n hx hb dX2_hasCells_13 rfl (lv_at hl 1 rfl) ?_
      obtain ⟨hv_1, h⟩ := h
      refine va_iald hx hb hK hP 3 0 rfl rfl hv_1 dX2_hasCells_14 ?_
      refine lv_icmp_gt (tgt := 34) hx hb dX2_hasCells_15 (by decide) (fun hc_4 => ?_) (fun hc_4 => ?_)
      · have h := h.1 hc_4
        refine lv_iconst (v := (0 : Int32)) hx hb dX2_hasCells_34 (by decide) ?_
        exact xq_rz hQ hx hb hr (by decide) hP hK hD hS () rfl h dX2_hasCells_35 hlocks
      · have h := h.2 hc_4
        refine lv_iload_n hx hb dX2_hasCells_18 rfl (lv_at hl 3 rfl) ?_
        refine lv_aload_n hx hb dX2_hasCells_19 rfl (lv_at hl 0 rfl) ?_
        refine va_get (D := (dC, dI)) (ci := 2) (v := .ref (aa 3)) (C := RX2) (T := TX2) (N := 3) hx hb hts hi_X2 hown hK hP 1 rfl rfl 1 (by decide) fl_15 (fun _ h9 => h9) rfl dX2_hasCells_20 ?_
        refine lv_iload_n hx hb dX2_hasCells_23 rfl (lv_at hl 1 rfl) ?_
        obtain ⟨hv_2, h⟩ := h
        refine va_iald hx hb hK hP 3 0 rfl rfl hv_2 dX2_hasCells_24 ?_
        refine lv_iload_n hx hb dX2_hasCells_25 rfl (lv_at hl 2 rfl) ?_
        refine lv_isub hx hb dX2_hasCells_26 ?_
        refine lv_icmp_gt (tgt := 34) hx hb dX2_hasCells_27 (by decide) (fun hc_3 => ?_) (fun hc_3 => ?_)
        · have h := h.1 hc_3
          refine lv_iconst (v := (0 : Int32)) hx hb dX2_hasCells_34 (by decide) ?_
          exact xq_rz hQ hx hb hr (by decide) hP hK hD hS () rfl h dX2_hasCells_35 hlocks
        · have h := h.2 hc_3
          refine lv_iconst (v := (1 : Int32)) hx hb dX2_hasCells_30 (by decide) ?_
          refine lv_goto (tgt := 35) hx hb dX2_hasCells_31 (by decide) ?_
          exact xq_rz hQ hx hb hr (by decide) hP hK hD hS () rfl h dX2_hasCells_35 hlocks
def w_X2_hasRow (s_lanes : Nat → Int32) (a_1 : Int32) (post : Int32 → Prop) : Prop := (vp_in a_1 4) ∧ (((s_lanes a_1.toNatClampNeg) = (-1 : Int32) → (post (0 : Int32))) ∧ (¬ (s_lanes a_1.toNatClampNeg) = (-1 : Int32) → (post (1 : Int32))))
set_option maxHeartbeats 4000000 in
set_option maxRecDepth 100000 in
theorem m_X2_hasRow (l : Launch) (dC : Nat → ClassId) (dI : Nat → Nat → Nat) (cyI cyJ : ClassId) (aa : Nat → Nat) (sz : Nat) {s_lanes : Nat → Int32} {s_sizes : Nat → Int32} {s_cells : Nat → Int32} {x_kinds : Nat → Int32} {x_digits : Nat → Int32} {x_causes : Nat → Int32} {x_effects : Nat → Int32} {x_things : Int32} {x_follows : Int32} {x_due : Int32} {t_kinds : Nat → Int32} {t_digits : Nat → Int32} {t_caseRow : Nat → Int32} {t_weights : Nat → Int32} {t_order : Nat → Int32} {t_calls : Nat → Int32} {t_things : Int32} {t_caseCount : Int32} {t_caseSet : Int64} {p_callsOfCase : Nat → Int64} {p_partOfCase : Nat → Int32} {p_callsOfPart : Nat → Int64} {p_cases : Int32} {p_parts : Int32} {r_cases : Nat → Int32} {r_hours : Nat → Int32} {r_sets : Nat → Int32} {r_count : Int32} {u_lists : Nat → Int32} {u_breaths : Nat → Int32} {u_heard : Nat → Int32} {u_traced : Int32} {u_lastFault : Int32} {a_1 : Int32} {post : Int32 → Prop} (h : w_X2_hasRow s_lanes a_1 post) : Met l yX2_hasRow wsX2_hasRow (xq_R 0 0) (va_Pc [.ref (aa 1), .int a_1] (xq_P (dC, dI) [(cyI, .int), (cyJ, .long)] (wc_u cyI cyJ aa s_lanes s_sizes s_cells x_kinds x_digits x_causes x_effects x_things x_follows x_due t_kinds t_digits t_caseRow t_weights t_order t_calls t_things t_caseCount t_caseSet p_callsOfCase p_partOfCase p_callsOfPart p_cases p_parts r_cases r_hours r_sets r_count u_lists u_breaths u_heard u_traced u_lastFault) sz)) (va_Qi (fun (rr : Int32) (uu : Unit) => post rr ) (fun (uu : Unit) => xq_B (dC, dI) [(cyI, .int), (cyJ, .long)] (va_A (wc_u cyI cyJ aa s_lanes s_sizes s_cells x_kinds x_digits x_causes x_effects x_things x_follows x_due t_kinds t_digits t_caseRow t_weights t_order t_calls t_things t_caseCount t_caseSet p_callsOfCase p_partOfCase p_callsOfPart p_cases p_parts r_cases r_hours r_sets r_count u_lists u_breaths u_heard u_traced u_lastFault) sz) (wc_u cyI cyJ aa s_lanes s_sizes s_cells x_kinds x_digits x_causes x_effects x_things x_follows x_due t_kinds t_digits t_caseRow t_weights t_order t_calls t_things t_caseCount t_caseSet p_callsOfCase p_partOfCase p_callsOfPart p_cases p_parts r_cases r_hours r_sets r_count u_lists u_breaths u_heard u_traced u_lastFault)) (va_A (wc_u cyI cyJ aa s_lanes s_sizes s_cells x_kinds x_digits x_causes x_effects x_things x_follows x_due t_kinds t_digits t_caseRow t_weights t_order t_calls t_things t_caseCount t_caseSet p_callsOfCase p_partOfCase p_callsOfPart p_cases p_parts r_cases r_hours r_sets r_count u_lists u_breaths u_heard u_traced u_lastFault) sz)) 0 0 (va_A (wc_u cyI cyJ aa s_lanes s_sizes s_cells x_kinds x_digits x_causes x_effects x_things x_follows x_due t_kinds t_digits t_caseRow t_weights t_order t_calls t_things t_caseCount t_caseSet p_callsOfCase p_partOfCase p_callsOfPart p_cases p_parts r_cases r_hours r_sets r_count u_lists u_breaths u_heard u_traced u_lastFault) sz) := by
  refine xq_M (cc := cX2_hasRow) (maxL := 2) (ret := (some .boolean)) (QA := fun A => va_Qi (fun (rr : Int32) (uu : Unit) => post rr ) (fun (uu : Unit) => xq_B (dC, dI) [(cyI, .int), (cyJ, .long)] A (wc_u cyI cyJ aa s_lanes s_sizes s_cells x_kinds x_digits x_causes x_effects x_things x_follows x_due t_kinds t_digits t_caseRow t_weights t_order t_calls t_things t_caseCount t_caseSet p_callsOfCase p_partOfCase p_callsOfPart p_cases p_parts r_cases r_hours r_sets r_count u_lists u_breaths u_heard u_traced u_lastFault)) A) (by decide) rfl (Nat.le_of_ble_eq_true rfl) ?_
  intro p e s m args below meth c A ls Q hQ hx hb hr hml hts hown hlocks hsz hP hK hD hA hS hN hl
  subst hsz
  have hl : lv_has ls 2 [(0, .ref (aa 1)), (1, .int a_1)] := hl
  have hi_X2 : ∀ w ∈ wsX20, w ∈ wsX2_hasRow := fun _ h => List.mem_cons_of_mem _ (List.mem_append_right _ h)
  have fl_9 := hts (.fieldLink RX2 9 "UnsaidCalls$Sheets" "lanes" "[I") (by decide +kernel)
  unfold w_X2_hasRow at h
  refine lv_aload_n hx hb dX2_hasRow_0 rfl (lv_at hl 0 rfl) ?_
  refine va_get (D := (dC, dI)) (ci := 2) (v := .ref (aa 2)) (C := RX2) (T := TX2) (N := 3) hx hb hts hi_X2 hown hK hP 1 rfl rfl 0 (by decide) fl_9 (fun _ h9 => h9) rfl dX2_hasRow_1 ?_
  refine lv_iload_n hx hb dX2_hasRow_4 rfl (lv_at hl 1 rfl) ?_
  obtain ⟨hv_1, h⟩ := h
  refine va_iald hx hb hK hP 2 0 rfl rfl hv_1 dX2_hasRow_5 ?_
  refine lv_iconst (v := (-1 : Int32)) hx hb dX2_hasRow_6 (by decide) ?_
  refine lv_icmp_eq (tgt := 14) hx hb dX2_hasRow_7 (by decide) (fun hc_2 => ?_) (fun hc_2 => ?_)
  · have h := h.1 hc_2
    refine lv_iconst (v := (0 : Int32)) hx hb dX2_hasRow_14 (by decide) ?_
    exact xq_rz hQ hx hb hr (by decide) hP hK hD hS () rfl h dX2_hasRow_15 hlocks
  · have h := h.2 hc_2
    refine lv_iconst (v := (1 : Int32)) hx hb dX2_hasRow_10 (by decide) ?_
    refine lv_goto (tgt := 15) hx hb dX2_hasRow_11 (by decide) ?_
    exact xq_rz hQ hx hb hr (by decide) hP hK hD hS () rfl h dX2_hasRow_15 hlocks
def w_X2_isSheet (a_1 : Int32) (post : Int32 → Prop) : Prop := (a_1 < 0 → (post (0 : Int32))) ∧ (¬ a_1 < 0 → (((4 : Int32) ≤ a_1 → (post (0 : Int32))) ∧ (¬ (4 : Int32) ≤ a_1 → (post (1 : Int32)))))
set_option maxHeartbeats 4000000 in
set_option maxRecDepth 100000 in
theorem m_X2_isSheet (l : Launch) (dC : Nat → ClassId) (dI : Nat → Nat → Nat) (cyI cyJ : ClassId) (aa : Nat → Nat) (sz : Nat) {s_lanes : Nat → Int32} {s_sizes : Nat → Int32} {s_cells : Nat → Int32} {x_kinds : Nat → Int32} {x_digits : Nat → Int32} {x_causes : Nat → Int32} {x_effects : Nat → Int32} {x_things : Int32} {x_follows : Int32} {x_due : Int32} {t_kinds : Nat → Int32} {t_digits : Nat → Int32} {t_caseRow : Nat → Int32} {t_weights : Nat → Int32} {t_order : Nat → Int32} {t_calls : Nat → Int32} {t_things : Int32} {t_caseCount : Int32} {t_caseSet : Int64} {p_callsOfCase : Nat → Int64} {p_partOfCase : Nat → Int32} {p_callsOfPart : Nat → Int64} {p_cases : Int32} {p_parts : Int32} {r_cases : Nat → Int32} {r_hours : Nat → Int32} {r_sets : Nat → Int32} {r_count : Int32} {u_lists : Nat → Int32} {u_breaths : Nat → Int32} {u_heard : Nat → Int32} {u_traced : Int32} {u_lastFault : Int32} {a_1 : Int32} {post : Int32 → Prop} (h : w_X2_isSheet a_1 post) : Met l yX2_isSheet wsX2_isSheet (xq_R 0 0) (va_Pc [.ref (aa 1), .int a_1] (xq_P (dC, dI) [(cyI, .int), (cyJ, .long)] (wc_u cyI cyJ aa s_lanes s_sizes s_cells x_kinds x_digits x_causes x_effects x_things x_follows x_due t_kinds t_digits t_caseRow t_weights t_order t_calls t_things t_caseCount t_caseSet p_callsOfCase p_partOfCase p_callsOfPart p_cases p_parts r_cases r_hours r_sets r_count u_lists u_breaths u_heard u_traced u_lastFault) sz)) (va_Qi (fun (rr : Int32) (uu : Unit) => post rr ) (fun (uu : Unit) => xq_B (dC, dI) [(cyI, .int), (cyJ, .long)] (va_A (wc_u cyI cyJ aa s_lanes s_sizes s_cells x_kinds x_digits x_causes x_effects x_things x_follows x_due t_kinds t_digits t_caseRow t_weights t_order t_calls t_things t_caseCount t_caseSet p_callsOfCase p_partOfCase p_callsOfPart p_cases p_parts r_cases r_hours r_sets r_count u_lists u_breaths u_heard u_traced u_lastFault) sz) (wc_u cyI cyJ aa s_lanes s_sizes s_cells x_kinds x_digits x_causes x_effects x_things x_follows x_due t_kinds t_digits t_caseRow t_weights t_order t_calls t_things t_caseCount t_caseSet p_callsOfCase p_partOfCase p_callsOfPart p_cases p_parts r_cases r_hours r_sets r_count u_lists u_breaths u_heard u_traced u_lastFault)) (va_A (wc_u cyI cyJ aa s_lanes s_sizes s_cells x_kinds x_digits x_causes x_effects x_things x_follows x_due t_kinds t_digits t_caseRow t_weights t_order t_calls t_things t_caseCount t_caseSet p_callsOfCase p_partOfCase p_callsOfPart p_cases p_parts r_cases r_hours r_sets r_count u_lists u_breaths u_heard u_traced u_lastFault) sz)) 0 0 (va_A (wc_u cyI cyJ aa s_lanes s_sizes s_cells x_kinds x_digits x_causes x_effects x_things x_follows x_due t_kinds t_digits t_caseRow t_weights t_order t_calls t_things t_caseCount t_caseSet p_callsOfCase p_partOfCase p_callsOfPart p_cases p_parts r_cases r_hours r_sets r_count u_lists u_breaths u_heard u_traced u_lastFault) sz) := by
  refine xq_M (cc := cX2_isSheet) (maxL := 2) (ret := (some .boolean)) (QA := fun A => va_Qi (fun (rr : Int32) (uu : Unit) => post rr ) (fun (uu : Unit) => xq_B (dC, dI) [(cyI, .int), (cyJ, .long)] A (wc_u cyI cyJ aa s_lanes s_sizes s_cells x_kinds x_digits x_causes x_effects x_things x_follows x_due t_kinds t_digits t_caseRow t_weights t_order t_calls t_things t_caseCount t_caseSet p_callsOfCase p_partOfCase p_callsOfPart p_cases p_parts r_cases r_hours r_sets r_count u_lists u_breaths u_heard u_traced u_lastFault)) A) (by decide) rfl (Nat.le_of_ble_eq_true rfl) ?_
  intro p e s m args below meth c A ls Q hQ hx hb hr hml hts hown hlocks hsz hP hK hD hA hS hN hl
  subst hsz
  have hl : lv_has ls 2 [(0, .ref (aa 1)), (1, .int a_1)] := hl
  unfold w_X2_isSheet at h
  refine lv_iload_n hx hb dX2_isSheet_0 rfl (lv_at hl 1 rfl) ?_
  refine lv_if_lt (tgt := 13) hx hb dX2_isSheet_1 (by decide) (fun hc_2 => ?_) (fun hc_2 => ?_)
  · have h := h.1 hc_2
    refine lv_iconst (v := (0 : Int32)) hx hb dX2_isSheet_13 (by decide) ?_
    exact xq_rz hQ hx hb hr (by decide) hP hK hD hS () rfl h dX2_isSheet_14 hlocks
  · have h := h.2 hc_2
    refine lv_iload_n hx hb dX2_isSheet_4 rfl (lv_at hl 1 rfl) ?_
    refine lv_iconst (v := (4 : Int32)) hx hb dX2_isSheet_5 (by decide) ?_
    refine lv_icmp_ge (tgt := 13) hx hb dX2_isSheet_6 (by decide) (fun hc_1 => ?_) (fun hc_1 => ?_)
    · have h := h.1 hc_1
      refine lv_iconst (v := (0 : Int32)) hx hb dX2_isSheet_13 (by decide) ?_
      exact xq_rz hQ hx hb hr (by decide) hP hK hD hS () rfl h dX2_isSheet_14 hlocks
    · have h := h.2 hc_1
      refine lv_iconst (v := (1 : Int32)) hx hb dX2_isSheet_9 (by decide) ?_
      refine lv_goto (tgt := 14) hx hb dX2_isSheet_10 (by decide) ?_
      exact xq_rz hQ hx hb hr (by decide) hP hK hD hS () rfl h dX2_isSheet_14 hlocks
def w_X2_mayBeOfLane (s_lanes : Nat → Int32) (a_1 : Int32) (a_2 : Int32) (post : Int32 → Prop) : Prop := (vp_in a_1 4) ∧ (((s_lanes a_1.toNatClampNeg) = (-1 : Int32) → (post (1 : Int32))) ∧ (¬ (s_lanes a_1.toNatClampNeg) = (-1 : Int32) → ((vp_in a_1 4) ∧ ((¬ (s_lanes a_1.toNatClampNeg) = a_2 → (post (0 : Int32))) ∧ ((s_lanes a_1.toNatClampNeg) = a_2 → (post (1 : Int32)))))))
set_option maxHeartbeats 4000000 in
set_option maxRecDepth 100000 in
theorem m_X2_mayBeOfLane (l : Launch) (dC : Nat → ClassId) (dI : Nat → Nat → Nat) (cyI cyJ : ClassId) (aa : Nat → Nat) (sz : Nat) {s_lanes : Nat → Int32} {s_sizes : Nat → Int32} {s_cells : Nat → Int32} {x_kinds : Nat → Int32} {x_digits : Nat → Int32} {x_causes : Nat → Int32} {x_effects : Nat → Int32} {x_things : Int32} {x_follows : Int32} {x_due : Int32} {t_kinds : Nat → Int32} {t_digits : Nat → Int32} {t_caseRow : Nat → Int32} {t_weights : Nat → Int32} {t_order : Nat → Int32} {t_calls : Nat → Int32} {t_things : Int32} {t_caseCount : Int32} {t_caseSet : Int64} {p_callsOfCase : Nat → Int64} {p_partOfCase : Nat → Int32} {p_callsOfPart : Nat → Int64} {p_cases : Int32} {p_parts : Int32} {r_cases : Nat → Int32} {r_hours : Nat → Int32} {r_sets : Nat → Int32} {r_count : Int32} {u_lists : Nat → Int32} {u_breaths : Nat → Int32} {u_heard : Nat → Int32} {u_traced : Int32} {u_lastFault : Int32} {a_1 : Int32} {a_2 : Int32} {post : Int32 → Prop} (h : w_X2_mayBeOfLane s_lanes a_1 a_2 post) : Met l yX2_mayBeOfLane wsX2_mayBeOfLane (xq_R 0 0) (va_Pc [.ref (aa 1), .int a_1, .int a_2] (xq_P (dC, dI) [(cyI, .int), (cyJ, .long)] (wc_u cyI cyJ aa s_lanes s_sizes s_cells x_kinds x_digits x_causes x_effects x_things x_follows x_due t_kinds t_digits t_caseRow t_weights t_order t_calls t_things t_caseCount t_caseSet p_callsOfCase p_partOfCase p_callsOfPart p_cases p_parts r_cases r_hours r_sets r_count u_lists u_breaths u_heard u_traced u_lastFault) sz)) (va_Qi (fun (rr : Int32) (uu : Unit) => post rr ) (fun (uu : Unit) => xq_B (dC, dI) [(cyI, .int), (cyJ, .long)] (va_A (wc_u cyI cyJ aa s_lanes s_sizes s_cells x_kinds x_digits x_causes x_effects x_things x_follows x_due t_kinds t_digits t_caseRow t_weights t_order t_calls t_things t_caseCount t_caseSet p_callsOfCase p_partOfCase p_callsOfPart p_cases p_parts r_cases r_hours r_sets r_count u_lists u_breaths u_heard u_traced u_lastFault) sz) (wc_u cyI cyJ aa s_lanes s_sizes s_cells x_kinds x_digits x_causes x_effects x_things x_follows x_due t_kinds t_digits t_caseRow t_weights t_order t_calls t_things t_caseCount t_caseSet p_callsOfCase p_partOfCase p_callsOfPart p_cases p_parts r_cases r_hours r_sets r_count u_lists u_breaths u_heard u_traced u_lastFault)) (va_A (wc_u cyI cyJ aa s_lanes s_sizes s_cells x_kinds x_digits x_causes x_effects x_things x_follows x_due t_kinds t_digits t_caseRow t_weights t_order t_calls t_things t_caseCount t_caseSet p_callsOfCase p_partOfCase p_callsOfPart p_cases p_parts r_cases r_hours r_sets r_count u_lists u_breaths u_heard u_traced u_lastFault) sz)) 0 0 (va_A (wc_u cyI cyJ aa s_lanes s_sizes s_cells x_kinds x_digits x_causes x_effects x_things x_follows x_due t_kinds t_digits t_caseRow t_weights t_order t_calls t_things t_caseCount t_caseSet p_callsOfCase p_partOfCase p_callsOfPart p_cases p_parts r_cases r_hours r_sets r_count u_lists u_breaths u_heard u_traced u_lastFault) sz) := by
  refine xq_M (cc := cX2_mayBeOfLane) (maxL := 3) (ret := (some .boolean)) (QA := fun A => va_Qi (fun (rr : Int32) (uu : Unit) => post rr ) (fun (uu : Unit) => xq_B (dC, dI) [(cyI, .int), (cyJ, .long)] A (wc_u cyI cyJ aa s_lanes s_sizes s_cells x_kinds x_digits x_causes x_effects x_things x_follows x_due t_kinds t_digits t_caseRow t_weights t_order t_calls t_things t_caseCount t_caseSet p_callsOfCase p_partOfCase p_callsOfPart p_cases p_parts r_cases r_hours r_sets r_count u_lists u_breaths u_heard u_traced u_lastFault)) A) (by decide) rfl (Nat.le_of_ble_eq_true rfl) ?_
  intro p e s m args below meth c A ls Q hQ hx hb hr hml hts hown hlocks hsz hP hK hD hA hS hN hl
  subst hsz
  have hl : lv_has ls 3 [(0, .ref (aa 1)), (1, .int a_1), (2, .int a_2)] := hl
  have hi_X2 : ∀ w ∈ wsX20, w ∈ wsX2_mayBeOfLane := fun _ h => List.mem_cons_of_mem _ (List.mem_append_right _ h)
  have fl_9 := hts (.fieldLink RX2 9 "UnsaidCalls$Sheets" "lanes" "[I") (by decide +kernel)
  unfold w_X2_mayBeOfLane at h
  refine lv_aload_n hx hb dX2_mayBeOfLane_0 rfl (lv_at hl 0 rfl) ?_
  refine va_get (D := (dC, dI)) (ci := 2) (v := .ref (aa 2)) (C := RX2) (T := TX2) (N := 3) hx hb hts hi_X2 hown hK hP 1 rfl rfl 0 (by decide) fl_9 (fun _ h9 => h9) rfl dX2_mayBeOfLane_1 ?_
  refine lv_iload_n hx hb dX2_mayBeOfLane_4 rfl (lv_at hl 1 rfl) ?_
  obtain ⟨hv_1, h⟩ := h
  refine va_iald hx hb hK hP 2 0 rfl rfl hv_1 dX2_mayBeOfLane_5 ?_
  refine lv_iconst (v := (-1 : Int32)) hx hb dX2_mayBeOfLane_6 (by decide) ?_
  refine lv_icmp_eq (tgt := 20) hx hb dX2_mayBeOfLane_7 (by decide) (fun hc_4 => ?_) (fun hc_4 => ?_)
  · have h := h.1 hc_4
    refine lv_iconst (v := (1 : Int32)) hx hb dX2_mayBeOfLane_20 (by decide) ?_
    refine lv_goto (tgt := 25) hx hb dX2_mayBeOfLane_21 (by decide) ?_
    exact xq_rz hQ hx hb hr (by decide) hP hK hD hS () rfl h dX2_mayBeOfLane_25 hlocks
  · have h := h.2 hc_4
    refine lv_aload_n hx hb dX2_mayBeOfLane_10 rfl (lv_at hl 0 rfl) ?_
    refine va_get (D := (dC, dI)) (ci := 2) (v := .ref (aa 2)) (C := RX2) (T := TX2) (N := 3) hx hb hts hi_X2 hown hK hP 1 rfl rfl 0 (by decide) fl_9 (fun _ h9 => h9) rfl dX2_mayBeOfLane_11 ?_
    refine lv_iload_n hx hb dX2_mayBeOfLane_14 rfl (lv_at hl 1 rfl) ?_
    obtain ⟨hv_2, h⟩ := h
    refine va_iald hx hb hK hP 2 0 rfl rfl hv_2 dX2_mayBeOfLane_15 ?_
    refine lv_iload_n hx hb dX2_mayBeOfLane_16 rfl (lv_at hl 2 rfl) ?_
    refine lv_icmp_ne (tgt := 24) hx hb dX2_mayBeOfLane_17 (by decide) (fun hc_3 => ?_) (fun hc_3 => ?_)
    · have h := h.1 hc_3
      refine lv_iconst (v := (0 : Int32)) hx hb dX2_mayBeOfLane_24 (by decide) ?_
      exact xq_rz hQ hx hb hr (by decide) hP hK hD hS () rfl h dX2_mayBeOfLane_25 hlocks
    · have h := h.2 hc_3
      refine lv_iconst (v := (1 : Int32)) hx hb dX2_mayBeOfLane_20 (by decide) ?_
      refine lv_goto (tgt := 25) hx hb dX2_mayBeOfLane_21 (by decide) ?_
      exact xq_rz hQ hx hb hr (by decide) hP hK hD hS () rfl h dX2_mayBeOfLane_25 hlocks
def w_X2_move (s_cells : Nat → Int32) (a_1 : Int32) (a_2 : Int32) (a_3 : Int32) (a_4 : Int32) (a_5 : Int32) (post : (Nat → Int32) → Prop) : Prop := (¬ ((a_1 * (60 : Int32)) + a_2) < 0) ∧ (¬ ((a_3 * (60 : Int32)) + a_4) < 0) ∧ (¬ a_5 < 0) ∧ (((a_1 * (60 : Int32)) + a_2).toNatClampNeg + a_5.toNatClampNeg ≤ 240) ∧ (((a_3 * (60 : Int32)) + a_4).toNatClampNeg + a_5.toNatClampNeg ≤ 240) ∧ (post (va_cpy s_cells s_cells ((a_1 * (60 : Int32)) + a_2).toNatClampNeg ((a_3 * (60 : Int32)) + a_4).toNatClampNeg a_5.toNatClampNeg))
set_option maxHeartbeats 4000000 in
set_option maxRecDepth 100000 in
theorem m_X2_move (l : Launch) (dC : Nat → ClassId) (dI : Nat → Nat → Nat) (cyI cyJ : ClassId) (aa : Nat → Nat) (sz : Nat) {s_lanes : Nat → Int32} {s_sizes : Nat → Int32} {s_cells : Nat → Int32} {x_kinds : Nat → Int32} {x_digits : Nat → Int32} {x_causes : Nat → Int32} {x_effects : Nat → Int32} {x_things : Int32} {x_follows : Int32} {x_due : Int32} {t_kinds : Nat → Int32} {t_digits : Nat → Int32} {t_caseRow : Nat → Int32} {t_weights : Nat → Int32} {t_order : Nat → Int32} {t_calls : Nat → Int32} {t_things : Int32} {t_caseCount : Int32} {t_caseSet : Int64} {p_callsOfCase : Nat → Int64} {p_partOfCase : Nat → Int32} {p_callsOfPart : Nat → Int64} {p_cases : Int32} {p_parts : Int32} {r_cases : Nat → Int32} {r_hours : Nat → Int32} {r_sets : Nat → Int32} {r_count : Int32} {u_lists : Nat → Int32} {u_breaths : Nat → Int32} {u_heard : Nat → Int32} {u_traced : Int32} {u_lastFault : Int32} {a_1 : Int32} {a_2 : Int32} {a_3 : Int32} {a_4 : Int32} {a_5 : Int32} {post : (Nat → Int32) → Prop} (h : w_X2_move s_cells a_1 a_2 a_3 a_4 a_5 post) : Met l yX2_move wsX2_move (xq_R 1 48) (va_Pc [.ref (aa 1), .int a_1, .int a_2, .int a_3, .int a_4, .int a_5] (xq_P (dC, dI) [(cyI, .int), (cyJ, .long)] (wc_u cyI cyJ aa s_lanes s_sizes s_cells x_kinds x_digits x_causes x_effects x_things x_follows x_due t_kinds t_digits t_caseRow t_weights t_order t_calls t_things t_caseCount t_caseSet p_callsOfCase p_partOfCase p_callsOfPart p_cases p_parts r_cases r_hours r_sets r_count u_lists u_breaths u_heard u_traced u_lastFault) sz)) (va_Qv (fun (uu : (Nat → Int32)) => post uu) (fun (uu : (Nat → Int32)) => xq_B (dC, dI) [(cyI, .int), (cyJ, .long)] (va_A (wc_u cyI cyJ aa s_lanes s_sizes s_cells x_kinds x_digits x_causes x_effects x_things x_follows x_due t_kinds t_digits t_caseRow t_weights t_order t_calls t_things t_caseCount t_caseSet p_callsOfCase p_partOfCase p_callsOfPart p_cases p_parts r_cases r_hours r_sets r_count u_lists u_breaths u_heard u_traced u_lastFault) sz) (wc_u cyI cyJ aa s_lanes s_sizes uu x_kinds x_digits x_causes x_effects x_things x_follows x_due t_kinds t_digits t_caseRow t_weights t_order t_calls t_things t_caseCount t_caseSet p_callsOfCase p_partOfCase p_callsOfPart p_cases p_parts r_cases r_hours r_sets r_count u_lists u_breaths u_heard u_traced u_lastFault)) (va_A (wc_u cyI cyJ aa s_lanes s_sizes s_cells x_kinds x_digits x_causes x_effects x_things x_follows x_due t_kinds t_digits t_caseRow t_weights t_order t_calls t_things t_caseCount t_caseSet p_callsOfCase p_partOfCase p_callsOfPart p_cases p_parts r_cases r_hours r_sets r_count u_lists u_breaths u_heard u_traced u_lastFault) sz)) 0 0 (va_A (wc_u cyI cyJ aa s_lanes s_sizes s_cells x_kinds x_digits x_causes x_effects x_things x_follows x_due t_kinds t_digits t_caseRow t_weights t_order t_calls t_things t_caseCount t_caseSet p_callsOfCase p_partOfCase p_callsOfPart p_cases p_parts r_cases r_hours r_sets r_count u_lists u_breaths u_heard u_traced u_lastFault) sz) := by
  refine xq_M (cc := cX2_move) (maxL := 6) (ret := none) (QA := fun A => va_Qv (fun (uu : (Nat → Int32)) => post uu) (fun (uu : (Nat → Int32)) => xq_B (dC, dI) [(cyI, .int), (cyJ, .long)] A (wc_u cyI cyJ aa s_lanes s_sizes uu x_kinds x_digits x_causes x_effects x_things x_follows x_due t_kinds t_digits t_caseRow t_weights t_order t_calls t_things t_caseCount t_caseSet p_callsOfCase p_partOfCase p_callsOfPart p_cases p_parts r_cases r_hours r_sets r_count u_lists u_breaths u_heard u_traced u_lastFault)) A) (by decide) rfl (Nat.le_of_ble_eq_true rfl) ?_
  intro p e s m args below meth c A ls Q hQ hx hb hr hml hts hown hlocks hsz hP hK hD hA hS hN hl
  subst hsz
  have hl : lv_has ls 6 [(0, .ref (aa 1)), (1, .int a_1), (2, .int a_2), (3, .int a_3), (4, .int a_4), (5, .int a_5)] := hl
  have hi_X2 : ∀ w ∈ wsX20, w ∈ wsX2_move := fun _ h => List.mem_cons_of_mem _ (List.mem_append_right _ h)
  have fl_18 := hts (.fieldLink RX2 18 "UnsaidCalls$Sheets" "cells" "[I") (by decide +kernel)
  unfold w_X2_move at h
  refine lv_aload_n hx hb dX2_move_0 rfl (lv_at hl 0 rfl) ?_
  refine va_get (D := (dC, dI)) (ci := 2) (v := .ref (aa 4)) (C := RX2) (T := TX2) (N := 3) hx hb hts hi_X2 hown hK hP 1 rfl rfl 2 (by decide) fl_18 (fun _ h9 => h9) rfl dX2_move_1 ?_
  refine lv_iload_n hx hb dX2_move_4 rfl (lv_at hl 1 rfl) ?_
  refine lv_bipush (v := (60 : Int32)) hx hb dX2_move_5 (by decide) ?_
  refine lv_imul hx hb dX2_move_7 ?_
  refine lv_iload_n hx hb dX2_move_8 rfl (lv_at hl 2 rfl) ?_
  refine lv_iadd hx hb dX2_move_9 ?_
  refine lv_aload_n hx hb dX2_move_10 rfl (lv_at hl 0 rfl) ?_
  refine va_get (D := (dC, dI)) (ci := 2) (v := .ref (aa 4)) (C := RX2) (T := TX2) (N := 3) hx hb hts hi_X2 hown hK hP 1 rfl rfl 2 (by decide) fl_18 (fun _ h9 => h9) rfl dX2_move_11 ?_
  refine lv_iload_n hx hb dX2_move_14 rfl (lv_at hl 3 rfl) ?_
  refine lv_bipush (v := (60 : Int32)) hx hb dX2_move_15 (by decide) ?_
  refine lv_imul hx hb dX2_move_17 ?_
  refine lv_iload hx hb dX2_move_18 (lv_at hl 4 rfl) ?_
  refine lv_iadd hx hb dX2_move_20 ?_
  refine lv_iload hx hb dX2_move_21 (lv_at hl 5 rfl) ?_
  obtain ⟨hv_1, hv_2, hv_3, hv_4, hv_5, h⟩ := h
  refine va_copyi hx hb (by rw [hml]; exact hl.1.symm) hown (hts (.methodLink RX2 25 arraycopyName) (by decide +kernel)) (hts (.native arraycopyName) (by decide +kernel)) (hts (.static arraycopyName) (by decide +kernel)) (hts (.initialized "java/lang/System") (by decide +kernel)) hK hP hD hS 4 4 0 0 rfl rfl rfl rfl rfl hv_1 hv_2 hv_3 hv_4 hv_5 (fun _ _ => rfl) (Nat.le_of_ble_eq_true rfl) (Nat.le_of_ble_eq_true rfl) dX2_move_23 (fun H locs hP hD hS => ?_)
  have hP : va_P (dC, dI) vwCl (wc_u cyI cyJ aa s_lanes s_sizes (va_cpy s_cells s_cells ((a_1 * (60 : Int32)) + a_2).toNatClampNeg ((a_3 * (60 : Int32)) + a_4).toNatClampNeg a_5.toNatClampNeg) x_kinds x_digits x_causes x_effects x_things x_follows x_due t_kinds t_digits t_caseRow t_weights t_order t_calls t_things t_caseCount t_caseSet p_callsOfCase p_partOfCase p_callsOfPart p_cases p_parts r_cases r_hours r_sets r_count u_lists u_breaths u_heard u_traced u_lastFault) H := hP
  have hD : va_D A (wc_u cyI cyJ aa s_lanes s_sizes (va_cpy s_cells s_cells ((a_1 * (60 : Int32)) + a_2).toNatClampNeg ((a_3 * (60 : Int32)) + a_4).toNatClampNeg a_5.toNatClampNeg) x_kinds x_digits x_causes x_effects x_things x_follows x_due t_kinds t_digits t_caseRow t_weights t_order t_calls t_things t_caseCount t_caseSet p_callsOfCase p_partOfCase p_callsOfPart p_cases p_parts r_cases r_hours r_sets r_count u_lists u_breaths u_heard u_traced u_lastFault) := hD
  exact xq_rv hQ hx hb hr hP hK hD hS (va_cpy s_cells s_cells ((a_1 * (60 : Int32)) + a_2).toNatClampNeg ((a_3 * (60 : Int32)) + a_4).toNatClampNeg a_5.toNatClampNeg) rfl h dX2_move_26 hlocks
def w_X2_renew_L17 (a_1 : Int32) (s_lanes : Nat → Int32) (s_sizes : Nat → Int32) (post : (Nat → Int32) → (Nat → Int32) → (Nat → Int32) → Prop) (kk : (Nat → Int32) → Prop) : Nat → Int32 → (Nat → Int32) → Prop
  | 0, _, _ => False
  | f_17 + 1, a_4, s_cells => ((60 : Int32) ≤ a_4 → (kk s_cells)) ∧ (¬ (60 : Int32) ≤ a_4 → ((vp_in ((a_1 * (60 : Int32)) + a_4) 240) ∧ (w_X2_renew_L17 a_1 s_lanes s_sizes post kk f_17 (a_4 + (1 : Int32)) (upd s_cells ((a_1 * (60 : Int32)) + a_4).toNatClampNeg (0 : Int32)))))
def w_X2_renew (s_lanes : Nat → Int32) (s_sizes : Nat → Int32) (s_cells : Nat → Int32) (a_1 : Int32) (a_2 : Int32) (a_3 : Int32) (post : (Nat → Int32) → (Nat → Int32) → (Nat → Int32) → Prop) : Prop := (vp_in a_1 4) ∧ ((vp_in a_1 4) ∧ (∃ e_17, w_X2_renew_L17 a_1 (upd s_lanes a_1.toNatClampNeg a_2) (upd s_sizes a_1.toNatClampNeg a_3) post (fun (xx_7 : Nat → Int32) => post (upd s_lanes a_1.toNatClampNeg a_2) (upd s_sizes a_1.toNatClampNeg a_3) xx_7) e_17 (0 : Int32) s_cells))
set_option maxHeartbeats 4000000 in
set_option maxRecDepth 100000 in
theorem m_X2_renew (l : Launch) (dC : Nat → ClassId) (dI : Nat → Nat → Nat) (cyI cyJ : ClassId) (aa : Nat → Nat) (sz : Nat) {s_lanes : Nat → Int32} {s_sizes : Nat → Int32} {s_cells : Nat → Int32} {x_kinds : Nat → Int32} {x_digits : Nat → Int32} {x_causes : Nat → Int32} {x_effects : Nat → Int32} {x_things : Int32} {x_follows : Int32} {x_due : Int32} {t_kinds : Nat → Int32} {t_digits : Nat → Int32} {t_caseRow : Nat → Int32} {t_weights : Nat → Int32} {t_order : Nat → Int32} {t_calls : Nat → Int32} {t_things : Int32} {t_caseCount : Int32} {t_caseSet : Int64} {p_callsOfCase : Nat → Int64} {p_partOfCase : Nat → Int32} {p_callsOfPart : Nat → Int64} {p_cases : Int32} {p_parts : Int32} {r_cases : Nat → Int32} {r_hours : Nat → Int32} {r_sets : Nat → Int32} {r_count : Int32} {u_lists : Nat → Int32} {u_breaths : Nat → Int32} {u_heard : Nat → Int32} {u_traced : Int32} {u_lastFault : Int32} {a_1 : Int32} {a_2 : Int32} {a_3 : Int32} {post : (Nat → Int32) → (Nat → Int32) → (Nat → Int32) → Prop} (h : w_X2_renew s_lanes s_sizes s_cells a_1 a_2 a_3 post) : Met l yX2_renew wsX2_renew (xq_R 0 0) (va_Pc [.ref (aa 1), .int a_1, .int a_2, .int a_3] (xq_P (dC, dI) [(cyI, .int), (cyJ, .long)] (wc_u cyI cyJ aa s_lanes s_sizes s_cells x_kinds x_digits x_causes x_effects x_things x_follows x_due t_kinds t_digits t_caseRow t_weights t_order t_calls t_things t_caseCount t_caseSet p_callsOfCase p_partOfCase p_callsOfPart p_cases p_parts r_cases r_hours r_sets r_count u_lists u_breaths u_heard u_traced u_lastFault) sz)) (va_Qv (fun (uu : (Nat → Int32) × (Nat → Int32) × (Nat → Int32)) => post uu.1 uu.2.1 uu.2.2) (fun (uu : (Nat → Int32) × (Nat → Int32) × (Nat → Int32)) => xq_B (dC, dI) [(cyI, .int), (cyJ, .long)] (va_A (wc_u cyI cyJ aa s_lanes s_sizes s_cells x_kinds x_digits x_causes x_effects x_things x_follows x_due t_kinds t_digits t_caseRow t_weights t_order t_calls t_things t_caseCount t_caseSet p_callsOfCase p_partOfCase p_callsOfPart p_cases p_parts r_cases r_hours r_sets r_count u_lists u_breaths u_heard u_traced u_lastFault) sz) (wc_u cyI cyJ aa uu.1 uu.2.1 uu.2.2 x_kinds x_digits x_causes x_effects x_things x_follows x_due t_kinds t_digits t_caseRow t_weights t_order t_calls t_things t_caseCount t_caseSet p_callsOfCase p_partOfCase p_callsOfPart p_cases p_parts r_cases r_hours r_sets r_count u_lists u_breaths u_heard u_traced u_lastFault)) (va_A (wc_u cyI cyJ aa s_lanes s_sizes s_cells x_kinds x_digits x_causes x_effects x_things x_follows x_due t_kinds t_digits t_caseRow t_weights t_order t_calls t_things t_caseCount t_caseSet p_callsOfCase p_partOfCase p_callsOfPart p_cases p_parts r_cases r_hours r_sets r_count u_lists u_breaths u_heard u_traced u_lastFault) sz)) 0 0 (va_A (wc_u cyI cyJ aa s_lanes s_sizes s_cells x_kinds x_digits x_causes x_effects x_things x_follows x_due t_kinds t_digits t_caseRow t_weights t_order t_calls t_things t_caseCount t_caseSet p_callsOfCase p_partOfCase p_callsOfPart p_cases p_parts r_cases r_hours r_sets r_count u_lists u_breaths u_heard u_traced u_lastFault) sz) := by
  refine xq_M (cc := cX2_renew) (maxL := 5) (ret := none) (QA := fun A => va_Qv (fun (uu : (Nat → Int32) × (Nat → Int32) × (Nat → Int32)) => post uu.1 uu.2.1 uu.2.2) (fun (uu : (Nat → Int32) × (Nat → Int32) × (Nat → Int32)) => xq_B (dC, dI) [(cyI, .int), (cyJ, .long)] A (wc_u cyI cyJ aa uu.1 uu.2.1 uu.2.2 x_kinds x_digits x_causes x_effects x_things x_follows x_due t_kinds t_digits t_caseRow t_weights t_order t_calls t_things t_caseCount t_caseSet p_callsOfCase p_partOfCase p_callsOfPart p_cases p_parts r_cases r_hours r_sets r_count u_lists u_breaths u_heard u_traced u_lastFault)) A) (by decide) rfl (Nat.le_of_ble_eq_true rfl) ?_
  intro p e s m args below meth c A ls Q hQ hx hb hr hml hts hown hlocks hsz hP hK hD hA hS hN hl
  subst hsz
  have hl : lv_has ls 5 [(0, .ref (aa 1)), (1, .int a_1), (2, .int a_2), (3, .int a_3)] := hl
  have hi_X2 : ∀ w ∈ wsX20, w ∈ wsX2_renew := fun _ h => List.mem_cons_of_mem _ (List.mem_append_right _ h)
  have fl_9 := hts (.fieldLink RX2 9 "UnsaidCalls$Sheets" "lanes" "[I") (by decide +kernel)
  have fl_15 := hts (.fieldLink RX2 15 "UnsaidCalls$Sheets" "sizes" "[I") (by decide +kernel)
  have fl_18 := hts (.fieldLink RX2 18 "UnsaidCalls$Sheets" "cells" "[I") (by decide +kernel)
  unfold w_X2_renew at h
  refine lv_aload_n hx hb dX2_renew_0 rfl (lv_at hl 0 rfl) ?_
  refine va_get (D := (dC, dI)) (ci := 2) (v := .ref (aa 2)) (C := RX2) (T := TX2) (N := 3) hx hb hts hi_X2 hown hK hP 1 rfl rfl 0 (by decide) fl_9 (fun _ h9 => h9) rfl dX2_renew_1 ?_
  refine lv_iload_n hx hb dX2_renew_4 rfl (lv_at hl 1 rfl) ?_
  refine lv_iload_n hx hb dX2_renew_5 rfl (lv_at hl 2 rfl) ?_
  obtain ⟨hv_1, h⟩ := h
  refine va_iast hx hb hK hP hD hS 2 0 rfl rfl hv_1 dX2_renew_6 (fun H locs hP hD hS => ?_)
  have hP : va_P (dC, dI) vwCl (wc_u cyI cyJ aa (upd s_lanes a_1.toNatClampNeg a_2) s_sizes s_cells x_kinds x_digits x_causes x_effects x_things x_follows x_due t_kinds t_digits t_caseRow t_weights t_order t_calls t_things t_caseCount t_caseSet p_callsOfCase p_partOfCase p_callsOfPart p_cases p_parts r_cases r_hours r_sets r_count u_lists u_breaths u_heard u_traced u_lastFault) H := hP
  have hD : va_D A (wc_u cyI cyJ aa (upd s_lanes a_1.toNatClampNeg a_2) s_sizes s_cells x_kinds x_digits x_causes x_effects x_things x_follows x_due t_kinds t_digits t_caseRow t_weights t_order t_calls t_things t_caseCount t_caseSet p_callsOfCase p_partOfCase p_callsOfPart p_cases p_parts r_cases r_hours r_sets r_count u_lists u_breaths u_heard u_traced u_lastFault) := hD
  refine lv_aload_n hx hb dX2_renew_7 rfl (lv_at hl 0 rfl) ?_
  refine va_get (D := (dC, dI)) (ci := 2) (v := .ref (aa 3)) (C := RX2) (T := TX2) (N := 3) hx hb hts hi_X2 hown hK hP 1 rfl rfl 1 (by decide) fl_15 (fun _ h9 => h9) rfl dX2_renew_8 ?_
  refine lv_iload_n hx hb dX2_renew_11 rfl (lv_at hl 1 rfl) ?_
  refine lv_iload_n hx hb dX2_renew_12 rfl (lv_at hl 3 rfl) ?_
  obtain ⟨hv_2, h⟩ := h
  refine va_iast hx hb hK hP hD hS 3 0 rfl rfl hv_2 dX2_renew_13 (fun H locs hP hD hS => ?_)
  have hP : va_P (dC, dI) vwCl (wc_u cyI cyJ aa (upd s_lanes a_1.toNatClampNeg a_2) (upd s_sizes a_1.toNatClampNeg a_3) s_cells x_kinds x_digits x_causes x_effects x_things x_follows x_due t_kinds t_digits t_caseRow t_weights t_order t_calls t_things t_caseCount t_caseSet p_callsOfCase p_partOfCase p_callsOfPart p_cases p_parts r_cases r_hours r_sets r_count u_lists u_breaths u_heard u_traced u_lastFault) H := hP
  have hD : va_D A (wc_u cyI cyJ aa (upd s_lanes a_1.toNatClampNeg a_2) (upd s_sizes a_1.toNatClampNeg a_3) s_cells x_kinds x_digits x_causes x_effects x_things x_follows x_due t_kinds t_digits t_caseRow t_weights t_order t_calls t_things t_caseCount t_caseSet p_callsOfCase p_partOfCase p_callsOfPart p_cases p_parts r_cases r_hours r_sets r_count u_lists u_breaths u_heard u_traced u_lastFault) := hD
  refine lv_iconst (v := (0 : Int32)) hx hb dX2_renew_14 (by decide) ?_
  refine lv_istore (lv' := [(4, .int (0 : Int32)), (0, .ref (aa 1)), (1, .int a_1), (2, .int a_2), (3, .int a_3)]) hx hb dX2_renew_15 hl (by decide) rfl (fun ls hl => ?_)
  obtain ⟨ni, h⟩ := h
  have lp_17 : ∀ (kk : (Nat → Int32) → Prop), (∀ (xx_7 : Nat → Int32) (H : Heap) (locs : List Loc) (ls : Array Slot), va_P (dC, dI) vwCl (wc_u cyI cyJ aa (upd s_lanes a_1.toNatClampNeg a_2) (upd s_sizes a_1.toNatClampNeg a_3) xx_7 x_kinds x_digits x_causes x_effects x_things x_follows x_due t_kinds t_digits t_caseRow t_weights t_order t_calls t_things t_caseCount t_caseSet p_callsOfCase p_partOfCase p_callsOfPart p_cases p_parts r_cases r_hours r_sets r_count u_lists u_breaths u_heard u_traced u_lastFault) H → va_D A (wc_u cyI cyJ aa (upd s_lanes a_1.toNatClampNeg a_2) (upd s_sizes a_1.toNatClampNeg a_3) xx_7 x_kinds x_digits x_causes x_effects x_things x_follows x_due t_kinds t_digits t_caseRow t_weights t_order t_calls t_things t_caseCount t_caseSet p_callsOfCase p_partOfCase p_callsOfPart p_cases p_parts r_cases r_hours r_sets r_count u_lists u_breaths u_heard u_traced u_lastFault) → va_S A s.heap H locs → lv_has ls 5 [] → kk xx_7 → W p l e (xq_R 0 0) s m args below meth c H locs 0 0 Q (F0 m 43 ls [])) → ∀ (ni : Nat) (aa_5 : Int32) (cc_6 : Nat → Int32) (H : Heap) (locs : List Loc) (ls : Array Slot), va_P (dC, dI) vwCl (wc_u cyI cyJ aa (upd s_lanes a_1.toNatClampNeg a_2) (upd s_sizes a_1.toNatClampNeg a_3) cc_6 x_kinds x_digits x_causes x_effects x_things x_follows x_due t_kinds t_digits t_caseRow t_weights t_order t_calls t_things t_caseCount t_caseSet p_callsOfCase p_partOfCase p_callsOfPart p_cases p_parts r_cases r_hours r_sets r_count u_lists u_breaths u_heard u_traced u_lastFault) H → va_D A (wc_u cyI cyJ aa (upd s_lanes a_1.toNatClampNeg a_2) (upd s_sizes a_1.toNatClampNeg a_3) cc_6 x_kinds x_digits x_causes x_effects x_things x_follows x_due t_kinds t_digits t_caseRow t_weights t_order t_calls t_things t_caseCount t_caseSet p_callsOfCase p_partOfCase p_callsOfPart p_cases p_parts r_cases r_hours r_sets r_count u_lists u_breaths u_heard u_traced u_lastFault) → va_S A s.heap H locs → lv_has ls 5 [(0, .ref (aa 1)), (1, .int a_1), (4, .int aa_5)] → w_X2_renew_L17 a_1 (upd s_lanes a_1.toNatClampNeg a_2) (upd s_sizes a_1.toNatClampNeg a_3) post kk ni aa_5 cc_6 → W p l e (xq_R 0 0) s m args below meth c H locs 0 0 Q (F0 m 17 ls []) := by
    intro kk kx ni
    induction ni with
    | zero => intros; exact False.elim (by assumption)
    | succ ni ih =>
      intro aa_5 cc_6 H locs ls hP hD hS hl h
      rw [w_X2_renew_L17] at h
      refine lv_iload hx hb dX2_renew_17 (lv_at hl 2 rfl) ?_
      refine lv_bipush (v := (60 : Int32)) hx hb dX2_renew_19 (by decide) ?_
      refine lv_icmp_ge (tgt := 43) hx hb dX2_renew_21 (by decide) (fun hc_9 => ?_) (fun hc_9 => ?_)
      · have h := h.1 hc_9
        exact kx cc_6 _ _ _ hP hD hS (lv_sub hl [] rfl) h
      · have h := h.2 hc_9
        refine lv_aload_n hx hb dX2_renew_24 rfl (lv_at hl 0 rfl) ?_
        refine va_get (D := (dC, dI)) (ci := 2) (v := .ref (aa 4)) (C := RX2) (T := TX2) (N := 3) hx hb hts hi_X2 hown hK hP 1 rfl rfl 2 (by decide) fl_18 (fun _ h9 => h9) rfl dX2_renew_25 ?_
        refine lv_iload_n hx hb dX2_renew_28 rfl (lv_at hl 1 rfl) ?_
        refine lv_bipush (v := (60 : Int32)) hx hb dX2_renew_29 (by decide) ?_
        refine lv_imul hx hb dX2_renew_31 ?_
        refine lv_iload hx hb dX2_renew_32 (lv_at hl 2 rfl) ?_
        refine lv_iadd hx hb dX2_renew_34 ?_
        refine lv_iconst (v := (0 : Int32)) hx hb dX2_renew_35 (by decide) ?_
        obtain ⟨hv_8, h⟩ := h
        refine va_iast hx hb hK hP hD hS 4 0 rfl rfl hv_8 dX2_renew_36 (fun H locs hP hD hS => ?_)
        have hP : va_P (dC, dI) vwCl (wc_u cyI cyJ aa (upd s_lanes a_1.toNatClampNeg a_2) (upd s_sizes a_1.toNatClampNeg a_3) (upd cc_6 ((a_1 * (60 : Int32)) + aa_5).toNatClampNeg (0 : Int32)) x_kinds x_digits x_causes x_effects x_things x_follows x_due t_kinds t_digits t_caseRow t_weights t_order t_calls t_things t_caseCount t_caseSet p_callsOfCase p_partOfCase p_callsOfPart p_cases p_parts r_cases r_hours r_sets r_count u_lists u_breaths u_heard u_traced u_lastFault) H := hP
        have hD : va_D A (wc_u cyI cyJ aa (upd s_lanes a_1.toNatClampNeg a_2) (upd s_sizes a_1.toNatClampNeg a_3) (upd cc_6 ((a_1 * (60 : Int32)) + aa_5).toNatClampNeg (0 : Int32)) x_kinds x_digits x_causes x_effects x_things x_follows x_due t_kinds t_digits t_caseRow t_weights t_order t_calls t_things t_caseCount t_caseSet p_callsOfCase p_partOfCase p_callsOfPart p_cases p_parts r_cases r_hours r_sets r_count u_lists u_breaths u_heard u_traced u_lastFault) := hD
        refine lv_iinc (v := (aa_5 + (1 : Int32))) (lv' := [(4, .int (aa_5 + (1 : Int32))), (0, .ref (aa 1)), (1, .int a_1)]) hx hb dX2_renew_37 hl (k := 2) rfl rfl (by decide) rfl (fun ls hl => ?_)
        refine lv_goto (tgt := 17) hx hb dX2_renew_40 (by decide) ?_
        exact ih (aa_5 + (1 : Int32)) (upd cc_6 ((a_1 * (60 : Int32)) + aa_5).toNatClampNeg (0 : Int32)) _ _ _ hP hD hS (lv_sub hl [1, 2, 0] rfl) h
  refine lp_17 _ (fun xx_7 H locs ls hP hD hS hl h => ?_) ni (0 : Int32) s_cells _ _ _ hP hD hS (lv_sub hl [1, 2, 0] rfl) h
  exact xq_rv hQ hx hb hr hP hK hD hS ((upd s_lanes a_1.toNatClampNeg a_2), (upd s_sizes a_1.toNatClampNeg a_3), xx_7) rfl h dX2_renew_43 hlocks
def w_X2_write (s_lanes : Nat → Int32) (s_cells : Nat → Int32) (a_1 : Int32) (a_2 : Int32) (a_3 : Int32) (post : (Nat → Int32) → Prop) : Prop := (vp_in a_1 4) ∧ (xq_j1 (fun (kj_3 : Int32 → Prop) => (¬ (s_lanes a_1.toNatClampNeg) = 0 → ((vp_in a_1 4) ∧ ((¬ (s_lanes a_1.toNatClampNeg) = (1 : Int32) → (kj_3 a_3)) ∧ ((s_lanes a_1.toNatClampNeg) = (1 : Int32) → (kj_3 (Int16.toInt32 (Int32.toInt16 a_3))))))) ∧ ((s_lanes a_1.toNatClampNeg) = 0 → (kj_3 (Int8.toInt32 (Int32.toInt8 a_3))))) (fun (jj_2 : Int32) => (vp_in ((a_1 * (60 : Int32)) + a_2) 240) ∧ (post (upd s_cells ((a_1 * (60 : Int32)) + a_2).toNatClampNeg jj_2))))
set_option maxHeartbeats 4000000 in
set_option maxRecDepth 100000 in
theorem m_X2_write (l : Launch) (dC : Nat → ClassId) (dI : Nat → Nat → Nat) (cyI cyJ : ClassId) (aa : Nat → Nat) (sz : Nat) {s_lanes : Nat → Int32} {s_sizes : Nat → Int32} {s_cells : Nat → Int32} {x_kinds : Nat → Int32} {x_digits : Nat → Int32} {x_causes : Nat → Int32} {x_effects : Nat → Int32} {x_things : Int32} {x_follows : Int32} {x_due : Int32} {t_kinds : Nat → Int32} {t_digits : Nat → Int32} {t_caseRow : Nat → Int32} {t_weights : Nat → Int32} {t_order : Nat → Int32} {t_calls : Nat → Int32} {t_things : Int32} {t_caseCount : Int32} {t_caseSet : Int64} {p_callsOfCase : Nat → Int64} {p_partOfCase : Nat → Int32} {p_callsOfPart : Nat → Int64} {p_cases : Int32} {p_parts : Int32} {r_cases : Nat → Int32} {r_hours : Nat → Int32} {r_sets : Nat → Int32} {r_count : Int32} {u_lists : Nat → Int32} {u_breaths : Nat → Int32} {u_heard : Nat → Int32} {u_traced : Int32} {u_lastFault : Int32} {a_1 : Int32} {a_2 : Int32} {a_3 : Int32} {post : (Nat → Int32) → Prop} (h : w_X2_write s_lanes s_cells a_1 a_2 a_3 post) : Met l yX2_write wsX2_write (xq_R 0 0) (va_Pc [.ref (aa 1), .int a_1, .int a_2, .int a_3] (xq_P (dC, dI) [(cyI, .int), (cyJ, .long)] (wc_u cyI cyJ aa s_lanes s_sizes s_cells x_kinds x_digits x_causes x_effects x_things x_follows x_due t_kinds t_digits t_caseRow t_weights t_order t_calls t_things t_caseCount t_caseSet p_callsOfCase p_partOfCase p_callsOfPart p_cases p_parts r_cases r_hours r_sets r_count u_lists u_breaths u_heard u_traced u_lastFault) sz)) (va_Qv (fun (uu : (Nat → Int32)) => post uu) (fun (uu : (Nat → Int32)) => xq_B (dC, dI) [(cyI, .int), (cyJ, .long)] (va_A (wc_u cyI cyJ aa s_lanes s_sizes s_cells x_kinds x_digits x_causes x_effects x_things x_follows x_due t_kinds t_digits t_caseRow t_weights t_order t_calls t_things t_caseCount t_caseSet p_callsOfCase p_partOfCase p_callsOfPart p_cases p_parts r_cases r_hours r_sets r_count u_lists u_breaths u_heard u_traced u_lastFault) sz) (wc_u cyI cyJ aa s_lanes s_sizes uu x_kinds x_digits x_causes x_effects x_things x_follows x_due t_kinds t_digits t_caseRow t_weights t_order t_calls t_things t_caseCount t_caseSet p_callsOfCase p_partOfCase p_callsOfPart p_cases p_parts r_cases r_hours r_sets r_count u_lists u_breaths u_heard u_traced u_lastFault)) (va_A (wc_u cyI cyJ aa s_lanes s_sizes s_cells x_kinds x_digits x_causes x_effects x_things x_follows x_due t_kinds t_digits t_caseRow t_weights t_order t_calls t_things t_caseCount t_caseSet p_callsOfCase p_partOfCase p_callsOfPart p_cases p_parts r_cases r_hours r_sets r_count u_lists u_breaths u_heard u_traced u_lastFault) sz)) 0 0 (va_A (wc_u cyI cyJ aa s_lanes s_sizes s_cells x_kinds x_digits x_causes x_effects x_things x_follows x_due t_kinds t_digits t_caseRow t_weights t_order t_calls t_things t_caseCount t_caseSet p_callsOfCase p_partOfCase p_callsOfPart p_cases p_parts r_cases r_hours r_sets r_count u_lists u_breaths u_heard u_traced u_lastFault) sz) := by
  refine xq_M (cc := cX2_write) (maxL := 5) (ret := none) (QA := fun A => va_Qv (fun (uu : (Nat → Int32)) => post uu) (fun (uu : (Nat → Int32)) => xq_B (dC, dI) [(cyI, .int), (cyJ, .long)] A (wc_u cyI cyJ aa s_lanes s_sizes uu x_kinds x_digits x_causes x_effects x_things x_follows x_due t_kinds t_digits t_caseRow t_weights t_order t_calls t_things t_caseCount t_caseSet p_callsOfCase p_partOfCase p_callsOfPart p_cases p_parts r_cases r_hours r_sets r_count u_lists u_breaths u_heard u_traced u_lastFault)) A) (by decide) rfl (Nat.le_of_ble_eq_true rfl) ?_
  intro p e s m args below meth c A ls Q hQ hx hb hr hml hts hown hlocks hsz hP hK hD hA hS hN hl
  subst hsz
  have hl : lv_has ls 5 [(0, .ref (aa 1)), (1, .int a_1), (2, .int a_2), (3, .int a_3)] := hl
  have hi_X2 : ∀ w ∈ wsX20, w ∈ wsX2_write := fun _ h => List.mem_cons_of_mem _ (List.mem_append_right _ h)
  have fl_9 := hts (.fieldLink RX2 9 "UnsaidCalls$Sheets" "lanes" "[I") (by decide +kernel)
  have fl_18 := hts (.fieldLink RX2 18 "UnsaidCalls$Sheets" "cells" "[I") (by decide +kernel)
  unfold w_X2_write at h
  refine lv_iload_n hx hb dX2_write_0 rfl (lv_at hl 3 rfl) ?_
  refine lv_istore (lv' := [(4, .int a_3), (0, .ref (aa 1)), (1, .int a_1), (2, .int a_2), (3, .int a_3)]) hx hb dX2_write_1 hl (by decide) rfl (fun ls hl => ?_)
  refine lv_aload_n hx hb dX2_write_3 rfl (lv_at hl 1 rfl) ?_
  refine va_get (D := (dC, dI)) (ci := 2) (v := .ref (aa 2)) (C := RX2) (T := TX2) (N := 3) hx hb hts hi_X2 hown hK hP 1 rfl rfl 0 (by decide) fl_9 (fun _ h9 => h9) rfl dX2_write_4 ?_
  refine lv_iload_n hx hb dX2_write_7 rfl (lv_at hl 2 rfl) ?_
  obtain ⟨hv_1, h⟩ := h
  refine va_iald hx hb hK hP 2 0 rfl rfl hv_1 dX2_write_8 ?_
  refine xq_j1_go (X := fun (jj_2 : Int32) => ∀ (H : Heap) (locs : List Loc) (ls : Array Slot), va_P (dC, dI) vwCl (wc_u cyI cyJ aa s_lanes s_sizes s_cells x_kinds x_digits x_causes x_effects x_things x_follows x_due t_kinds t_digits t_caseRow t_weights t_order t_calls t_things t_caseCount t_caseSet p_callsOfCase p_partOfCase p_callsOfPart p_cases p_parts r_cases r_hours r_sets r_count u_lists u_breaths u_heard u_traced u_lastFault) H → va_D A (wc_u cyI cyJ aa s_lanes s_sizes s_cells x_kinds x_digits x_causes x_effects x_things x_follows x_due t_kinds t_digits t_caseRow t_weights t_order t_calls t_things t_caseCount t_caseSet p_callsOfCase p_partOfCase p_callsOfPart p_cases p_parts r_cases r_hours r_sets r_count u_lists u_breaths u_heard u_traced u_lastFault) → va_S A s.heap H locs → lv_has ls 5 [(0, .ref (aa 1)), (1, .int a_1), (2, .int a_2), (4, .int jj_2)] → W p l e (xq_R 0 0) s m args below meth c H locs 0 0 Q (F0 m 33 ls [])) h (fun jj_2 h H locs ls hP hD hS hl => ?_) (fun kj_3 h => ?_)
  · refine lv_aload_n hx hb dX2_write_33 rfl (lv_at hl 0 rfl) ?_
    refine va_get (D := (dC, dI)) (ci := 2) (v := .ref (aa 4)) (C := RX2) (T := TX2) (N := 3) hx hb hts hi_X2 hown hK hP 1 rfl rfl 2 (by decide) fl_18 (fun _ h9 => h9) rfl dX2_write_34 ?_
    refine lv_iload_n hx hb dX2_write_37 rfl (lv_at hl 1 rfl) ?_
    refine lv_bipush (v := (60 : Int32)) hx hb dX2_write_38 (by decide) ?_
    refine lv_imul hx hb dX2_write_40 ?_
    refine lv_iload_n hx hb dX2_write_41 rfl (lv_at hl 2 rfl) ?_
    refine lv_iadd hx hb dX2_write_42 ?_
    refine lv_iload hx hb dX2_write_43 (lv_at hl 3 rfl) ?_
    obtain ⟨hv_7, h⟩ := h
    refine va_iast hx hb hK hP hD hS 4 0 rfl rfl hv_7 dX2_write_45 (fun H locs hP hD hS => ?_)
    have hP : va_P (dC, dI) vwCl (wc_u cyI cyJ aa s_lanes s_sizes (upd s_cells ((a_1 * (60 : Int32)) + a_2).toNatClampNeg jj_2) x_kinds x_digits x_causes x_effects x_things x_follows x_due t_kinds t_digits t_caseRow t_weights t_order t_calls t_things t_caseCount t_caseSet p_callsOfCase p_partOfCase p_callsOfPart p_cases p_parts r_cases r_hours r_sets r_count u_lists u_breaths u_heard u_traced u_lastFault) H := hP
    have hD : va_D A (wc_u cyI cyJ aa s_lanes s_sizes (upd s_cells ((a_1 * (60 : Int32)) + a_2).toNatClampNeg jj_2) x_kinds x_digits x_causes x_effects x_things x_follows x_due t_kinds t_digits t_caseRow t_weights t_order t_calls t_things t_caseCount t_caseSet p_callsOfCase p_partOfCase p_callsOfPart p_cases p_parts r_cases r_hours r_sets r_count u_lists u_breaths u_heard u_traced u_lastFault) := hD
    exact xq_rv hQ hx hb hr hP hK hD hS (upd s_cells ((a_1 * (60 : Int32)) + a_2).toNatClampNeg jj_2) rfl h dX2_write_46 hlocks
  · refine lv_if_ne (tgt := 19) hx hb dX2_write_9 (by decide) (fun hc_6 => ?_) (fun hc_6 => ?_)
    · have h := h.1 hc_6
      refine lv_aload_n hx hb dX2_write_19 rfl (lv_at hl 1 rfl) ?_
      refine va_get (D := (dC, dI)) (ci := 2) (v := .ref (aa 2)) (C := RX2) (T := TX2) (N := 3) hx hb hts hi_X2 hown hK hP 1 rfl rfl 0 (by decide) fl_9 (fun _ h9 => h9) rfl dX2_write_20 ?_
      refine lv_iload_n hx hb dX2_write_23 rfl (lv_at hl 2 rfl) ?_
      obtain ⟨hv_4, h⟩ := h
      refine va_iald hx hb hK hP 2 0 rfl rfl hv_4 dX2_write_24 ?_
      refine lv_iconst (v := (1 : Int32)) hx hb dX2_write_25 (by decide) ?_
      refine lv_icmp_ne (tgt := 33) hx hb dX2_write_26 (by decide) (fun hc_5 => ?_) (fun hc_5 => ?_)
      · have h := h.1 hc_5
        exact kj_3 a_3 h _ _ _ hP hD hS (lv_sub hl [1, 2, 3, 0] rfl)
      · have h := h.2 hc_5
        refine lv_iload_n hx hb dX2_write_29 rfl (lv_at hl 4 rfl) ?_
        refine lv_i2s (v := (Int16.toInt32 (Int32.toInt16 a_3))) hx hb dX2_write_30 rfl ?_
        refine lv_istore (lv' := [(4, .int (Int16.toInt32 (Int32.toInt16 a_3))), (0, .ref (aa 1)), (1, .int a_1), (2, .int a_2), (3, .int a_3)]) hx hb dX2_write_31 hl (by decide) rfl (fun ls hl => ?_)
        exact kj_3 (Int16.toInt32 (Int32.toInt16 a_3)) h _ _ _ hP hD hS (lv_sub hl [1, 2, 3, 0] rfl)
    · have h := h.2 hc_6
      refine lv_iload_n hx hb dX2_write_12 rfl (lv_at hl 4 rfl) ?_
      refine lv_i2b (v := (Int8.toInt32 (Int32.toInt8 a_3))) hx hb dX2_write_13 rfl ?_
      refine lv_istore (lv' := [(4, .int (Int8.toInt32 (Int32.toInt8 a_3))), (0, .ref (aa 1)), (1, .int a_1), (2, .int a_2), (3, .int a_3)]) hx hb dX2_write_14 hl (by decide) rfl (fun ls hl => ?_)
      refine lv_goto (tgt := 33) hx hb dX2_write_16 (by decide) ?_
      exact kj_3 (Int8.toInt32 (Int32.toInt8 a_3)) h _ _ _ hP hD hS (lv_sub hl [1, 2, 3, 0] rfl)
def w_X3_beginsFollowing (x_things : Int32) (x_follows : Int32) (x_due : Int32) (post : Int32 → Int32 → Prop) : Prop := (x_things < (2 : Int32) → (post (0 : Int32) (3 : Int32))) ∧ (¬ x_things < (2 : Int32) → (((4 : Int32) ≤ x_follows → (post (0 : Int32) (3 : Int32))) ∧ (¬ (4 : Int32) ≤ x_follows → (post (1 : Int32) (3 : Int32)))))
set_option maxHeartbeats 4000000 in
set_option maxRecDepth 100000 in
theorem m_X3_beginsFollowing (l : Launch) (dC : Nat → ClassId) (dI : Nat → Nat → Nat) (cyI cyJ : ClassId) (aa : Nat → Nat) (sz : Nat) {s_lanes : Nat → Int32} {s_sizes : Nat → Int32} {s_cells : Nat → Int32} {x_kinds : Nat → Int32} {x_digits : Nat → Int32} {x_causes : Nat → Int32} {x_effects : Nat → Int32} {x_things : Int32} {x_follows : Int32} {x_due : Int32} {t_kinds : Nat → Int32} {t_digits : Nat → Int32} {t_caseRow : Nat → Int32} {t_weights : Nat → Int32} {t_order : Nat → Int32} {t_calls : Nat → Int32} {t_things : Int32} {t_caseCount : Int32} {t_caseSet : Int64} {p_callsOfCase : Nat → Int64} {p_partOfCase : Nat → Int32} {p_callsOfPart : Nat → Int64} {p_cases : Int32} {p_parts : Int32} {r_cases : Nat → Int32} {r_hours : Nat → Int32} {r_sets : Nat → Int32} {r_count : Int32} {u_lists : Nat → Int32} {u_breaths : Nat → Int32} {u_heard : Nat → Int32} {u_traced : Int32} {u_lastFault : Int32} {post : Int32 → Int32 → Prop} (h : w_X3_beginsFollowing x_things x_follows x_due post) : Met l yX3_beginsFollowing wsX3_beginsFollowing (xq_R 0 0) (va_Pc [.ref (aa 5)] (xq_P (dC, dI) [(cyI, .int), (cyJ, .long)] (wc_u cyI cyJ aa s_lanes s_sizes s_cells x_kinds x_digits x_causes x_effects x_things x_follows x_due t_kinds t_digits t_caseRow t_weights t_order t_calls t_things t_caseCount t_caseSet p_callsOfCase p_partOfCase p_callsOfPart p_cases p_parts r_cases r_hours r_sets r_count u_lists u_breaths u_heard u_traced u_lastFault) sz)) (va_Qi (fun (rr : Int32) (uu : Int32) => post rr uu) (fun (uu : Int32) => xq_B (dC, dI) [(cyI, .int), (cyJ, .long)] (va_A (wc_u cyI cyJ aa s_lanes s_sizes s_cells x_kinds x_digits x_causes x_effects x_things x_follows x_due t_kinds t_digits t_caseRow t_weights t_order t_calls t_things t_caseCount t_caseSet p_callsOfCase p_partOfCase p_callsOfPart p_cases p_parts r_cases r_hours r_sets r_count u_lists u_breaths u_heard u_traced u_lastFault) sz) (wc_u cyI cyJ aa s_lanes s_sizes s_cells x_kinds x_digits x_causes x_effects x_things x_follows uu t_kinds t_digits t_caseRow t_weights t_order t_calls t_things t_caseCount t_caseSet p_callsOfCase p_partOfCase p_callsOfPart p_cases p_parts r_cases r_hours r_sets r_count u_lists u_breaths u_heard u_traced u_lastFault)) (va_A (wc_u cyI cyJ aa s_lanes s_sizes s_cells x_kinds x_digits x_causes x_effects x_things x_follows x_due t_kinds t_digits t_caseRow t_weights t_order t_calls t_things t_caseCount t_caseSet p_callsOfCase p_partOfCase p_callsOfPart p_cases p_parts r_cases r_hours r_sets r_count u_lists u_breaths u_heard u_traced u_lastFault) sz)) 0 0 (va_A (wc_u cyI cyJ aa s_lanes s_sizes s_cells x_kinds x_digits x_causes x_effects x_things x_follows x_due t_kinds t_digits t_caseRow t_weights t_order t_calls t_things t_caseCount t_caseSet p_callsOfCase p_partOfCase p_callsOfPart p_cases p_parts r_cases r_hours r_sets r_count u_lists u_breaths u_heard u_traced u_lastFault) sz) := by
  refine xq_M (cc := cX3_beginsFollowing) (maxL := 1) (ret := (some .boolean)) (QA := fun A => va_Qi (fun (rr : Int32) (uu : Int32) => post rr uu) (fun (uu : Int32) => xq_B (dC, dI) [(cyI, .int), (cyJ, .long)] A (wc_u cyI cyJ aa s_lanes s_sizes s_cells x_kinds x_digits x_causes x_effects x_things x_follows uu t_kinds t_digits t_caseRow t_weights t_order t_calls t_things t_caseCount t_caseSet p_callsOfCase p_partOfCase p_callsOfPart p_cases p_parts r_cases r_hours r_sets r_count u_lists u_breaths u_heard u_traced u_lastFault)) A) (by decide) rfl (Nat.le_of_ble_eq_true rfl) ?_
  intro p e s m args below meth c A ls Q hQ hx hb hr hml hts hown hlocks hsz hP hK hD hA hS hN hl
  subst hsz
  have hl : lv_has ls 1 [(0, .ref (aa 5))] := hl
  have hi_X3 : ∀ w ∈ wsX30, w ∈ wsX3_beginsFollowing := fun _ h => List.mem_cons_of_mem _ (List.mem_append_right _ h)
  have fl_24 := hts (.fieldLink RX3 24 "UnsaidCalls$Text" "things" "I") (by decide +kernel)
  have fl_28 := hts (.fieldLink RX3 28 "UnsaidCalls$Text" "follows" "I") (by decide +kernel)
  have fl_31 := hts (.fieldLink RX3 31 "UnsaidCalls$Text" "due" "I") (by decide +kernel)
  unfold w_X3_beginsFollowing at h
  refine lv_aload_n hx hb dX3_beginsFollowing_0 rfl (lv_at hl 0 rfl) ?_
  refine lv_iconst (v := (3 : Int32)) hx hb dX3_beginsFollowing_1 (by decide) ?_
  refine va_put (D := (dC, dI)) (ci := 3) (v := .int (3 : Int32)) (ty := .int) (C := RX3) (T := TX3) (N := 7) hx hb hts hi_X3 tyX3 tyX3_ok nmX3 hown hK hP hD hS 5 rfl rfl 6 (by decide) fl_31 (fun _ h9 => h9) rfl (by decide +kernel) rfl rfl (Nat.le_of_ble_eq_true rfl) dX3_beginsFollowing_2 (fun H locs hP hD hS => ?_)
  have hP : va_P (dC, dI) vwCl (wc_u cyI cyJ aa s_lanes s_sizes s_cells x_kinds x_digits x_causes x_effects x_things x_follows (3 : Int32) t_kinds t_digits t_caseRow t_weights t_order t_calls t_things t_caseCount t_caseSet p_callsOfCase p_partOfCase p_callsOfPart p_cases p_parts r_cases r_hours r_sets r_count u_lists u_breaths u_heard u_traced u_lastFault) H := hP
  have hD : va_D A (wc_u cyI cyJ aa s_lanes s_sizes s_cells x_kinds x_digits x_causes x_effects x_things x_follows (3 : Int32) t_kinds t_digits t_caseRow t_weights t_order t_calls t_things t_caseCount t_caseSet p_callsOfCase p_partOfCase p_callsOfPart p_cases p_parts r_cases r_hours r_sets r_count u_lists u_breaths u_heard u_traced u_lastFault) := hD
  refine lv_aload_n hx hb dX3_beginsFollowing_5 rfl (lv_at hl 0 rfl) ?_
  refine va_get (D := (dC, dI)) (ci := 3) (v := .int x_things) (C := RX3) (T := TX3) (N := 7) hx hb hts hi_X3 hown hK hP 5 rfl rfl 4 (by decide) fl_24 (fun _ h9 => h9) rfl dX3_beginsFollowing_6 ?_
  refine lv_iconst (v := (2 : Int32)) hx hb dX3_beginsFollowing_9 (by decide) ?_
  refine lv_icmp_lt (tgt := 25) hx hb dX3_beginsFollowing_10 (by decide) (fun hc_2 => ?_) (fun hc_2 => ?_)
  · have h := h.1 hc_2
    refine lv_iconst (v := (0 : Int32)) hx hb dX3_beginsFollowing_25 (by decide) ?_
    exact xq_rz hQ hx hb hr (by decide) hP hK hD hS (3 : Int32) rfl h dX3_beginsFollowing_26 hlocks
  · have h := h.2 hc_2
    refine lv_aload_n hx hb dX3_beginsFollowing_13 rfl (lv_at hl 0 rfl) ?_
    refine va_get (D := (dC, dI)) (ci := 3) (v := .int x_follows) (C := RX3) (T := TX3) (N := 7) hx hb hts hi_X3 hown hK hP 5 rfl rfl 5 (by decide) fl_28 (fun _ h9 => h9) rfl dX3_beginsFollowing_14 ?_
    refine lv_iconst (v := (4 : Int32)) hx hb dX3_beginsFollowing_17 (by decide) ?_
    refine lv_icmp_ge (tgt := 25) hx hb dX3_beginsFollowing_18 (by decide) (fun hc_1 => ?_) (fun hc_1 => ?_)
    · have h := h.1 hc_1
      refine lv_iconst (v := (0 : Int32)) hx hb dX3_beginsFollowing_25 (by decide) ?_
      exact xq_rz hQ hx hb hr (by decide) hP hK hD hS (3 : Int32) rfl h dX3_beginsFollowing_26 hlocks
    · have h := h.2 hc_1
      refine lv_iconst (v := (1 : Int32)) hx hb dX3_beginsFollowing_21 (by decide) ?_
      refine lv_goto (tgt := 26) hx hb dX3_beginsFollowing_22 (by decide) ?_
      exact xq_rz hQ hx hb hr (by decide) hP hK hD hS (3 : Int32) rfl h dX3_beginsFollowing_26 hlocks
def w_X3_namesKind (x_kinds : Nat → Int32) (x_things : Int32) (x_due : Int32) (a_1 : Int32) (post : Int32 → (Nat → Int32) → Int32 → Prop) : Prop := ((6 : Int32) ≤ x_things → (post (0 : Int32) x_kinds x_due)) ∧ (¬ (6 : Int32) ≤ x_things → (xq_j0 (fun (kj_1 : Prop) => (a_1 = (116 : Int32) → (kj_1)) ∧ (¬ a_1 = (116 : Int32) → ((a_1 = (108 : Int32) → (kj_1)) ∧ (¬ a_1 = (108 : Int32) → ((a_1 = (100 : Int32) → (kj_1)) ∧ (¬ a_1 = (100 : Int32) → (post (0 : Int32) x_kinds x_due))))))) (xq_j1 (fun (kj_6 : (Nat → Int32) → Prop) => (¬ a_1 = (116 : Int32) → (xq_j1 (fun (kj_8 : Int32 → Prop) => (¬ a_1 = (108 : Int32) → (kj_8 (2 : Int32))) ∧ (a_1 = (108 : Int32) → (kj_8 (1 : Int32)))) (fun (jj_7 : Int32) => (vp_in x_things 6) ∧ (kj_6 (upd x_kinds x_things.toNatClampNeg jj_7))))) ∧ (a_1 = (116 : Int32) → ((vp_in x_things 6) ∧ (kj_6 (upd x_kinds x_things.toNatClampNeg (0 : Int32)))))) (fun (jj_5 : Nat → Int32) => post (1 : Int32) jj_5 (2 : Int32)))))
set_option maxHeartbeats 4000000 in
set_option maxRecDepth 100000 in
theorem m_X3_namesKind (l : Launch) (dC : Nat → ClassId) (dI : Nat → Nat → Nat) (cyI cyJ : ClassId) (aa : Nat → Nat) (sz : Nat) {s_lanes : Nat → Int32} {s_sizes : Nat → Int32} {s_cells : Nat → Int32} {x_kinds : Nat → Int32} {x_digits : Nat → Int32} {x_causes : Nat → Int32} {x_effects : Nat → Int32} {x_things : Int32} {x_follows : Int32} {x_due : Int32} {t_kinds : Nat → Int32} {t_digits : Nat → Int32} {t_caseRow : Nat → Int32} {t_weights : Nat → Int32} {t_order : Nat → Int32} {t_calls : Nat → Int32} {t_things : Int32} {t_caseCount : Int32} {t_caseSet : Int64} {p_callsOfCase : Nat → Int64} {p_partOfCase : Nat → Int32} {p_callsOfPart : Nat → Int64} {p_cases : Int32} {p_parts : Int32} {r_cases : Nat → Int32} {r_hours : Nat → Int32} {r_sets : Nat → Int32} {r_count : Int32} {u_lists : Nat → Int32} {u_breaths : Nat → Int32} {u_heard : Nat → Int32} {u_traced : Int32} {u_lastFault : Int32} {a_1 : Int32} {post : Int32 → (Nat → Int32) → Int32 → Prop} (h : w_X3_namesKind x_kinds x_things x_due a_1 post) : Met l yX3_namesKind wsX3_namesKind (xq_R 0 0) (va_Pc [.ref (aa 5), .int a_1] (xq_P (dC, dI) [(cyI, .int), (cyJ, .long)] (wc_u cyI cyJ aa s_lanes s_sizes s_cells x_kinds x_digits x_causes x_effects x_things x_follows x_due t_kinds t_digits t_caseRow t_weights t_order t_calls t_things t_caseCount t_caseSet p_callsOfCase p_partOfCase p_callsOfPart p_cases p_parts r_cases r_hours r_sets r_count u_lists u_breaths u_heard u_traced u_lastFault) sz)) (va_Qi (fun (rr : Int32) (uu : (Nat → Int32) × Int32) => post rr uu.1 uu.2) (fun (uu : (Nat → Int32) × Int32) => xq_B (dC, dI) [(cyI, .int), (cyJ, .long)] (va_A (wc_u cyI cyJ aa s_lanes s_sizes s_cells x_kinds x_digits x_causes x_effects x_things x_follows x_due t_kinds t_digits t_caseRow t_weights t_order t_calls t_things t_caseCount t_caseSet p_callsOfCase p_partOfCase p_callsOfPart p_cases p_parts r_cases r_hours r_sets r_count u_lists u_breaths u_heard u_traced u_lastFault) sz) (wc_u cyI cyJ aa s_lanes s_sizes s_cells uu.1 x_digits x_causes x_effects x_things x_follows uu.2 t_kinds t_digits t_caseRow t_weights t_order t_calls t_things t_caseCount t_caseSet p_callsOfCase p_partOfCase p_callsOfPart p_cases p_parts r_cases r_hours r_sets r_count u_lists u_breaths u_heard u_traced u_lastFault)) (va_A (wc_u cyI cyJ aa s_lanes s_sizes s_cells x_kinds x_digits x_causes x_effects x_things x_follows x_due t_kinds t_digits t_caseRow t_weights t_order t_calls t_things t_caseCount t_caseSet p_callsOfCase p_partOfCase p_callsOfPart p_cases p_parts r_cases r_hours r_sets r_count u_lists u_breaths u_heard u_traced u_lastFault) sz)) 0 0 (va_A (wc_u cyI cyJ aa s_lanes s_sizes s_cells x_kinds x_digits x_causes x_effects x_things x_follows x_due t_kinds t_digits t_caseRow t_weights t_order t_calls t_things t_caseCount t_caseSet p_callsOfCase p_partOfCase p_callsOfPart p_cases p_parts r_cases r_hours r_sets r_count u_lists u_breaths u_heard u_traced u_lastFault) sz) := by
  refine xq_M (cc := cX3_namesKind) (maxL := 2) (ret := (some .boolean)) (QA := fun A => va_Qi (fun (rr : Int32) (uu : (Nat → Int32) × Int32) => post rr uu.1 uu.2) (fun (uu : (Nat → Int32) × Int32) => xq_B (dC, dI) [(cyI, .int), (cyJ, .long)] A (wc_u cyI cyJ aa s_lanes s_sizes s_cells uu.1 x_digits x_causes x_effects x_things x_follows uu.2 t_kinds t_digits t_caseRow t_weights t_order t_calls t_things t_caseCount t_caseSet p_callsOfCase p_partOfCase p_callsOfPart p_cases p_parts r_cases r_hours r_sets r_count u_lists u_breaths u_heard u_traced u_lastFault)) A) (by decide) rfl (Nat.le_of_ble_eq_true rfl) ?_
  intro p e s m args below meth c A ls Q hQ hx hb hr hml hts hown hlocks hsz hP hK hD hA hS hN hl
  subst hsz
  have hl : lv_has ls 2 [(0, .ref (aa 5)), (1, .int a_1)] := hl
  have hi_X3 : ∀ w ∈ wsX30, w ∈ wsX3_namesKind := fun _ h => List.mem_cons_of_mem _ (List.mem_append_right _ h)
  have fl_9 := hts (.fieldLink RX3 9 "UnsaidCalls$Text" "kinds" "[I") (by decide +kernel)
  have fl_24 := hts (.fieldLink RX3 24 "UnsaidCalls$Text" "things" "I") (by decide +kernel)
  have fl_31 := hts (.fieldLink RX3 31 "UnsaidCalls$Text" "due" "I") (by decide +kernel)
  unfold w_X3_namesKind at h
  refine lv_aload_n hx hb dX3_namesKind_0 rfl (lv_at hl 0 rfl) ?_
  refine va_get (D := (dC, dI)) (ci := 3) (v := .int x_things) (C := RX3) (T := TX3) (N := 7) hx hb hts hi_X3 hown hK hP 5 rfl rfl 4 (by decide) fl_24 (fun _ h9 => h9) rfl dX3_namesKind_1 ?_
  refine lv_bipush (v := (6 : Int32)) hx hb dX3_namesKind_4 (by decide) ?_
  refine lv_icmp_ge (tgt := 27) hx hb dX3_namesKind_6 (by decide) (fun hc_13 => ?_) (fun hc_13 => ?_)
  · have h := h.1 hc_13
    refine lv_iconst (v := (0 : Int32)) hx hb dX3_namesKind_27 (by decide) ?_
    exact xq_rz hQ hx hb hr (by decide) hP hK hD hS (x_kinds, x_due) rfl h dX3_namesKind_28 hlocks
  · have h := h.2 hc_13
    refine lv_iload_n hx hb dX3_namesKind_9 rfl (lv_at hl 1 rfl) ?_
    refine lv_bipush (v := (116 : Int32)) hx hb dX3_namesKind_10 (by decide) ?_
    refine xq_j0_go (X := ∀ (H : Heap) (locs : List Loc) (ls : Array Slot), va_P (dC, dI) vwCl (wc_u cyI cyJ aa s_lanes s_sizes s_cells x_kinds x_digits x_causes x_effects x_things x_follows x_due t_kinds t_digits t_caseRow t_weights t_order t_calls t_things t_caseCount t_caseSet p_callsOfCase p_partOfCase p_callsOfPart p_cases p_parts r_cases r_hours r_sets r_count u_lists u_breaths u_heard u_traced u_lastFault) H → va_D A (wc_u cyI cyJ aa s_lanes s_sizes s_cells x_kinds x_digits x_causes x_effects x_things x_follows x_due t_kinds t_digits t_caseRow t_weights t_order t_calls t_things t_caseCount t_caseSet p_callsOfCase p_partOfCase p_callsOfPart p_cases p_parts r_cases r_hours r_sets r_count u_lists u_breaths u_heard u_traced u_lastFault) → va_S A s.heap H locs → lv_has ls 2 [(0, .ref (aa 5)), (1, .int a_1)] → W p l e (xq_R 0 0) s m args below meth c H locs 0 0 Q (F0 m 29 ls [])) h (fun  h H locs ls hP hD hS hl => ?_) (fun kj_1 h => ?_)
    · refine lv_iload_n hx hb dX3_namesKind_29 rfl (lv_at hl 1 rfl) ?_
      refine lv_bipush (v := (116 : Int32)) hx hb dX3_namesKind_30 (by decide) ?_
      refine xq_j1_go (X := fun (jj_5 : Nat → Int32) => ∀ (H : Heap) (locs : List Loc) (ls : Array Slot), va_P (dC, dI) vwCl (wc_u cyI cyJ aa s_lanes s_sizes s_cells jj_5 x_digits x_causes x_effects x_things x_follows x_due t_kinds t_digits t_caseRow t_weights t_order t_calls t_things t_caseCount t_caseSet p_callsOfCase p_partOfCase p_callsOfPart p_cases p_parts r_cases r_hours r_sets r_count u_lists u_breaths u_heard u_traced u_lastFault) H → va_D A (wc_u cyI cyJ aa s_lanes s_sizes s_cells jj_5 x_digits x_causes x_effects x_things x_follows x_due t_kinds t_digits t_caseRow t_weights t_order t_calls t_things t_caseCount t_caseSet p_callsOfCase p_partOfCase p_callsOfPart p_cases p_parts r_cases r_hours r_sets r_count u_lists u_breaths u_heard u_traced u_lastFault) → va_S A s.heap H locs → lv_has ls 2 [(0, .ref (aa 5))] → W p l e (xq_R 0 0) s m args below meth c H locs 0 0 Q (F0 m 68 ls [])) h (fun jj_5 h H locs ls hP hD hS hl => ?_) (fun kj_6 h => ?_)
      · refine lv_aload_n hx hb dX3_namesKind_68 rfl (lv_at hl 0 rfl) ?_
        refine lv_iconst (v := (2 : Int32)) hx hb dX3_namesKind_69 (by decide) ?_
        refine va_put (D := (dC, dI)) (ci := 3) (v := .int (2 : Int32)) (ty := .int) (C := RX3) (T := TX3) (N := 7) hx hb hts hi_X3 tyX3 tyX3_ok nmX3 hown hK hP hD hS 5 rfl rfl 6 (by decide) fl_31 (fun _ h9 => h9) rfl (by decide +kernel) rfl rfl (Nat.le_of_ble_eq_true rfl) dX3_namesKind_70 (fun H locs hP hD hS => ?_)
        have hP : va_P (dC, dI) vwCl (wc_u cyI cyJ aa s_lanes s_sizes s_cells jj_5 x_digits x_causes x_effects x_things x_follows (2 : Int32) t_kinds t_digits t_caseRow t_weights t_order t_calls t_things t_caseCount t_caseSet p_callsOfCase p_partOfCase p_callsOfPart p_cases p_parts r_cases r_hours r_sets r_count u_lists u_breaths u_heard u_traced u_lastFault) H := hP
        have hD : va_D A (wc_u cyI cyJ aa s_lanes s_sizes s_cells jj_5 x_digits x_causes x_effects x_things x_follows (2 : Int32) t_kinds t_digits t_caseRow t_weights t_order t_calls t_things t_caseCount t_caseSet p_callsOfCase p_partOfCase p_callsOfPart p_cases p_parts r_cases r_hours r_sets r_count u_lists u_breaths u_heard u_traced u_lastFault) := hD
        refine lv_iconst (v := (1 : Int32)) hx hb dX3_namesKind_73 (by decide) ?_
        exact xq_rz hQ hx hb hr (by decide) hP hK hD hS (jj_5, (2 : Int32)) rfl h dX3_namesKind_74 hlocks
      · refine lv_icmp_ne (tgt := 48) hx hb dX3_namesKind_32 (by decide) (fun hc_12 => ?_) (fun hc_12 => ?_)
        · have h := h.1 hc_12
          refine lv_aload_n hx hb dX3_namesKind_48 rfl (lv_at hl 0 rfl) ?_
          refine va_get (D := (dC, dI)) (ci := 3) (v := .ref (aa 6)) (C := RX3) (T := TX3) (N := 7) hx hb hts hi_X3 hown hK hP 5 rfl rfl 0 (by decide) fl_9 (fun _ h9 => h9) rfl dX3_namesKind_49 ?_
          refine lv_aload_n hx hb dX3_namesKind_52 rfl (lv_at hl 0 rfl) ?_
          refine va_get (D := (dC, dI)) (ci := 3) (v := .int x_things) (C := RX3) (T := TX3) (N := 7) hx hb hts hi_X3 hown hK hP 5 rfl rfl 4 (by decide) fl_24 (fun _ h9 => h9) rfl dX3_namesKind_53 ?_
          refine lv_iload_n hx hb dX3_namesKind_56 rfl (lv_at hl 1 rfl) ?_
          refine lv_bipush (v := (108 : Int32)) hx hb dX3_namesKind_57 (by decide) ?_
          refine xq_j1_go (X := fun (jj_7 : Int32) => ∀ (H : Heap) (locs : List Loc) (ls : Array Slot), va_P (dC, dI) vwCl (wc_u cyI cyJ aa s_lanes s_sizes s_cells x_kinds x_digits x_causes x_effects x_things x_follows x_due t_kinds t_digits t_caseRow t_weights t_order t_calls t_things t_caseCount t_caseSet p_callsOfCase p_partOfCase p_callsOfPart p_cases p_parts r_cases r_hours r_sets r_count u_lists u_breaths u_heard u_traced u_lastFault) H → va_D A (wc_u cyI cyJ aa s_lanes s_sizes s_cells x_kinds x_digits x_causes x_effects x_things x_follows x_due t_kinds t_digits t_caseRow t_weights t_order t_calls t_things t_caseCount t_caseSet p_callsOfCase p_partOfCase p_callsOfPart p_cases p_parts r_cases r_hours r_sets r_count u_lists u_breaths u_heard u_traced u_lastFault) → va_S A s.heap H locs → lv_has ls 2 [(0, .ref (aa 5))] → W p l e (xq_R 0 0) s m args below meth c H locs 0 0 Q (F0 m 67 ls [.int jj_7, .int x_things, .ref (aa 6)])) h (fun jj_7 h H locs ls hP hD hS hl => ?_) (fun kj_8 h => ?_)
          · obtain ⟨hv_10, h⟩ := h
            refine va_iast hx hb hK hP hD hS 6 0 rfl rfl hv_10 dX3_namesKind_67 (fun H locs hP hD hS => ?_)
            have hP : va_P (dC, dI) vwCl (wc_u cyI cyJ aa s_lanes s_sizes s_cells (upd x_kinds x_things.toNatClampNeg jj_7) x_digits x_causes x_effects x_things x_follows x_due t_kinds t_digits t_caseRow t_weights t_order t_calls t_things t_caseCount t_caseSet p_callsOfCase p_partOfCase p_callsOfPart p_cases p_parts r_cases r_hours r_sets r_count u_lists u_breaths u_heard u_traced u_lastFault) H := hP
            have hD : va_D A (wc_u cyI cyJ aa s_lanes s_sizes s_cells (upd x_kinds x_things.toNatClampNeg jj_7) x_digits x_causes x_effects x_things x_follows x_due t_kinds t_digits t_caseRow t_weights t_order t_calls t_things t_caseCount t_caseSet p_callsOfCase p_partOfCase p_callsOfPart p_cases p_parts r_cases r_hours r_sets r_count u_lists u_breaths u_heard u_traced u_lastFault) := hD
            exact kj_6 (upd x_kinds x_things.toNatClampNeg jj_7) h _ _ _ hP hD hS (lv_sub hl [0] rfl)
          · refine lv_icmp_ne (tgt := 66) hx hb dX3_namesKind_59 (by decide) (fun hc_9 => ?_) (fun hc_9 => ?_)
            · have h := h.1 hc_9
              refine lv_iconst (v := (2 : Int32)) hx hb dX3_namesKind_66 (by decide) ?_
              exact kj_8 (2 : Int32) h _ _ _ hP hD hS (lv_sub hl [0] rfl)
            · have h := h.2 hc_9
              refine lv_iconst (v := (1 : Int32)) hx hb dX3_namesKind_62 (by decide) ?_
              refine lv_goto (tgt := 67) hx hb dX3_namesKind_63 (by decide) ?_
              exact kj_8 (1 : Int32) h _ _ _ hP hD hS (lv_sub hl [0] rfl)
        · have h := h.2 hc_12
          refine lv_aload_n hx hb dX3_namesKind_35 rfl (lv_at hl 0 rfl) ?_
          refine va_get (D := (dC, dI)) (ci := 3) (v := .ref (aa 6)) (C := RX3) (T := TX3) (N := 7) hx hb hts hi_X3 hown hK hP 5 rfl rfl 0 (by decide) fl_9 (fun _ h9 => h9) rfl dX3_namesKind_36 ?_
          refine lv_aload_n hx hb dX3_namesKind_39 rfl (lv_at hl 0 rfl) ?_
          refine va_get (D := (dC, dI)) (ci := 3) (v := .int x_things) (C := RX3) (T := TX3) (N := 7) hx hb hts hi_X3 hown hK hP 5 rfl rfl 4 (by decide) fl_24 (fun _ h9 => h9) rfl dX3_namesKind_40 ?_
          refine lv_iconst (v := (0 : Int32)) hx hb dX3_namesKind_43 (by decide) ?_
          obtain ⟨hv_11, h⟩ := h
          refine va_iast hx hb hK hP hD hS 6 0 rfl rfl hv_11 dX3_namesKind_44 (fun H locs hP hD hS => ?_)
          have hP : va_P (dC, dI) vwCl (wc_u cyI cyJ aa s_lanes s_sizes s_cells (upd x_kinds x_things.toNatClampNeg (0 : Int32)) x_digits x_causes x_effects x_things x_follows x_due t_kinds t_digits t_caseRow t_weights t_order t_calls t_things t_caseCount t_caseSet p_callsOfCase p_partOfCase p_callsOfPart p_cases p_parts r_cases r_hours r_sets r_count u_lists u_breaths u_heard u_traced u_lastFault) H := hP
          have hD : va_D A (wc_u cyI cyJ aa s_lanes s_sizes s_cells (upd x_kinds x_things.toNatClampNeg (0 : Int32)) x_digits x_causes x_effects x_things x_follows x_due t_kinds t_digits t_caseRow t_weights t_order t_calls t_things t_caseCount t_caseSet p_callsOfCase p_partOfCase p_callsOfPart p_cases p_parts r_cases r_hours r_sets r_count u_lists u_breaths u_heard u_traced u_lastFault) := hD
          refine lv_goto (tgt := 68) hx hb dX3_namesKind_45 (by decide) ?_
          exact kj_6 (upd x_kinds x_things.toNatClampNeg (0 : Int32)) h _ _ _ hP hD hS (lv_sub hl [0] rfl)
    · refine lv_icmp_eq (tgt := 29) hx hb dX3_namesKind_12 (by decide) (fun hc_4 => ?_) (fun hc_4 => ?_)
      · have h := h.1 hc_4
        exact kj_1 h _ _ _ hP hD hS (lv_sub hl [0, 1] rfl)
      · have h := h.2 hc_4
        refine lv_iload_n hx hb dX3_namesKind_15 rfl (lv_at hl 1 rfl) ?_
        refine lv_bipush (v := (108 : Int32)) hx hb dX3_namesKind_16 (by decide) ?_
        refine lv_icmp_eq (tgt := 29) hx hb dX3_namesKind_18 (by decide) (fun hc_3 => ?_) (fun hc_3 => ?_)
        · have h := h.1 hc_3
          exact kj_1 h _ _ _ hP hD hS (lv_sub hl [0, 1] rfl)
        · have h := h.2 hc_3
          refine lv_iload_n hx hb dX3_namesKind_21 rfl (lv_at hl 1 rfl) ?_
          refine lv_bipush (v := (100 : Int32)) hx hb dX3_namesKind_22 (by decide) ?_
          refine lv_icmp_eq (tgt := 29) hx hb dX3_namesKind_24 (by decide) (fun hc_2 => ?_) (fun hc_2 => ?_)
          · have h := h.1 hc_2
            exact kj_1 h _ _ _ hP hD hS (lv_sub hl [0, 1] rfl)
          · have h := h.2 hc_2
            refine lv_iconst (v := (0 : Int32)) hx hb dX3_namesKind_27 (by decide) ?_
            exact xq_rz hQ hx hb hr (by decide) hP hK hD hS (x_kinds, x_due) rfl h dX3_namesKind_28 hlocks
def w_X3_startsWith (x_due : Int32) (a_1 : Int32) (post : Int32 → Int32 → Prop) : Prop := (¬ a_1 = (119 : Int32) → (post (0 : Int32) (1 : Int32))) ∧ (a_1 = (119 : Int32) → (post (1 : Int32) (1 : Int32)))
set_option maxHeartbeats 4000000 in
set_option maxRecDepth 100000 in
theorem m_X3_startsWith (l : Launch) (dC : Nat → ClassId) (dI : Nat → Nat → Nat) (cyI cyJ : ClassId) (aa : Nat → Nat) (sz : Nat) {s_lanes : Nat → Int32} {s_sizes : Nat → Int32} {s_cells : Nat → Int32} {x_kinds : Nat → Int32} {x_digits : Nat → Int32} {x_causes : Nat → Int32} {x_effects : Nat → Int32} {x_things : Int32} {x_follows : Int32} {x_due : Int32} {t_kinds : Nat → Int32} {t_digits : Nat → Int32} {t_caseRow : Nat → Int32} {t_weights : Nat → Int32} {t_order : Nat → Int32} {t_calls : Nat → Int32} {t_things : Int32} {t_caseCount : Int32} {t_caseSet : Int64} {p_callsOfCase : Nat → Int64} {p_partOfCase : Nat → Int32} {p_callsOfPart : Nat → Int64} {p_cases : Int32} {p_parts : Int32} {r_cases : Nat → Int32} {r_hours : Nat → Int32} {r_sets : Nat → Int32} {r_count : Int32} {u_lists : Nat → Int32} {u_breaths : Nat → Int32} {u_heard : Nat → Int32} {u_traced : Int32} {u_lastFault : Int32} {a_1 : Int32} {post : Int32 → Int32 → Prop} (h : w_X3_startsWith x_due a_1 post) : Met l yX3_startsWith wsX3_startsWith (xq_R 0 0) (va_Pc [.ref (aa 5), .int a_1] (xq_P (dC, dI) [(cyI, .int), (cyJ, .long)] (wc_u cyI cyJ aa s_lanes s_sizes s_cells x_kinds x_digits x_causes x_effects x_things x_follows x_due t_kinds t_digits t_caseRow t_weights t_order t_calls t_things t_caseCount t_caseSet p_callsOfCase p_partOfCase p_callsOfPart p_cases p_parts r_cases r_hours r_sets r_count u_lists u_breaths u_heard u_traced u_lastFault) sz)) (va_Qi (fun (rr : Int32) (uu : Int32) => post rr uu) (fun (uu : Int32) => xq_B (dC, dI) [(cyI, .int), (cyJ, .long)] (va_A (wc_u cyI cyJ aa s_lanes s_sizes s_cells x_kinds x_digits x_causes x_effects x_things x_follows x_due t_kinds t_digits t_caseRow t_weights t_order t_calls t_things t_caseCount t_caseSet p_callsOfCase p_partOfCase p_callsOfPart p_cases p_parts r_cases r_hours r_sets r_count u_lists u_breaths u_heard u_traced u_lastFault) sz) (wc_u cyI cyJ aa s_lanes s_sizes s_cells x_kinds x_digits x_causes x_effects x_things x_follows uu t_kinds t_digits t_caseRow t_weights t_order t_calls t_things t_caseCount t_caseSet p_callsOfCase p_partOfCase p_callsOfPart p_cases p_parts r_cases r_hours r_sets r_count u_lists u_breaths u_heard u_traced u_lastFault)) (va_A (wc_u cyI cyJ aa s_lanes s_sizes s_cells x_kinds x_digits x_causes x_effects x_things x_follows x_due t_kinds t_digits t_caseRow t_weights t_order t_calls t_things t_caseCount t_caseSet p_callsOfCase p_partOfCase p_callsOfPart p_cases p_parts r_cases r_hours r_sets r_count u_lists u_breaths u_heard u_traced u_lastFault) sz)) 0 0 (va_A (wc_u cyI cyJ aa s_lanes s_sizes s_cells x_kinds x_digits x_causes x_effects x_things x_follows x_due t_kinds t_digits t_caseRow t_weights t_order t_calls t_things t_caseCount t_caseSet p_callsOfCase p_partOfCase p_callsOfPart p_cases p_parts r_cases r_hours r_sets r_count u_lists u_breaths u_heard u_traced u_lastFault) sz) := by
  refine xq_M (cc := cX3_startsWith) (maxL := 2) (ret := (some .boolean)) (QA := fun A => va_Qi (fun (rr : Int32) (uu : Int32) => post rr uu) (fun (uu : Int32) => xq_B (dC, dI) [(cyI, .int), (cyJ, .long)] A (wc_u cyI cyJ aa s_lanes s_sizes s_cells x_kinds x_digits x_causes x_effects x_things x_follows uu t_kinds t_digits t_caseRow t_weights t_order t_calls t_things t_caseCount t_caseSet p_callsOfCase p_partOfCase p_callsOfPart p_cases p_parts r_cases r_hours r_sets r_count u_lists u_breaths u_heard u_traced u_lastFault)) A) (by decide) rfl (Nat.le_of_ble_eq_true rfl) ?_
  intro p e s m args below meth c A ls Q hQ hx hb hr hml hts hown hlocks hsz hP hK hD hA hS hN hl
  subst hsz
  have hl : lv_has ls 2 [(0, .ref (aa 5)), (1, .int a_1)] := hl
  have hi_X3 : ∀ w ∈ wsX30, w ∈ wsX3_startsWith := fun _ h => List.mem_cons_of_mem _ (List.mem_append_right _ h)
  have fl_31 := hts (.fieldLink RX3 31 "UnsaidCalls$Text" "due" "I") (by decide +kernel)
  unfold w_X3_startsWith at h
  refine lv_aload_n hx hb dX3_startsWith_0 rfl (lv_at hl 0 rfl) ?_
  refine lv_iconst (v := (1 : Int32)) hx hb dX3_startsWith_1 (by decide) ?_
  refine va_put (D := (dC, dI)) (ci := 3) (v := .int (1 : Int32)) (ty := .int) (C := RX3) (T := TX3) (N := 7) hx hb hts hi_X3 tyX3 tyX3_ok nmX3 hown hK hP hD hS 5 rfl rfl 6 (by decide) fl_31 (fun _ h9 => h9) rfl (by decide +kernel) rfl rfl (Nat.le_of_ble_eq_true rfl) dX3_startsWith_2 (fun H locs hP hD hS => ?_)
  have hP : va_P (dC, dI) vwCl (wc_u cyI cyJ aa s_lanes s_sizes s_cells x_kinds x_digits x_causes x_effects x_things x_follows (1 : Int32) t_kinds t_digits t_caseRow t_weights t_order t_calls t_things t_caseCount t_caseSet p_callsOfCase p_partOfCase p_callsOfPart p_cases p_parts r_cases r_hours r_sets r_count u_lists u_breaths u_heard u_traced u_lastFault) H := hP
  have hD : va_D A (wc_u cyI cyJ aa s_lanes s_sizes s_cells x_kinds x_digits x_causes x_effects x_things x_follows (1 : Int32) t_kinds t_digits t_caseRow t_weights t_order t_calls t_things t_caseCount t_caseSet p_callsOfCase p_partOfCase p_callsOfPart p_cases p_parts r_cases r_hours r_sets r_count u_lists u_breaths u_heard u_traced u_lastFault) := hD
  refine lv_iload_n hx hb dX3_startsWith_5 rfl (lv_at hl 1 rfl) ?_
  refine lv_bipush (v := (119 : Int32)) hx hb dX3_startsWith_6 (by decide) ?_
  refine lv_icmp_ne (tgt := 15) hx hb dX3_startsWith_8 (by decide) (fun hc_1 => ?_) (fun hc_1 => ?_)
  · have h := h.1 hc_1
    refine lv_iconst (v := (0 : Int32)) hx hb dX3_startsWith_15 (by decide) ?_
    exact xq_rz hQ hx hb hr (by decide) hP hK hD hS (1 : Int32) rfl h dX3_startsWith_16 hlocks
  · have h := h.2 hc_1
    refine lv_iconst (v := (1 : Int32)) hx hb dX3_startsWith_11 (by decide) ?_
    refine lv_goto (tgt := 16) hx hb dX3_startsWith_12 (by decide) ?_
    exact xq_rz hQ hx hb hr (by decide) hP hK hD hS (1 : Int32) rfl h dX3_startsWith_16 hlocks
