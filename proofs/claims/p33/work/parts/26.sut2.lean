theorem idJ6_bitCount_0f7a4 : yJ6_bitCount_0f7a4.cls = RJ6 ∧ yJ6_bitCount_0f7a4.cls ≠ "java/lang/invoke/MethodHandle" ∧ yJ6_bitCount_0f7a4.cls ≠ "java/lang/invoke/VarHandle" ∧ (parseMethodDescriptor yJ6_bitCount_0f7a4.desc).map (fun d => d.parameters.length) = some 1 := by decide +kernel

set_option maxHeartbeats 4000000 in
set_option maxRecDepth 100000 in
theorem mJ6_bitCount_0f7a4 (l : Launch) {G : va_G} {T : Nat → ClassId} {H : Heap} {x : Int32}  : ro l yJ6_bitCount_0f7a4 wsJ6_bitCount_0f7a4 0 0 [.int x] G T H (fun r => r = bc x) := by
  refine ro_of (cc := cJ6_bitCount_0f7a4) (maxL := 1) (ret := .int) (own := RJ6) (by decide +kernel) rfl rfl (Nat.le_of_ble_eq_true rfl) (fun v _ => vp_nar_int v) ?_
  intro p e s m below meth c Q ls S hkx hl hret
  obtain ⟨hx, hb, hml, hown, hts⟩ := id S
  have hl : lv_has ls 1 [(0, .int x)] := hl
  have kI265 := hts (.constant RJ6 265 (1431655765)) (by decide +kernel)
  have kI266 := hts (.constant RJ6 266 (858993459)) (by decide +kernel)
  have kI267 := hts (.constant RJ6 267 (252645135)) (by decide +kernel)
  refine lv_iload_n hx hb dJ6_bitCount_0f7a4_0 rfl (lv_at hl 0 rfl) ?_
  refine lv_iload_n hx hb dJ6_bitCount_0f7a4_1 rfl (lv_at hl 0 rfl) ?_
  refine lv_iconst (v := 1) hx hb dJ6_bitCount_0f7a4_2 (by decide) ?_
  refine lv_iushr (v := ((Int32.toUInt32 x >>> (Int32.toUInt32 1 &&& Int32.toUInt32 31)).toInt32)) hx hb dJ6_bitCount_0f7a4_3 rfl ?_
  refine lv_ldcw hx hb hown kI265 dJ6_bitCount_0f7a4_4 ?_
  refine lv_iand hx hb dJ6_bitCount_0f7a4_7 ?_
  refine lv_isub hx hb dJ6_bitCount_0f7a4_8 ?_
  refine lv_istore_n (lv' := [(0, .int (x - (((Int32.toUInt32 x >>> (Int32.toUInt32 1 &&& Int32.toUInt32 31)).toInt32) &&& 1431655765)))]) hx hb dJ6_bitCount_0f7a4_9 rfl hl (by decide) rfl (fun ls hl => ?_)
  refine lv_iload_n hx hb dJ6_bitCount_0f7a4_10 rfl (lv_at hl 0 rfl) ?_
  refine lv_ldcw hx hb hown kI266 dJ6_bitCount_0f7a4_11 ?_
  refine lv_iand hx hb dJ6_bitCount_0f7a4_14 ?_
  refine lv_iload_n hx hb dJ6_bitCount_0f7a4_15 rfl (lv_at hl 0 rfl) ?_
  refine lv_iconst (v := 2) hx hb dJ6_bitCount_0f7a4_16 (by decide) ?_
  refine lv_iushr (v := ((Int32.toUInt32 (x - (((Int32.toUInt32 x >>> (Int32.toUInt32 1 &&& Int32.toUInt32 31)).toInt32) &&& 1431655765)) >>> (Int32.toUInt32 2 &&& Int32.toUInt32 31)).toInt32)) hx hb dJ6_bitCount_0f7a4_17 rfl ?_
  refine lv_ldcw hx hb hown kI266 dJ6_bitCount_0f7a4_18 ?_
  refine lv_iand hx hb dJ6_bitCount_0f7a4_21 ?_
  refine lv_iadd hx hb dJ6_bitCount_0f7a4_22 ?_
  refine lv_istore_n (lv' := [(0, .int (((x - (((Int32.toUInt32 x >>> (Int32.toUInt32 1 &&& Int32.toUInt32 31)).toInt32) &&& 1431655765)) &&& 858993459) + (((Int32.toUInt32 (x - (((Int32.toUInt32 x >>> (Int32.toUInt32 1 &&& Int32.toUInt32 31)).toInt32) &&& 1431655765)) >>> (Int32.toUInt32 2 &&& Int32.toUInt32 31)).toInt32) &&& 858993459)))]) hx hb dJ6_bitCount_0f7a4_23 rfl hl (by decide) rfl (fun ls hl => ?_)
  refine lv_iload_n hx hb dJ6_bitCount_0f7a4_24 rfl (lv_at hl 0 rfl) ?_
  refine lv_iload_n hx hb dJ6_bitCount_0f7a4_25 rfl (lv_at hl 0 rfl) ?_
  refine lv_iconst (v := 4) hx hb dJ6_bitCount_0f7a4_26 (by decide) ?_
  refine lv_iushr (v := ((Int32.toUInt32 (((x - (((Int32.toUInt32 x >>> (Int32.toUInt32 1 &&& Int32.toUInt32 31)).toInt32) &&& 1431655765)) &&& 858993459) + (((Int32.toUInt32 (x - (((Int32.toUInt32 x >>> (Int32.toUInt32 1 &&& Int32.toUInt32 31)).toInt32) &&& 1431655765)) >>> (Int32.toUInt32 2 &&& Int32.toUInt32 31)).toInt32) &&& 858993459)) >>> (Int32.toUInt32 4 &&& Int32.toUInt32 31)).toInt32)) hx hb dJ6_bitCount_0f7a4_27 rfl ?_
  refine lv_iadd hx hb dJ6_bitCount_0f7a4_28 ?_
  refine lv_ldcw hx hb hown kI267 dJ6_bitCount_0f7a4_29 ?_
  refine lv_iand hx hb dJ6_bitCount_0f7a4_32 ?_
  refine lv_istore_n (lv' := [(0, .int (((((x - (((Int32.toUInt32 x >>> (Int32.toUInt32 1 &&& Int32.toUInt32 31)).toInt32) &&& 1431655765)) &&& 858993459) + (((Int32.toUInt32 (x - (((Int32.toUInt32 x >>> (Int32.toUInt32 1 &&& Int32.toUInt32 31)).toInt32) &&& 1431655765)) >>> (Int32.toUInt32 2 &&& Int32.toUInt32 31)).toInt32) &&& 858993459)) + ((Int32.toUInt32 (((x - (((Int32.toUInt32 x >>> (Int32.toUInt32 1 &&& Int32.toUInt32 31)).toInt32) &&& 1431655765)) &&& 858993459) + (((Int32.toUInt32 (x - (((Int32.toUInt32 x >>> (Int32.toUInt32 1 &&& Int32.toUInt32 31)).toInt32) &&& 1431655765)) >>> (Int32.toUInt32 2 &&& Int32.toUInt32 31)).toInt32) &&& 858993459)) >>> (Int32.toUInt32 4 &&& Int32.toUInt32 31)).toInt32)) &&& 252645135))]) hx hb dJ6_bitCount_0f7a4_33 rfl hl (by decide) rfl (fun ls hl => ?_)
  refine lv_iload_n hx hb dJ6_bitCount_0f7a4_34 rfl (lv_at hl 0 rfl) ?_
  refine lv_iload_n hx hb dJ6_bitCount_0f7a4_35 rfl (lv_at hl 0 rfl) ?_
  refine lv_bipush (v := 8) hx hb dJ6_bitCount_0f7a4_36 (by decide) ?_
  refine lv_iushr (v := ((Int32.toUInt32 (((((x - (((Int32.toUInt32 x >>> (Int32.toUInt32 1 &&& Int32.toUInt32 31)).toInt32) &&& 1431655765)) &&& 858993459) + (((Int32.toUInt32 (x - (((Int32.toUInt32 x >>> (Int32.toUInt32 1 &&& Int32.toUInt32 31)).toInt32) &&& 1431655765)) >>> (Int32.toUInt32 2 &&& Int32.toUInt32 31)).toInt32) &&& 858993459)) + ((Int32.toUInt32 (((x - (((Int32.toUInt32 x >>> (Int32.toUInt32 1 &&& Int32.toUInt32 31)).toInt32) &&& 1431655765)) &&& 858993459) + (((Int32.toUInt32 (x - (((Int32.toUInt32 x >>> (Int32.toUInt32 1 &&& Int32.toUInt32 31)).toInt32) &&& 1431655765)) >>> (Int32.toUInt32 2 &&& Int32.toUInt32 31)).toInt32) &&& 858993459)) >>> (Int32.toUInt32 4 &&& Int32.toUInt32 31)).toInt32)) &&& 252645135) >>> (Int32.toUInt32 8 &&& Int32.toUInt32 31)).toInt32)) hx hb dJ6_bitCount_0f7a4_38 rfl ?_
  refine lv_iadd hx hb dJ6_bitCount_0f7a4_39 ?_
  refine lv_istore_n (lv' := [(0, .int ((((((x - (((Int32.toUInt32 x >>> (Int32.toUInt32 1 &&& Int32.toUInt32 31)).toInt32) &&& 1431655765)) &&& 858993459) + (((Int32.toUInt32 (x - (((Int32.toUInt32 x >>> (Int32.toUInt32 1 &&& Int32.toUInt32 31)).toInt32) &&& 1431655765)) >>> (Int32.toUInt32 2 &&& Int32.toUInt32 31)).toInt32) &&& 858993459)) + ((Int32.toUInt32 (((x - (((Int32.toUInt32 x >>> (Int32.toUInt32 1 &&& Int32.toUInt32 31)).toInt32) &&& 1431655765)) &&& 858993459) + (((Int32.toUInt32 (x - (((Int32.toUInt32 x >>> (Int32.toUInt32 1 &&& Int32.toUInt32 31)).toInt32) &&& 1431655765)) >>> (Int32.toUInt32 2 &&& Int32.toUInt32 31)).toInt32) &&& 858993459)) >>> (Int32.toUInt32 4 &&& Int32.toUInt32 31)).toInt32)) &&& 252645135) + ((Int32.toUInt32 (((((x - (((Int32.toUInt32 x >>> (Int32.toUInt32 1 &&& Int32.toUInt32 31)).toInt32) &&& 1431655765)) &&& 858993459) + (((Int32.toUInt32 (x - (((Int32.toUInt32 x >>> (Int32.toUInt32 1 &&& Int32.toUInt32 31)).toInt32) &&& 1431655765)) >>> (Int32.toUInt32 2 &&& Int32.toUInt32 31)).toInt32) &&& 858993459)) + ((Int32.toUInt32 (((x - (((Int32.toUInt32 x >>> (Int32.toUInt32 1 &&& Int32.toUInt32 31)).toInt32) &&& 1431655765)) &&& 858993459) + (((Int32.toUInt32 (x - (((Int32.toUInt32 x >>> (Int32.toUInt32 1 &&& Int32.toUInt32 31)).toInt32) &&& 1431655765)) >>> (Int32.toUInt32 2 &&& Int32.toUInt32 31)).toInt32) &&& 858993459)) >>> (Int32.toUInt32 4 &&& Int32.toUInt32 31)).toInt32)) &&& 252645135) >>> (Int32.toUInt32 8 &&& Int32.toUInt32 31)).toInt32)))]) hx hb dJ6_bitCount_0f7a4_40 rfl hl (by decide) rfl (fun ls hl => ?_)
  refine lv_iload_n hx hb dJ6_bitCount_0f7a4_41 rfl (lv_at hl 0 rfl) ?_
  refine lv_iload_n hx hb dJ6_bitCount_0f7a4_42 rfl (lv_at hl 0 rfl) ?_
  refine lv_bipush (v := 16) hx hb dJ6_bitCount_0f7a4_43 (by decide) ?_
  refine lv_iushr (v := ((Int32.toUInt32 ((((((x - (((Int32.toUInt32 x >>> (Int32.toUInt32 1 &&& Int32.toUInt32 31)).toInt32) &&& 1431655765)) &&& 858993459) + (((Int32.toUInt32 (x - (((Int32.toUInt32 x >>> (Int32.toUInt32 1 &&& Int32.toUInt32 31)).toInt32) &&& 1431655765)) >>> (Int32.toUInt32 2 &&& Int32.toUInt32 31)).toInt32) &&& 858993459)) + ((Int32.toUInt32 (((x - (((Int32.toUInt32 x >>> (Int32.toUInt32 1 &&& Int32.toUInt32 31)).toInt32) &&& 1431655765)) &&& 858993459) + (((Int32.toUInt32 (x - (((Int32.toUInt32 x >>> (Int32.toUInt32 1 &&& Int32.toUInt32 31)).toInt32) &&& 1431655765)) >>> (Int32.toUInt32 2 &&& Int32.toUInt32 31)).toInt32) &&& 858993459)) >>> (Int32.toUInt32 4 &&& Int32.toUInt32 31)).toInt32)) &&& 252645135) + ((Int32.toUInt32 (((((x - (((Int32.toUInt32 x >>> (Int32.toUInt32 1 &&& Int32.toUInt32 31)).toInt32) &&& 1431655765)) &&& 858993459) + (((Int32.toUInt32 (x - (((Int32.toUInt32 x >>> (Int32.toUInt32 1 &&& Int32.toUInt32 31)).toInt32) &&& 1431655765)) >>> (Int32.toUInt32 2 &&& Int32.toUInt32 31)).toInt32) &&& 858993459)) + ((Int32.toUInt32 (((x - (((Int32.toUInt32 x >>> (Int32.toUInt32 1 &&& Int32.toUInt32 31)).toInt32) &&& 1431655765)) &&& 858993459) + (((Int32.toUInt32 (x - (((Int32.toUInt32 x >>> (Int32.toUInt32 1 &&& Int32.toUInt32 31)).toInt32) &&& 1431655765)) >>> (Int32.toUInt32 2 &&& Int32.toUInt32 31)).toInt32) &&& 858993459)) >>> (Int32.toUInt32 4 &&& Int32.toUInt32 31)).toInt32)) &&& 252645135) >>> (Int32.toUInt32 8 &&& Int32.toUInt32 31)).toInt32)) >>> (Int32.toUInt32 16 &&& Int32.toUInt32 31)).toInt32)) hx hb dJ6_bitCount_0f7a4_45 rfl ?_
  refine lv_iadd hx hb dJ6_bitCount_0f7a4_46 ?_
  refine lv_istore_n (lv' := [(0, .int (((((((x - (((Int32.toUInt32 x >>> (Int32.toUInt32 1 &&& Int32.toUInt32 31)).toInt32) &&& 1431655765)) &&& 858993459) + (((Int32.toUInt32 (x - (((Int32.toUInt32 x >>> (Int32.toUInt32 1 &&& Int32.toUInt32 31)).toInt32) &&& 1431655765)) >>> (Int32.toUInt32 2 &&& Int32.toUInt32 31)).toInt32) &&& 858993459)) + ((Int32.toUInt32 (((x - (((Int32.toUInt32 x >>> (Int32.toUInt32 1 &&& Int32.toUInt32 31)).toInt32) &&& 1431655765)) &&& 858993459) + (((Int32.toUInt32 (x - (((Int32.toUInt32 x >>> (Int32.toUInt32 1 &&& Int32.toUInt32 31)).toInt32) &&& 1431655765)) >>> (Int32.toUInt32 2 &&& Int32.toUInt32 31)).toInt32) &&& 858993459)) >>> (Int32.toUInt32 4 &&& Int32.toUInt32 31)).toInt32)) &&& 252645135) + ((Int32.toUInt32 (((((x - (((Int32.toUInt32 x >>> (Int32.toUInt32 1 &&& Int32.toUInt32 31)).toInt32) &&& 1431655765)) &&& 858993459) + (((Int32.toUInt32 (x - (((Int32.toUInt32 x >>> (Int32.toUInt32 1 &&& Int32.toUInt32 31)).toInt32) &&& 1431655765)) >>> (Int32.toUInt32 2 &&& Int32.toUInt32 31)).toInt32) &&& 858993459)) + ((Int32.toUInt32 (((x - (((Int32.toUInt32 x >>> (Int32.toUInt32 1 &&& Int32.toUInt32 31)).toInt32) &&& 1431655765)) &&& 858993459) + (((Int32.toUInt32 (x - (((Int32.toUInt32 x >>> (Int32.toUInt32 1 &&& Int32.toUInt32 31)).toInt32) &&& 1431655765)) >>> (Int32.toUInt32 2 &&& Int32.toUInt32 31)).toInt32) &&& 858993459)) >>> (Int32.toUInt32 4 &&& Int32.toUInt32 31)).toInt32)) &&& 252645135) >>> (Int32.toUInt32 8 &&& Int32.toUInt32 31)).toInt32)) + ((Int32.toUInt32 ((((((x - (((Int32.toUInt32 x >>> (Int32.toUInt32 1 &&& Int32.toUInt32 31)).toInt32) &&& 1431655765)) &&& 858993459) + (((Int32.toUInt32 (x - (((Int32.toUInt32 x >>> (Int32.toUInt32 1 &&& Int32.toUInt32 31)).toInt32) &&& 1431655765)) >>> (Int32.toUInt32 2 &&& Int32.toUInt32 31)).toInt32) &&& 858993459)) + ((Int32.toUInt32 (((x - (((Int32.toUInt32 x >>> (Int32.toUInt32 1 &&& Int32.toUInt32 31)).toInt32) &&& 1431655765)) &&& 858993459) + (((Int32.toUInt32 (x - (((Int32.toUInt32 x >>> (Int32.toUInt32 1 &&& Int32.toUInt32 31)).toInt32) &&& 1431655765)) >>> (Int32.toUInt32 2 &&& Int32.toUInt32 31)).toInt32) &&& 858993459)) >>> (Int32.toUInt32 4 &&& Int32.toUInt32 31)).toInt32)) &&& 252645135) + ((Int32.toUInt32 (((((x - (((Int32.toUInt32 x >>> (Int32.toUInt32 1 &&& Int32.toUInt32 31)).toInt32) &&& 1431655765)) &&& 858993459) + (((Int32.toUInt32 (x - (((Int32.toUInt32 x >>> (Int32.toUInt32 1 &&& Int32.toUInt32 31)).toInt32) &&& 1431655765)) >>> (Int32.toUInt32 2 &&& Int32.toUInt32 31)).toInt32) &&& 858993459)) + ((Int32.toUInt32 (((x - (((Int32.toUInt32 x >>> (Int32.toUInt32 1 &&& Int32.toUInt32 31)).toInt32) &&& 1431655765)) &&& 858993459) + (((Int32.toUInt32 (x - (((Int32.toUInt32 x >>> (Int32.toUInt32 1 &&& Int32.toUInt32 31)).toInt32) &&& 1431655765)) >>> (Int32.toUInt32 2 &&& Int32.toUInt32 31)).toInt32) &&& 858993459)) >>> (Int32.toUInt32 4 &&& Int32.toUInt32 31)).toInt32)) &&& 252645135) >>> (Int32.toUInt32 8 &&& Int32.toUInt32 31)).toInt32)) >>> (Int32.toUInt32 16 &&& Int32.toUInt32 31)).toInt32)))]) hx hb dJ6_bitCount_0f7a4_47 rfl hl (by decide) rfl (fun ls hl => ?_)
  refine lv_iload_n hx hb dJ6_bitCount_0f7a4_48 rfl (lv_at hl 0 rfl) ?_
  refine lv_bipush (v := 63) hx hb dJ6_bitCount_0f7a4_49 (by decide) ?_
  refine lv_iand hx hb dJ6_bitCount_0f7a4_51 ?_
  exact hret _ _ _ (show ((((((((x - (((Int32.toUInt32 x >>> (Int32.toUInt32 1 &&& Int32.toUInt32 31)).toInt32) &&& 1431655765)) &&& 858993459) + (((Int32.toUInt32 (x - (((Int32.toUInt32 x >>> (Int32.toUInt32 1 &&& Int32.toUInt32 31)).toInt32) &&& 1431655765)) >>> (Int32.toUInt32 2 &&& Int32.toUInt32 31)).toInt32) &&& 858993459)) + ((Int32.toUInt32 (((x - (((Int32.toUInt32 x >>> (Int32.toUInt32 1 &&& Int32.toUInt32 31)).toInt32) &&& 1431655765)) &&& 858993459) + (((Int32.toUInt32 (x - (((Int32.toUInt32 x >>> (Int32.toUInt32 1 &&& Int32.toUInt32 31)).toInt32) &&& 1431655765)) >>> (Int32.toUInt32 2 &&& Int32.toUInt32 31)).toInt32) &&& 858993459)) >>> (Int32.toUInt32 4 &&& Int32.toUInt32 31)).toInt32)) &&& 252645135) + ((Int32.toUInt32 (((((x - (((Int32.toUInt32 x >>> (Int32.toUInt32 1 &&& Int32.toUInt32 31)).toInt32) &&& 1431655765)) &&& 858993459) + (((Int32.toUInt32 (x - (((Int32.toUInt32 x >>> (Int32.toUInt32 1 &&& Int32.toUInt32 31)).toInt32) &&& 1431655765)) >>> (Int32.toUInt32 2 &&& Int32.toUInt32 31)).toInt32) &&& 858993459)) + ((Int32.toUInt32 (((x - (((Int32.toUInt32 x >>> (Int32.toUInt32 1 &&& Int32.toUInt32 31)).toInt32) &&& 1431655765)) &&& 858993459) + (((Int32.toUInt32 (x - (((Int32.toUInt32 x >>> (Int32.toUInt32 1 &&& Int32.toUInt32 31)).toInt32) &&& 1431655765)) >>> (Int32.toUInt32 2 &&& Int32.toUInt32 31)).toInt32) &&& 858993459)) >>> (Int32.toUInt32 4 &&& Int32.toUInt32 31)).toInt32)) &&& 252645135) >>> (Int32.toUInt32 8 &&& Int32.toUInt32 31)).toInt32)) + ((Int32.toUInt32 ((((((x - (((Int32.toUInt32 x >>> (Int32.toUInt32 1 &&& Int32.toUInt32 31)).toInt32) &&& 1431655765)) &&& 858993459) + (((Int32.toUInt32 (x - (((Int32.toUInt32 x >>> (Int32.toUInt32 1 &&& Int32.toUInt32 31)).toInt32) &&& 1431655765)) >>> (Int32.toUInt32 2 &&& Int32.toUInt32 31)).toInt32) &&& 858993459)) + ((Int32.toUInt32 (((x - (((Int32.toUInt32 x >>> (Int32.toUInt32 1 &&& Int32.toUInt32 31)).toInt32) &&& 1431655765)) &&& 858993459) + (((Int32.toUInt32 (x - (((Int32.toUInt32 x >>> (Int32.toUInt32 1 &&& Int32.toUInt32 31)).toInt32) &&& 1431655765)) >>> (Int32.toUInt32 2 &&& Int32.toUInt32 31)).toInt32) &&& 858993459)) >>> (Int32.toUInt32 4 &&& Int32.toUInt32 31)).toInt32)) &&& 252645135) + ((Int32.toUInt32 (((((x - (((Int32.toUInt32 x >>> (Int32.toUInt32 1 &&& Int32.toUInt32 31)).toInt32) &&& 1431655765)) &&& 858993459) + (((Int32.toUInt32 (x - (((Int32.toUInt32 x >>> (Int32.toUInt32 1 &&& Int32.toUInt32 31)).toInt32) &&& 1431655765)) >>> (Int32.toUInt32 2 &&& Int32.toUInt32 31)).toInt32) &&& 858993459)) + ((Int32.toUInt32 (((x - (((Int32.toUInt32 x >>> (Int32.toUInt32 1 &&& Int32.toUInt32 31)).toInt32) &&& 1431655765)) &&& 858993459) + (((Int32.toUInt32 (x - (((Int32.toUInt32 x >>> (Int32.toUInt32 1 &&& Int32.toUInt32 31)).toInt32) &&& 1431655765)) >>> (Int32.toUInt32 2 &&& Int32.toUInt32 31)).toInt32) &&& 858993459)) >>> (Int32.toUInt32 4 &&& Int32.toUInt32 31)).toInt32)) &&& 252645135) >>> (Int32.toUInt32 8 &&& Int32.toUInt32 31)).toInt32)) >>> (Int32.toUInt32 16 &&& Int32.toUInt32 31)).toInt32)) &&& 63) = bc x from rfl) dJ6_bitCount_0f7a4_52

theorem idX2_activeFeatures : yX2_activeFeatures.cls = RX2 ∧ yX2_activeFeatures.cls ≠ "java/lang/invoke/MethodHandle" ∧ yX2_activeFeatures.cls ≠ "java/lang/invoke/VarHandle" ∧ (parseMethodDescriptor yX2_activeFeatures.desc).map (fun d => d.parameters.length) = some 2 := by decide +kernel

set_option maxHeartbeats 4000000 in
set_option maxRecDepth 100000 in
theorem mX2_activeFeatures (l : Launch) {G : va_G} {T : Nat → ClassId} {H : Heap} {a : Nat → Nat} {N : Nat → Nat} {Z : Nat → Nat → Int32} {x : Int32} {d : Int32} (hP : va_P G vwCl (wCal T a N Z) H) (hs : N 3 ≤ 12) : ro l yX2_activeFeatures wsX2_activeFeatures 1 23 [.ref (a 13), .int x, .int d] G T H (fun r => r = actS Z x d (N 3)) := by
  refine ro_of (cc := cX2_activeFeatures) (maxL := 5) (ret := .int) (own := RX2) (by decide +kernel) rfl rfl (Nat.le_of_ble_eq_true rfl) (fun v _ => vp_nar_int v) ?_
  intro p e s m below meth c Q ls S hkx hl hret
  obtain ⟨hx, hb, hml, hown, hts⟩ := id S
  have hl : lv_has ls 5 [(0, .ref (a 13)), (1, .int x), (2, .int d)] := hl
  have k9 := hts (.fieldLink RX2 9 "SunsetDates$Shims" "count" "I") (by decide +kernel)
  have iX2 : ∀ w ∈ wsX20, w ∈ wsX2_activeFeatures := by decide +kernel
  have k15 := hts (.fieldLink RX2 15 "SunsetDates$Shims" "feature" "[I") (by decide +kernel)
  refine lv_iconst (v := 0) hx hb dX2_activeFeatures_0 (by decide) ?_
  refine lv_istore_n (lv' := [(3, .int 0), (0, .ref (a 13)), (1, .int x), (2, .int d)]) hx hb dX2_activeFeatures_1 rfl hl (by decide) rfl (fun ls hl => ?_)
  refine lv_iconst (v := 0) hx hb dX2_activeFeatures_2 (by decide) ?_
  refine lv_istore (lv' := [(4, .int 0), (3, .int 0), (0, .ref (a 13)), (1, .int x), (2, .int d)]) hx hb dX2_activeFeatures_3 hl (by decide) rfl (fun ls hl => ?_)
  have L5 : ∀ (fuel : Nat) (k : Nat) (y : Int32), N 3 - k < fuel → k ≤ N 3 → y = actS Z x d k → ∀ ls : Array Slot, lv_has ls 5 [(0, .ref (a 13)), (1, .int x), (2, .int d), (3, .int y), (4, .int (nI k))] → W p l e (rmo 1 23) s m ([.ref (a 13), .int x, .int d] : List Value).toArray below meth c H [] 0 0 Q (F0 m 5 ls []) := by
    intro fuel
    induction fuel with
    | zero => intro k y hm; exact absurd hm (Nat.not_lt_zero _)
    | succ fuel ih5 =>
      intro k y hm5 hk hy ls hl
      refine lv_iload hx hb dX2_activeFeatures_5 (lv_at hl 4 rfl) ?_
      refine lv_aload_n hx hb dX2_activeFeatures_7 rfl (lv_at hl 0 rfl) ?_
      refine va_get (D := G) (ci := 2) (C := RX2) (T := TX2) (N := 6) hx hb hts iX2 hown hkx.1 hP 13 rfl rfl 0 (by decide) k9 (fun _ h9 => h9) rfl dX2_activeFeatures_8 ?_
      refine lv_icmp_ge (tgt := 43) hx hb dX2_activeFeatures_11 (by decide) (fun c_1 => ?_) (fun c_1 => ?_)
      · replace c_1 := cn_le (a := (N 3)) (b := k) (by omega) (by omega) c_1
        refine lv_iload_n hx hb dX2_activeFeatures_43 rfl (lv_at hl 3 rfl) ?_
        exact hret _ _ _ (show y = actS Z x d (N 3) from by
            rw [hy, show k = N 3 by omega]) dX2_activeFeatures_44
      · replace c_1 := cn_nle (a := (N 3)) (b := k) (by omega) (by omega) c_1
        refine lv_aload_n hx hb dX2_activeFeatures_14 rfl (lv_at hl 0 rfl) ?_
        refine lv_iload hx hb dX2_activeFeatures_15 (lv_at hl 4 rfl) ?_
        refine lv_iload_n hx hb dX2_activeFeatures_17 rfl (lv_at hl 1 rfl) ?_
        refine lv_iload_n hx hb dX2_activeFeatures_18 rfl (lv_at hl 2 rfl) ?_
        refine ro_V S hkx (mX2_isActive l (k := k) (x := x) (d := d) (hP := hP) (hk := (by omega))) gX2_activeFeatures_X2_isActive rfl idX2_isActive ⟨Nat.le_of_ble_eq_true rfl, Nat.le_of_ble_eq_true rfl⟩ hP 13 rfl rfl rfl rfl hl.1 rfl (Nat.le_of_ble_eq_true rfl) dX2_activeFeatures_19 ⟨Nat.le_of_ble_eq_true rfl, Nat.le_of_ble_eq_true rfl⟩ (fun r_2 hr_2 => ?_)
        subst hr_2
        refine lv_if_eq (tgt := 37) hx hb dX2_activeFeatures_22 (by decide) (fun c_3 => ?_) (fun c_3 => ?_)
        · replace c_3 := bI_e0 c_3
          refine lv_iinc (v := (nI (k + 1))) (lv' := [(4, .int (nI (k + 1))), (0, .ref (a 13)), (1, .int x), (2, .int d), (3, .int y)]) hx hb dX2_activeFeatures_37 hl (k := 4) rfl (nI_inc k) (by decide) rfl (fun ls hl => ?_)
          refine lv_goto (tgt := 5) hx hb dX2_activeFeatures_40 (by decide) ?_
          exact ih5 (k + 1) y (by omega) (by omega) (by rw [hy]; first | rfl | (simp only [actS]; rw [if_pos (by assumption)]; done) | (simp only [actS]; rw [if_neg (Bool.eq_false_iff.mp (by assumption))]; done) | (simp only [actS]; rw [if_neg (by assumption)]; done) | (simp [actS, *]; done)) _ (lv_sub hl [1, 2, 3, 4, 0] rfl)
        · replace c_3 := bI_n0 c_3
          refine lv_iload_n hx hb dX2_activeFeatures_25 rfl (lv_at hl 3 rfl) ?_
          refine lv_iconst (v := 1) hx hb dX2_activeFeatures_26 (by decide) ?_
          refine lv_aload_n hx hb dX2_activeFeatures_27 rfl (lv_at hl 0 rfl) ?_
          refine va_get (D := G) (ci := 2) (C := RX2) (T := TX2) (N := 6) hx hb hts iX2 hown hkx.1 hP 13 rfl rfl 1 (by decide) k15 (fun _ h9 => h9) rfl dX2_activeFeatures_28 ?_
          refine lv_iload hx hb dX2_activeFeatures_31 (lv_at hl 4 rfl) ?_
          refine ia hx hb hkx hP 14 rfl k rfl (by omega) (by decide) dX2_activeFeatures_33 ?_
          refine lv_ishl hx hb dX2_activeFeatures_34 ?_
          refine lv_ior hx hb dX2_activeFeatures_35 ?_
          refine lv_istore_n (lv' := [(3, .int (y ||| (1 <<< ((Z 11 k) &&& 31)))), (0, .ref (a 13)), (1, .int x), (2, .int d), (4, .int (nI k))]) hx hb dX2_activeFeatures_36 rfl hl (by decide) rfl (fun ls hl => ?_)
          refine lv_iinc (v := (nI (k + 1))) (lv' := [(4, .int (nI (k + 1))), (3, .int (y ||| (1 <<< ((Z 11 k) &&& 31)))), (0, .ref (a 13)), (1, .int x), (2, .int d)]) hx hb dX2_activeFeatures_37 hl (k := 4) rfl (nI_inc k) (by decide) rfl (fun ls hl => ?_)
          refine lv_goto (tgt := 5) hx hb dX2_activeFeatures_40 (by decide) ?_
          exact ih5 (k + 1) (y ||| (1 <<< ((Z 11 k) &&& 31))) (by omega) (by omega) (by rw [hy]; first | rfl | (simp only [actS]; rw [if_pos (by assumption)]; done) | (simp only [actS]; rw [if_neg (Bool.eq_false_iff.mp (by assumption))]; done) | (simp only [actS]; rw [if_neg (by assumption)]; done) | (simp [actS, *]; done)) _ (lv_sub hl [2, 3, 4, 1, 0] rfl)
  exact L5 _ 0 0 (Nat.lt_succ_self _) (by omega) (by rfl) _ (lv_sub hl [2, 3, 4, 1, 0] rfl)

theorem idX2_lowestPrice : yX2_lowestPrice.cls = RX2 ∧ yX2_lowestPrice.cls ≠ "java/lang/invoke/MethodHandle" ∧ yX2_lowestPrice.cls ≠ "java/lang/invoke/VarHandle" ∧ (parseMethodDescriptor yX2_lowestPrice.desc).map (fun d => d.parameters.length) = some 3 := by decide +kernel

set_option maxHeartbeats 4000000 in
set_option maxRecDepth 100000 in
theorem mX2_lowestPrice (l : Launch) {G : va_G} {T : Nat → ClassId} {H : Heap} {a : Nat → Nat} {N : Nat → Nat} {Z : Nat → Nat → Int32} {f : Int32} {x : Int32} {d : Int32} (hP : va_P G vwCl (wCal T a N Z) H) (hs : N 3 ≤ 12) : ro l yX2_lowestPrice wsX2_lowestPrice 1 23 [.ref (a 13), .int f, .int x, .int d] G T H (fun r => r = lowP Z f x d (N 3)) := by
  refine ro_of (cc := cX2_lowestPrice) (maxL := 6) (ret := .int) (own := RX2) (by decide +kernel) rfl rfl (Nat.le_of_ble_eq_true rfl) (fun v _ => vp_nar_int v) ?_
  intro p e s m below meth c Q ls S hkx hl hret
  obtain ⟨hx, hb, hml, hown, hts⟩ := id S
  have hl : lv_has ls 6 [(0, .ref (a 13)), (1, .int f), (2, .int x), (3, .int d)] := hl
  have k9 := hts (.fieldLink RX2 9 "SunsetDates$Shims" "count" "I") (by decide +kernel)
  have iX2 : ∀ w ∈ wsX20, w ∈ wsX2_lowestPrice := by decide +kernel
  have k15 := hts (.fieldLink RX2 15 "SunsetDates$Shims" "feature" "[I") (by decide +kernel)
  have k28 := hts (.fieldLink RX2 28 "SunsetDates$Shims" "price" "[I") (by decide +kernel)
  refine lv_iconst (v := 0) hx hb dX2_lowestPrice_0 (by decide) ?_
  refine lv_istore (lv' := [(4, .int 0), (0, .ref (a 13)), (1, .int f), (2, .int x), (3, .int d)]) hx hb dX2_lowestPrice_1 hl (by decide) rfl (fun ls hl => ?_)
  refine lv_iconst (v := 0) hx hb dX2_lowestPrice_3 (by decide) ?_
  refine lv_istore (lv' := [(5, .int 0), (4, .int 0), (0, .ref (a 13)), (1, .int f), (2, .int x), (3, .int d)]) hx hb dX2_lowestPrice_4 hl (by decide) rfl (fun ls hl => ?_)
  have L6 : ∀ (fuel : Nat) (k : Nat) (y : Int32), N 3 - k < fuel → k ≤ N 3 → y = lowP Z f x d k → ∀ ls : Array Slot, lv_has ls 6 [(0, .ref (a 13)), (1, .int f), (2, .int x), (3, .int d), (4, .int y), (5, .int (nI k))] → W p l e (rmo 1 23) s m ([.ref (a 13), .int f, .int x, .int d] : List Value).toArray below meth c H [] 0 0 Q (F0 m 6 ls []) := by
    intro fuel
    induction fuel with
    | zero => intro k y hm; exact absurd hm (Nat.not_lt_zero _)
    | succ fuel ih6 =>
      intro k y hm6 hk hy ls hl
      refine lv_iload hx hb dX2_lowestPrice_6 (lv_at hl 5 rfl) ?_
      refine lv_aload_n hx hb dX2_lowestPrice_8 rfl (lv_at hl 0 rfl) ?_
      refine va_get (D := G) (ci := 2) (C := RX2) (T := TX2) (N := 6) hx hb hts iX2 hown hkx.1 hP 13 rfl rfl 0 (by decide) k9 (fun _ h9 => h9) rfl dX2_lowestPrice_9 ?_
      refine lv_icmp_ge (tgt := 69) hx hb dX2_lowestPrice_12 (by decide) (fun c_1 => ?_) (fun c_1 => ?_)
      · replace c_1 := cn_le (a := (N 3)) (b := k) (by omega) (by omega) c_1
        refine lv_iload hx hb dX2_lowestPrice_69 (lv_at hl 4 rfl) ?_
        exact hret _ _ _ (show y = lowP Z f x d (N 3) from by
            rw [hy, show k = N 3 by omega]) dX2_lowestPrice_71
      · replace c_1 := cn_nle (a := (N 3)) (b := k) (by omega) (by omega) c_1
        refine lv_aload_n hx hb dX2_lowestPrice_15 rfl (lv_at hl 0 rfl) ?_
        refine va_get (D := G) (ci := 2) (C := RX2) (T := TX2) (N := 6) hx hb hts iX2 hown hkx.1 hP 13 rfl rfl 1 (by decide) k15 (fun _ h9 => h9) rfl dX2_lowestPrice_16 ?_
        refine lv_iload hx hb dX2_lowestPrice_19 (lv_at hl 5 rfl) ?_
        refine ia hx hb hkx hP 14 rfl k rfl (by omega) (by decide) dX2_lowestPrice_21 ?_
        refine lv_iload_n hx hb dX2_lowestPrice_22 rfl (lv_at hl 1 rfl) ?_
        refine lv_icmp_ne (tgt := 63) hx hb dX2_lowestPrice_23 (by decide) (fun c_2 => ?_) (fun c_2 => ?_)
        · skip
          refine lv_iinc (v := (nI (k + 1))) (lv' := [(5, .int (nI (k + 1))), (0, .ref (a 13)), (1, .int f), (2, .int x), (3, .int d), (4, .int y)]) hx hb dX2_lowestPrice_63 hl (k := 5) rfl (nI_inc k) (by decide) rfl (fun ls hl => ?_)
          refine lv_goto (tgt := 6) hx hb dX2_lowestPrice_66 (by decide) ?_
          exact ih6 (k + 1) y (by omega) (by omega) (by subst hy; simp only [lowP]; first | (simp [*]; done) | (rw [if_neg]; rintro ⟨-, -, h⟩; exact h.elim (fun h => absurd h (by assumption)) (fun h => absurd h (by assumption)))) _ (lv_sub hl [1, 2, 3, 4, 5, 0] rfl)
        · skip
          refine lv_aload_n hx hb dX2_lowestPrice_26 rfl (lv_at hl 0 rfl) ?_
          refine lv_iload hx hb dX2_lowestPrice_27 (lv_at hl 5 rfl) ?_
          refine lv_iload_n hx hb dX2_lowestPrice_29 rfl (lv_at hl 2 rfl) ?_
          refine lv_iload_n hx hb dX2_lowestPrice_30 rfl (lv_at hl 3 rfl) ?_
          refine ro_V S hkx (mX2_isActive l (k := k) (x := x) (d := d) (hP := hP) (hk := (by omega))) gX2_lowestPrice_X2_isActive rfl idX2_isActive ⟨Nat.le_of_ble_eq_true rfl, Nat.le_of_ble_eq_true rfl⟩ hP 13 rfl rfl rfl rfl hl.1 rfl (Nat.le_of_ble_eq_true rfl) dX2_lowestPrice_31 ⟨Nat.le_of_ble_eq_true rfl, Nat.le_of_ble_eq_true rfl⟩ (fun r_3 hr_3 => ?_)
          subst hr_3
          refine lv_if_eq (tgt := 63) hx hb dX2_lowestPrice_34 (by decide) (fun c_4 => ?_) (fun c_4 => ?_)
          · replace c_4 := bI_e0 c_4
            refine lv_iinc (v := (nI (k + 1))) (lv' := [(5, .int (nI (k + 1))), (0, .ref (a 13)), (1, .int f), (2, .int x), (3, .int d), (4, .int y)]) hx hb dX2_lowestPrice_63 hl (k := 5) rfl (nI_inc k) (by decide) rfl (fun ls hl => ?_)
            refine lv_goto (tgt := 6) hx hb dX2_lowestPrice_66 (by decide) ?_
            exact ih6 (k + 1) y (by omega) (by omega) (by subst hy; simp only [lowP]; first | (simp [*]; done) | (rw [if_neg]; rintro ⟨-, -, h⟩; exact h.elim (fun h => absurd h (by assumption)) (fun h => absurd h (by assumption)))) _ (lv_sub hl [1, 2, 3, 4, 5, 0] rfl)
          · replace c_4 := bI_n0 c_4
            refine lv_iload hx hb dX2_lowestPrice_37 (lv_at hl 4 rfl) ?_
            refine lv_if_eq (tgt := 54) hx hb dX2_lowestPrice_39 (by decide) (fun c_5 => ?_) (fun c_5 => ?_)
            · skip
              refine lv_aload_n hx hb dX2_lowestPrice_54 rfl (lv_at hl 0 rfl) ?_
              refine va_get (D := G) (ci := 2) (C := RX2) (T := TX2) (N := 6) hx hb hts iX2 hown hkx.1 hP 13 rfl rfl 5 (by decide) k28 (fun _ h9 => h9) rfl dX2_lowestPrice_55 ?_
              refine lv_iload hx hb dX2_lowestPrice_58 (lv_at hl 5 rfl) ?_
              refine ia hx hb hkx hP 18 rfl k rfl (by omega) (by decide) dX2_lowestPrice_60 ?_
              refine lv_istore (lv' := [(4, .int (Z 15 k)), (0, .ref (a 13)), (1, .int f), (2, .int x), (3, .int d), (5, .int (nI k))]) hx hb dX2_lowestPrice_61 hl (by decide) rfl (fun ls hl => ?_)
              refine lv_iinc (v := (nI (k + 1))) (lv' := [(5, .int (nI (k + 1))), (4, .int (Z 15 k)), (0, .ref (a 13)), (1, .int f), (2, .int x), (3, .int d)]) hx hb dX2_lowestPrice_63 hl (k := 5) rfl (nI_inc k) (by decide) rfl (fun ls hl => ?_)
              refine lv_goto (tgt := 6) hx hb dX2_lowestPrice_66 (by decide) ?_
              exact ih6 (k + 1) (Z 15 k) (by omega) (by omega) (by subst hy; simp only [lowP]; first | (simp [*]; done) | (rw [if_neg]; rintro ⟨-, -, h⟩; exact h.elim (fun h => absurd h (by assumption)) (fun h => absurd h (by assumption)))) _ (lv_sub hl [2, 3, 4, 5, 1, 0] rfl)
            · skip
              refine lv_aload_n hx hb dX2_lowestPrice_42 rfl (lv_at hl 0 rfl) ?_
              refine va_get (D := G) (ci := 2) (C := RX2) (T := TX2) (N := 6) hx hb hts iX2 hown hkx.1 hP 13 rfl rfl 5 (by decide) k28 (fun _ h9 => h9) rfl dX2_lowestPrice_43 ?_
              refine lv_iload hx hb dX2_lowestPrice_46 (lv_at hl 5 rfl) ?_
              refine ia hx hb hkx hP 18 rfl k rfl (by omega) (by decide) dX2_lowestPrice_48 ?_
              refine lv_iload hx hb dX2_lowestPrice_49 (lv_at hl 4 rfl) ?_
              refine lv_icmp_ge (tgt := 63) hx hb dX2_lowestPrice_51 (by decide) (fun c_6 => ?_) (fun c_6 => ?_)
              · have c_6n := Int32.not_lt.mpr c_6
                refine lv_iinc (v := (nI (k + 1))) (lv' := [(5, .int (nI (k + 1))), (0, .ref (a 13)), (1, .int f), (2, .int x), (3, .int d), (4, .int y)]) hx hb dX2_lowestPrice_63 hl (k := 5) rfl (nI_inc k) (by decide) rfl (fun ls hl => ?_)
                refine lv_goto (tgt := 6) hx hb dX2_lowestPrice_66 (by decide) ?_
                exact ih6 (k + 1) y (by omega) (by omega) (by subst hy; simp only [lowP]; first | (simp [*]; done) | (rw [if_neg]; rintro ⟨-, -, h⟩; exact h.elim (fun h => absurd h (by assumption)) (fun h => absurd h (by assumption)))) _ (lv_sub hl [1, 2, 3, 4, 5, 0] rfl)
              · have c_6n := Int32.not_le.mp c_6
                refine lv_aload_n hx hb dX2_lowestPrice_54 rfl (lv_at hl 0 rfl) ?_
                refine va_get (D := G) (ci := 2) (C := RX2) (T := TX2) (N := 6) hx hb hts iX2 hown hkx.1 hP 13 rfl rfl 5 (by decide) k28 (fun _ h9 => h9) rfl dX2_lowestPrice_55 ?_
                refine lv_iload hx hb dX2_lowestPrice_58 (lv_at hl 5 rfl) ?_
                refine ia hx hb hkx hP 18 rfl k rfl (by omega) (by decide) dX2_lowestPrice_60 ?_
                refine lv_istore (lv' := [(4, .int (Z 15 k)), (0, .ref (a 13)), (1, .int f), (2, .int x), (3, .int d), (5, .int (nI k))]) hx hb dX2_lowestPrice_61 hl (by decide) rfl (fun ls hl => ?_)
                refine lv_iinc (v := (nI (k + 1))) (lv' := [(5, .int (nI (k + 1))), (4, .int (Z 15 k)), (0, .ref (a 13)), (1, .int f), (2, .int x), (3, .int d)]) hx hb dX2_lowestPrice_63 hl (k := 5) rfl (nI_inc k) (by decide) rfl (fun ls hl => ?_)
                refine lv_goto (tgt := 6) hx hb dX2_lowestPrice_66 (by decide) ?_
                exact ih6 (k + 1) (Z 15 k) (by omega) (by omega) (by subst hy; simp only [lowP]; first | (simp [*]; done) | (rw [if_neg]; rintro ⟨-, -, h⟩; exact h.elim (fun h => absurd h (by assumption)) (fun h => absurd h (by assumption)))) _ (lv_sub hl [2, 3, 4, 5, 1, 0] rfl)
  exact L6 _ 0 0 (Nat.lt_succ_self _) (by omega) (by rfl) _ (lv_sub hl [2, 3, 4, 5, 1, 0] rfl)

theorem idX2_about : yX2_about.cls = RX2 ∧ yX2_about.cls ≠ "java/lang/invoke/MethodHandle" ∧ yX2_about.cls ≠ "java/lang/invoke/VarHandle" ∧ (parseMethodDescriptor yX2_about.desc).map (fun d => d.parameters.length) = some 2 := by decide +kernel

set_option maxHeartbeats 4000000 in
set_option maxRecDepth 100000 in
theorem mX2_about (l : Launch) {G : va_G} {T : Nat → ClassId} {H : Heap} {a : Nat → Nat} {N : Nat → Nat} {Z : Nat → Nat → Int32} {k : Nat} {w : Nat} (hP : va_P G vwCl (wCal T a N Z) H) (hk : k < 12) (hw : w ≤ 4) : ro l yX2_about wsX2_about 0 0 [.ref (a 13), .int (nI k), .int (nI w)] G T H (fun r => r = Z (11 + w) k) := by
  refine ro_of (cc := cX2_about) (maxL := 3) (ret := .int) (own := RX2) (by decide +kernel) rfl rfl (Nat.le_of_ble_eq_true rfl) (fun v _ => vp_nar_int v) ?_
  intro p e s m below meth c Q ls S hkx hl hret
  obtain ⟨hx, hb, hml, hown, hts⟩ := id S
  have hl : lv_has ls 3 [(0, .ref (a 13)), (1, .int (nI k)), (2, .int (nI w))] := hl
  have k15 := hts (.fieldLink RX2 15 "SunsetDates$Shims" "feature" "[I") (by decide +kernel)
  have iX2 : ∀ w ∈ wsX20, w ∈ wsX2_about := by decide +kernel
  have k19 := hts (.fieldLink RX2 19 "SunsetDates$Shims" "version" "[I") (by decide +kernel)
  have k22 := hts (.fieldLink RX2 22 "SunsetDates$Shims" "first" "[I") (by decide +kernel)
  have k25 := hts (.fieldLink RX2 25 "SunsetDates$Shims" "last" "[I") (by decide +kernel)
  have k28 := hts (.fieldLink RX2 28 "SunsetDates$Shims" "price" "[I") (by decide +kernel)
  refine lv_iload_n hx hb dX2_about_0 rfl (lv_at hl 2 rfl) ?_
  rcases (show w = 0 ∨ w = 1 ∨ w = 2 ∨ w = 3 ∨ w = 4 by omega) with rfl | rfl | rfl | rfl | rfl
  · refine lv_tableIn (off := 31) (tgt := 32) hx hb dX2_about_1 (by decide) (by decide) rfl (by decide) ?_
    refine lv_aload_n hx hb dX2_about_32 rfl (lv_at hl 0 rfl) ?_
    refine va_get (D := G) (ci := 2) (C := RX2) (T := TX2) (N := 6) hx hb hts iX2 hown hkx.1 hP 13 rfl rfl 1 (by decide) k15 (fun _ h9 => h9) rfl dX2_about_33 ?_
    refine lv_iload_n hx hb dX2_about_36 rfl (lv_at hl 1 rfl) ?_
    refine ia hx hb hkx hP 14 rfl k rfl (by omega) (by decide) dX2_about_37 ?_
    exact hret _ _ _ (show (Z 11 k) = Z (11 + 0) k from rfl) dX2_about_38
  · refine lv_tableIn (off := 38) (tgt := 39) hx hb dX2_about_1 (by decide) (by decide) rfl (by decide) ?_
    refine lv_aload_n hx hb dX2_about_39 rfl (lv_at hl 0 rfl) ?_
    refine va_get (D := G) (ci := 2) (C := RX2) (T := TX2) (N := 6) hx hb hts iX2 hown hkx.1 hP 13 rfl rfl 2 (by decide) k19 (fun _ h9 => h9) rfl dX2_about_40 ?_
    refine lv_iload_n hx hb dX2_about_43 rfl (lv_at hl 1 rfl) ?_
    refine ia hx hb hkx hP 15 rfl k rfl (by omega) (by decide) dX2_about_44 ?_
    exact hret _ _ _ (show (Z 12 k) = Z (11 + 1) k from rfl) dX2_about_45
  · refine lv_tableIn (off := 45) (tgt := 46) hx hb dX2_about_1 (by decide) (by decide) rfl (by decide) ?_
    refine lv_aload_n hx hb dX2_about_46 rfl (lv_at hl 0 rfl) ?_
    refine va_get (D := G) (ci := 2) (C := RX2) (T := TX2) (N := 6) hx hb hts iX2 hown hkx.1 hP 13 rfl rfl 3 (by decide) k22 (fun _ h9 => h9) rfl dX2_about_47 ?_
    refine lv_iload_n hx hb dX2_about_50 rfl (lv_at hl 1 rfl) ?_
    refine ia hx hb hkx hP 16 rfl k rfl (by omega) (by decide) dX2_about_51 ?_
    exact hret _ _ _ (show (Z 13 k) = Z (11 + 2) k from rfl) dX2_about_52
  · refine lv_tableIn (off := 52) (tgt := 53) hx hb dX2_about_1 (by decide) (by decide) rfl (by decide) ?_
    refine lv_aload_n hx hb dX2_about_53 rfl (lv_at hl 0 rfl) ?_
    refine va_get (D := G) (ci := 2) (C := RX2) (T := TX2) (N := 6) hx hb hts iX2 hown hkx.1 hP 13 rfl rfl 4 (by decide) k25 (fun _ h9 => h9) rfl dX2_about_54 ?_
    refine lv_iload_n hx hb dX2_about_57 rfl (lv_at hl 1 rfl) ?_
    refine ia hx hb hkx hP 17 rfl k rfl (by omega) (by decide) dX2_about_58 ?_
    exact hret _ _ _ (show (Z 14 k) = Z (11 + 3) k from rfl) dX2_about_59
  · refine lv_tableOut (tgt := 60) hx hb dX2_about_1 (Or.inr (by decide)) (by decide) ?_
    refine lv_aload_n hx hb dX2_about_60 rfl (lv_at hl 0 rfl) ?_
    refine va_get (D := G) (ci := 2) (C := RX2) (T := TX2) (N := 6) hx hb hts iX2 hown hkx.1 hP 13 rfl rfl 5 (by decide) k28 (fun _ h9 => h9) rfl dX2_about_61 ?_
    refine lv_iload_n hx hb dX2_about_64 rfl (lv_at hl 1 rfl) ?_
    refine ia hx hb hkx hP 18 rfl k rfl (by omega) (by decide) dX2_about_65 ?_
    exact hret _ _ _ (show (Z 15 k) = Z (11 + 4) k from rfl) dX2_about_66

theorem idX3_isPledged : yX3_isPledged.cls = RX3 ∧ yX3_isPledged.cls ≠ "java/lang/invoke/MethodHandle" ∧ yX3_isPledged.cls ≠ "java/lang/invoke/VarHandle" ∧ (parseMethodDescriptor yX3_isPledged.desc).map (fun d => d.parameters.length) = some 1 := by decide +kernel

set_option maxHeartbeats 4000000 in
set_option maxRecDepth 100000 in
theorem mX3_isPledged (l : Launch) {G : va_G} {T : Nat → ClassId} {H : Heap} {a : Nat → Nat} {N : Nat → Nat} {Z : Nat → Nat → Int32} {k : Nat} (hP : va_P G vwCl (wCal T a N Z) H) (hk : k < 10) : ro l yX3_isPledged wsX3_isPledged 0 0 [.ref (a 6), .int (nI k)] G T H (fun r => r = bI (pled Z k)) := by
  refine ro_of (cc := cX3_isPledged) (maxL := 2) (ret := .boolean) (own := RX3) (by decide +kernel) rfl rfl (Nat.le_of_ble_eq_true rfl) (fun v h => bI_nar h) ?_
  intro p e s m below meth c Q ls S hkx hl hret
  obtain ⟨hx, hb, hml, hown, hts⟩ := id S
  have hl : lv_has ls 2 [(0, .ref (a 6)), (1, .int (nI k))] := hl
  have k22 := hts (.fieldLink RX3 22 "SunsetDates$Users" "pledgeVersion" "[I") (by decide +kernel)
  have iX3 : ∀ w ∈ wsX30, w ∈ wsX3_isPledged := by decide +kernel
  refine lv_aload_n hx hb dX3_isPledged_0 rfl (lv_at hl 0 rfl) ?_
  refine va_get (D := G) (ci := 3) (C := RX3) (T := TX3) (N := 7) hx hb hts iX3 hown hkx.1 hP 6 rfl rfl 3 (by decide) k22 (fun _ h9 => h9) rfl dX3_isPledged_1 ?_
  refine lv_iload_n hx hb dX3_isPledged_4 rfl (lv_at hl 1 rfl) ?_
  refine ia hx hb hkx hP 9 rfl k rfl (by omega) (by decide) dX3_isPledged_5 ?_
  refine lv_iconst (v := (-1)) hx hb dX3_isPledged_6 (by decide) ?_
  refine lv_icmp_eq (tgt := 14) hx hb dX3_isPledged_7 (by decide) (fun c_1 => ?_) (fun c_1 => ?_)
  · skip
    refine lv_iconst (v := 0) hx hb dX3_isPledged_14 (by decide) ?_
    exact hret _ _ _ (show 0 = bI (pled Z k) from by
        clear hret hl; simp_all [bI, pled]) dX3_isPledged_15
  · skip
    refine lv_iconst (v := 1) hx hb dX3_isPledged_10 (by decide) ?_
    refine lv_goto (tgt := 15) hx hb dX3_isPledged_11 (by decide) ?_
    exact hret _ _ _ (show 1 = bI (pled Z k) from by
        clear hret hl; simp_all [bI, pled]) dX3_isPledged_15

theorem idX3_placeOn : yX3_placeOn.cls = RX3 ∧ yX3_placeOn.cls ≠ "java/lang/invoke/MethodHandle" ∧ yX3_placeOn.cls ≠ "java/lang/invoke/VarHandle" ∧ (parseMethodDescriptor yX3_placeOn.desc).map (fun d => d.parameters.length) = some 2 := by decide +kernel

set_option maxHeartbeats 4000000 in
set_option maxRecDepth 100000 in
theorem mX3_placeOn (l : Launch) {G : va_G} {T : Nat → ClassId} {H : Heap} {a : Nat → Nat} {N : Nat → Nat} {Z : Nat → Nat → Int32} {u : Nat} {d : Int32} (hP : va_P G vwCl (wCal T a N Z) H) (hwf : wf N Z) (hu : u < N 2) : ro l yX3_placeOn wsX3_placeOn 1 21 [.ref (a 6), .int (nI u), .int d] G T H (fun r => r = (nI (onN Z u d))) := by
  refine ro_of (cc := cX3_placeOn) (maxL := 3) (ret := .int) (own := RX3) (by decide +kernel) rfl rfl (Nat.le_of_ble_eq_true rfl) (fun v _ => vp_nar_int v) ?_
  intro p e s m below meth c Q ls S hkx hl hret
  obtain ⟨hx, hb, hml, hown, hts⟩ := id S
  have hl : lv_has ls 3 [(0, .ref (a 6)), (1, .int (nI u)), (2, .int d)] := hl
  have k15 := hts (.fieldLink RX3 15 "SunsetDates$Users" "first" "[I") (by decide +kernel)
  have iX3 : ∀ w ∈ wsX30, w ∈ wsX3_placeOn := by decide +kernel
  have k25 := hts (.fieldLink RX3 25 "SunsetDates$Users" "pledgeDay" "[I") (by decide +kernel)
  have k22 := hts (.fieldLink RX3 22 "SunsetDates$Users" "pledgeVersion" "[I") (by decide +kernel)
  have hb2 := hwf.1
  have ho := (on_spec hwf hu d).1
  refine lv_aload_n hx hb dX3_placeOn_0 rfl (lv_at hl 0 rfl) ?_
  refine lv_iload_n hx hb dX3_placeOn_1 rfl (lv_at hl 1 rfl) ?_
  refine ro_V S hkx (mX3_isPledged l (k := u) (hP := hP) (hk := (by omega))) gX3_placeOn_X3_isPledged rfl idX3_isPledged ⟨Nat.le_of_ble_eq_true rfl, Nat.le_of_ble_eq_true rfl⟩ hP 6 rfl rfl rfl rfl hl.1 rfl (Nat.le_of_ble_eq_true rfl) dX3_placeOn_2 ⟨Nat.le_of_ble_eq_true rfl, Nat.le_of_ble_eq_true rfl⟩ (fun r_1 hr_1 => ?_)
  subst hr_1
  refine lv_if_eq (tgt := 27) hx hb dX3_placeOn_5 (by decide) (fun c_2 => ?_) (fun c_2 => ?_)
  · replace c_2 := bI_e0 c_2
    refine lv_aload_n hx hb dX3_placeOn_27 rfl (lv_at hl 0 rfl) ?_
    refine va_get (D := G) (ci := 3) (C := RX3) (T := TX3) (N := 7) hx hb hts iX3 hown hkx.1 hP 6 rfl rfl 1 (by decide) k15 (fun _ h9 => h9) rfl dX3_placeOn_28 ?_
    refine lv_iload_n hx hb dX3_placeOn_31 rfl (lv_at hl 1 rfl) ?_
    refine ia hx hb hkx hP 7 rfl u rfl (by omega) (by decide) dX3_placeOn_32 ?_
    exact hret _ _ _ (show (Z 5 u) = (nI (onN Z u d)) from by
        clear hret hl; rw [← ho, onI, if_neg]; rintro ⟨q1, q2⟩; first | (simp_all; done) | exact absurd q2 (by assumption)) dX3_placeOn_33
  · replace c_2 := bI_n0 c_2
    refine lv_aload_n hx hb dX3_placeOn_8 rfl (lv_at hl 0 rfl) ?_
    refine va_get (D := G) (ci := 3) (C := RX3) (T := TX3) (N := 7) hx hb hts iX3 hown hkx.1 hP 6 rfl rfl 4 (by decide) k25 (fun _ h9 => h9) rfl dX3_placeOn_9 ?_
    refine lv_iload_n hx hb dX3_placeOn_12 rfl (lv_at hl 1 rfl) ?_
    refine ia hx hb hkx hP 10 rfl u rfl (by omega) (by decide) dX3_placeOn_13 ?_
    refine lv_iload_n hx hb dX3_placeOn_14 rfl (lv_at hl 2 rfl) ?_
    refine lv_icmp_gt (tgt := 27) hx hb dX3_placeOn_15 (by decide) (fun c_3 => ?_) (fun c_3 => ?_)
    · have c_3n := Int32.not_le.mpr c_3
      refine lv_aload_n hx hb dX3_placeOn_27 rfl (lv_at hl 0 rfl) ?_
      refine va_get (D := G) (ci := 3) (C := RX3) (T := TX3) (N := 7) hx hb hts iX3 hown hkx.1 hP 6 rfl rfl 1 (by decide) k15 (fun _ h9 => h9) rfl dX3_placeOn_28 ?_
      refine lv_iload_n hx hb dX3_placeOn_31 rfl (lv_at hl 1 rfl) ?_
      refine ia hx hb hkx hP 7 rfl u rfl (by omega) (by decide) dX3_placeOn_32 ?_
      exact hret _ _ _ (show (Z 5 u) = (nI (onN Z u d)) from by
          clear hret hl; rw [← ho, onI, if_neg]; rintro ⟨q1, q2⟩; first | (simp_all; done) | exact absurd q2 (by assumption)) dX3_placeOn_33
    · have c_3n := Int32.not_lt.mp c_3
      refine lv_aload_n hx hb dX3_placeOn_18 rfl (lv_at hl 0 rfl) ?_
      refine va_get (D := G) (ci := 3) (C := RX3) (T := TX3) (N := 7) hx hb hts iX3 hown hkx.1 hP 6 rfl rfl 3 (by decide) k22 (fun _ h9 => h9) rfl dX3_placeOn_19 ?_
      refine lv_iload_n hx hb dX3_placeOn_22 rfl (lv_at hl 1 rfl) ?_
      refine ia hx hb hkx hP 9 rfl u rfl (by omega) (by decide) dX3_placeOn_23 ?_
      refine lv_goto (tgt := 33) hx hb dX3_placeOn_24 (by decide) ?_
      exact hret _ _ _ (show (Z 7 u) = (nI (onN Z u d)) from by
          clear hret hl; rw [← ho, onI, if_pos ⟨by assumption, by assumption⟩]) dX3_placeOn_33

theorem idX3_about : yX3_about.cls = RX3 ∧ yX3_about.cls ≠ "java/lang/invoke/MethodHandle" ∧ yX3_about.cls ≠ "java/lang/invoke/VarHandle" ∧ (parseMethodDescriptor yX3_about.desc).map (fun d => d.parameters.length) = some 2 := by decide +kernel

set_option maxHeartbeats 4000000 in
set_option maxRecDepth 100000 in
theorem mX3_about (l : Launch) {G : va_G} {T : Nat → ClassId} {H : Heap} {a : Nat → Nat} {N : Nat → Nat} {Z : Nat → Nat → Int32} {k : Nat} {w : Nat} (hP : va_P G vwCl (wCal T a N Z) H) (hk : k < 10) (hw : w ≤ 5) : ro l yX3_about wsX3_about 0 0 [.ref (a 6), .int (nI k), .int (nI w)] G T H (fun r => r = Z (5 + w) k) := by
  refine ro_of (cc := cX3_about) (maxL := 3) (ret := .int) (own := RX3) (by decide +kernel) rfl rfl (Nat.le_of_ble_eq_true rfl) (fun v _ => vp_nar_int v) ?_
  intro p e s m below meth c Q ls S hkx hl hret
  obtain ⟨hx, hb, hml, hown, hts⟩ := id S
  have hl : lv_has ls 3 [(0, .ref (a 6)), (1, .int (nI k)), (2, .int (nI w))] := hl
  have k15 := hts (.fieldLink RX3 15 "SunsetDates$Users" "first" "[I") (by decide +kernel)
  have iX3 : ∀ w ∈ wsX30, w ∈ wsX3_about := by decide +kernel
  have k19 := hts (.fieldLink RX3 19 "SunsetDates$Users" "uses" "[I") (by decide +kernel)
  have k22 := hts (.fieldLink RX3 22 "SunsetDates$Users" "pledgeVersion" "[I") (by decide +kernel)
  have k25 := hts (.fieldLink RX3 25 "SunsetDates$Users" "pledgeDay" "[I") (by decide +kernel)
  have k28 := hts (.fieldLink RX3 28 "SunsetDates$Users" "slips" "[I") (by decide +kernel)
  have k31 := hts (.fieldLink RX3 31 "SunsetDates$Users" "slipDays" "[I") (by decide +kernel)
  refine lv_iload_n hx hb dX3_about_0 rfl (lv_at hl 2 rfl) ?_
  rcases (show w = 0 ∨ w = 1 ∨ w = 2 ∨ w = 3 ∨ w = 4 ∨ w = 5 by omega) with rfl | rfl | rfl | rfl | rfl | rfl
  · refine lv_tableIn (off := 35) (tgt := 36) hx hb dX3_about_1 (by decide) (by decide) rfl (by decide) ?_
    refine lv_aload_n hx hb dX3_about_36 rfl (lv_at hl 0 rfl) ?_
    refine va_get (D := G) (ci := 3) (C := RX3) (T := TX3) (N := 7) hx hb hts iX3 hown hkx.1 hP 6 rfl rfl 1 (by decide) k15 (fun _ h9 => h9) rfl dX3_about_37 ?_
    refine lv_iload_n hx hb dX3_about_40 rfl (lv_at hl 1 rfl) ?_
    refine ia hx hb hkx hP 7 rfl k rfl (by omega) (by decide) dX3_about_41 ?_
    exact hret _ _ _ (show (Z 5 k) = Z (5 + 0) k from rfl) dX3_about_42
  · refine lv_tableIn (off := 42) (tgt := 43) hx hb dX3_about_1 (by decide) (by decide) rfl (by decide) ?_
    refine lv_aload_n hx hb dX3_about_43 rfl (lv_at hl 0 rfl) ?_
    refine va_get (D := G) (ci := 3) (C := RX3) (T := TX3) (N := 7) hx hb hts iX3 hown hkx.1 hP 6 rfl rfl 2 (by decide) k19 (fun _ h9 => h9) rfl dX3_about_44 ?_
    refine lv_iload_n hx hb dX3_about_47 rfl (lv_at hl 1 rfl) ?_
    refine ia hx hb hkx hP 8 rfl k rfl (by omega) (by decide) dX3_about_48 ?_
    exact hret _ _ _ (show (Z 6 k) = Z (5 + 1) k from rfl) dX3_about_49
  · refine lv_tableIn (off := 49) (tgt := 50) hx hb dX3_about_1 (by decide) (by decide) rfl (by decide) ?_
    refine lv_aload_n hx hb dX3_about_50 rfl (lv_at hl 0 rfl) ?_
    refine va_get (D := G) (ci := 3) (C := RX3) (T := TX3) (N := 7) hx hb hts iX3 hown hkx.1 hP 6 rfl rfl 3 (by decide) k22 (fun _ h9 => h9) rfl dX3_about_51 ?_
    refine lv_iload_n hx hb dX3_about_54 rfl (lv_at hl 1 rfl) ?_
    refine ia hx hb hkx hP 9 rfl k rfl (by omega) (by decide) dX3_about_55 ?_
    exact hret _ _ _ (show (Z 7 k) = Z (5 + 2) k from rfl) dX3_about_56
  · refine lv_tableIn (off := 56) (tgt := 57) hx hb dX3_about_1 (by decide) (by decide) rfl (by decide) ?_
    refine lv_aload_n hx hb dX3_about_57 rfl (lv_at hl 0 rfl) ?_
    refine va_get (D := G) (ci := 3) (C := RX3) (T := TX3) (N := 7) hx hb hts iX3 hown hkx.1 hP 6 rfl rfl 4 (by decide) k25 (fun _ h9 => h9) rfl dX3_about_58 ?_
    refine lv_iload_n hx hb dX3_about_61 rfl (lv_at hl 1 rfl) ?_
    refine ia hx hb hkx hP 10 rfl k rfl (by omega) (by decide) dX3_about_62 ?_
    exact hret _ _ _ (show (Z 8 k) = Z (5 + 3) k from rfl) dX3_about_63
  · refine lv_tableIn (off := 63) (tgt := 64) hx hb dX3_about_1 (by decide) (by decide) rfl (by decide) ?_
    refine lv_aload_n hx hb dX3_about_64 rfl (lv_at hl 0 rfl) ?_
    refine va_get (D := G) (ci := 3) (C := RX3) (T := TX3) (N := 7) hx hb hts iX3 hown hkx.1 hP 6 rfl rfl 5 (by decide) k28 (fun _ h9 => h9) rfl dX3_about_65 ?_
    refine lv_iload_n hx hb dX3_about_68 rfl (lv_at hl 1 rfl) ?_
    refine ia hx hb hkx hP 11 rfl k rfl (by omega) (by decide) dX3_about_69 ?_
    exact hret _ _ _ (show (Z 9 k) = Z (5 + 4) k from rfl) dX3_about_70
  · refine lv_tableOut (tgt := 71) hx hb dX3_about_1 (Or.inr (by decide)) (by decide) ?_
    refine lv_aload_n hx hb dX3_about_71 rfl (lv_at hl 0 rfl) ?_
    refine va_get (D := G) (ci := 3) (C := RX3) (T := TX3) (N := 7) hx hb hts iX3 hown hkx.1 hP 6 rfl rfl 6 (by decide) k31 (fun _ h9 => h9) rfl dX3_about_72 ?_
    refine lv_iload_n hx hb dX3_about_75 rfl (lv_at hl 1 rfl) ?_
    refine ia hx hb hkx hP 12 rfl k rfl (by omega) (by decide) dX3_about_76 ?_
    exact hret _ _ _ (show (Z 10 k) = Z (5 + 5) k from rfl) dX3_about_77

theorem idX3_pledgeCount : yX3_pledgeCount.cls = RX3 ∧ yX3_pledgeCount.cls ≠ "java/lang/invoke/MethodHandle" ∧ yX3_pledgeCount.cls ≠ "java/lang/invoke/VarHandle" ∧ (parseMethodDescriptor yX3_pledgeCount.desc).map (fun d => d.parameters.length) = some 0 := by decide +kernel

set_option maxHeartbeats 4000000 in
set_option maxRecDepth 100000 in
theorem mX3_pledgeCount (l : Launch) {G : va_G} {T : Nat → ClassId} {H : Heap} {a : Nat → Nat} {N : Nat → Nat} {Z : Nat → Nat → Int32} (hP : va_P G vwCl (wCal T a N Z) H) (hs : N 2 ≤ 10) : ro l yX3_pledgeCount wsX3_pledgeCount 1 21 [.ref (a 6)] G T H (fun r => r = plC Z (N 2)) := by
  refine ro_of (cc := cX3_pledgeCount) (maxL := 3) (ret := .int) (own := RX3) (by decide +kernel) rfl rfl (Nat.le_of_ble_eq_true rfl) (fun v _ => vp_nar_int v) ?_
  intro p e s m below meth c Q ls S hkx hl hret
  obtain ⟨hx, hb, hml, hown, hts⟩ := id S
  have hl : lv_has ls 3 [(0, .ref (a 6))] := hl
  have k9 := hts (.fieldLink RX3 9 "SunsetDates$Users" "count" "I") (by decide +kernel)
  have iX3 : ∀ w ∈ wsX30, w ∈ wsX3_pledgeCount := by decide +kernel
  refine lv_iconst (v := 0) hx hb dX3_pledgeCount_0 (by decide) ?_
  refine lv_istore_n (lv' := [(1, .int 0), (0, .ref (a 6))]) hx hb dX3_pledgeCount_1 rfl hl (by decide) rfl (fun ls hl => ?_)
  refine lv_iconst (v := 0) hx hb dX3_pledgeCount_2 (by decide) ?_
  refine lv_istore_n (lv' := [(2, .int 0), (1, .int 0), (0, .ref (a 6))]) hx hb dX3_pledgeCount_3 rfl hl (by decide) rfl (fun ls hl => ?_)
  have L4 : ∀ (fuel : Nat) (k : Nat) (y : Int32), N 2 - k < fuel → k ≤ N 2 → y = plC Z k → ∀ ls : Array Slot, lv_has ls 3 [(0, .ref (a 6)), (1, .int y), (2, .int (nI k))] → W p l e (rmo 1 21) s m ([.ref (a 6)] : List Value).toArray below meth c H [] 0 0 Q (F0 m 4 ls []) := by
    intro fuel
    induction fuel with
    | zero => intro k y hm; exact absurd hm (Nat.not_lt_zero _)
    | succ fuel ih4 =>
      intro k y hm4 hk hy ls hl
      refine lv_iload_n hx hb dX3_pledgeCount_4 rfl (lv_at hl 2 rfl) ?_
      refine lv_aload_n hx hb dX3_pledgeCount_5 rfl (lv_at hl 0 rfl) ?_
      refine va_get (D := G) (ci := 3) (C := RX3) (T := TX3) (N := 7) hx hb hts iX3 hown hkx.1 hP 6 rfl rfl 0 (by decide) k9 (fun _ h9 => h9) rfl dX3_pledgeCount_6 ?_
      refine lv_icmp_ge (tgt := 29) hx hb dX3_pledgeCount_9 (by decide) (fun c_1 => ?_) (fun c_1 => ?_)
      · replace c_1 := cn_le (a := (N 2)) (b := k) (by omega) (by omega) c_1
        refine lv_iload_n hx hb dX3_pledgeCount_29 rfl (lv_at hl 1 rfl) ?_
        exact hret _ _ _ (show y = plC Z (N 2) from by
            rw [hy, show k = N 2 by omega]) dX3_pledgeCount_30
      · replace c_1 := cn_nle (a := (N 2)) (b := k) (by omega) (by omega) c_1
        refine lv_aload_n hx hb dX3_pledgeCount_12 rfl (lv_at hl 0 rfl) ?_
        refine lv_iload_n hx hb dX3_pledgeCount_13 rfl (lv_at hl 2 rfl) ?_
        refine ro_V S hkx (mX3_isPledged l (k := k) (hP := hP) (hk := (by omega))) gX3_pledgeCount_X3_isPledged rfl idX3_isPledged ⟨Nat.le_of_ble_eq_true rfl, Nat.le_of_ble_eq_true rfl⟩ hP 6 rfl rfl rfl rfl hl.1 rfl (Nat.le_of_ble_eq_true rfl) dX3_pledgeCount_14 ⟨Nat.le_of_ble_eq_true rfl, Nat.le_of_ble_eq_true rfl⟩ (fun r_2 hr_2 => ?_)
        subst hr_2
        refine lv_if_eq (tgt := 23) hx hb dX3_pledgeCount_17 (by decide) (fun c_3 => ?_) (fun c_3 => ?_)
        · replace c_3 := bI_e0 c_3
          refine lv_iinc (v := (nI (k + 1))) (lv' := [(2, .int (nI (k + 1))), (0, .ref (a 6)), (1, .int y)]) hx hb dX3_pledgeCount_23 hl (k := 2) rfl (nI_inc k) (by decide) rfl (fun ls hl => ?_)
          refine lv_goto (tgt := 4) hx hb dX3_pledgeCount_26 (by decide) ?_
          exact ih4 (k + 1) y (by omega) (by omega) (by rw [hy]; first | rfl | (simp only [plC]; rw [if_pos (by assumption)]; done) | (simp only [plC]; rw [if_neg (Bool.eq_false_iff.mp (by assumption))]; done) | (simp only [plC]; rw [if_neg (by assumption)]; done) | (simp [plC, *]; done)) _ (lv_sub hl [1, 2, 0] rfl)
        · replace c_3 := bI_n0 c_3
          refine lv_iinc (v := (y + 1)) (lv' := [(1, .int (y + 1)), (0, .ref (a 6)), (2, .int (nI k))]) hx hb dX3_pledgeCount_20 hl (k := 1) rfl rfl (by decide) rfl (fun ls hl => ?_)
          refine lv_iinc (v := (nI (k + 1))) (lv' := [(2, .int (nI (k + 1))), (1, .int (y + 1)), (0, .ref (a 6))]) hx hb dX3_pledgeCount_23 hl (k := 2) rfl (nI_inc k) (by decide) rfl (fun ls hl => ?_)
          refine lv_goto (tgt := 4) hx hb dX3_pledgeCount_26 (by decide) ?_
          exact ih4 (k + 1) (y + 1) (by omega) (by omega) (by rw [hy]; first | rfl | (simp only [plC]; rw [if_pos (by assumption)]; done) | (simp only [plC]; rw [if_neg (Bool.eq_false_iff.mp (by assumption))]; done) | (simp only [plC]; rw [if_neg (by assumption)]; done) | (simp [plC, *]; done)) _ (lv_sub hl [2, 1, 0] rfl)
  exact L4 _ 0 0 (Nat.lt_succ_self _) (by omega) (by rfl) _ (lv_sub hl [2, 1, 0] rfl)

theorem idX3_useCount : yX3_useCount.cls = RX3 ∧ yX3_useCount.cls ≠ "java/lang/invoke/MethodHandle" ∧ yX3_useCount.cls ≠ "java/lang/invoke/VarHandle" ∧ (parseMethodDescriptor yX3_useCount.desc).map (fun d => d.parameters.length) = some 0 := by decide +kernel

set_option maxHeartbeats 4000000 in
set_option maxRecDepth 100000 in
theorem mX3_useCount (l : Launch) {G : va_G} {T : Nat → ClassId} {H : Heap} {a : Nat → Nat} {N : Nat → Nat} {Z : Nat → Nat → Int32} (hP : va_P G vwCl (wCal T a N Z) H) (hs : N 2 ≤ 10) : ro l yX3_useCount wsX3_useCount 1 20 [.ref (a 6)] G T H (fun r => r = usC Z (N 2)) := by
  refine ro_of (cc := cX3_useCount) (maxL := 3) (ret := .int) (own := RX3) (by decide +kernel) rfl rfl (Nat.le_of_ble_eq_true rfl) (fun v _ => vp_nar_int v) ?_
  intro p e s m below meth c Q ls S hkx hl hret
  obtain ⟨hx, hb, hml, hown, hts⟩ := id S
  have hl : lv_has ls 3 [(0, .ref (a 6))] := hl
  have k9 := hts (.fieldLink RX3 9 "SunsetDates$Users" "count" "I") (by decide +kernel)
  have iX3 : ∀ w ∈ wsX30, w ∈ wsX3_useCount := by decide +kernel
  have k19 := hts (.fieldLink RX3 19 "SunsetDates$Users" "uses" "[I") (by decide +kernel)
  refine lv_iconst (v := 0) hx hb dX3_useCount_0 (by decide) ?_
  refine lv_istore_n (lv' := [(1, .int 0), (0, .ref (a 6))]) hx hb dX3_useCount_1 rfl hl (by decide) rfl (fun ls hl => ?_)
  refine lv_iconst (v := 0) hx hb dX3_useCount_2 (by decide) ?_
  refine lv_istore_n (lv' := [(2, .int 0), (1, .int 0), (0, .ref (a 6))]) hx hb dX3_useCount_3 rfl hl (by decide) rfl (fun ls hl => ?_)
  have L4 : ∀ (fuel : Nat) (k : Nat) (y : Int32), N 2 - k < fuel → k ≤ N 2 → y = usC Z k → ∀ ls : Array Slot, lv_has ls 3 [(0, .ref (a 6)), (1, .int y), (2, .int (nI k))] → W p l e (rmo 1 20) s m ([.ref (a 6)] : List Value).toArray below meth c H [] 0 0 Q (F0 m 4 ls []) := by
    intro fuel
    induction fuel with
    | zero => intro k y hm; exact absurd hm (Nat.not_lt_zero _)
    | succ fuel ih4 =>
      intro k y hm4 hk hy ls hl
      refine lv_iload_n hx hb dX3_useCount_4 rfl (lv_at hl 2 rfl) ?_
      refine lv_aload_n hx hb dX3_useCount_5 rfl (lv_at hl 0 rfl) ?_
      refine va_get (D := G) (ci := 3) (C := RX3) (T := TX3) (N := 7) hx hb hts iX3 hown hkx.1 hP 6 rfl rfl 0 (by decide) k9 (fun _ h9 => h9) rfl dX3_useCount_6 ?_
      refine lv_icmp_ge (tgt := 30) hx hb dX3_useCount_9 (by decide) (fun c_1 => ?_) (fun c_1 => ?_)
      · replace c_1 := cn_le (a := (N 2)) (b := k) (by omega) (by omega) c_1
        refine lv_iload_n hx hb dX3_useCount_30 rfl (lv_at hl 1 rfl) ?_
        exact hret _ _ _ (show y = usC Z (N 2) from by
            rw [hy, show k = N 2 by omega]) dX3_useCount_31
      · replace c_1 := cn_nle (a := (N 2)) (b := k) (by omega) (by omega) c_1
        refine lv_iload_n hx hb dX3_useCount_12 rfl (lv_at hl 1 rfl) ?_
        refine lv_aload_n hx hb dX3_useCount_13 rfl (lv_at hl 0 rfl) ?_
        refine va_get (D := G) (ci := 3) (C := RX3) (T := TX3) (N := 7) hx hb hts iX3 hown hkx.1 hP 6 rfl rfl 2 (by decide) k19 (fun _ h9 => h9) rfl dX3_useCount_14 ?_
        refine lv_iload_n hx hb dX3_useCount_17 rfl (lv_at hl 2 rfl) ?_
        refine ia hx hb hkx hP 8 rfl k rfl (by omega) (by decide) dX3_useCount_18 ?_
        refine ro_S S hkx (mJ6_bitCount_0f7a4 l (x := (Z 6 k))) gX3_useCount_J6_bitCount_0f7a4 rfl idJ6_bitCount_0f7a4.2 ⟨Nat.le_of_ble_eq_true rfl, Nat.le_of_ble_eq_true rfl⟩ rfl hl.1 rfl (Nat.le_of_ble_eq_true rfl) dX3_useCount_19 ⟨Nat.le_of_ble_eq_true rfl, Nat.le_of_ble_eq_true rfl⟩ (fun r_2 hr_2 => ?_)
        subst hr_2
        refine lv_iadd hx hb dX3_useCount_22 ?_
        refine lv_istore_n (lv' := [(1, .int (y + (bc (Z 6 k)))), (0, .ref (a 6)), (2, .int (nI k))]) hx hb dX3_useCount_23 rfl hl (by decide) rfl (fun ls hl => ?_)
        refine lv_iinc (v := (nI (k + 1))) (lv' := [(2, .int (nI (k + 1))), (1, .int (y + (bc (Z 6 k)))), (0, .ref (a 6))]) hx hb dX3_useCount_24 hl (k := 2) rfl (nI_inc k) (by decide) rfl (fun ls hl => ?_)
        refine lv_goto (tgt := 4) hx hb dX3_useCount_27 (by decide) ?_
        exact ih4 (k + 1) (y + (bc (Z 6 k))) (by omega) (by omega) (by rw [hy]; first | rfl | (simp only [usC]; rw [if_pos (by assumption)]; done) | (simp only [usC]; rw [if_neg (Bool.eq_false_iff.mp (by assumption))]; done) | (simp only [usC]; rw [if_neg (by assumption)]; done) | (simp [usC, *]; done)) _ (lv_sub hl [2, 1, 0] rfl)
  exact L4 _ 0 0 (Nat.lt_succ_self _) (by omega) (by rfl) _ (lv_sub hl [2, 1, 0] rfl)

theorem idX3_slipCount : yX3_slipCount.cls = RX3 ∧ yX3_slipCount.cls ≠ "java/lang/invoke/MethodHandle" ∧ yX3_slipCount.cls ≠ "java/lang/invoke/VarHandle" ∧ (parseMethodDescriptor yX3_slipCount.desc).map (fun d => d.parameters.length) = some 0 := by decide +kernel

set_option maxHeartbeats 4000000 in
set_option maxRecDepth 100000 in
theorem mX3_slipCount (l : Launch) {G : va_G} {T : Nat → ClassId} {H : Heap} {a : Nat → Nat} {N : Nat → Nat} {Z : Nat → Nat → Int32} (hP : va_P G vwCl (wCal T a N Z) H) (hs : N 2 ≤ 10) : ro l yX3_slipCount wsX3_slipCount 0 0 [.ref (a 6)] G T H (fun r => r = slC Z (N 2)) := by
  refine ro_of (cc := cX3_slipCount) (maxL := 3) (ret := .int) (own := RX3) (by decide +kernel) rfl rfl (Nat.le_of_ble_eq_true rfl) (fun v _ => vp_nar_int v) ?_
  intro p e s m below meth c Q ls S hkx hl hret
  obtain ⟨hx, hb, hml, hown, hts⟩ := id S
  have hl : lv_has ls 3 [(0, .ref (a 6))] := hl
  have k9 := hts (.fieldLink RX3 9 "SunsetDates$Users" "count" "I") (by decide +kernel)
  have iX3 : ∀ w ∈ wsX30, w ∈ wsX3_slipCount := by decide +kernel
  have k28 := hts (.fieldLink RX3 28 "SunsetDates$Users" "slips" "[I") (by decide +kernel)
  refine lv_iconst (v := 0) hx hb dX3_slipCount_0 (by decide) ?_
  refine lv_istore_n (lv' := [(1, .int 0), (0, .ref (a 6))]) hx hb dX3_slipCount_1 rfl hl (by decide) rfl (fun ls hl => ?_)
  refine lv_iconst (v := 0) hx hb dX3_slipCount_2 (by decide) ?_
  refine lv_istore_n (lv' := [(2, .int 0), (1, .int 0), (0, .ref (a 6))]) hx hb dX3_slipCount_3 rfl hl (by decide) rfl (fun ls hl => ?_)
  have L4 : ∀ (fuel : Nat) (k : Nat) (y : Int32), N 2 - k < fuel → k ≤ N 2 → y = slC Z k → ∀ ls : Array Slot, lv_has ls 3 [(0, .ref (a 6)), (1, .int y), (2, .int (nI k))] → W p l e (rmo 0 0) s m ([.ref (a 6)] : List Value).toArray below meth c H [] 0 0 Q (F0 m 4 ls []) := by
    intro fuel
    induction fuel with
    | zero => intro k y hm; exact absurd hm (Nat.not_lt_zero _)
    | succ fuel ih4 =>
      intro k y hm4 hk hy ls hl
      refine lv_iload_n hx hb dX3_slipCount_4 rfl (lv_at hl 2 rfl) ?_
      refine lv_aload_n hx hb dX3_slipCount_5 rfl (lv_at hl 0 rfl) ?_
      refine va_get (D := G) (ci := 3) (C := RX3) (T := TX3) (N := 7) hx hb hts iX3 hown hkx.1 hP 6 rfl rfl 0 (by decide) k9 (fun _ h9 => h9) rfl dX3_slipCount_6 ?_
      refine lv_icmp_ge (tgt := 27) hx hb dX3_slipCount_9 (by decide) (fun c_1 => ?_) (fun c_1 => ?_)
      · replace c_1 := cn_le (a := (N 2)) (b := k) (by omega) (by omega) c_1
        refine lv_iload_n hx hb dX3_slipCount_27 rfl (lv_at hl 1 rfl) ?_
        exact hret _ _ _ (show y = slC Z (N 2) from by
            rw [hy, show k = N 2 by omega]) dX3_slipCount_28
      · replace c_1 := cn_nle (a := (N 2)) (b := k) (by omega) (by omega) c_1
        refine lv_iload_n hx hb dX3_slipCount_12 rfl (lv_at hl 1 rfl) ?_
        refine lv_aload_n hx hb dX3_slipCount_13 rfl (lv_at hl 0 rfl) ?_
        refine va_get (D := G) (ci := 3) (C := RX3) (T := TX3) (N := 7) hx hb hts iX3 hown hkx.1 hP 6 rfl rfl 5 (by decide) k28 (fun _ h9 => h9) rfl dX3_slipCount_14 ?_
        refine lv_iload_n hx hb dX3_slipCount_17 rfl (lv_at hl 2 rfl) ?_
        refine ia hx hb hkx hP 11 rfl k rfl (by omega) (by decide) dX3_slipCount_18 ?_
        refine lv_iadd hx hb dX3_slipCount_19 ?_
        refine lv_istore_n (lv' := [(1, .int (y + (Z 9 k))), (0, .ref (a 6)), (2, .int (nI k))]) hx hb dX3_slipCount_20 rfl hl (by decide) rfl (fun ls hl => ?_)
        refine lv_iinc (v := (nI (k + 1))) (lv' := [(2, .int (nI (k + 1))), (1, .int (y + (Z 9 k))), (0, .ref (a 6))]) hx hb dX3_slipCount_21 hl (k := 2) rfl (nI_inc k) (by decide) rfl (fun ls hl => ?_)
        refine lv_goto (tgt := 4) hx hb dX3_slipCount_24 (by decide) ?_
        exact ih4 (k + 1) (y + (Z 9 k)) (by omega) (by omega) (by rw [hy]; first | rfl | (simp only [slC]; rw [if_pos (by assumption)]; done) | (simp only [slC]; rw [if_neg (Bool.eq_false_iff.mp (by assumption))]; done) | (simp only [slC]; rw [if_neg (by assumption)]; done) | (simp [slC, *]; done)) _ (lv_sub hl [2, 1, 0] rfl)
  exact L4 _ 0 0 (Nat.lt_succ_self _) (by omega) (by rfl) _ (lv_sub hl [2, 1, 0] rfl)

theorem idX4_isAlive : yX4_isAlive.cls = RX4 ∧ yX4_isAlive.cls ≠ "java/lang/invoke/MethodHandle" ∧ yX4_isAlive.cls ≠ "java/lang/invoke/VarHandle" ∧ (parseMethodDescriptor yX4_isAlive.desc).map (fun d => d.parameters.length) = some 2 := by decide +kernel

set_option maxHeartbeats 4000000 in
set_option maxRecDepth 100000 in
theorem mX4_isAlive (l : Launch) {G : va_G} {T : Nat → ClassId} {H : Heap} {a : Nat → Nat} {N : Nat → Nat} {Z : Nat → Nat → Int32} {k : Nat} {d : Int32} (hP : va_P G vwCl (wCal T a N Z) H) (hk : k < 8) : ro l yX4_isAlive wsX4_isAlive 0 0 [.ref (a 1), .int (nI k), .int d] G T H (fun r => r = bI (aliv Z k d)) := by
  refine ro_of (cc := cX4_isAlive) (maxL := 3) (ret := .boolean) (own := RX4) (by decide +kernel) rfl rfl (Nat.le_of_ble_eq_true rfl) (fun v h => bI_nar h) ?_
  intro p e s m below meth c Q ls S hkx hl hret
  obtain ⟨hx, hb, hml, hown, hts⟩ := id S
  have hl : lv_has ls 3 [(0, .ref (a 1)), (1, .int (nI k)), (2, .int d)] := hl
  have k15 := hts (.fieldLink RX4 15 "SunsetDates$Versions" "release" "[I") (by decide +kernel)
  have iX4 : ∀ w ∈ wsX40, w ∈ wsX4_isAlive := by decide +kernel
  have k19 := hts (.fieldLink RX4 19 "SunsetDates$Versions" "end" "[I") (by decide +kernel)
  refine lv_iload_n hx hb dX4_isAlive_0 rfl (lv_at hl 2 rfl) ?_
  refine lv_aload_n hx hb dX4_isAlive_1 rfl (lv_at hl 0 rfl) ?_
  refine va_get (D := G) (ci := 4) (C := RX4) (T := TX4) (N := 5) hx hb hts iX4 hown hkx.1 hP 1 rfl rfl 1 (by decide) k15 (fun _ h9 => h9) rfl dX4_isAlive_2 ?_
  refine lv_iload_n hx hb dX4_isAlive_5 rfl (lv_at hl 1 rfl) ?_
  refine ia hx hb hkx hP 2 rfl k rfl (by omega) (by decide) dX4_isAlive_6 ?_
  refine lv_icmp_lt (tgt := 24) hx hb dX4_isAlive_7 (by decide) (fun c_1 => ?_) (fun c_1 => ?_)
  · have c_1n := Int32.not_le.mpr c_1
    refine lv_iconst (v := 0) hx hb dX4_isAlive_24 (by decide) ?_
    exact hret _ _ _ (show 0 = bI (aliv Z k d) from by
        clear hret hl; refine bI_0 ?_; rw [Bool.eq_false_iff]; intro h; have z0 : Int32.toInt 0 = 0 := rfl;simp only [aliv, Bool.and_eq_true, decide_eq_true_eq, i3lt, i3le, i3eq] at *;  omega) dX4_isAlive_25
  · have c_1n := Int32.not_lt.mp c_1
    refine lv_iload_n hx hb dX4_isAlive_10 rfl (lv_at hl 2 rfl) ?_
    refine lv_aload_n hx hb dX4_isAlive_11 rfl (lv_at hl 0 rfl) ?_
    refine va_get (D := G) (ci := 4) (C := RX4) (T := TX4) (N := 5) hx hb hts iX4 hown hkx.1 hP 1 rfl rfl 2 (by decide) k19 (fun _ h9 => h9) rfl dX4_isAlive_12 ?_
    refine lv_iload_n hx hb dX4_isAlive_15 rfl (lv_at hl 1 rfl) ?_
    refine ia hx hb hkx hP 3 rfl k rfl (by omega) (by decide) dX4_isAlive_16 ?_
    refine lv_icmp_ge (tgt := 24) hx hb dX4_isAlive_17 (by decide) (fun c_2 => ?_) (fun c_2 => ?_)
    · have c_2n := Int32.not_lt.mpr c_2
      refine lv_iconst (v := 0) hx hb dX4_isAlive_24 (by decide) ?_
      exact hret _ _ _ (show 0 = bI (aliv Z k d) from by
          clear hret hl; refine bI_0 ?_; rw [Bool.eq_false_iff]; intro h; have z0 : Int32.toInt 0 = 0 := rfl;simp only [aliv, Bool.and_eq_true, decide_eq_true_eq, i3lt, i3le, i3eq] at *;  omega) dX4_isAlive_25
    · have c_2n := Int32.not_le.mp c_2
      refine lv_iconst (v := 1) hx hb dX4_isAlive_20 (by decide) ?_
      refine lv_goto (tgt := 25) hx hb dX4_isAlive_21 (by decide) ?_
      exact hret _ _ _ (show 1 = bI (aliv Z k d) from by
          clear hret hl; refine bI_1 ?_; have z0 : Int32.toInt 0 = 0 := rfl;simp only [aliv, Bool.and_eq_true, decide_eq_true_eq, i3lt, i3le, i3eq] at *;  omega) dX4_isAlive_25

theorem idX4_allWith : yX4_allWith.cls = RX4 ∧ yX4_allWith.cls ≠ "java/lang/invoke/MethodHandle" ∧ yX4_allWith.cls ≠ "java/lang/invoke/VarHandle" ∧ (parseMethodDescriptor yX4_allWith.desc).map (fun d => d.parameters.length) = some 1 := by decide +kernel

set_option maxHeartbeats 4000000 in
set_option maxRecDepth 100000 in
theorem mX4_allWith (l : Launch) {G : va_G} {T : Nat → ClassId} {H : Heap} {a : Nat → Nat} {N : Nat → Nat} {Z : Nat → Nat → Int32} {f : Int32} (hP : va_P G vwCl (wCal T a N Z) H) (hs : N 0 ≤ 8) : ro l yX4_allWith wsX4_allWith 1 21 [.ref (a 1), .int f] G T H (fun r => r = allW Z f (N 0)) := by
  refine ro_of (cc := cX4_allWith) (maxL := 4) (ret := .int) (own := RX4) (by decide +kernel) rfl rfl (Nat.le_of_ble_eq_true rfl) (fun v _ => vp_nar_int v) ?_
  intro p e s m below meth c Q ls S hkx hl hret
  obtain ⟨hx, hb, hml, hown, hts⟩ := id S
  have hl : lv_has ls 4 [(0, .ref (a 1)), (1, .int f)] := hl
  have k9 := hts (.fieldLink RX4 9 "SunsetDates$Versions" "count" "I") (by decide +kernel)
  have iX4 : ∀ w ∈ wsX40, w ∈ wsX4_allWith := by decide +kernel
  have k25 := hts (.fieldLink RX4 25 "SunsetDates$Versions" "features" "[I") (by decide +kernel)
  have nX5 := hts (.initialized RX5) (by decide +kernel)
  have tX5_contains := hts (.static yX5_contains) (by decide +kernel)
  refine lv_iconst (v := 0) hx hb dX4_allWith_0 (by decide) ?_
  refine lv_istore_n (lv' := [(2, .int 0), (0, .ref (a 1)), (1, .int f)]) hx hb dX4_allWith_1 rfl hl (by decide) rfl (fun ls hl => ?_)
  refine lv_iconst (v := 0) hx hb dX4_allWith_2 (by decide) ?_
  refine lv_istore_n (lv' := [(3, .int 0), (2, .int 0), (0, .ref (a 1)), (1, .int f)]) hx hb dX4_allWith_3 rfl hl (by decide) rfl (fun ls hl => ?_)
  have L4 : ∀ (fuel : Nat) (k : Nat) (y : Int32), N 0 - k < fuel → k ≤ N 0 → y = allW Z f k → ∀ ls : Array Slot, lv_has ls 4 [(0, .ref (a 1)), (1, .int f), (2, .int y), (3, .int (nI k))] → W p l e (rmo 1 21) s m ([.ref (a 1), .int f] : List Value).toArray below meth c H [] 0 0 Q (F0 m 4 ls []) := by
    intro fuel
    induction fuel with
    | zero => intro k y hm; exact absurd hm (Nat.not_lt_zero _)
    | succ fuel ih4 =>
      intro k y hm4 hk hy ls hl
      refine lv_iload_n hx hb dX4_allWith_4 rfl (lv_at hl 3 rfl) ?_
      refine lv_aload_n hx hb dX4_allWith_5 rfl (lv_at hl 0 rfl) ?_
      refine va_get (D := G) (ci := 4) (C := RX4) (T := TX4) (N := 5) hx hb hts iX4 hown hkx.1 hP 1 rfl rfl 0 (by decide) k9 (fun _ h9 => h9) rfl dX4_allWith_6 ?_
      refine lv_icmp_ge (tgt := 37) hx hb dX4_allWith_9 (by decide) (fun c_1 => ?_) (fun c_1 => ?_)
      · replace c_1 := cn_le (a := (N 0)) (b := k) (by omega) (by omega) c_1
        refine lv_iload_n hx hb dX4_allWith_37 rfl (lv_at hl 2 rfl) ?_
        exact hret _ _ _ (show y = allW Z f (N 0) from by
            rw [hy, show k = N 0 by omega]) dX4_allWith_38
      · replace c_1 := cn_nle (a := (N 0)) (b := k) (by omega) (by omega) c_1
        refine lv_aload_n hx hb dX4_allWith_12 rfl (lv_at hl 0 rfl) ?_
        refine va_get (D := G) (ci := 4) (C := RX4) (T := TX4) (N := 5) hx hb hts iX4 hown hkx.1 hP 1 rfl rfl 4 (by decide) k25 (fun _ h9 => h9) rfl dX4_allWith_13 ?_
        refine lv_iload_n hx hb dX4_allWith_16 rfl (lv_at hl 3 rfl) ?_
        refine ia hx hb hkx hP 5 rfl k rfl (by omega) (by decide) dX4_allWith_17 ?_
        refine lv_iload_n hx hb dX4_allWith_18 rfl (lv_at hl 1 rfl) ?_
        refine ro_SN S hkx (mX5_contains l (x := (Z 4 k)) (k := f)) gX4_allWith_X5_contains_n34 rfl hkx.2.2.2.2.1 nX5 tX5_contains idX5_contains.2 ⟨Nat.le_of_ble_eq_true rfl, Nat.le_of_ble_eq_true rfl⟩ rfl hl.1 rfl (Nat.le_of_ble_eq_true rfl) dX4_allWith_19 ⟨Nat.le_of_ble_eq_true rfl, Nat.le_of_ble_eq_true rfl⟩ (fun r_2 hr_2 => ?_)
        subst hr_2
        refine lv_if_eq (tgt := 31) hx hb dX4_allWith_22 (by decide) (fun c_3 => ?_) (fun c_3 => ?_)
        · replace c_3 := bI_e0 c_3
          refine lv_iinc (v := (nI (k + 1))) (lv' := [(3, .int (nI (k + 1))), (0, .ref (a 1)), (1, .int f), (2, .int y)]) hx hb dX4_allWith_31 hl (k := 3) rfl (nI_inc k) (by decide) rfl (fun ls hl => ?_)
          refine lv_goto (tgt := 4) hx hb dX4_allWith_34 (by decide) ?_
          exact ih4 (k + 1) y (by omega) (by omega) (by rw [hy]; first | rfl | (simp only [allW]; rw [if_pos (by assumption)]; done) | (simp only [allW]; rw [if_neg (Bool.eq_false_iff.mp (by assumption))]; done) | (simp only [allW]; rw [if_neg (by assumption)]; done) | (simp [allW, *]; done)) _ (lv_sub hl [1, 2, 3, 0] rfl)
        · replace c_3 := bI_n0 c_3
          refine lv_iload_n hx hb dX4_allWith_25 rfl (lv_at hl 2 rfl) ?_
          refine lv_iconst (v := 1) hx hb dX4_allWith_26 (by decide) ?_
          refine lv_iload_n hx hb dX4_allWith_27 rfl (lv_at hl 3 rfl) ?_
          refine lv_ishl hx hb dX4_allWith_28 ?_
          refine lv_ior hx hb dX4_allWith_29 ?_
          refine lv_istore_n (lv' := [(2, .int (y ||| (1 <<< ((nI k) &&& 31)))), (0, .ref (a 1)), (1, .int f), (3, .int (nI k))]) hx hb dX4_allWith_30 rfl hl (by decide) rfl (fun ls hl => ?_)
          refine lv_iinc (v := (nI (k + 1))) (lv' := [(3, .int (nI (k + 1))), (2, .int (y ||| (1 <<< ((nI k) &&& 31)))), (0, .ref (a 1)), (1, .int f)]) hx hb dX4_allWith_31 hl (k := 3) rfl (nI_inc k) (by decide) rfl (fun ls hl => ?_)
          refine lv_goto (tgt := 4) hx hb dX4_allWith_34 (by decide) ?_
          exact ih4 (k + 1) (y ||| (1 <<< ((nI k) &&& 31))) (by omega) (by omega) (by rw [hy]; first | rfl | (simp only [allW]; rw [if_pos (by assumption)]; done) | (simp only [allW]; rw [if_neg (Bool.eq_false_iff.mp (by assumption))]; done) | (simp only [allW]; rw [if_neg (by assumption)]; done) | (simp [allW, *]; done)) _ (lv_sub hl [2, 3, 1, 0] rfl)
  exact L4 _ 0 0 (Nat.lt_succ_self _) (by omega) (by rfl) _ (lv_sub hl [2, 3, 1, 0] rfl)
