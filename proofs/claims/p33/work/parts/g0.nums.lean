theorem idL_low : yL_low.cls = RL ∧ yL_low.cls ≠ "java/lang/invoke/MethodHandle" ∧ yL_low.cls ≠ "java/lang/invoke/VarHandle" ∧ (parseMethodDescriptor yL_low.desc).map (fun d => d.parameters.length) = some 2 := by decide +kernel

set_option maxHeartbeats 4000000 in
set_option maxRecDepth 100000 in
theorem mL_low (l : Launch) {G : va_G} {T : Nat → ClassId} {H : Heap} {v : Int32} {k : Nat} (h0 : 0 < k) (hk : k < 2 ^ 31) : ro l yL_low wsL_low 0 0 [.int v, .int (nI k)] G T H (fun r => r = nI (lowN v k)) := by
  refine ro_of (cc := cL_low) (maxL := 2) (ret := .int) (own := RL) (by decide +kernel) rfl rfl (Nat.le_of_ble_eq_true rfl) (fun v _ => vp_nar_int v) ?_
  intro p e s m below meth c Q ls S hkx hl hret
  obtain ⟨hx, hb, hml, hown, hts⟩ := id S
  have hl : lv_has ls 2 [(0, .int v), (1, .int (nI k))] := hl
  have kI8 := hts (.constant RL 8 (2147483647)) (by decide +kernel)
  refine lv_iload_n hx hb dL_low_0 rfl (lv_at hl 0 rfl) ?_
  refine lv_ldc hx hb hown kI8 dL_low_1 ?_
  refine lv_iand hx hb dL_low_3 ?_
  refine lv_iload_n hx hb dL_low_4 rfl (lv_at hl 1 rfl) ?_
  refine lv_irem hx hb dL_low_5 (fun z9 => absurd ((nI_eq hk (by decide)).mp (show nI k = nI 0 from z9)) (by omega)) ?_
  exact hret _ _ _ (show ((v &&& 2147483647) - (v &&& 2147483647) / (nI k) * (nI k)) = nI (lowN v k) from by
      exact lowN_eq v h0 hk) dL_low_6

theorem idL_bits : yL_bits.cls = RL ∧ yL_bits.cls ≠ "java/lang/invoke/MethodHandle" ∧ yL_bits.cls ≠ "java/lang/invoke/VarHandle" ∧ (parseMethodDescriptor yL_bits.desc).map (fun d => d.parameters.length) = some 1 := by decide +kernel

set_option maxHeartbeats 4000000 in
set_option maxRecDepth 100000 in
theorem mL_bits (l : Launch) {G : va_G} {T : Nat → ClassId} {H : Heap} {x : Int32}  : ro l yL_bits wsL_bits 0 0 [.int x] G T H (fun r => r = bcM x 10) := by
  refine ro_of (cc := cL_bits) (maxL := 3) (ret := .int) (own := RL) (by decide +kernel) rfl rfl (Nat.le_of_ble_eq_true rfl) (fun v _ => vp_nar_int v) ?_
  intro p e s m below meth c Q ls S hkx hl hret
  obtain ⟨hx, hb, hml, hown, hts⟩ := id S
  have hl : lv_has ls 3 [(0, .int x)] := hl
  refine lv_iconst (v := 0) hx hb dL_bits_0 (by decide) ?_
  refine lv_istore_n (lv' := [(1, .int 0), (0, .int x)]) hx hb dL_bits_1 rfl hl (by decide) rfl (fun ls hl => ?_)
  refine lv_iconst (v := 0) hx hb dL_bits_2 (by decide) ?_
  refine lv_istore_n (lv' := [(2, .int 0), (1, .int 0), (0, .int x)]) hx hb dL_bits_3 rfl hl (by decide) rfl (fun ls hl => ?_)
  have L4 : ∀ (fuel : Nat) (k : Nat) (y : Int32), 10 - k < fuel → k ≤ 10 → y = bcM x k → ∀ ls : Array Slot, lv_has ls 3 [(0, .int x), (1, .int y), (2, .int (nI k))] → W p l e (rmo 0 0) s m ([.int x] : List Value).toArray below meth c H [] 0 0 Q (F0 m 4 ls []) := by
    intro fuel
    induction fuel with
    | zero => intro k y hm; exact absurd hm (Nat.not_lt_zero _)
    | succ fuel ih4 =>
      intro k y hm4 hk hy ls hl
      refine lv_iload_n hx hb dL_bits_4 rfl (lv_at hl 2 rfl) ?_
      refine lv_bipush (v := 10) hx hb dL_bits_5 (by decide) ?_
      refine lv_icmp_ge (tgt := 24) hx hb dL_bits_7 (by decide) (fun c_1 => ?_) (fun c_1 => ?_)
      · replace c_1 := cn_le (a := 10) (b := k) (by omega) (by omega) c_1
        refine lv_iload_n hx hb dL_bits_24 rfl (lv_at hl 1 rfl) ?_
        exact hret _ _ _ (show y = bcM x 10 from by
            rw [hy, show k = 10 by omega]) dL_bits_25
      · replace c_1 := cn_nle (a := 10) (b := k) (by omega) (by omega) c_1
        refine lv_iload_n hx hb dL_bits_10 rfl (lv_at hl 1 rfl) ?_
        refine lv_iload_n hx hb dL_bits_11 rfl (lv_at hl 0 rfl) ?_
        refine lv_iload_n hx hb dL_bits_12 rfl (lv_at hl 2 rfl) ?_
        refine lv_ishr hx hb dL_bits_13 ?_
        refine lv_iconst (v := 1) hx hb dL_bits_14 (by decide) ?_
        refine lv_iand hx hb dL_bits_15 ?_
        refine lv_iadd hx hb dL_bits_16 ?_
        refine lv_istore_n (lv' := [(1, .int (y + ((x >>> ((nI k) &&& 31)) &&& 1))), (0, .int x), (2, .int (nI k))]) hx hb dL_bits_17 rfl hl (by decide) rfl (fun ls hl => ?_)
        refine lv_iinc (v := (nI (k + 1))) (lv' := [(2, .int (nI (k + 1))), (1, .int (y + ((x >>> ((nI k) &&& 31)) &&& 1))), (0, .int x)]) hx hb dL_bits_18 hl (k := 2) rfl (nI_inc k) (by decide) rfl (fun ls hl => ?_)
        refine lv_goto (tgt := 4) hx hb dL_bits_21 (by decide) ?_
        exact ih4 (k + 1) (y + ((x >>> ((nI k) &&& 31)) &&& 1)) (by omega) (by omega) (by subst hy; rfl) _ (lv_sub hl [2, 1, 0] rfl)
  exact L4 _ 0 0 (Nat.lt_succ_self _) (by omega) (by rfl) _ (lv_sub hl [2, 1, 0] rfl)
