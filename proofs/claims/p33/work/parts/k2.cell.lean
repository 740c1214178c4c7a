theorem idL_cell : yL_cell.cls = RL ∧ yL_cell.cls ≠ "java/lang/invoke/MethodHandle" ∧ yL_cell.cls ≠ "java/lang/invoke/VarHandle" ∧ (parseMethodDescriptor yL_cell.desc).map (fun d => d.parameters.length) = some 2 := by decide +kernel
theorem mL_cell (l : Launch) {b LL k : Nat} {xs : Nat → Int32} {H : Heap} (hbl : b < H.size) (hL : LL ≤ 260) (hk : k < 1000) : rg l yL_cell wsL_cell 0 0 [.ref b, .int (nI k)] H (fun U => va_X b LL xs U H) (fun v => v = some (.int (clN xs LL k))) := by
  refine rg_of (cc := cL_cell) (maxL := 2) (ret := some .int) (own := RL) (by decide +kernel) rfl rfl (Nat.le_of_ble_eq_true rfl) ?_
  intro p e s m below meth c Q ls hH S hX hl hri hra hrv
  obtain ⟨hx, hb, hml, hown, hts⟩ := id S
  have kI7 := hts (.constant RL 7 (747796405)) (by decide +kernel)
  have hl : lv_has ls 2 [(0, .ref b), (1, .int (nI k))] := hl
  have hS : va_S (fun _ => False) H H [] := va_S.rf
  refine lv_iload_n hx hb dL_cell_0 rfl (lv_at hl 1 rfl) ?_
  refine lv_aload_n hx hb dL_cell_1 rfl (lv_at hl 0 rfl) ?_
  refine va_slen hx hb hX hbl (fun h => h) hS dL_cell_2 ?_
  refine lv_icmp_ge (tgt := 12) hx hb dL_cell_3 (by decide) (fun c_1 => ?_) (fun c_1 => ?_)
  · replace c_1 := cn_le (a := LL) (b := k) (by omega) (by omega) c_1
    refine lv_ldc hx hb hown kI7 dL_cell_12 ?_
    refine lv_iload_n hx hb dL_cell_14 rfl (lv_at hl 1 rfl) ?_
    refine lv_iconst (v := 1) hx hb dL_cell_15 (by decide) ?_
    refine lv_iadd hx hb dL_cell_16 ?_
    refine lv_imul hx hb dL_cell_17 ?_
    exact hri _ .int _ _ rfl rfl (show some (Value.int (747796405 * (nI k + 1))) = some (Value.int (clN xs LL k)) from by unfold clN; rw [if_neg (by omega)]) dL_cell_18
  · replace c_1 := cn_nle (a := LL) (b := k) (by omega) (by omega) c_1
    refine lv_aload_n hx hb dL_cell_6 rfl (lv_at hl 0 rfl) ?_
    refine lv_iload_n hx hb dL_cell_7 rfl (lv_at hl 1 rfl) ?_
    refine va_sld hx hb hX hbl (fun h => h) hS (vp_in_nI c_1 (by omega)) dL_cell_8 ?_
    rw [nI_clamp (by omega)]
    refine lv_goto (tgt := 18) hx hb dL_cell_9 (by decide) ?_
    exact hri _ .int _ _ rfl rfl (show some (Value.int (xs k)) = some (Value.int (clN xs LL k)) from by unfold clN; rw [if_pos c_1]) dL_cell_18
